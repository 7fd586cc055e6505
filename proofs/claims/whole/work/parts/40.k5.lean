section K5
variable {G : gG} {l : Launch} {h h0 : hW} {Z : kZ} {I : Nat → Int32} {Ar : Nat → Nat → Int32} {T : Nat → Int32} {A : Nat → Nat → Int32} {Lg : Nat → Nat → Int64}
theorem lp_X1_isClosed_2 {E : gE} (X : Gc G E "ComplaintDesk$Letter" cX1_isClosed 2 3 0 0) (F : gF E M_X1_isClosed) (D : kW G Z) (a : Nat) (ha : a < Z.nX) (hn : ∀ q, q < Z.np a → Ar 24 (6 * a + q) < 0 → Ar 24 (6 * a + q) = -1)  : ∀ (f : Nat) (p : Nat), p ≤ Z.np a → clP Ar a p → Z.np a - p < f → GW G E (gMQ G E 0 0 (rX (some (.int (b2 (clP Ar a (Z.np a))))) (kH G Z I Ar T A Lg h0))) 2 2 [(1, .int (nI p)), (0, .ref (Z.da (1000 + a)))] [] (kH G Z I Ar T A Lg h0) 0 0 := by
  intro f
  induction f with
  | zero => intro p hp hcl hf; exact absurd hf (Nat.not_lt_zero _)
  | succ f ih =>
    intro p hp hcl hf
    have h6 := D.p6 a
    refine g_iload_n X dX1_isClosed_2 0 rfl ?_
    refine g_aload_n X dX1_isClosed_3 1 rfl ?_
    refine g_getfield X fl_X1_12 dX1_isClosed_4 (kLL D ha) rfl ?_
    refine g_cV X ml_X1_65 (k_szQ D ha) ⟨8, _, kLLL D ha, rfl⟩ (Nat.le_of_ble_eq_true rfl) rfl rfl (Nat.le_of_ble_eq_true rfl) (Nat.zero_le _) (Nat.zero_le _) dX1_isClosed_7 ?_
    refine g_icmp_ge X 38 dX1_isClosed_10 (by decide) (fun c_10 => ?_) (fun c_10 => ?_)
    · have hge : Z.np a ≤ p := (nI_leI (by omega) (by omega)).mp c_10
      refine g_iconst X (v := 1) dX1_isClosed_38 ki_1 ?_
      refine g_iret X F rfl rfl dX1_isClosed_39 (Nat.zero_le _) (Nat.zero_le _) ?_
      have e1 : p = Z.np a := by omega
      subst e1
      exact ⟨by rw [b2_t hcl], rfl⟩
    · have hlt : p < Z.np a := nI_lt_of c_10 (by omega) (by omega)
      refine g_aload_n X dX1_isClosed_13 1 rfl ?_
      refine g_getfield X fl_X1_12 dX1_isClosed_14 (kLL D ha) rfl ?_
      refine g_iload_n X dX1_isClosed_17 0 rfl ?_
      refine g_cV X ml_X1_75 (k_getQ D ha (p := p) hlt) ⟨8, _, kLLL D ha, rfl⟩ (Nat.le_of_ble_eq_true rfl) rfl rfl (Nat.le_of_ble_eq_true rfl) (Nat.zero_le _) (Nat.zero_le _) dX1_isClosed_18 ?_
      refine g_castO X cl_X1_79 (kLQ D ha hlt) rfl dX1_isClosed_21 ?_
      refine g_cV X ml_X1_81 (c_X3_isAnswered D a p ha hlt) ⟨3, _, kLQ D ha hlt, rfl⟩ (Nat.le_of_ble_eq_true rfl) rfl rfl (Nat.le_of_ble_eq_true rfl) (Nat.zero_le _) (Nat.zero_le _) dX1_isClosed_24 ?_
      refine g_if_ne X 32 dX1_isClosed_27 (by decide) (fun c_27 => ?_) (fun c_27 => ?_)
      · refine g_iinc X (v := nI (p + 1)) dX1_isClosed_32 0 rfl (nI_1 p) (Nat.le_of_ble_eq_true rfl) [(1, _), (0, _)] rfl ?_
        refine g_goto X 2 dX1_isClosed_35 (by decide) ?_
        refine g_L [0, 1] (L' := [(1, _), (0, _)]) rfl ?_
        have e1 : ¬ Ar 24 (6 * a + p) = -1 := b2_1.mp (b2_c.resolve_left c_27)
        exact ih (p + 1) (by omega) (fun q hq => by
          by_cases e : q = p
          · rw [e]; exact fun z => e1 (hn p hlt z)
          · exact hcl q (by omega)) (by omega)
      · refine g_iconst X (v := 0) dX1_isClosed_30 ki_0 ?_
        refine g_iret X F rfl rfl dX1_isClosed_31 (Nat.zero_le _) (Nat.zero_le _) ?_
        have e1 : Ar 24 (6 * a + p) = -1 := Classical.not_not.mp (b2_0.mp c_27)
        exact ⟨by rw [b2_f (fun q => q p hlt (by rw [e1]; decide))], rfl⟩
theorem c_X1_isClosed (D : kW G Z) (a : Nat) (ha : a < Z.nX) (hn : ∀ q, q < Z.np a → Ar 24 (6 * a + q) < 0 → Ar 24 (6 * a + q) = -1)  : Ct G l 3 0 0 M_X1_isClosed [.ref (Z.da (1000 + a))] (kH G Z I Ar T A Lg h0) (rX (some (.int (b2 (clP Ar a (Z.np a))))) (kH G Z I Ar T A Lg h0)) := by
  refine Ct.of (by decide +kernel) (Nat.le_of_ble_eq_true rfl) (fun E hE X F => ?_)
  have X : Gc G E "ComplaintDesk$Letter" cX1_isClosed 2 3 0 0 := X
  show GW G E _ 2 0 [(0, _)] [] _ 0 0
  refine g_iconst X (v := 0) dX1_isClosed_0 ki_0 ?_
  refine g_istore_n X dX1_isClosed_1 (Nat.le_of_ble_eq_true rfl) [(1, _), (0, _)] rfl ?_
  refine g_L [0, 1] (L' := [(1, _), (0, _)]) rfl ?_
  exact lp_X1_isClosed_2 X F D a ha hn _ 0 (Nat.zero_le _) (fun q hq => absurd hq (Nat.not_lt_zero _)) (Nat.lt_succ_self _)
theorem needF_no {Ar : Nat → Nat → Int32} {a p : Nat} (hz : needF Ar a p = none) : ∀ n, p ≤ n → needF Ar a n = none
  | 0, hn => by have : p = 0 := by omega
                subst this; exact hz
  | n + 1, hn => by
    by_cases e : p = n + 1
    · rw [← e]; exact hz
    · rw [needF_s, needF_no hz n (by omega)]
theorem lp_X1_causeBits_4 {E : gE} (X : Gc G E "ComplaintDesk$Letter" cX1_causeBits 4 3 0 0) (F : gF E M_X1_causeBits) (D : kW G Z) (a : Nat) (ha : a < Z.nX) (hk : ∀ q, q < Z.np a → kN Z.nC (Ar 22 (6 * a + q)))  : ∀ (f : Nat) (p : Nat) (bz : Int32), p ≤ Z.np a → needF Ar a p = some bz → Z.np a - p < f → GW G E (gMQ G E 0 0 (rX (some (.int (match needF Ar a (Z.np a) with | none => -1 | some bz => bz))) (kH G Z I Ar T A Lg h0))) 4 4 [(2, .int (nI p)), (1, .int bz), (0, .ref (Z.da (1000 + a)))] [] (kH G Z I Ar T A Lg h0) 0 0 := by
  intro f
  induction f with
  | zero => intro p bz hp hnb hf; exact absurd hf (Nat.not_lt_zero _)
  | succ f ih =>
    intro p bz hp hnb hf
    have h6 := D.p6 a
    refine g_iload_n X dX1_causeBits_4 0 rfl ?_
    refine g_aload_n X dX1_causeBits_5 2 rfl ?_
    refine g_getfield X fl_X1_12 dX1_causeBits_6 (kLL D ha) rfl ?_
    refine g_cV X ml_X1_65 (k_szQ D ha) ⟨8, _, kLLL D ha, rfl⟩ (Nat.le_of_ble_eq_true rfl) rfl rfl (Nat.le_of_ble_eq_true rfl) (Nat.zero_le _) (Nat.zero_le _) dX1_causeBits_9 ?_
    refine g_icmp_ge X 51 dX1_causeBits_12 (by decide) (fun c_12 => ?_) (fun c_12 => ?_)
    · have hge : Z.np a ≤ p := (nI_leI (by omega) (by omega)).mp c_12
      refine g_iload_n X dX1_causeBits_51 1 rfl ?_
      refine g_iret X F rfl rfl dX1_causeBits_52 (Nat.zero_le _) (Nat.zero_le _) ?_
      have e1 : p = Z.np a := by omega
      subst e1
      exact ⟨by rw [hnb], rfl⟩
    · have hlt : p < Z.np a := nI_lt_of c_12 (by omega) (by omega)
      refine g_aload_n X dX1_causeBits_15 2 rfl ?_
      refine g_getfield X fl_X1_12 dX1_causeBits_16 (kLL D ha) rfl ?_
      refine g_iload_n X dX1_causeBits_19 0 rfl ?_
      refine g_cV X ml_X1_75 (k_getQ D ha (p := p) hlt) ⟨8, _, kLLL D ha, rfl⟩ (Nat.le_of_ble_eq_true rfl) rfl rfl (Nat.le_of_ble_eq_true rfl) (Nat.zero_le _) (Nat.zero_le _) dX1_causeBits_20 ?_
      refine g_castO X cl_X1_79 (kLQ D ha hlt) rfl dX1_causeBits_23 ?_
      refine g_getfield X fl_X1_84 dX1_causeBits_26 (kLQ D ha hlt) rfl ?_
      refine g_astore_nQ X dX1_causeBits_29 (Nat.le_of_ble_eq_true rfl) [(3, _), (2, _), (1, _), (0, _)] rfl ?_
      refine g_aload_nQ X dX1_causeBits_30 0 rfl ?_
      refine g_ifnonnull X 36 dX1_causeBits_31 (by decide) rfl (fun y c_31 => ?_) (fun c_31 => ?_)
      · refine g_iload_n X dX1_causeBits_36 2 rfl ?_
        refine g_iconst X (v := 1) dX1_causeBits_37 ki_1 ?_
        refine g_aload_nQ X dX1_causeBits_38 0 rfl ?_
        obtain ⟨hz1, hz2, hz3, hz4, hz5⟩ := kLz (I := I) (Ar := Ar) (T := T) (A := A) (Lg := Lg) (h0 := h0) D (hk p hlt) c_31
        refine g_st (st' := [.ref y, .int 1, .int bz]) (by rw [c_31]; rfl) ?_
        refine g_getfield X fl_X1_88 dX1_causeBits_39 hz5 rfl ?_
        refine g_ishl X dX1_causeBits_42 ?_
        refine g_ior X dX1_causeBits_43 ?_
        refine g_istore_n X dX1_causeBits_44 (Nat.le_of_ble_eq_true rfl) [(1, _), (3, _), (2, _), (0, _)] rfl ?_
        refine g_iinc X (v := nI (p + 1)) dX1_causeBits_45 2 rfl (nI_1 p) (Nat.le_of_ble_eq_true rfl) [(2, _), (1, _), (3, _), (0, _)] rfl ?_
        refine g_goto X 4 dX1_causeBits_48 (by decide) ?_
        refine g_L [0, 1, 3] (L' := [(2, _), (1, _), (0, _)]) rfl ?_
        refine ih (p + 1) _ (by omega) ?_ (by omega)
        rw [needF_s, hnb]
        have h12 := D.c12
        exact if_neg (by rw [hz3]; exact nI_pos (by omega))
      · refine g_iconst X (v := (-1)) dX1_causeBits_34 ki_m1 ?_
        refine g_iret X F rfl rfl dX1_causeBits_35 (Nat.zero_le _) (Nat.zero_le _) ?_
        have e1 := kLn (hk p hlt) c_31
        have e2 : needF Ar a (p + 1) = none := by
          rw [needF_s, hnb]; exact if_pos (by rw [e1]; decide)
        exact ⟨by rw [needF_no e2 (Z.np a) (by omega)], rfl⟩
theorem c_X1_causeBits (D : kW G Z) (a : Nat) (ha : a < Z.nX) (hk : ∀ q, q < Z.np a → kN Z.nC (Ar 22 (6 * a + q)))  : Ct G l 3 0 0 M_X1_causeBits [.ref (Z.da (1000 + a))] (kH G Z I Ar T A Lg h0) (rX (some (.int (match needF Ar a (Z.np a) with | none => -1 | some bz => bz))) (kH G Z I Ar T A Lg h0)) := by
  refine Ct.of (by decide +kernel) (Nat.le_of_ble_eq_true rfl) (fun E hE X F => ?_)
  have X : Gc G E "ComplaintDesk$Letter" cX1_causeBits 4 3 0 0 := X
  show GW G E _ 4 0 [(0, _)] [] _ 0 0
  refine g_iconst X (v := 0) dX1_causeBits_0 ki_0 ?_
  refine g_istore_n X dX1_causeBits_1 (Nat.le_of_ble_eq_true rfl) [(1, _), (0, _)] rfl ?_
  refine g_iconst X (v := 0) dX1_causeBits_2 ki_0 ?_
  refine g_istore_n X dX1_causeBits_3 (Nat.le_of_ble_eq_true rfl) [(2, _), (1, _), (0, _)] rfl ?_
  refine g_L [0, 1, 2] (L' := [(2, _), (1, _), (0, _)]) rfl ?_
  exact lp_X1_causeBits_4 X F D a ha hk _ 0 0 (Nat.zero_le _) needF_0 (Nat.lt_succ_self _)
theorem lp_X1_pointsUnder_4 {E : gE} (X : Gc G E "ComplaintDesk$Letter" cX1_pointsUnder 5 3 0 0) (F : gF E M_X1_pointsUnder) (D : kW G Z) (a : Nat) (ha : a < Z.nX) (hk : ∀ q, q < Z.np a → kN Z.nC (Ar 22 (6 * a + q))) (hA : ∀ c, c < Z.nC → kN c (Ar 2 c)) (u : Nat) (hu : u < Z.nC)  : ∀ (f : Nat) (p : Nat), p ≤ Z.np a → Z.np a - p < f → GW G E (gMQ G E 0 0 (rX (some (.int (nI (cN (fun p => undF Ar (nI u) 13 (Ar 22 (6 * a + p)) = true) (Z.np a))))) (kH G Z I Ar T A Lg h0))) 5 4 [(3, .int (nI p)), (2, .int (nI (cN (fun p => undF Ar (nI u) 13 (Ar 22 (6 * a + p)) = true) p))), (0, .ref (Z.da (1000 + a))), (1, .ref (Z.da (100 + u)))] [] (kH G Z I Ar T A Lg h0) 0 0 := by
  intro f
  induction f with
  | zero => intro p hp hf; exact absurd hf (Nat.not_lt_zero _)
  | succ f ih =>
    intro p hp hf
    have h6 := D.p6 a
    have h12 := D.c12
    refine g_iload_n X dX1_pointsUnder_4 0 rfl ?_
    refine g_aload_n X dX1_pointsUnder_5 2 rfl ?_
    refine g_getfield X fl_X1_12 dX1_pointsUnder_6 (kLL D ha) rfl ?_
    refine g_cV X ml_X1_65 (k_szQ D ha) ⟨8, _, kLLL D ha, rfl⟩ (Nat.le_of_ble_eq_true rfl) rfl rfl (Nat.le_of_ble_eq_true rfl) (Nat.zero_le _) (Nat.zero_le _) dX1_pointsUnder_9 ?_
    refine g_icmp_ge X 54 dX1_pointsUnder_12 (by decide) (fun c_12 => ?_) (fun c_12 => ?_)
    · have hge : Z.np a ≤ p := (nI_leI (by omega) (by omega)).mp c_12
      refine g_iload_n X dX1_pointsUnder_54 1 rfl ?_
      refine g_iret X F rfl rfl dX1_pointsUnder_55 (Nat.zero_le _) (Nat.zero_le _) ?_
      have e1 : p = Z.np a := by omega
      subst e1
      exact ⟨rfl, rfl⟩
    · have hlt : p < Z.np a := nI_lt_of c_12 (by omega) (by omega)
      refine g_aload_n X dX1_pointsUnder_15 2 rfl ?_
      refine g_getfield X fl_X1_12 dX1_pointsUnder_16 (kLL D ha) rfl ?_
      refine g_iload_n X dX1_pointsUnder_19 0 rfl ?_
      refine g_cV X ml_X1_75 (k_getQ D ha (p := p) hlt) ⟨8, _, kLLL D ha, rfl⟩ (Nat.le_of_ble_eq_true rfl) rfl rfl (Nat.le_of_ble_eq_true rfl) (Nat.zero_le _) (Nat.zero_le _) dX1_pointsUnder_20 ?_
      refine g_castO X cl_X1_79 (kLQ D ha hlt) rfl dX1_pointsUnder_23 ?_
      refine g_getfield X fl_X1_84 dX1_pointsUnder_26 (kLQ D ha hlt) rfl ?_
      refine g_astoreQ X dX1_pointsUnder_29 (Nat.le_of_ble_eq_true rfl) [(4, _), (3, _), (2, _), (0, _), (1, _)] rfl ?_
      refine g_aloadQ X dX1_pointsUnder_31 0 rfl ?_
      refine g_ifnull X 48 dX1_pointsUnder_33 (by decide) rfl (fun c_33 => ?_) (fun y c_33 => ?_)
      · have e1 : ¬ undF Ar (nI u) 13 (Ar 22 (6 * a + p)) = true := by
          rw [kLn (hk p hlt) c_33, undF_s, if_pos (by decide)]; decide
        refine g_L [0, 1, 2, 3, 4] (L' := [(4, _), (3, _), (2, .int (nI (cN (fun p => undF Ar (nI u) 13 (Ar 22 (6 * a + p)) = true) (p + 1)))), (0, _), (1, _)]) (by rw [cN_s, if_neg e1]; rfl) ?_
        refine g_iinc X (v := nI (p + 1)) dX1_pointsUnder_48 1 rfl (nI_1 p) (Nat.le_of_ble_eq_true rfl) [(3, _), (4, _), (2, _), (0, _), (1, _)] rfl ?_
        refine g_goto X 4 dX1_pointsUnder_51 (by decide) ?_
        refine g_L [0, 2, 3, 4] (L' := [(3, _), (2, _), (0, _), (1, _)]) rfl ?_
        exact ih (p + 1) (by omega) (by omega)
      · refine g_aloadQ X dX1_pointsUnder_36 0 rfl ?_
        obtain ⟨hz1, hz2, hz3, hz4, hz5⟩ := kLz (I := I) (Ar := Ar) (T := T) (A := A) (Lg := Lg) (h0 := h0) D (hk p hlt) c_33
        refine g_st (st' := [.ref (Z.da (100 + cl (Ar 22 (6 * a + p))))]) (by rw [c_33, hz1]; rfl) ?_
        refine g_aload_n X dX1_pointsUnder_38 4 rfl ?_
        refine g_cV X ml_X1_93 (c_X0_isUnder D hA (cl (Ar 22 (6 * a + p))) u hz2 hu) ⟨0, _, kLC D hz2, rfl⟩ (Nat.le_of_ble_eq_true rfl) rfl rfl (Nat.le_of_ble_eq_true rfl) (Nat.zero_le _) (Nat.zero_le _) dX1_pointsUnder_39 ?_
        refine g_if_eq X 48 dX1_pointsUnder_42 (by decide) (fun c_42 => ?_) (fun c_42 => ?_)
        · have e1 : ¬ undF Ar (nI u) 13 (Ar 22 (6 * a + p)) = true := by
            rw [hz3]; exact b2_0.mp c_42
          refine g_L [0, 1, 2, 3, 4] (L' := [(4, _), (3, _), (2, .int (nI (cN (fun p => undF Ar (nI u) 13 (Ar 22 (6 * a + p)) = true) (p + 1)))), (0, _), (1, _)]) (by rw [cN_s, if_neg e1]; rfl) ?_
          refine g_iinc X (v := nI (p + 1)) dX1_pointsUnder_48 1 rfl (nI_1 p) (Nat.le_of_ble_eq_true rfl) [(3, _), (4, _), (2, _), (0, _), (1, _)] rfl ?_
          refine g_goto X 4 dX1_pointsUnder_51 (by decide) ?_
          refine g_L [0, 2, 3, 4] (L' := [(3, _), (2, _), (0, _), (1, _)]) rfl ?_
          exact ih (p + 1) (by omega) (by omega)
        · have e1 : undF Ar (nI u) 13 (Ar 22 (6 * a + p)) = true := by
            rw [hz3]; exact b2_1.mp (b2_c.resolve_left c_42)
          refine g_iinc X (v := nI (cN (fun p => undF Ar (nI u) 13 (Ar 22 (6 * a + p)) = true) (p + 1))) dX1_pointsUnder_45 2 rfl (cN_t e1) (Nat.le_of_ble_eq_true rfl) [(2, _), (4, _), (3, _), (0, _), (1, _)] rfl ?_
          refine g_iinc X (v := nI (p + 1)) dX1_pointsUnder_48 2 rfl (nI_1 p) (Nat.le_of_ble_eq_true rfl) [(3, _), (2, _), (4, _), (0, _), (1, _)] rfl ?_
          refine g_goto X 4 dX1_pointsUnder_51 (by decide) ?_
          refine g_L [0, 1, 3, 4] (L' := [(3, _), (2, _), (0, _), (1, _)]) rfl ?_
          exact ih (p + 1) (by omega) (by omega)
theorem c_X1_pointsUnder (D : kW G Z) (a : Nat) (ha : a < Z.nX) (hk : ∀ q, q < Z.np a → kN Z.nC (Ar 22 (6 * a + q))) (hA : ∀ c, c < Z.nC → kN c (Ar 2 c)) (u : Nat) (hu : u < Z.nC)  : Ct G l 3 0 0 M_X1_pointsUnder [.ref (Z.da (1000 + a)), .ref (Z.da (100 + u))] (kH G Z I Ar T A Lg h0) (rX (some (.int (nI (cN (fun p => undF Ar (nI u) 13 (Ar 22 (6 * a + p)) = true) (Z.np a))))) (kH G Z I Ar T A Lg h0)) := by
  refine Ct.of (by decide +kernel) (Nat.le_of_ble_eq_true rfl) (fun E hE X F => ?_)
  have X : Gc G E "ComplaintDesk$Letter" cX1_pointsUnder 5 3 0 0 := X
  show GW G E _ 5 0 [(0, _), (1, _)] [] _ 0 0
  refine g_iconst X (v := 0) dX1_pointsUnder_0 ki_0 ?_
  refine g_istore_n X dX1_pointsUnder_1 (Nat.le_of_ble_eq_true rfl) [(2, _), (0, _), (1, _)] rfl ?_
  refine g_iconst X (v := 0) dX1_pointsUnder_2 ki_0 ?_
  refine g_istore_n X dX1_pointsUnder_3 (Nat.le_of_ble_eq_true rfl) [(3, _), (2, _), (0, _), (1, _)] rfl ?_
  refine g_L [0, 1, 2, 3] (L' := [(3, _), (2, _), (0, _), (1, _)]) rfl ?_
  refine g_L [0, 1, 2, 3] (L' := [(3, _), (2, .int (nI (cN (fun p => undF Ar (nI u) 13 (Ar 22 (6 * a + p)) = true) 0))), (0, _), (1, _)]) (by rw [cN_0]; rfl) ?_
  exact lp_X1_pointsUnder_4 X F D a ha hk hA u hu _ 0 (Nat.zero_le _) (Nat.lt_succ_self _)
end K5
