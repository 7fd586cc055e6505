section K7
variable {G : gG} {l : Launch} {h h0 : hW} {Z : kZ} {I : Nat → Int32} {Ar : Nat → Nat → Int32} {T : Nat → Int32} {A : Nat → Nat → Int32} {Lg : Nat → Nat → Int64}
/-- the cause of a point in one pass, by the reference's fits -/
def kcF (Ar : Nat → Nat → Int32) (a p : Nat) : Nat → Int32
  | 0 => -1
  | k + 1 => if Ar 2 k = kcF Ar a p k ∧ ¬ ftC Ar a p k = 0 then nI k else kcF Ar a p k
termination_by n => n
theorem kcF_0 {Ar : Nat → Nat → Int32} {a p : Nat} : kcF Ar a p 0 = -1 := by rw [kcF]
theorem kcF_s {Ar : Nat → Nat → Int32} {a p k : Nat} : kcF Ar a p (k + 1) = if Ar 2 k = kcF Ar a p k ∧ ¬ ftC Ar a p k = 0 then nI k else kcF Ar a p k := by rw [kcF]
theorem kcF_k {Ar : Nat → Nat → Int32} {a p : Nat} : ∀ k, kN k (kcF Ar a p k)
  | 0 => by rw [kcF_0]; exact Or.inl rfl
  | k + 1 => by
    rw [kcF_s]
    split
    · exact Or.inr ⟨k, Nat.lt_succ_self k, rfl⟩
    · exact (kcF_k k).elim Or.inl (fun ⟨c, q1, q2⟩ => Or.inr ⟨c, by omega, q2⟩)
theorem kN.le {n n' : Nat} {x : Int32} (h : kN n x) (hn : n ≤ n') : kN n' x := h.elim Or.inl (fun ⟨c, q1, q2⟩ => Or.inr ⟨c, by omega, q2⟩)
theorem va_rf_cat {x : Option Nat} : (va_rf x).category = 1 := by cases x <;> rfl
theorem ref_or {x : Option Nat} : va_rf x = .null ∨ ∃ y, va_rf x = .ref y := by
  cases x with
  | none => exact Or.inl rfl
  | some y => exact Or.inr ⟨y, rfl⟩
theorem lp_X6_causeOf_4 {E : gE} (X : Gc G E "ComplaintDesk" cX6_causeOf 5 3 0 0) (F : gF E M_X6_causeOf) (D : kW G Z) (hA : ∀ c, c < Z.nC → kN c (Ar 2 c)) (hS : ∀ c, c < Z.nC → Z.Sz (300 + c) = cl (Ar 6 c)) (hR : ∀ c, c < Z.nC → kRP Z Ar T A c) (a p : Nat) (ha : a < Z.nX) (hp : p < Z.np a) (hV : ∀ c, c < Z.nC → kRW Z Ar Lg c a p)  : ∀ (f : Nat) (c : Nat), c ≤ Z.nC → Z.nC - c < f → GW G E (gMQ G E 0 0 (rX (some (va_rf (cz Z (kcF Ar a p Z.nC)))) (kH G Z I Ar T A Lg h0))) 5 4 [(3, .int (nI c)), (2, va_rf (cz Z (kcF Ar a p c))), (0, .ref (Z.da 1)), (1, .ref (Z.da (2000 + (6 * a + p))))] [] (kH G Z I Ar T A Lg h0) 0 0 := by
  intro f
  induction f with
  | zero => intro c hcn hf; exact absurd hf (Nat.not_lt_zero _)
  | succ f ih =>
    intro c hcn hf
    have h80 := D.l80
    have hlx := D.lx
    have h12 := D.c12
    refine g_iload_n X dX6_causeOf_4 0 rfl ?_
    refine g_aload_n X dX6_causeOf_5 2 rfl ?_
    refine g_getfield X fl_X6_33 dX6_causeOf_6 (kL1 D) rfl ?_
    refine g_cV X ml_X6_92 (k_szC D) ⟨8, _, kL4 D, rfl⟩ (Nat.le_of_ble_eq_true rfl) rfl rfl (Nat.le_of_ble_eq_true rfl) (Nat.zero_le _) (Nat.zero_le _) dX6_causeOf_9 ?_
    refine g_icmp_ge X 58 dX6_causeOf_12 (by decide) (fun c_12 => ?_) (fun c_12 => ?_)
    · have hge : Z.nC ≤ c := (nI_leI (by omega) (by omega)).mp c_12
      refine g_aload_nQ X dX6_causeOf_58 1 rfl ?_
      refine g_aret X F rfl (Or.inl ⟨_, rfl⟩) ref_or dX6_causeOf_59 (Nat.zero_le _) (Nat.zero_le _) ?_
      have e1 : c = Z.nC := by omega
      subst e1
      exact ⟨rfl, rfl⟩
    · have hc : c < Z.nC := nI_lt_of c_12 (by omega) (by omega)
      have hkc : kN Z.nC (kcF Ar a p c) := (kcF_k c).le (by omega)
      have hk2 : kN Z.nC (Ar 2 c) := (hA c hc).le (by omega)
      refine g_aload_n X dX6_causeOf_15 2 rfl ?_
      refine g_getfield X fl_X6_33 dX6_causeOf_16 (kL1 D) rfl ?_
      refine g_iload_n X dX6_causeOf_19 0 rfl ?_
      refine g_cV X ml_X6_224 (k_getC D hc) ⟨8, _, kL4 D, rfl⟩ (Nat.le_of_ble_eq_true rfl) rfl rfl (Nat.le_of_ble_eq_true rfl) (Nat.zero_le _) (Nat.zero_le _) dX6_causeOf_20 ?_
      refine g_castO X cl_X6_101 (kLC D hc) rfl dX6_causeOf_23 ?_
      refine g_astore X dX6_causeOf_26 (Nat.le_of_ble_eq_true rfl) [(4, _), (3, _), (2, _), (0, _), (1, _)] rfl ?_
      refine g_aload X dX6_causeOf_28 0 rfl ?_
      refine g_getfield X fl_X6_261 dX6_causeOf_30 (kLC D hc) rfl ?_
      refine g_aload_nQ X dX6_causeOf_33 2 rfl ?_
      refine g_acmp_ne X 52 dX6_causeOf_34 (by decide) (rx := cz Z (Ar 2 c)) rfl (ry := cz Z (kcF Ar a p c)) rfl (fun c_34 => ?_) (fun c_34 => ?_)
      · refine g_iinc X (v := nI (c + 1)) dX6_causeOf_52 1 rfl (nI_1 c) (Nat.le_of_ble_eq_true rfl) [(3, .int (nI (c + 1))), (4, .ref (Z.da (100 + c))), (2, va_rf (cz Z (kcF Ar a p c))), (0, .ref (Z.da 1)), (1, .ref (Z.da (2000 + (6 * a + p))))] (by simp [g1, va_rf_cat]) ?_
        refine g_goto X 4 dX6_causeOf_55 (by decide) ?_
        refine g_L [0, 2, 3, 4] (L' := [(3, _), (2, _), (0, _), (1, _)]) rfl ?_
        have e1 : kcF Ar a p (c + 1) = kcF Ar a p c := by
          rw [kcF_s, if_neg (fun q => c_34 (by rw [q.1]))]
        refine g_L [0, 1, 2, 3] (L' := [(3, _), (2, va_rf (cz Z (kcF Ar a p (c + 1)))), (0, _), (1, _)]) (by rw [e1]; rfl) ?_
        exact ih (c + 1) (by omega) (by omega)
      · refine g_aload X dX6_causeOf_37 0 rfl ?_
        refine g_getfield X fl_X6_110 dX6_causeOf_39 (kLC D hc) rfl ?_
        refine g_aload_n X dX6_causeOf_42 4 rfl ?_
        refine g_cV X ml_X6_264 (c_X2_fits D a p ha hp c hc (hR c hc) (hV c hc)) ⟨2, _, kLP D hc, rfl⟩ (Nat.le_of_ble_eq_true rfl) rfl rfl (Nat.le_of_ble_eq_true rfl) (Nat.zero_le _) (Nat.zero_le _) dX6_causeOf_43 ?_
        refine g_if_eq X 52 dX6_causeOf_46 (by decide) (fun c_46 => ?_) (fun c_46 => ?_)
        · refine g_iinc X (v := nI (c + 1)) dX6_causeOf_52 1 rfl (nI_1 c) (Nat.le_of_ble_eq_true rfl) [(3, .int (nI (c + 1))), (4, .ref (Z.da (100 + c))), (2, va_rf (cz Z (kcF Ar a p c))), (0, .ref (Z.da 1)), (1, .ref (Z.da (2000 + (6 * a + p))))] (by simp [g1, va_rf_cat]) ?_
          refine g_goto X 4 dX6_causeOf_55 (by decide) ?_
          refine g_L [0, 2, 3, 4] (L' := [(3, _), (2, _), (0, _), (1, _)]) rfl ?_
          have eft : ftV Ar a p c (Z.Sz (300 + c)) = ftC Ar a p c := by rw [hS c hc]
          have e1 : kcF Ar a p (c + 1) = kcF Ar a p c := by
            rw [kcF_s, if_neg (fun q => q.2 (eft.symm.trans c_46))]
          refine g_L [0, 1, 2, 3] (L' := [(3, _), (2, va_rf (cz Z (kcF Ar a p (c + 1)))), (0, _), (1, _)]) (by rw [e1]; rfl) ?_
          exact ih (c + 1) (by omega) (by omega)
        · refine g_aload X dX6_causeOf_49 0 rfl ?_
          refine g_astore_n X dX6_causeOf_51 (Nat.le_of_ble_eq_true rfl) [(2, _), (4, _), (3, _), (0, _), (1, _)] rfl ?_
          refine g_iinc X (v := nI (c + 1)) dX6_causeOf_52 2 rfl (nI_1 c) (Nat.le_of_ble_eq_true rfl) [(3, _), (2, _), (4, _), (0, _), (1, _)] rfl ?_
          refine g_goto X 4 dX6_causeOf_55 (by decide) ?_
          refine g_L [0, 1, 3, 4] (L' := [(3, _), (2, _), (0, _), (1, _)]) rfl ?_
          have eft : ftV Ar a p c (Z.Sz (300 + c)) = ftC Ar a p c := by rw [hS c hc]
          have e1 : kcF Ar a p (c + 1) = nI c := by
            rw [kcF_s, if_pos ⟨(cz_inj D hk2 hkc).mp (by first | exact c_34 | exact Classical.not_not.mp c_34), fun q => c_46 (eft.trans q)⟩]
          refine g_L [0, 1, 2, 3] (L' := [(3, _), (2, va_rf (cz Z (kcF Ar a p (c + 1)))), (0, _), (1, _)]) (by rw [e1]; rw [cz_s (by omega)]; rfl) ?_
          exact ih (c + 1) (by omega) (by omega)
theorem c_X6_causeOf (D : kW G Z) (hA : ∀ c, c < Z.nC → kN c (Ar 2 c)) (hS : ∀ c, c < Z.nC → Z.Sz (300 + c) = cl (Ar 6 c)) (hR : ∀ c, c < Z.nC → kRP Z Ar T A c) (a p : Nat) (ha : a < Z.nX) (hp : p < Z.np a) (hV : ∀ c, c < Z.nC → kRW Z Ar Lg c a p)  : Ct G l 3 0 0 M_X6_causeOf [.ref (Z.da 1), .ref (Z.da (2000 + (6 * a + p)))] (kH G Z I Ar T A Lg h0) (rX (some (va_rf (cz Z (kcF Ar a p Z.nC)))) (kH G Z I Ar T A Lg h0)) := by
  refine Ct.of (by decide +kernel) (Nat.le_of_ble_eq_true rfl) (fun E hE X F => ?_)
  have X : Gc G E "ComplaintDesk" cX6_causeOf 5 3 0 0 := X
  show GW G E _ 5 0 [(0, _), (1, _)] [] _ 0 0
  refine g_null X dX6_causeOf_0 ?_
  refine g_astore_nQ X (x := none) dX6_causeOf_1 (Nat.le_of_ble_eq_true rfl) [(2, .null), (0, _), (1, _)] rfl ?_
  refine g_iconst X (v := 0) dX6_causeOf_2 ki_0 ?_
  refine g_istore_n X dX6_causeOf_3 (Nat.le_of_ble_eq_true rfl) [(3, _), (2, _), (0, _), (1, _)] rfl ?_
  refine g_L [0, 1, 2, 3] (L' := [(3, _), (2, _), (0, _), (1, _)]) rfl ?_
  refine g_L [0, 1, 2, 3] (L' := [(3, _), (2, va_rf (cz Z (kcF Ar a p 0))), (0, _), (1, _)]) (by rw [kcF_0, cz_n]; rfl) ?_
  exact lp_X6_causeOf_4 X F D hA hS hR a p ha hp hV _ 0 (Nat.zero_le _) (Nat.lt_succ_self _)
theorem lp_X6_closedLetters_4 {E : gE} (X : Gc G E "ComplaintDesk" cX6_closedLetters 3 4 0 0) (F : gF E M_X6_closedLetters) (D : kW G Z) (hn : ∀ a, a < Z.nX → ∀ q, q < Z.np a → Ar 24 (6 * a + q) < 0 → Ar 24 (6 * a + q) = -1)  : ∀ (f : Nat) (a : Nat), a ≤ Z.nL → Z.nL - a < f → GW G E (gMQ G E 0 0 (rX (some (.int (nI (cN (fun k => clP Ar k (Z.np k)) Z.nL)))) (kH G Z I Ar T A Lg h0))) 3 4 [(2, .int (nI a)), (1, .int (nI (cN (fun k => clP Ar k (Z.np k)) a))), (0, .ref (Z.da 1))] [] (kH G Z I Ar T A Lg h0) 0 0 := by
  intro f
  induction f with
  | zero => intro a haa hf; exact absurd hf (Nat.not_lt_zero _)
  | succ f ih =>
    intro a haa hf
    have h80 := D.l80
    have hlx := D.lx
    have h12 := D.c12
    refine g_iload_n X dX6_closedLetters_4 0 rfl ?_
    refine g_aload_n X dX6_closedLetters_5 2 rfl ?_
    refine g_getfield X fl_X6_37 dX6_closedLetters_6 (kL1 D) rfl ?_
    refine g_cV X ml_X6_92 (k_szL D) ⟨8, _, kL6 D, rfl⟩ (Nat.le_of_ble_eq_true rfl) rfl rfl (Nat.le_of_ble_eq_true rfl) (Nat.zero_le _) (Nat.zero_le _) dX6_closedLetters_9 ?_
    refine g_icmp_ge X 41 dX6_closedLetters_12 (by decide) (fun c_12 => ?_) (fun c_12 => ?_)
    · have hge : Z.nL ≤ a := (nI_leI (by omega) (by omega)).mp c_12
      refine g_iload_n X dX6_closedLetters_41 1 rfl ?_
      refine g_iret X F rfl rfl dX6_closedLetters_42 (Nat.zero_le _) (Nat.zero_le _) ?_
      have e1 : a = Z.nL := by omega
      subst e1
      exact ⟨rfl, rfl⟩
    · have hla : a < Z.nL := nI_lt_of c_12 (by omega) (by omega)
      refine g_aload_n X dX6_closedLetters_15 2 rfl ?_
      refine g_getfield X fl_X6_37 dX6_closedLetters_16 (kL1 D) rfl ?_
      refine g_iload_n X dX6_closedLetters_19 0 rfl ?_
      refine g_cV X ml_X6_224 (k_getL D hla) ⟨8, _, kL6 D, rfl⟩ (Nat.le_of_ble_eq_true rfl) rfl rfl (Nat.le_of_ble_eq_true rfl) (Nat.zero_le _) (Nat.zero_le _) dX6_closedLetters_20 ?_
      refine g_castO X cl_X6_120 (kLL D (Nat.lt_of_lt_of_le hla D.lx)) rfl dX6_closedLetters_23 ?_
      refine g_cV X ml_X6_203 (c_X1_isClosed D a (Nat.lt_of_lt_of_le hla D.lx) (hn a (Nat.lt_of_lt_of_le hla D.lx))) ⟨1, _, kLL D (Nat.lt_of_lt_of_le hla D.lx), rfl⟩ (Nat.le_of_ble_eq_true rfl) rfl rfl (Nat.le_of_ble_eq_true rfl) (Nat.zero_le _) (Nat.zero_le _) dX6_closedLetters_26 ?_
      refine g_if_eq X 35 dX6_closedLetters_29 (by decide) (fun c_29 => ?_) (fun c_29 => ?_)
      · refine g_L [0, 1, 2] (L' := [(2, _), (1, .int (nI (cN (fun k => clP Ar k (Z.np k)) (a + 1)))), (0, _)]) (by rw [cN_s, if_neg (b2_0.mp c_29)]; rfl) ?_
        refine g_iinc X (v := nI (a + 1)) dX6_closedLetters_35 0 rfl (nI_1 a) (Nat.le_of_ble_eq_true rfl) [(2, _), (1, _), (0, _)] rfl ?_
        refine g_goto X 4 dX6_closedLetters_38 (by decide) ?_
        refine g_L [0, 1, 2] (L' := [(2, _), (1, _), (0, _)]) rfl ?_
        exact ih (a + 1) (by omega) (by omega)
      · refine g_iinc X (v := nI (cN (fun k => clP Ar k (Z.np k)) (a + 1))) dX6_closedLetters_32 1 rfl (cN_t (b2_1.mp (b2_c.resolve_left c_29))) (Nat.le_of_ble_eq_true rfl) [(1, _), (2, _), (0, _)] rfl ?_
        refine g_iinc X (v := nI (a + 1)) dX6_closedLetters_35 1 rfl (nI_1 a) (Nat.le_of_ble_eq_true rfl) [(2, _), (1, _), (0, _)] rfl ?_
        refine g_goto X 4 dX6_closedLetters_38 (by decide) ?_
        refine g_L [0, 1, 2] (L' := [(2, _), (1, _), (0, _)]) rfl ?_
        exact ih (a + 1) (by omega) (by omega)
theorem c_X6_closedLetters (D : kW G Z) (hn : ∀ a, a < Z.nX → ∀ q, q < Z.np a → Ar 24 (6 * a + q) < 0 → Ar 24 (6 * a + q) = -1)  : Ct G l 4 0 0 M_X6_closedLetters [.ref (Z.da 1)] (kH G Z I Ar T A Lg h0) (rX (some (.int (nI (cN (fun k => clP Ar k (Z.np k)) Z.nL)))) (kH G Z I Ar T A Lg h0)) := by
  refine Ct.of (by decide +kernel) (Nat.le_of_ble_eq_true rfl) (fun E hE X F => ?_)
  have X : Gc G E "ComplaintDesk" cX6_closedLetters 3 4 0 0 := X
  show GW G E _ 3 0 [(0, _)] [] _ 0 0
  refine g_iconst X (v := 0) dX6_closedLetters_0 ki_0 ?_
  refine g_istore_n X dX6_closedLetters_1 (Nat.le_of_ble_eq_true rfl) [(1, _), (0, _)] rfl ?_
  refine g_iconst X (v := 0) dX6_closedLetters_2 ki_0 ?_
  refine g_istore_n X dX6_closedLetters_3 (Nat.le_of_ble_eq_true rfl) [(2, _), (1, _), (0, _)] rfl ?_
  refine g_L [0, 1, 2] (L' := [(2, _), (1, _), (0, _)]) rfl ?_
  refine g_L [0, 1, 2] (L' := [(2, _), (1, .int (nI (cN (fun k => clP Ar k (Z.np k)) 0))), (0, _)]) (by rw [cN_0]; rfl) ?_
  exact lp_X6_closedLetters_4 X F D hn _ 0 (Nat.zero_le _) (Nat.lt_succ_self _)
theorem lp_X6_pointsCounted_34_4 {E : gE} (X : Gc G E "ComplaintDesk" cX6_pointsCounted 6 5 0 0) {Q : State → Prop} (D : kW G Z) (hk : ∀ a, a < Z.nX → ∀ q, q < Z.np a → kN Z.nC (Ar 22 (6 * a + q))) (a s0 : Nat) (ha : a < Z.nX) (K : GW G E Q 6 70 [(3, .int (nI a)), (2, .int (nI (s0 + cN (fun p => icP Ar 4 (6 * a + p)) (Z.np a)))), (0, .ref (Z.da 1)), (1, .int 4)] [] (kH G Z I Ar T A Lg h0) 0 0)  : ∀ (f : Nat) (p : Nat), p ≤ Z.np a → Z.np a - p < f → GW G E Q 6 34 [(5, .int (nI p)), (4, .ref (Z.da (1100 + a))), (3, .int (nI a)), (2, .int (nI (s0 + cN (fun p => icP Ar 4 (6 * a + p)) p))), (0, .ref (Z.da 1)), (1, .int 4)] [] (kH G Z I Ar T A Lg h0) 0 0 := by
  intro f
  induction f with
  | zero => intro p hpn hf; exact absurd hf (Nat.not_lt_zero _)
  | succ f ih =>
    intro p hpn hf
    have h80 := D.l80
    have hlx := D.lx
    have h12 := D.c12
    have h6 := D.p6 a
    refine g_iload X dX6_pointsCounted_34 0 rfl ?_
    refine g_aload X dX6_pointsCounted_36 1 rfl ?_
    refine g_cV X ml_X6_92 (k_szQ D ha) ⟨8, _, kLLL D ha, rfl⟩ (Nat.le_of_ble_eq_true rfl) rfl rfl (Nat.le_of_ble_eq_true rfl) (Nat.zero_le _) (Nat.zero_le _) dX6_pointsCounted_38 ?_
    refine g_icmp_ge X 70 dX6_pointsCounted_41 (by decide) (fun c_41 => ?_) (fun c_41 => ?_)
    · have hge : (Z.np a) ≤ p := (nI_leI (by omega) (by omega)).mp c_41
      have epn : p = Z.np a := by omega
      subst epn
      refine g_L [2, 3, 4, 5] (L' := [(3, _), (2, _), (0, _), (1, _)]) rfl ?_
      exact K
    · have hp : p < (Z.np a) := nI_lt_of c_41 (by omega) (by omega)
      refine g_aload X dX6_pointsCounted_44 1 rfl ?_
      refine g_iload X dX6_pointsCounted_46 0 rfl ?_
      refine g_cV X ml_X6_224 (k_getQ D ha hp) ⟨8, _, kLLL D ha, rfl⟩ (Nat.le_of_ble_eq_true rfl) rfl rfl (Nat.le_of_ble_eq_true rfl) (Nat.zero_le _) (Nat.zero_le _) dX6_pointsCounted_48 ?_
      refine g_castO X cl_X6_135 (kLQ D ha hp) rfl dX6_pointsCounted_51 ?_
      refine g_iload_n X dX6_pointsCounted_54 5 rfl ?_
      refine g_cV X ml_X6_292 (c_X3_isCountedAs_4 D a p ha hp (hk a ha p hp)) ⟨3, _, kLQ D ha hp, rfl⟩ (Nat.le_of_ble_eq_true rfl) rfl rfl (Nat.le_of_ble_eq_true rfl) (Nat.zero_le _) (Nat.zero_le _) dX6_pointsCounted_55 ?_
      refine g_if_eq X 64 dX6_pointsCounted_58 (by decide) (fun c_58 => ?_) (fun c_58 => ?_)
      · have e1 := b2_0.mp c_58
        refine g_L [0, 1, 2, 3, 4, 5] (L' := [(5, _), (4, _), (3, _), (2, .int (nI (s0 + cN (fun p => icP Ar 4 (6 * a + p)) (p + 1)))), (0, _), (1, _)]) (by rw [cN_s, if_neg e1]; rfl) ?_
        refine g_iinc X (v := nI (p + 1)) dX6_pointsCounted_64 0 rfl (nI_1 p) (Nat.le_of_ble_eq_true rfl) [(5, _), (4, _), (3, _), (2, _), (0, _), (1, _)] rfl ?_
        refine g_goto X 34 dX6_pointsCounted_67 (by decide) ?_
        refine g_L [0, 1, 2, 3, 4, 5] (L' := [(5, _), (4, _), (3, _), (2, _), (0, _), (1, _)]) rfl ?_
        exact ih (p + 1) (by omega) (by omega)
      · have e1 := b2_1.mp (b2_c.resolve_left c_58)
        refine g_iinc X (v := nI (s0 + cN (fun p => icP Ar 4 (6 * a + p)) (p + 1))) dX6_pointsCounted_61 3 rfl (by rw [cN_s, if_pos e1]; exact nI_1 _) (Nat.le_of_ble_eq_true rfl) [(2, _), (5, _), (4, _), (3, _), (0, _), (1, _)] rfl ?_
        refine g_iinc X (v := nI (p + 1)) dX6_pointsCounted_64 1 rfl (nI_1 p) (Nat.le_of_ble_eq_true rfl) [(5, _), (2, _), (4, _), (3, _), (0, _), (1, _)] rfl ?_
        refine g_goto X 34 dX6_pointsCounted_67 (by decide) ?_
        refine g_L [0, 2, 3, 1, 4, 5] (L' := [(5, _), (4, _), (3, _), (2, _), (0, _), (1, _)]) rfl ?_
        exact ih (p + 1) (by omega) (by omega)
theorem lp_X6_pointsCounted_4_4 {E : gE} (X : Gc G E "ComplaintDesk" cX6_pointsCounted 6 5 0 0) (F : gF E M_X6_pointsCounted) (D : kW G Z) (hk : ∀ a, a < Z.nX → ∀ q, q < Z.np a → kN Z.nC (Ar 22 (6 * a + q)))  : ∀ (f : Nat) (a : Nat), a ≤ Z.nL → Z.nL - a < f → GW G E (gMQ G E 0 0 (rX (some (.int (nI (sN (fun a => cN (fun p => icP Ar 4 (6 * a + p)) (Z.np a)) Z.nL)))) (kH G Z I Ar T A Lg h0))) 6 4 [(3, .int (nI a)), (2, .int (nI (sN (fun a => cN (fun p => icP Ar 4 (6 * a + p)) (Z.np a)) a))), (0, .ref (Z.da 1)), (1, .int 4)] [] (kH G Z I Ar T A Lg h0) 0 0 := by
  intro f
  induction f with
  | zero => intro a haa hf; exact absurd hf (Nat.not_lt_zero _)
  | succ f ih =>
    intro a haa hf
    have h80 := D.l80
    have hlx := D.lx
    have h12 := D.c12
    refine g_iload_n X dX6_pointsCounted_4 0 rfl ?_
    refine g_aload_n X dX6_pointsCounted_5 2 rfl ?_
    refine g_getfield X fl_X6_37 dX6_pointsCounted_6 (kL1 D) rfl ?_
    refine g_cV X ml_X6_92 (k_szL D) ⟨8, _, kL6 D, rfl⟩ (Nat.le_of_ble_eq_true rfl) rfl rfl (Nat.le_of_ble_eq_true rfl) (Nat.zero_le _) (Nat.zero_le _) dX6_pointsCounted_9 ?_
    refine g_icmp_ge X 76 dX6_pointsCounted_12 (by decide) (fun c_12 => ?_) (fun c_12 => ?_)
    · have hge : Z.nL ≤ a := (nI_leI (by omega) (by omega)).mp c_12
      refine g_iload_n X dX6_pointsCounted_76 1 rfl ?_
      refine g_iret X F rfl rfl dX6_pointsCounted_77 (Nat.zero_le _) (Nat.zero_le _) ?_
      have e1 : a = Z.nL := by omega
      subst e1
      exact ⟨rfl, rfl⟩
    · have hla : a < Z.nL := nI_lt_of c_12 (by omega) (by omega)
      refine g_aload_n X dX6_pointsCounted_15 2 rfl ?_
      refine g_getfield X fl_X6_37 dX6_pointsCounted_16 (kL1 D) rfl ?_
      refine g_iload_n X dX6_pointsCounted_19 0 rfl ?_
      refine g_cV X ml_X6_224 (k_getL D hla) ⟨8, _, kL6 D, rfl⟩ (Nat.le_of_ble_eq_true rfl) rfl rfl (Nat.le_of_ble_eq_true rfl) (Nat.zero_le _) (Nat.zero_le _) dX6_pointsCounted_20 ?_
      refine g_castO X cl_X6_120 (kLL D (Nat.lt_of_lt_of_le hla D.lx)) rfl dX6_pointsCounted_23 ?_
      refine g_getfield X fl_X6_155 dX6_pointsCounted_26 (kLL D (Nat.lt_of_lt_of_le hla D.lx)) rfl ?_
      refine g_astore X dX6_pointsCounted_29 (Nat.le_of_ble_eq_true rfl) [(4, _), (3, _), (2, _), (0, _), (1, _)] rfl ?_
      refine g_iconst X (v := 0) dX6_pointsCounted_31 ki_0 ?_
      refine g_istore X dX6_pointsCounted_32 (Nat.le_of_ble_eq_true rfl) [(5, _), (4, _), (3, _), (2, _), (0, _), (1, _)] rfl ?_
      refine g_L [0, 1, 2, 3, 4, 5] (L' := [(5, _), (4, _), (3, _), (2, _), (0, _), (1, _)]) rfl ?_
      refine g_L [0, 1, 2, 3, 4, 5] (L' := [(5, _), (4, _), (3, _), (2, .int (nI (sN (fun a => cN (fun p => icP Ar 4 (6 * a + p)) (Z.np a)) a + cN (fun p => icP Ar 4 (6 * a + p)) 0))), (0, _), (1, _)]) (by rw [cN_0]; rfl) ?_
      refine lp_X6_pointsCounted_34_4 X D hk  a (sN (fun a => cN (fun p => icP Ar 4 (6 * a + p)) (Z.np a)) a) (Nat.lt_of_lt_of_le hla D.lx) ?_ _ 0 (Nat.zero_le _) (Nat.lt_succ_self _)
      refine g_iinc X (v := nI (a + 1)) dX6_pointsCounted_70 0 rfl (nI_1 a) (Nat.le_of_ble_eq_true rfl) [(3, _), (2, _), (0, _), (1, _)] rfl ?_
      refine g_goto X 4 dX6_pointsCounted_73 (by decide) ?_
      refine g_L [0, 1, 2, 3] (L' := [(3, _), (2, .int (nI (sN (fun a => cN (fun p => icP Ar 4 (6 * a + p)) (Z.np a)) (a + 1)))), (0, _), (1, _)]) (by rw [sN_s]; rfl) ?_
      exact ih (a + 1) (by omega) (by omega)
theorem c_X6_pointsCounted_4 (D : kW G Z) (hk : ∀ a, a < Z.nX → ∀ q, q < Z.np a → kN Z.nC (Ar 22 (6 * a + q)))  : Ct G l 5 0 0 M_X6_pointsCounted [.ref (Z.da 1), .int 4] (kH G Z I Ar T A Lg h0) (rX (some (.int (nI (sN (fun a => cN (fun p => icP Ar 4 (6 * a + p)) (Z.np a)) Z.nL)))) (kH G Z I Ar T A Lg h0)) := by
  refine Ct.of (by decide +kernel) (Nat.le_of_ble_eq_true rfl) (fun E hE X F => ?_)
  have X : Gc G E "ComplaintDesk" cX6_pointsCounted 6 5 0 0 := X
  show GW G E _ 6 0 [(0, _), (1, _)] [] _ 0 0
  refine g_iconst X (v := 0) dX6_pointsCounted_0 ki_0 ?_
  refine g_istore_n X dX6_pointsCounted_1 (Nat.le_of_ble_eq_true rfl) [(2, _), (0, _), (1, _)] rfl ?_
  refine g_iconst X (v := 0) dX6_pointsCounted_2 ki_0 ?_
  refine g_istore_n X dX6_pointsCounted_3 (Nat.le_of_ble_eq_true rfl) [(3, _), (2, _), (0, _), (1, _)] rfl ?_
  refine g_L [0, 1, 2, 3] (L' := [(3, _), (2, _), (0, _), (1, _)]) rfl ?_
  refine g_L [0, 1, 2, 3] (L' := [(3, _), (2, .int (nI (sN (fun a => cN (fun p => icP Ar 4 (6 * a + p)) (Z.np a)) 0))), (0, _), (1, _)]) (by rw [sN_0]; rfl) ?_
  exact lp_X6_pointsCounted_4_4 X F D hk _ 0 (Nat.zero_le _) (Nat.lt_succ_self _)
theorem lp_X6_pointsCounted_34_5 {E : gE} (X : Gc G E "ComplaintDesk" cX6_pointsCounted 6 5 0 0) {Q : State → Prop} (D : kW G Z) (hk : ∀ a, a < Z.nX → ∀ q, q < Z.np a → kN Z.nC (Ar 22 (6 * a + q))) (a s0 : Nat) (ha : a < Z.nX) (K : GW G E Q 6 70 [(3, .int (nI a)), (2, .int (nI (s0 + cN (fun p => icP Ar 5 (6 * a + p)) (Z.np a)))), (0, .ref (Z.da 1)), (1, .int 5)] [] (kH G Z I Ar T A Lg h0) 0 0)  : ∀ (f : Nat) (p : Nat), p ≤ Z.np a → Z.np a - p < f → GW G E Q 6 34 [(5, .int (nI p)), (4, .ref (Z.da (1100 + a))), (3, .int (nI a)), (2, .int (nI (s0 + cN (fun p => icP Ar 5 (6 * a + p)) p))), (0, .ref (Z.da 1)), (1, .int 5)] [] (kH G Z I Ar T A Lg h0) 0 0 := by
  intro f
  induction f with
  | zero => intro p hpn hf; exact absurd hf (Nat.not_lt_zero _)
  | succ f ih =>
    intro p hpn hf
    have h80 := D.l80
    have hlx := D.lx
    have h12 := D.c12
    have h6 := D.p6 a
    refine g_iload X dX6_pointsCounted_34 0 rfl ?_
    refine g_aload X dX6_pointsCounted_36 1 rfl ?_
    refine g_cV X ml_X6_92 (k_szQ D ha) ⟨8, _, kLLL D ha, rfl⟩ (Nat.le_of_ble_eq_true rfl) rfl rfl (Nat.le_of_ble_eq_true rfl) (Nat.zero_le _) (Nat.zero_le _) dX6_pointsCounted_38 ?_
    refine g_icmp_ge X 70 dX6_pointsCounted_41 (by decide) (fun c_41 => ?_) (fun c_41 => ?_)
    · have hge : (Z.np a) ≤ p := (nI_leI (by omega) (by omega)).mp c_41
      have epn : p = Z.np a := by omega
      subst epn
      refine g_L [2, 3, 4, 5] (L' := [(3, _), (2, _), (0, _), (1, _)]) rfl ?_
      exact K
    · have hp : p < (Z.np a) := nI_lt_of c_41 (by omega) (by omega)
      refine g_aload X dX6_pointsCounted_44 1 rfl ?_
      refine g_iload X dX6_pointsCounted_46 0 rfl ?_
      refine g_cV X ml_X6_224 (k_getQ D ha hp) ⟨8, _, kLLL D ha, rfl⟩ (Nat.le_of_ble_eq_true rfl) rfl rfl (Nat.le_of_ble_eq_true rfl) (Nat.zero_le _) (Nat.zero_le _) dX6_pointsCounted_48 ?_
      refine g_castO X cl_X6_135 (kLQ D ha hp) rfl dX6_pointsCounted_51 ?_
      refine g_iload_n X dX6_pointsCounted_54 5 rfl ?_
      refine g_cV X ml_X6_292 (c_X3_isCountedAs_5 D a p ha hp (hk a ha p hp)) ⟨3, _, kLQ D ha hp, rfl⟩ (Nat.le_of_ble_eq_true rfl) rfl rfl (Nat.le_of_ble_eq_true rfl) (Nat.zero_le _) (Nat.zero_le _) dX6_pointsCounted_55 ?_
      refine g_if_eq X 64 dX6_pointsCounted_58 (by decide) (fun c_58 => ?_) (fun c_58 => ?_)
      · have e1 := b2_0.mp c_58
        refine g_L [0, 1, 2, 3, 4, 5] (L' := [(5, _), (4, _), (3, _), (2, .int (nI (s0 + cN (fun p => icP Ar 5 (6 * a + p)) (p + 1)))), (0, _), (1, _)]) (by rw [cN_s, if_neg e1]; rfl) ?_
        refine g_iinc X (v := nI (p + 1)) dX6_pointsCounted_64 0 rfl (nI_1 p) (Nat.le_of_ble_eq_true rfl) [(5, _), (4, _), (3, _), (2, _), (0, _), (1, _)] rfl ?_
        refine g_goto X 34 dX6_pointsCounted_67 (by decide) ?_
        refine g_L [0, 1, 2, 3, 4, 5] (L' := [(5, _), (4, _), (3, _), (2, _), (0, _), (1, _)]) rfl ?_
        exact ih (p + 1) (by omega) (by omega)
      · have e1 := b2_1.mp (b2_c.resolve_left c_58)
        refine g_iinc X (v := nI (s0 + cN (fun p => icP Ar 5 (6 * a + p)) (p + 1))) dX6_pointsCounted_61 3 rfl (by rw [cN_s, if_pos e1]; exact nI_1 _) (Nat.le_of_ble_eq_true rfl) [(2, _), (5, _), (4, _), (3, _), (0, _), (1, _)] rfl ?_
        refine g_iinc X (v := nI (p + 1)) dX6_pointsCounted_64 1 rfl (nI_1 p) (Nat.le_of_ble_eq_true rfl) [(5, _), (2, _), (4, _), (3, _), (0, _), (1, _)] rfl ?_
        refine g_goto X 34 dX6_pointsCounted_67 (by decide) ?_
        refine g_L [0, 2, 3, 1, 4, 5] (L' := [(5, _), (4, _), (3, _), (2, _), (0, _), (1, _)]) rfl ?_
        exact ih (p + 1) (by omega) (by omega)
theorem lp_X6_pointsCounted_4_5 {E : gE} (X : Gc G E "ComplaintDesk" cX6_pointsCounted 6 5 0 0) (F : gF E M_X6_pointsCounted) (D : kW G Z) (hk : ∀ a, a < Z.nX → ∀ q, q < Z.np a → kN Z.nC (Ar 22 (6 * a + q)))  : ∀ (f : Nat) (a : Nat), a ≤ Z.nL → Z.nL - a < f → GW G E (gMQ G E 0 0 (rX (some (.int (nI (sN (fun a => cN (fun p => icP Ar 5 (6 * a + p)) (Z.np a)) Z.nL)))) (kH G Z I Ar T A Lg h0))) 6 4 [(3, .int (nI a)), (2, .int (nI (sN (fun a => cN (fun p => icP Ar 5 (6 * a + p)) (Z.np a)) a))), (0, .ref (Z.da 1)), (1, .int 5)] [] (kH G Z I Ar T A Lg h0) 0 0 := by
  intro f
  induction f with
  | zero => intro a haa hf; exact absurd hf (Nat.not_lt_zero _)
  | succ f ih =>
    intro a haa hf
    have h80 := D.l80
    have hlx := D.lx
    have h12 := D.c12
    refine g_iload_n X dX6_pointsCounted_4 0 rfl ?_
    refine g_aload_n X dX6_pointsCounted_5 2 rfl ?_
    refine g_getfield X fl_X6_37 dX6_pointsCounted_6 (kL1 D) rfl ?_
    refine g_cV X ml_X6_92 (k_szL D) ⟨8, _, kL6 D, rfl⟩ (Nat.le_of_ble_eq_true rfl) rfl rfl (Nat.le_of_ble_eq_true rfl) (Nat.zero_le _) (Nat.zero_le _) dX6_pointsCounted_9 ?_
    refine g_icmp_ge X 76 dX6_pointsCounted_12 (by decide) (fun c_12 => ?_) (fun c_12 => ?_)
    · have hge : Z.nL ≤ a := (nI_leI (by omega) (by omega)).mp c_12
      refine g_iload_n X dX6_pointsCounted_76 1 rfl ?_
      refine g_iret X F rfl rfl dX6_pointsCounted_77 (Nat.zero_le _) (Nat.zero_le _) ?_
      have e1 : a = Z.nL := by omega
      subst e1
      exact ⟨rfl, rfl⟩
    · have hla : a < Z.nL := nI_lt_of c_12 (by omega) (by omega)
      refine g_aload_n X dX6_pointsCounted_15 2 rfl ?_
      refine g_getfield X fl_X6_37 dX6_pointsCounted_16 (kL1 D) rfl ?_
      refine g_iload_n X dX6_pointsCounted_19 0 rfl ?_
      refine g_cV X ml_X6_224 (k_getL D hla) ⟨8, _, kL6 D, rfl⟩ (Nat.le_of_ble_eq_true rfl) rfl rfl (Nat.le_of_ble_eq_true rfl) (Nat.zero_le _) (Nat.zero_le _) dX6_pointsCounted_20 ?_
      refine g_castO X cl_X6_120 (kLL D (Nat.lt_of_lt_of_le hla D.lx)) rfl dX6_pointsCounted_23 ?_
      refine g_getfield X fl_X6_155 dX6_pointsCounted_26 (kLL D (Nat.lt_of_lt_of_le hla D.lx)) rfl ?_
      refine g_astore X dX6_pointsCounted_29 (Nat.le_of_ble_eq_true rfl) [(4, _), (3, _), (2, _), (0, _), (1, _)] rfl ?_
      refine g_iconst X (v := 0) dX6_pointsCounted_31 ki_0 ?_
      refine g_istore X dX6_pointsCounted_32 (Nat.le_of_ble_eq_true rfl) [(5, _), (4, _), (3, _), (2, _), (0, _), (1, _)] rfl ?_
      refine g_L [0, 1, 2, 3, 4, 5] (L' := [(5, _), (4, _), (3, _), (2, _), (0, _), (1, _)]) rfl ?_
      refine g_L [0, 1, 2, 3, 4, 5] (L' := [(5, _), (4, _), (3, _), (2, .int (nI (sN (fun a => cN (fun p => icP Ar 5 (6 * a + p)) (Z.np a)) a + cN (fun p => icP Ar 5 (6 * a + p)) 0))), (0, _), (1, _)]) (by rw [cN_0]; rfl) ?_
      refine lp_X6_pointsCounted_34_5 X D hk  a (sN (fun a => cN (fun p => icP Ar 5 (6 * a + p)) (Z.np a)) a) (Nat.lt_of_lt_of_le hla D.lx) ?_ _ 0 (Nat.zero_le _) (Nat.lt_succ_self _)
      refine g_iinc X (v := nI (a + 1)) dX6_pointsCounted_70 0 rfl (nI_1 a) (Nat.le_of_ble_eq_true rfl) [(3, _), (2, _), (0, _), (1, _)] rfl ?_
      refine g_goto X 4 dX6_pointsCounted_73 (by decide) ?_
      refine g_L [0, 1, 2, 3] (L' := [(3, _), (2, .int (nI (sN (fun a => cN (fun p => icP Ar 5 (6 * a + p)) (Z.np a)) (a + 1)))), (0, _), (1, _)]) (by rw [sN_s]; rfl) ?_
      exact ih (a + 1) (by omega) (by omega)
theorem c_X6_pointsCounted_5 (D : kW G Z) (hk : ∀ a, a < Z.nX → ∀ q, q < Z.np a → kN Z.nC (Ar 22 (6 * a + q)))  : Ct G l 5 0 0 M_X6_pointsCounted [.ref (Z.da 1), .int 5] (kH G Z I Ar T A Lg h0) (rX (some (.int (nI (sN (fun a => cN (fun p => icP Ar 5 (6 * a + p)) (Z.np a)) Z.nL)))) (kH G Z I Ar T A Lg h0)) := by
  refine Ct.of (by decide +kernel) (Nat.le_of_ble_eq_true rfl) (fun E hE X F => ?_)
  have X : Gc G E "ComplaintDesk" cX6_pointsCounted 6 5 0 0 := X
  show GW G E _ 6 0 [(0, _), (1, _)] [] _ 0 0
  refine g_iconst X (v := 0) dX6_pointsCounted_0 ki_0 ?_
  refine g_istore_n X dX6_pointsCounted_1 (Nat.le_of_ble_eq_true rfl) [(2, _), (0, _), (1, _)] rfl ?_
  refine g_iconst X (v := 0) dX6_pointsCounted_2 ki_0 ?_
  refine g_istore_n X dX6_pointsCounted_3 (Nat.le_of_ble_eq_true rfl) [(3, _), (2, _), (0, _), (1, _)] rfl ?_
  refine g_L [0, 1, 2, 3] (L' := [(3, _), (2, _), (0, _), (1, _)]) rfl ?_
  refine g_L [0, 1, 2, 3] (L' := [(3, _), (2, .int (nI (sN (fun a => cN (fun p => icP Ar 5 (6 * a + p)) (Z.np a)) 0))), (0, _), (1, _)]) (by rw [sN_0]; rfl) ?_
  exact lp_X6_pointsCounted_4_5 X F D hk _ 0 (Nat.zero_le _) (Nat.lt_succ_self _)
theorem lp_X6_pointsCounted_34_6 {E : gE} (X : Gc G E "ComplaintDesk" cX6_pointsCounted 6 5 0 0) {Q : State → Prop} (D : kW G Z) (hk : ∀ a, a < Z.nX → ∀ q, q < Z.np a → kN Z.nC (Ar 22 (6 * a + q))) (a s0 : Nat) (ha : a < Z.nX) (K : GW G E Q 6 70 [(3, .int (nI a)), (2, .int (nI (s0 + cN (fun p => icP Ar 6 (6 * a + p)) (Z.np a)))), (0, .ref (Z.da 1)), (1, .int 6)] [] (kH G Z I Ar T A Lg h0) 0 0)  : ∀ (f : Nat) (p : Nat), p ≤ Z.np a → Z.np a - p < f → GW G E Q 6 34 [(5, .int (nI p)), (4, .ref (Z.da (1100 + a))), (3, .int (nI a)), (2, .int (nI (s0 + cN (fun p => icP Ar 6 (6 * a + p)) p))), (0, .ref (Z.da 1)), (1, .int 6)] [] (kH G Z I Ar T A Lg h0) 0 0 := by
  intro f
  induction f with
  | zero => intro p hpn hf; exact absurd hf (Nat.not_lt_zero _)
  | succ f ih =>
    intro p hpn hf
    have h80 := D.l80
    have hlx := D.lx
    have h12 := D.c12
    have h6 := D.p6 a
    refine g_iload X dX6_pointsCounted_34 0 rfl ?_
    refine g_aload X dX6_pointsCounted_36 1 rfl ?_
    refine g_cV X ml_X6_92 (k_szQ D ha) ⟨8, _, kLLL D ha, rfl⟩ (Nat.le_of_ble_eq_true rfl) rfl rfl (Nat.le_of_ble_eq_true rfl) (Nat.zero_le _) (Nat.zero_le _) dX6_pointsCounted_38 ?_
    refine g_icmp_ge X 70 dX6_pointsCounted_41 (by decide) (fun c_41 => ?_) (fun c_41 => ?_)
    · have hge : (Z.np a) ≤ p := (nI_leI (by omega) (by omega)).mp c_41
      have epn : p = Z.np a := by omega
      subst epn
      refine g_L [2, 3, 4, 5] (L' := [(3, _), (2, _), (0, _), (1, _)]) rfl ?_
      exact K
    · have hp : p < (Z.np a) := nI_lt_of c_41 (by omega) (by omega)
      refine g_aload X dX6_pointsCounted_44 1 rfl ?_
      refine g_iload X dX6_pointsCounted_46 0 rfl ?_
      refine g_cV X ml_X6_224 (k_getQ D ha hp) ⟨8, _, kLLL D ha, rfl⟩ (Nat.le_of_ble_eq_true rfl) rfl rfl (Nat.le_of_ble_eq_true rfl) (Nat.zero_le _) (Nat.zero_le _) dX6_pointsCounted_48 ?_
      refine g_castO X cl_X6_135 (kLQ D ha hp) rfl dX6_pointsCounted_51 ?_
      refine g_iload_n X dX6_pointsCounted_54 5 rfl ?_
      refine g_cV X ml_X6_292 (c_X3_isCountedAs_6 D a p ha hp (hk a ha p hp)) ⟨3, _, kLQ D ha hp, rfl⟩ (Nat.le_of_ble_eq_true rfl) rfl rfl (Nat.le_of_ble_eq_true rfl) (Nat.zero_le _) (Nat.zero_le _) dX6_pointsCounted_55 ?_
      refine g_if_eq X 64 dX6_pointsCounted_58 (by decide) (fun c_58 => ?_) (fun c_58 => ?_)
      · have e1 := b2_0.mp c_58
        refine g_L [0, 1, 2, 3, 4, 5] (L' := [(5, _), (4, _), (3, _), (2, .int (nI (s0 + cN (fun p => icP Ar 6 (6 * a + p)) (p + 1)))), (0, _), (1, _)]) (by rw [cN_s, if_neg e1]; rfl) ?_
        refine g_iinc X (v := nI (p + 1)) dX6_pointsCounted_64 0 rfl (nI_1 p) (Nat.le_of_ble_eq_true rfl) [(5, _), (4, _), (3, _), (2, _), (0, _), (1, _)] rfl ?_
        refine g_goto X 34 dX6_pointsCounted_67 (by decide) ?_
        refine g_L [0, 1, 2, 3, 4, 5] (L' := [(5, _), (4, _), (3, _), (2, _), (0, _), (1, _)]) rfl ?_
        exact ih (p + 1) (by omega) (by omega)
      · have e1 := b2_1.mp (b2_c.resolve_left c_58)
        refine g_iinc X (v := nI (s0 + cN (fun p => icP Ar 6 (6 * a + p)) (p + 1))) dX6_pointsCounted_61 3 rfl (by rw [cN_s, if_pos e1]; exact nI_1 _) (Nat.le_of_ble_eq_true rfl) [(2, _), (5, _), (4, _), (3, _), (0, _), (1, _)] rfl ?_
        refine g_iinc X (v := nI (p + 1)) dX6_pointsCounted_64 1 rfl (nI_1 p) (Nat.le_of_ble_eq_true rfl) [(5, _), (2, _), (4, _), (3, _), (0, _), (1, _)] rfl ?_
        refine g_goto X 34 dX6_pointsCounted_67 (by decide) ?_
        refine g_L [0, 2, 3, 1, 4, 5] (L' := [(5, _), (4, _), (3, _), (2, _), (0, _), (1, _)]) rfl ?_
        exact ih (p + 1) (by omega) (by omega)
theorem lp_X6_pointsCounted_4_6 {E : gE} (X : Gc G E "ComplaintDesk" cX6_pointsCounted 6 5 0 0) (F : gF E M_X6_pointsCounted) (D : kW G Z) (hk : ∀ a, a < Z.nX → ∀ q, q < Z.np a → kN Z.nC (Ar 22 (6 * a + q)))  : ∀ (f : Nat) (a : Nat), a ≤ Z.nL → Z.nL - a < f → GW G E (gMQ G E 0 0 (rX (some (.int (nI (sN (fun a => cN (fun p => icP Ar 6 (6 * a + p)) (Z.np a)) Z.nL)))) (kH G Z I Ar T A Lg h0))) 6 4 [(3, .int (nI a)), (2, .int (nI (sN (fun a => cN (fun p => icP Ar 6 (6 * a + p)) (Z.np a)) a))), (0, .ref (Z.da 1)), (1, .int 6)] [] (kH G Z I Ar T A Lg h0) 0 0 := by
  intro f
  induction f with
  | zero => intro a haa hf; exact absurd hf (Nat.not_lt_zero _)
  | succ f ih =>
    intro a haa hf
    have h80 := D.l80
    have hlx := D.lx
    have h12 := D.c12
    refine g_iload_n X dX6_pointsCounted_4 0 rfl ?_
    refine g_aload_n X dX6_pointsCounted_5 2 rfl ?_
    refine g_getfield X fl_X6_37 dX6_pointsCounted_6 (kL1 D) rfl ?_
    refine g_cV X ml_X6_92 (k_szL D) ⟨8, _, kL6 D, rfl⟩ (Nat.le_of_ble_eq_true rfl) rfl rfl (Nat.le_of_ble_eq_true rfl) (Nat.zero_le _) (Nat.zero_le _) dX6_pointsCounted_9 ?_
    refine g_icmp_ge X 76 dX6_pointsCounted_12 (by decide) (fun c_12 => ?_) (fun c_12 => ?_)
    · have hge : Z.nL ≤ a := (nI_leI (by omega) (by omega)).mp c_12
      refine g_iload_n X dX6_pointsCounted_76 1 rfl ?_
      refine g_iret X F rfl rfl dX6_pointsCounted_77 (Nat.zero_le _) (Nat.zero_le _) ?_
      have e1 : a = Z.nL := by omega
      subst e1
      exact ⟨rfl, rfl⟩
    · have hla : a < Z.nL := nI_lt_of c_12 (by omega) (by omega)
      refine g_aload_n X dX6_pointsCounted_15 2 rfl ?_
      refine g_getfield X fl_X6_37 dX6_pointsCounted_16 (kL1 D) rfl ?_
      refine g_iload_n X dX6_pointsCounted_19 0 rfl ?_
      refine g_cV X ml_X6_224 (k_getL D hla) ⟨8, _, kL6 D, rfl⟩ (Nat.le_of_ble_eq_true rfl) rfl rfl (Nat.le_of_ble_eq_true rfl) (Nat.zero_le _) (Nat.zero_le _) dX6_pointsCounted_20 ?_
      refine g_castO X cl_X6_120 (kLL D (Nat.lt_of_lt_of_le hla D.lx)) rfl dX6_pointsCounted_23 ?_
      refine g_getfield X fl_X6_155 dX6_pointsCounted_26 (kLL D (Nat.lt_of_lt_of_le hla D.lx)) rfl ?_
      refine g_astore X dX6_pointsCounted_29 (Nat.le_of_ble_eq_true rfl) [(4, _), (3, _), (2, _), (0, _), (1, _)] rfl ?_
      refine g_iconst X (v := 0) dX6_pointsCounted_31 ki_0 ?_
      refine g_istore X dX6_pointsCounted_32 (Nat.le_of_ble_eq_true rfl) [(5, _), (4, _), (3, _), (2, _), (0, _), (1, _)] rfl ?_
      refine g_L [0, 1, 2, 3, 4, 5] (L' := [(5, _), (4, _), (3, _), (2, _), (0, _), (1, _)]) rfl ?_
      refine g_L [0, 1, 2, 3, 4, 5] (L' := [(5, _), (4, _), (3, _), (2, .int (nI (sN (fun a => cN (fun p => icP Ar 6 (6 * a + p)) (Z.np a)) a + cN (fun p => icP Ar 6 (6 * a + p)) 0))), (0, _), (1, _)]) (by rw [cN_0]; rfl) ?_
      refine lp_X6_pointsCounted_34_6 X D hk  a (sN (fun a => cN (fun p => icP Ar 6 (6 * a + p)) (Z.np a)) a) (Nat.lt_of_lt_of_le hla D.lx) ?_ _ 0 (Nat.zero_le _) (Nat.lt_succ_self _)
      refine g_iinc X (v := nI (a + 1)) dX6_pointsCounted_70 0 rfl (nI_1 a) (Nat.le_of_ble_eq_true rfl) [(3, _), (2, _), (0, _), (1, _)] rfl ?_
      refine g_goto X 4 dX6_pointsCounted_73 (by decide) ?_
      refine g_L [0, 1, 2, 3] (L' := [(3, _), (2, .int (nI (sN (fun a => cN (fun p => icP Ar 6 (6 * a + p)) (Z.np a)) (a + 1)))), (0, _), (1, _)]) (by rw [sN_s]; rfl) ?_
      exact ih (a + 1) (by omega) (by omega)
theorem c_X6_pointsCounted_6 (D : kW G Z) (hk : ∀ a, a < Z.nX → ∀ q, q < Z.np a → kN Z.nC (Ar 22 (6 * a + q)))  : Ct G l 5 0 0 M_X6_pointsCounted [.ref (Z.da 1), .int 6] (kH G Z I Ar T A Lg h0) (rX (some (.int (nI (sN (fun a => cN (fun p => icP Ar 6 (6 * a + p)) (Z.np a)) Z.nL)))) (kH G Z I Ar T A Lg h0)) := by
  refine Ct.of (by decide +kernel) (Nat.le_of_ble_eq_true rfl) (fun E hE X F => ?_)
  have X : Gc G E "ComplaintDesk" cX6_pointsCounted 6 5 0 0 := X
  show GW G E _ 6 0 [(0, _), (1, _)] [] _ 0 0
  refine g_iconst X (v := 0) dX6_pointsCounted_0 ki_0 ?_
  refine g_istore_n X dX6_pointsCounted_1 (Nat.le_of_ble_eq_true rfl) [(2, _), (0, _), (1, _)] rfl ?_
  refine g_iconst X (v := 0) dX6_pointsCounted_2 ki_0 ?_
  refine g_istore_n X dX6_pointsCounted_3 (Nat.le_of_ble_eq_true rfl) [(3, _), (2, _), (0, _), (1, _)] rfl ?_
  refine g_L [0, 1, 2, 3] (L' := [(3, _), (2, _), (0, _), (1, _)]) rfl ?_
  refine g_L [0, 1, 2, 3] (L' := [(3, _), (2, .int (nI (sN (fun a => cN (fun p => icP Ar 6 (6 * a + p)) (Z.np a)) 0))), (0, _), (1, _)]) (by rw [sN_0]; rfl) ?_
  exact lp_X6_pointsCounted_4_6 X F D hk _ 0 (Nat.zero_le _) (Nat.lt_succ_self _)
theorem lp_X6_pointsCounted_34_7 {E : gE} (X : Gc G E "ComplaintDesk" cX6_pointsCounted 6 5 0 0) {Q : State → Prop} (D : kW G Z) (hk : ∀ a, a < Z.nX → ∀ q, q < Z.np a → kN Z.nC (Ar 22 (6 * a + q))) (a s0 : Nat) (ha : a < Z.nX) (K : GW G E Q 6 70 [(3, .int (nI a)), (2, .int (nI (s0 + cN (fun p => icP Ar 7 (6 * a + p)) (Z.np a)))), (0, .ref (Z.da 1)), (1, .int 7)] [] (kH G Z I Ar T A Lg h0) 0 0)  : ∀ (f : Nat) (p : Nat), p ≤ Z.np a → Z.np a - p < f → GW G E Q 6 34 [(5, .int (nI p)), (4, .ref (Z.da (1100 + a))), (3, .int (nI a)), (2, .int (nI (s0 + cN (fun p => icP Ar 7 (6 * a + p)) p))), (0, .ref (Z.da 1)), (1, .int 7)] [] (kH G Z I Ar T A Lg h0) 0 0 := by
  intro f
  induction f with
  | zero => intro p hpn hf; exact absurd hf (Nat.not_lt_zero _)
  | succ f ih =>
    intro p hpn hf
    have h80 := D.l80
    have hlx := D.lx
    have h12 := D.c12
    have h6 := D.p6 a
    refine g_iload X dX6_pointsCounted_34 0 rfl ?_
    refine g_aload X dX6_pointsCounted_36 1 rfl ?_
    refine g_cV X ml_X6_92 (k_szQ D ha) ⟨8, _, kLLL D ha, rfl⟩ (Nat.le_of_ble_eq_true rfl) rfl rfl (Nat.le_of_ble_eq_true rfl) (Nat.zero_le _) (Nat.zero_le _) dX6_pointsCounted_38 ?_
    refine g_icmp_ge X 70 dX6_pointsCounted_41 (by decide) (fun c_41 => ?_) (fun c_41 => ?_)
    · have hge : (Z.np a) ≤ p := (nI_leI (by omega) (by omega)).mp c_41
      have epn : p = Z.np a := by omega
      subst epn
      refine g_L [2, 3, 4, 5] (L' := [(3, _), (2, _), (0, _), (1, _)]) rfl ?_
      exact K
    · have hp : p < (Z.np a) := nI_lt_of c_41 (by omega) (by omega)
      refine g_aload X dX6_pointsCounted_44 1 rfl ?_
      refine g_iload X dX6_pointsCounted_46 0 rfl ?_
      refine g_cV X ml_X6_224 (k_getQ D ha hp) ⟨8, _, kLLL D ha, rfl⟩ (Nat.le_of_ble_eq_true rfl) rfl rfl (Nat.le_of_ble_eq_true rfl) (Nat.zero_le _) (Nat.zero_le _) dX6_pointsCounted_48 ?_
      refine g_castO X cl_X6_135 (kLQ D ha hp) rfl dX6_pointsCounted_51 ?_
      refine g_iload_n X dX6_pointsCounted_54 5 rfl ?_
      refine g_cV X ml_X6_292 (c_X3_isCountedAs_7 D a p ha hp (hk a ha p hp)) ⟨3, _, kLQ D ha hp, rfl⟩ (Nat.le_of_ble_eq_true rfl) rfl rfl (Nat.le_of_ble_eq_true rfl) (Nat.zero_le _) (Nat.zero_le _) dX6_pointsCounted_55 ?_
      refine g_if_eq X 64 dX6_pointsCounted_58 (by decide) (fun c_58 => ?_) (fun c_58 => ?_)
      · have e1 := b2_0.mp c_58
        refine g_L [0, 1, 2, 3, 4, 5] (L' := [(5, _), (4, _), (3, _), (2, .int (nI (s0 + cN (fun p => icP Ar 7 (6 * a + p)) (p + 1)))), (0, _), (1, _)]) (by rw [cN_s, if_neg e1]; rfl) ?_
        refine g_iinc X (v := nI (p + 1)) dX6_pointsCounted_64 0 rfl (nI_1 p) (Nat.le_of_ble_eq_true rfl) [(5, _), (4, _), (3, _), (2, _), (0, _), (1, _)] rfl ?_
        refine g_goto X 34 dX6_pointsCounted_67 (by decide) ?_
        refine g_L [0, 1, 2, 3, 4, 5] (L' := [(5, _), (4, _), (3, _), (2, _), (0, _), (1, _)]) rfl ?_
        exact ih (p + 1) (by omega) (by omega)
      · have e1 := b2_1.mp (b2_c.resolve_left c_58)
        refine g_iinc X (v := nI (s0 + cN (fun p => icP Ar 7 (6 * a + p)) (p + 1))) dX6_pointsCounted_61 3 rfl (by rw [cN_s, if_pos e1]; exact nI_1 _) (Nat.le_of_ble_eq_true rfl) [(2, _), (5, _), (4, _), (3, _), (0, _), (1, _)] rfl ?_
        refine g_iinc X (v := nI (p + 1)) dX6_pointsCounted_64 1 rfl (nI_1 p) (Nat.le_of_ble_eq_true rfl) [(5, _), (2, _), (4, _), (3, _), (0, _), (1, _)] rfl ?_
        refine g_goto X 34 dX6_pointsCounted_67 (by decide) ?_
        refine g_L [0, 2, 3, 1, 4, 5] (L' := [(5, _), (4, _), (3, _), (2, _), (0, _), (1, _)]) rfl ?_
        exact ih (p + 1) (by omega) (by omega)
theorem lp_X6_pointsCounted_4_7 {E : gE} (X : Gc G E "ComplaintDesk" cX6_pointsCounted 6 5 0 0) (F : gF E M_X6_pointsCounted) (D : kW G Z) (hk : ∀ a, a < Z.nX → ∀ q, q < Z.np a → kN Z.nC (Ar 22 (6 * a + q)))  : ∀ (f : Nat) (a : Nat), a ≤ Z.nL → Z.nL - a < f → GW G E (gMQ G E 0 0 (rX (some (.int (nI (sN (fun a => cN (fun p => icP Ar 7 (6 * a + p)) (Z.np a)) Z.nL)))) (kH G Z I Ar T A Lg h0))) 6 4 [(3, .int (nI a)), (2, .int (nI (sN (fun a => cN (fun p => icP Ar 7 (6 * a + p)) (Z.np a)) a))), (0, .ref (Z.da 1)), (1, .int 7)] [] (kH G Z I Ar T A Lg h0) 0 0 := by
  intro f
  induction f with
  | zero => intro a haa hf; exact absurd hf (Nat.not_lt_zero _)
  | succ f ih =>
    intro a haa hf
    have h80 := D.l80
    have hlx := D.lx
    have h12 := D.c12
    refine g_iload_n X dX6_pointsCounted_4 0 rfl ?_
    refine g_aload_n X dX6_pointsCounted_5 2 rfl ?_
    refine g_getfield X fl_X6_37 dX6_pointsCounted_6 (kL1 D) rfl ?_
    refine g_cV X ml_X6_92 (k_szL D) ⟨8, _, kL6 D, rfl⟩ (Nat.le_of_ble_eq_true rfl) rfl rfl (Nat.le_of_ble_eq_true rfl) (Nat.zero_le _) (Nat.zero_le _) dX6_pointsCounted_9 ?_
    refine g_icmp_ge X 76 dX6_pointsCounted_12 (by decide) (fun c_12 => ?_) (fun c_12 => ?_)
    · have hge : Z.nL ≤ a := (nI_leI (by omega) (by omega)).mp c_12
      refine g_iload_n X dX6_pointsCounted_76 1 rfl ?_
      refine g_iret X F rfl rfl dX6_pointsCounted_77 (Nat.zero_le _) (Nat.zero_le _) ?_
      have e1 : a = Z.nL := by omega
      subst e1
      exact ⟨rfl, rfl⟩
    · have hla : a < Z.nL := nI_lt_of c_12 (by omega) (by omega)
      refine g_aload_n X dX6_pointsCounted_15 2 rfl ?_
      refine g_getfield X fl_X6_37 dX6_pointsCounted_16 (kL1 D) rfl ?_
      refine g_iload_n X dX6_pointsCounted_19 0 rfl ?_
      refine g_cV X ml_X6_224 (k_getL D hla) ⟨8, _, kL6 D, rfl⟩ (Nat.le_of_ble_eq_true rfl) rfl rfl (Nat.le_of_ble_eq_true rfl) (Nat.zero_le _) (Nat.zero_le _) dX6_pointsCounted_20 ?_
      refine g_castO X cl_X6_120 (kLL D (Nat.lt_of_lt_of_le hla D.lx)) rfl dX6_pointsCounted_23 ?_
      refine g_getfield X fl_X6_155 dX6_pointsCounted_26 (kLL D (Nat.lt_of_lt_of_le hla D.lx)) rfl ?_
      refine g_astore X dX6_pointsCounted_29 (Nat.le_of_ble_eq_true rfl) [(4, _), (3, _), (2, _), (0, _), (1, _)] rfl ?_
      refine g_iconst X (v := 0) dX6_pointsCounted_31 ki_0 ?_
      refine g_istore X dX6_pointsCounted_32 (Nat.le_of_ble_eq_true rfl) [(5, _), (4, _), (3, _), (2, _), (0, _), (1, _)] rfl ?_
      refine g_L [0, 1, 2, 3, 4, 5] (L' := [(5, _), (4, _), (3, _), (2, _), (0, _), (1, _)]) rfl ?_
      refine g_L [0, 1, 2, 3, 4, 5] (L' := [(5, _), (4, _), (3, _), (2, .int (nI (sN (fun a => cN (fun p => icP Ar 7 (6 * a + p)) (Z.np a)) a + cN (fun p => icP Ar 7 (6 * a + p)) 0))), (0, _), (1, _)]) (by rw [cN_0]; rfl) ?_
      refine lp_X6_pointsCounted_34_7 X D hk  a (sN (fun a => cN (fun p => icP Ar 7 (6 * a + p)) (Z.np a)) a) (Nat.lt_of_lt_of_le hla D.lx) ?_ _ 0 (Nat.zero_le _) (Nat.lt_succ_self _)
      refine g_iinc X (v := nI (a + 1)) dX6_pointsCounted_70 0 rfl (nI_1 a) (Nat.le_of_ble_eq_true rfl) [(3, _), (2, _), (0, _), (1, _)] rfl ?_
      refine g_goto X 4 dX6_pointsCounted_73 (by decide) ?_
      refine g_L [0, 1, 2, 3] (L' := [(3, _), (2, .int (nI (sN (fun a => cN (fun p => icP Ar 7 (6 * a + p)) (Z.np a)) (a + 1)))), (0, _), (1, _)]) (by rw [sN_s]; rfl) ?_
      exact ih (a + 1) (by omega) (by omega)
theorem c_X6_pointsCounted_7 (D : kW G Z) (hk : ∀ a, a < Z.nX → ∀ q, q < Z.np a → kN Z.nC (Ar 22 (6 * a + q)))  : Ct G l 5 0 0 M_X6_pointsCounted [.ref (Z.da 1), .int 7] (kH G Z I Ar T A Lg h0) (rX (some (.int (nI (sN (fun a => cN (fun p => icP Ar 7 (6 * a + p)) (Z.np a)) Z.nL)))) (kH G Z I Ar T A Lg h0)) := by
  refine Ct.of (by decide +kernel) (Nat.le_of_ble_eq_true rfl) (fun E hE X F => ?_)
  have X : Gc G E "ComplaintDesk" cX6_pointsCounted 6 5 0 0 := X
  show GW G E _ 6 0 [(0, _), (1, _)] [] _ 0 0
  refine g_iconst X (v := 0) dX6_pointsCounted_0 ki_0 ?_
  refine g_istore_n X dX6_pointsCounted_1 (Nat.le_of_ble_eq_true rfl) [(2, _), (0, _), (1, _)] rfl ?_
  refine g_iconst X (v := 0) dX6_pointsCounted_2 ki_0 ?_
  refine g_istore_n X dX6_pointsCounted_3 (Nat.le_of_ble_eq_true rfl) [(3, _), (2, _), (0, _), (1, _)] rfl ?_
  refine g_L [0, 1, 2, 3] (L' := [(3, _), (2, _), (0, _), (1, _)]) rfl ?_
  refine g_L [0, 1, 2, 3] (L' := [(3, _), (2, .int (nI (sN (fun a => cN (fun p => icP Ar 7 (6 * a + p)) (Z.np a)) 0))), (0, _), (1, _)]) (by rw [sN_0]; rfl) ?_
  exact lp_X6_pointsCounted_4_7 X F D hk _ 0 (Nat.zero_le _) (Nat.lt_succ_self _)
end K7
