section K8
variable {G : gG} {l : Launch} {h h0 : hW} {Z : kZ} {I : Nat → Int32} {Ar : Nat → Nat → Int32} {T : Nat → Int32} {A : Nat → Nat → Int32} {Lg : Nat → Nat → Int64}
theorem lp_X6_matter_40 {E : gE} (X : Gc G E "ComplaintDesk" cX6_matter 7 5 0 0) {Q : State → Prop} (D : kW G Z) (hk : ∀ a, a < Z.nX → ∀ q, q < Z.np a → kN Z.nC (Ar 22 (6 * a + q))) (w : Int32) (c : Nat) (hc : c < Z.nC) (a s0 : Nat) (ha : a < Z.nX) (K : GW G E Q 7 91 [(4, .int (nI a)), (3, .int (nI (s0 + cN (fun p => Ar 13 a = w ∧ Ar 22 (6 * a + p) = nI c) (Z.np a)))), (0, .ref (Z.da 1)), (1, .int w), (2, .ref (Z.da (100 + c)))] [] (kH G Z I Ar T A Lg h0) 0 0)  : ∀ (f : Nat) (p : Nat), p ≤ Z.np a → Z.np a - p < f → GW G E Q 7 40 [(6, .int (nI p)), (5, .ref (Z.da (1000 + a))), (4, .int (nI a)), (3, .int (nI (s0 + cN (fun p => Ar 13 a = w ∧ Ar 22 (6 * a + p) = nI c) p))), (0, .ref (Z.da 1)), (1, .int w), (2, .ref (Z.da (100 + c)))] [] (kH G Z I Ar T A Lg h0) 0 0 := by
  intro f
  induction f with
  | zero => intro p hpn hf; exact absurd hf (Nat.not_lt_zero _)
  | succ f ih =>
    intro p hpn hf
    have h80 := D.l80
    have hlx := D.lx
    have h12 := D.c12
    have h6 := D.p6 a
    refine g_iload X dX6_matter_40 0 rfl ?_
    refine g_aload X dX6_matter_42 1 rfl ?_
    refine g_getfield X fl_X6_155 dX6_matter_44 (kLL D ha) rfl ?_
    refine g_cV X ml_X6_92 (k_szQ D ha) ⟨8, _, kLLL D ha, rfl⟩ (Nat.le_of_ble_eq_true rfl) rfl rfl (Nat.le_of_ble_eq_true rfl) (Nat.zero_le _) (Nat.zero_le _) dX6_matter_47 ?_
    refine g_icmp_ge X 91 dX6_matter_50 (by decide) (fun c_50 => ?_) (fun c_50 => ?_)
    · have hge : (Z.np a) ≤ p := (nI_leI (by omega) (by omega)).mp c_50
      have epn : p = Z.np a := by omega
      subst epn
      refine g_L [2, 3, 4, 5, 6] (L' := [(4, _), (3, _), (0, _), (1, _), (2, _)]) rfl ?_
      exact K
    · have hp : p < (Z.np a) := nI_lt_of c_50 (by omega) (by omega)
      refine g_aload X dX6_matter_53 1 rfl ?_
      refine g_getfield X fl_X6_187 dX6_matter_55 (kLL D ha) rfl ?_
      refine g_iload_n X dX6_matter_58 5 rfl ?_
      refine g_icmp_ne X 85 dX6_matter_59 (by decide) (fun c_59 => ?_) (fun c_59 => ?_)
      · have e1 : ¬ (Ar 13 a = w ∧ Ar 22 (6 * a + p) = nI c) := fun q => c_59 q.1
        refine g_L [0, 1, 2, 3, 4, 5, 6] (L' := [(6, _), (5, _), (4, _), (3, .int (nI (s0 + cN (fun p => Ar 13 a = w ∧ Ar 22 (6 * a + p) = nI c) (p + 1)))), (0, _), (1, _), (2, _)]) (by rw [cN_s, if_neg e1]; rfl) ?_
        refine g_iinc X (v := nI (p + 1)) dX6_matter_85 0 rfl (nI_1 p) (Nat.le_of_ble_eq_true rfl) [(6, _), (5, _), (4, _), (3, _), (0, _), (1, _), (2, _)] rfl ?_
        refine g_goto X 40 dX6_matter_88 (by decide) ?_
        refine g_L [0, 1, 2, 3, 4, 5, 6] (L' := [(6, _), (5, _), (4, _), (3, _), (0, _), (1, _), (2, _)]) rfl ?_
        exact ih (p + 1) (by omega) (by omega)
      · refine g_aload X dX6_matter_62 1 rfl ?_
        refine g_getfield X fl_X6_155 dX6_matter_64 (kLL D ha) rfl ?_
        refine g_iload X dX6_matter_67 0 rfl ?_
        refine g_cV X ml_X6_224 (k_getQ D ha hp) ⟨8, _, kLLL D ha, rfl⟩ (Nat.le_of_ble_eq_true rfl) rfl rfl (Nat.le_of_ble_eq_true rfl) (Nat.zero_le _) (Nat.zero_le _) dX6_matter_69 ?_
        refine g_castO X cl_X6_135 (kLQ D ha hp) rfl dX6_matter_72 ?_
        refine g_getfield X fl_X6_177 dX6_matter_75 (kLQ D ha hp) rfl ?_
        refine g_aload_n X dX6_matter_78 6 rfl ?_
        refine g_acmp_ne X 85 dX6_matter_79 (by decide) (rx := cz Z (Ar 22 (6 * a + p))) rfl (ry := some (Z.da (100 + c))) rfl (fun c_79 => ?_) (fun c_79 => ?_)
        · have e1 : ¬ (Ar 13 a = w ∧ Ar 22 (6 * a + p) = nI c) := fun q => c_79 (by rw [q.2, cz_s (by omega)])
          refine g_L [0, 1, 2, 3, 4, 5, 6] (L' := [(6, _), (5, _), (4, _), (3, .int (nI (s0 + cN (fun p => Ar 13 a = w ∧ Ar 22 (6 * a + p) = nI c) (p + 1)))), (0, _), (1, _), (2, _)]) (by rw [cN_s, if_neg e1]; rfl) ?_
          refine g_iinc X (v := nI (p + 1)) dX6_matter_85 0 rfl (nI_1 p) (Nat.le_of_ble_eq_true rfl) [(6, _), (5, _), (4, _), (3, _), (0, _), (1, _), (2, _)] rfl ?_
          refine g_goto X 40 dX6_matter_88 (by decide) ?_
          refine g_L [0, 1, 2, 3, 4, 5, 6] (L' := [(6, _), (5, _), (4, _), (3, _), (0, _), (1, _), (2, _)]) rfl ?_
          exact ih (p + 1) (by omega) (by omega)
        · have e1 : Ar 13 a = w ∧ Ar 22 (6 * a + p) = nI c := by
            refine ⟨c_59, (cz_inj D (hk a ha p hp) (Or.inr ⟨c, hc, rfl⟩)).mp ?_⟩
            rw [cz_s (by omega)]; first | exact c_79 | exact Classical.not_not.mp c_79
          refine g_iinc X (v := nI (s0 + cN (fun p => Ar 13 a = w ∧ Ar 22 (6 * a + p) = nI c) (p + 1))) dX6_matter_82 3 rfl (by rw [cN_s, if_pos e1]; exact nI_1 _) (Nat.le_of_ble_eq_true rfl) [(3, _), (6, _), (5, _), (4, _), (0, _), (1, _), (2, _)] rfl ?_
          refine g_iinc X (v := nI (p + 1)) dX6_matter_85 1 rfl (nI_1 p) (Nat.le_of_ble_eq_true rfl) [(6, _), (3, _), (5, _), (4, _), (0, _), (1, _), (2, _)] rfl ?_
          refine g_goto X 40 dX6_matter_88 (by decide) ?_
          refine g_L [0, 2, 3, 1, 4, 5, 6] (L' := [(6, _), (5, _), (4, _), (3, _), (0, _), (1, _), (2, _)]) rfl ?_
          exact ih (p + 1) (by omega) (by omega)
theorem lp_X6_matter_11 {E : gE} (X : Gc G E "ComplaintDesk" cX6_matter 7 5 0 0) (F : gF E M_X6_matter) (D : kW G Z) (hk : ∀ a, a < Z.nX → ∀ q, q < Z.np a → kN Z.nC (Ar 22 (6 * a + q))) (w : Int32) (c : Nat) (hc : c < Z.nC)  : ∀ (f : Nat) (a : Nat), a ≤ Z.nL → Z.nL - a < f → GW G E (gMQ G E 0 0 (rX (some (.int (nI (sN (fun a => cN (fun p => Ar 13 a = w ∧ Ar 22 (6 * a + p) = nI c) (Z.np a)) Z.nL)))) (kH G Z I Ar T A Lg h0))) 7 11 [(4, .int (nI a)), (3, .int (nI (sN (fun a => cN (fun p => Ar 13 a = w ∧ Ar 22 (6 * a + p) = nI c) (Z.np a)) a))), (0, .ref (Z.da 1)), (1, .int w), (2, .ref (Z.da (100 + c)))] [] (kH G Z I Ar T A Lg h0) 0 0 := by
  intro f
  induction f with
  | zero => intro a haa hf; exact absurd hf (Nat.not_lt_zero _)
  | succ f ih =>
    intro a haa hf
    have h80 := D.l80
    have hlx := D.lx
    have h12 := D.c12
    refine g_iload X dX6_matter_11 0 rfl ?_
    refine g_aload_n X dX6_matter_13 2 rfl ?_
    refine g_getfield X fl_X6_37 dX6_matter_14 (kL1 D) rfl ?_
    refine g_cV X ml_X6_92 (k_szL D) ⟨8, _, kL6 D, rfl⟩ (Nat.le_of_ble_eq_true rfl) rfl rfl (Nat.le_of_ble_eq_true rfl) (Nat.zero_le _) (Nat.zero_le _) dX6_matter_17 ?_
    refine g_icmp_ge X 97 dX6_matter_20 (by decide) (fun c_20 => ?_) (fun c_20 => ?_)
    · have hge : Z.nL ≤ a := (nI_leI (by omega) (by omega)).mp c_20
      refine g_iload_n X dX6_matter_97 1 rfl ?_
      refine g_iret X F rfl rfl dX6_matter_98 (Nat.zero_le _) (Nat.zero_le _) ?_
      have e1 : a = Z.nL := by omega
      subst e1
      exact ⟨rfl, rfl⟩
    · have hla : a < Z.nL := nI_lt_of c_20 (by omega) (by omega)
      refine g_aload_n X dX6_matter_23 2 rfl ?_
      refine g_getfield X fl_X6_37 dX6_matter_24 (kL1 D) rfl ?_
      refine g_iload X dX6_matter_27 0 rfl ?_
      refine g_cV X ml_X6_224 (k_getL D hla) ⟨8, _, kL6 D, rfl⟩ (Nat.le_of_ble_eq_true rfl) rfl rfl (Nat.le_of_ble_eq_true rfl) (Nat.zero_le _) (Nat.zero_le _) dX6_matter_29 ?_
      refine g_castO X cl_X6_120 (kLL D (Nat.lt_of_lt_of_le hla D.lx)) rfl dX6_matter_32 ?_
      refine g_astore X dX6_matter_35 (Nat.le_of_ble_eq_true rfl) [(5, _), (4, _), (3, _), (0, _), (1, _), (2, _)] rfl ?_
      refine g_iconst X (v := 0) dX6_matter_37 ki_0 ?_
      refine g_istore X dX6_matter_38 (Nat.le_of_ble_eq_true rfl) [(6, _), (5, _), (4, _), (3, _), (0, _), (1, _), (2, _)] rfl ?_
      refine g_L [0, 1, 2, 3, 4, 5, 6] (L' := [(6, _), (5, _), (4, _), (3, _), (0, _), (1, _), (2, _)]) rfl ?_
      refine g_L [0, 1, 2, 3, 4, 5, 6] (L' := [(6, _), (5, _), (4, _), (3, .int (nI (sN (fun a => cN (fun p => Ar 13 a = w ∧ Ar 22 (6 * a + p) = nI c) (Z.np a)) a + cN (fun p => Ar 13 a = w ∧ Ar 22 (6 * a + p) = nI c) 0))), (0, _), (1, _), (2, _)]) (by rw [cN_0]; rfl) ?_
      refine lp_X6_matter_40 X D hk w c hc a (sN (fun a => cN (fun p => Ar 13 a = w ∧ Ar 22 (6 * a + p) = nI c) (Z.np a)) a) (Nat.lt_of_lt_of_le hla D.lx) ?_ _ 0 (Nat.zero_le _) (Nat.lt_succ_self _)
      refine g_iinc X (v := nI (a + 1)) dX6_matter_91 0 rfl (nI_1 a) (Nat.le_of_ble_eq_true rfl) [(4, _), (3, _), (0, _), (1, _), (2, _)] rfl ?_
      refine g_goto X 11 dX6_matter_94 (by decide) ?_
      refine g_L [0, 1, 2, 3, 4] (L' := [(4, _), (3, .int (nI (sN (fun a => cN (fun p => Ar 13 a = w ∧ Ar 22 (6 * a + p) = nI c) (Z.np a)) (a + 1)))), (0, _), (1, _), (2, _)]) (by rw [sN_s]; rfl) ?_
      exact ih (a + 1) (by omega) (by omega)
theorem c_X6_matter (D : kW G Z) (hk : ∀ a, a < Z.nX → ∀ q, q < Z.np a → kN Z.nC (Ar 22 (6 * a + q))) (w : Int32) (c : Nat) (hc : c < Z.nC)  : Ct G l 5 0 0 M_X6_matter [.ref (Z.da 1), .int w, .ref (Z.da (100 + c))] (kH G Z I Ar T A Lg h0) (rX (some (.int (nI (sN (fun a => cN (fun p => Ar 13 a = w ∧ Ar 22 (6 * a + p) = nI c) (Z.np a)) Z.nL)))) (kH G Z I Ar T A Lg h0)) := by
  refine Ct.of (by decide +kernel) (Nat.le_of_ble_eq_true rfl) (fun E hE X F => ?_)
  have X : Gc G E "ComplaintDesk" cX6_matter 7 5 0 0 := X
  show GW G E _ 7 0 [(0, _), (1, _), (2, _)] [] _ 0 0
  refine g_aload_n X dX6_matter_0 2 rfl ?_
  refine g_ifnonnull X 6 dX6_matter_1 (by decide) (x := some (Z.da (100 + c))) rfl (fun y c_1 => ?_) (fun c_1 => by cases c_1)
  refine g_iconst X (v := 0) dX6_matter_6 ki_0 ?_
  refine g_istore_n X dX6_matter_7 (Nat.le_of_ble_eq_true rfl) [(3, _), (0, _), (1, _), (2, _)] rfl ?_
  refine g_iconst X (v := 0) dX6_matter_8 ki_0 ?_
  refine g_istore X dX6_matter_9 (Nat.le_of_ble_eq_true rfl) [(4, _), (3, _), (0, _), (1, _), (2, _)] rfl ?_
  refine g_L [0, 1, 2, 3, 4] (L' := [(4, _), (3, _), (0, _), (1, _), (2, _)]) rfl ?_
  refine g_L [0, 1, 2, 3, 4] (L' := [(4, _), (3, .int (nI (sN (fun a => cN (fun p => Ar 13 a = w ∧ Ar 22 (6 * a + p) = nI c) (Z.np a)) 0))), (0, _), (1, _), (2, _)]) (by rw [sN_0]; rfl) ?_
  exact lp_X6_matter_11 X F D hk w c hc _ 0 (Nat.zero_le _) (Nat.lt_succ_self _)
theorem c_X6_matter_n (w : Int32)  : Ct G l 5 0 0 M_X6_matter [.ref (Z.da 1), .int w, .null] h (rX (some (.int 0)) h) := by
  refine Ct.of (by decide +kernel) (Nat.le_of_ble_eq_true rfl) (fun E hE X F => ?_)
  have X : Gc G E "ComplaintDesk" cX6_matter 7 5 0 0 := X
  show GW G E _ 7 0 [(0, _), (1, _), (2, _)] [] _ 0 0
  refine g_aload_nQ X (x := none) dX6_matter_0 2 rfl ?_
  refine g_ifnonnull X 6 dX6_matter_1 (by decide) (x := none) rfl (fun y c_1 => by cases c_1) (fun c_1 => ?_)
  refine g_iconst X (v := 0) dX6_matter_4 ki_0 ?_
  refine g_iret X F rfl rfl dX6_matter_5 (Nat.zero_le _) (Nat.zero_le _) ?_
  exact ⟨rfl, rfl⟩
theorem lp_X6_causesOfSet_4 {E : gE} (X : Gc G E "ComplaintDesk" cX6_causesOfSet 4 0 0 0) (F : gF E M_X6_causesOfSet) (D : kW G Z) (s nt : Nat) (hnt : nt ≤ 10) (hI : I 26 = nI nt) : ∀ (f : Nat) (k : Nat), k ≤ nt → nt - k < f → GW G E (gMQ G E 0 0 (rX (some (.int (hasF Ar s nt))) (kH G Z I Ar T A Lg h0))) 4 4 [(3, .int (nI k)), (2, .int (hasF Ar s k)), (0, .ref (Z.da 1)), (1, .int (nI s))] [] (kH G Z I Ar T A Lg h0) 0 0 := by
  intro f
  induction f with
  | zero => intro k hkn hf; exact absurd hf (Nat.not_lt_zero _)
  | succ f ih =>
    intro k hkn hf
    refine g_iload_n X dX6_causesOfSet_4 0 rfl ?_
    refine g_aload_n X dX6_causesOfSet_5 2 rfl ?_
    refine g_getfield X fl_X6_47 dX6_causesOfSet_6 (kL1 D) rfl ?_
    refine g_eqi (y := nI nt) (hI) ?_
    refine g_icmp_ge X 45 dX6_causesOfSet_9 (by decide) (fun c_9 => ?_) (fun c_9 => ?_)
    · have hge : nt ≤ k := (nI_leI (by omega) (by omega)).mp c_9
      refine g_iload_n X dX6_causesOfSet_45 1 rfl ?_
      refine g_iret X F rfl rfl dX6_causesOfSet_46 (Nat.zero_le _) (Nat.zero_le _) ?_
      have e1 : k = nt := by omega
      subst e1
      exact ⟨rfl, rfl⟩
    · have hlt : k < nt := nI_lt_of c_9 (by omega) (by omega)
      refine g_iload_n X dX6_causesOfSet_12 0 rfl ?_
      refine g_aload_n X dX6_causesOfSet_13 2 rfl ?_
      refine g_getfield X fl_X6_44 dX6_causesOfSet_14 (kL1 D) rfl ?_
      refine g_alen X dX6_causesOfSet_17 (t := 0) rfl (kL9 D) (nI 10) rfl ?_
      refine g_icmp_ge X 45 dX6_causesOfSet_18 (by decide) (fun c_18 => absurd ((nI_leI (by omega) (by omega)).mp c_18) (by omega)) (fun c_18 => ?_)
      refine g_iload_n X dX6_causesOfSet_21 3 rfl ?_
      refine g_iload_n X dX6_causesOfSet_22 0 rfl ?_
      refine g_ishr X dX6_causesOfSet_23 ?_
      refine g_iconst X (v := 1) dX6_causesOfSet_24 ki_1 ?_
      refine g_iand X dX6_causesOfSet_25 ?_
      refine g_iconst X (v := 1) dX6_causesOfSet_26 ki_1 ?_
      refine g_icmp_ne X 39 dX6_causesOfSet_27 (by decide) (fun c_27 => ?_) (fun c_27 => ?_)
      · refine g_L [0, 1, 2, 3] (L' := [(3, _), (2, .int (hasF Ar s (k + 1))), (0, _), (1, _)]) (by rw [hasF_s, if_neg c_27, Int32.or_zero]; rfl) ?_
        refine g_iinc X (v := nI (k + 1)) dX6_causesOfSet_39 0 rfl (nI_1 k) (Nat.le_of_ble_eq_true rfl) [(3, _), (2, _), (0, _), (1, _)] rfl ?_
        refine g_goto X 4 dX6_causesOfSet_42 (by decide) ?_
        refine g_L [0, 1, 2, 3] (L' := [(3, _), (2, _), (0, _), (1, _)]) rfl ?_
        exact ih (k + 1) (by omega) (by omega)
      · refine g_iload_n X dX6_causesOfSet_30 1 rfl ?_
        refine g_aload_n X dX6_causesOfSet_31 2 rfl ?_
        refine g_getfield X fl_X6_44 dX6_causesOfSet_32 (kL1 D) rfl ?_
        refine g_iload_n X dX6_causesOfSet_35 0 rfl ?_
        refine g_iaload X dX6_causesOfSet_36 (kL9 D) (vp_in_nI (by omega) (by omega)) ?_
        refine g_eqi (y := Ar 25 k) (by rw [nI_clamp (by omega)]) ?_
        refine g_ior X dX6_causesOfSet_37 ?_
        refine g_istore_n X dX6_causesOfSet_38 (Nat.le_of_ble_eq_true rfl) [(2, _), (3, _), (0, _), (1, _)] rfl ?_
        refine g_iinc X (v := nI (k + 1)) dX6_causesOfSet_39 1 rfl (nI_1 k) (Nat.le_of_ble_eq_true rfl) [(3, _), (2, _), (0, _), (1, _)] rfl ?_
        refine g_goto X 4 dX6_causesOfSet_42 (by decide) ?_
        refine g_L [0, 1, 2, 3] (L' := [(3, _), (2, _), (0, _), (1, _)]) rfl ?_
        refine g_L [0, 1, 2, 3] (L' := [(3, _), (2, .int (hasF Ar s (k + 1))), (0, _), (1, _)]) (by rw [hasF_s, if_pos c_27]; rfl) ?_
        exact ih (k + 1) (by omega) (by omega)
theorem c_X6_causesOfSet (D : kW G Z) (s nt : Nat) (hnt : nt ≤ 10) (hI : I 26 = nI nt)  : Ct G l 0 0 0 M_X6_causesOfSet [.ref (Z.da 1), .int (nI s)] (kH G Z I Ar T A Lg h0) (rX (some (.int (hasF Ar s nt))) (kH G Z I Ar T A Lg h0)) := by
  refine Ct.of (by decide +kernel) (Nat.le_of_ble_eq_true rfl) (fun E hE X F => ?_)
  have X : Gc G E "ComplaintDesk" cX6_causesOfSet 4 0 0 0 := X
  show GW G E _ 4 0 [(0, _), (1, _)] [] _ 0 0
  refine g_iconst X (v := 0) dX6_causesOfSet_0 ki_0 ?_
  refine g_istore_n X dX6_causesOfSet_1 (Nat.le_of_ble_eq_true rfl) [(2, _), (0, _), (1, _)] rfl ?_
  refine g_iconst X (v := 0) dX6_causesOfSet_2 ki_0 ?_
  refine g_istore_n X dX6_causesOfSet_3 (Nat.le_of_ble_eq_true rfl) [(3, _), (2, _), (0, _), (1, _)] rfl ?_
  refine g_L [0, 1, 2, 3] (L' := [(3, _), (2, _), (0, _), (1, _)]) rfl ?_
  refine g_L [0, 1, 2, 3] (L' := [(3, .int (nI 0)), (2, .int (hasF Ar s 0)), (0, _), (1, _)]) (by rw [hasF_0]; rfl) ?_
  exact lp_X6_causesOfSet_4 X F D s nt hnt hI _ 0 (Nat.zero_le _) (Nat.lt_succ_self _)
end K8
