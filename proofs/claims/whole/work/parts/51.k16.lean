section K16
variable {G : gG} {l : Launch} {h h0 : hW} {Z : kZ} {I : Nat → Int32} {Ar : Nat → Nat → Int32} {T : Nat → Int32} {A : Nat → Nat → Int32} {Lg : Nat → Nat → Int64}
theorem c_X6_hours (D : kW G Z) (d n : Nat) (hd : d < 4) (hn : n ≤ 20)  : Ct G l 1 0 0 M_X6_hours [.ref (Z.da 1), .int (nI d), .int (nI n)] (kH G Z I Ar T A Lg h0) (rX none (kH G Z I (va_up Ar 12 (upd (Ar 12) d (nI n))) T A Lg h0)) := by
  refine Ct.of (by decide +kernel) (Nat.le_of_ble_eq_true rfl) (fun E hE X F => ?_)
  have X : Gc G E "ComplaintDesk" cX6_hours 3 1 0 0 := X
  show GW G E _ 3 0 [(0, _), (1, _), (2, _)] [] _ 0 0
  refine g_iload_n X dX6_hours_0 1 rfl ?_
  refine g_cS0 X ml_X6_78 (c_X6_checkDesk d hd) (Nat.le_of_ble_eq_true rfl) rfl rfl (Nat.le_of_ble_eq_true rfl) (Nat.zero_le _) (Nat.zero_le _) dX6_hours_1 ?_
  refine g_iload_n X dX6_hours_4 2 rfl ?_
  refine g_if_lt X 14 dX6_hours_5 (by decide) (fun c_5 => absurd c_5 (nI_pos (by omega))) (fun c_5 => ?_)
  refine g_iload_n X dX6_hours_8 2 rfl ?_
  refine g_bipush X (v := 20) dX6_hours_9 kb_20 ?_
  refine g_icmp_le X 24 dX6_hours_11 (by decide) (fun c_11 => ?_) (fun c_11 => absurd ((nI_leI (a := n) (b := 20) (by omega) (by omega)).mpr hn) c_11)
  refine g_aload_n X dX6_hours_24 0 rfl ?_
  refine g_getfield X fl_X6_40 dX6_hours_25 (kL1 D) rfl ?_
  refine g_iload_n X dX6_hours_28 1 rfl ?_
  refine g_iload_n X dX6_hours_29 2 rfl ?_
  refine g_iastore X dX6_hours_30 (kL8 D) (vp_in_nI (by omega) (by decide)) ?_
  refine g_h (h' := (kH G Z I (va_up Ar 12 (upd (Ar 12) d (nI n))) T A Lg h0)) (by rw [nI_clamp (by omega)]; exact kuA12 D) ?_
  refine g_ret0 X F rfl dX6_hours_31 (Nat.zero_le _) (Nat.zero_le _) ?_
  exact ⟨rfl, rfl⟩
theorem lp_X6_waits_38 {E : gE} (X : Gc G E "ComplaintDesk" cX6_waits 6 4 0 0) {Q : State → Prop} (D : kW G Z) (hk : ∀ a, a < Z.nX → ∀ q, q < Z.np a → kN Z.nC (Ar 22 (6 * a + q))) (d : Nat) (a s0 : Nat) (ha : a < Z.nX) (K : GW G E Q 6 74 [(3, .int (nI a)), (2, .int (nI (s0 + cN (fun p => wtP Ar (nI d) (6 * a + p)) (Z.np a)))), (0, .ref (Z.da 1)), (1, .int (nI d))] [] (kH G Z I Ar T A Lg h0) 0 0)  : ∀ (f : Nat) (p : Nat), p ≤ Z.np a → Z.np a - p < f → GW G E Q 6 38 [(5, .int (nI p)), (4, .ref (Z.da (1100 + a))), (3, .int (nI a)), (2, .int (nI (s0 + cN (fun p => wtP Ar (nI d) (6 * a + p)) p))), (0, .ref (Z.da 1)), (1, .int (nI d))] [] (kH G Z I Ar T A Lg h0) 0 0 := by
  intro f
  induction f with
  | zero => intro p hpn hf; exact absurd hf (Nat.not_lt_zero _)
  | succ f ih =>
    intro p hpn hf
    have h80 := D.l80
    have hlx := D.lx
    have h12 := D.c12
    have h6 := D.p6 a
    refine g_iload X dX6_waits_38 0 rfl ?_
    refine g_aload X dX6_waits_40 1 rfl ?_
    refine g_cV X ml_X6_92 (k_szQ D ha) ⟨8, _, kLLL D ha, rfl⟩ (Nat.le_of_ble_eq_true rfl) rfl rfl (Nat.le_of_ble_eq_true rfl) (Nat.zero_le _) (Nat.zero_le _) dX6_waits_42 ?_
    refine g_icmp_ge X 74 dX6_waits_45 (by decide) (fun c_45 => ?_) (fun c_45 => ?_)
    · have hge : (Z.np a) ≤ p := (nI_leI (by omega) (by omega)).mp c_45
      have epn : p = Z.np a := by omega
      subst epn
      refine g_L [2, 3, 4, 5] (L' := [(3, _), (2, _), (0, _), (1, _)]) rfl ?_
      exact K
    · have hp : p < (Z.np a) := nI_lt_of c_45 (by omega) (by omega)
      refine g_aload X dX6_waits_48 1 rfl ?_
      refine g_iload X dX6_waits_50 0 rfl ?_
      refine g_cV X ml_X6_224 (k_getQ D ha hp) ⟨8, _, kLLL D ha, rfl⟩ (Nat.le_of_ble_eq_true rfl) rfl rfl (Nat.le_of_ble_eq_true rfl) (Nat.zero_le _) (Nat.zero_le _) dX6_waits_52 ?_
      refine g_castO X cl_X6_135 (kLQ D ha hp) rfl dX6_waits_55 ?_
      refine g_iload_n X dX6_waits_58 5 rfl ?_
      refine g_cV X ml_X6_228 (c_X3_isWaitingAt D a p ha hp (hk a ha p hp) (nI d)) ⟨3, _, kLQ D ha hp, rfl⟩ (Nat.le_of_ble_eq_true rfl) rfl rfl (Nat.le_of_ble_eq_true rfl) (Nat.zero_le _) (Nat.zero_le _) dX6_waits_59 ?_
      refine g_if_eq X 68 dX6_waits_62 (by decide) (fun c_62 => ?_) (fun c_62 => ?_)
      · have e1 := b2_0.mp c_62
        refine g_L [0, 1, 2, 3, 4, 5] (L' := [(5, _), (4, _), (3, _), (2, .int (nI (s0 + cN (fun p => wtP Ar (nI d) (6 * a + p)) (p + 1)))), (0, _), (1, _)]) (by rw [cN_s, if_neg e1]; rfl) ?_
        refine g_iinc X (v := nI (p + 1)) dX6_waits_68 0 rfl (nI_1 p) (Nat.le_of_ble_eq_true rfl) [(5, _), (4, _), (3, _), (2, _), (0, _), (1, _)] rfl ?_
        refine g_goto X 38 dX6_waits_71 (by decide) ?_
        refine g_L [0, 1, 2, 3, 4, 5] (L' := [(5, _), (4, _), (3, _), (2, _), (0, _), (1, _)]) rfl ?_
        exact ih (p + 1) (by omega) (by omega)
      · have e1 := b2_1.mp (b2_c.resolve_left c_62)
        refine g_iinc X (v := nI (s0 + cN (fun p => wtP Ar (nI d) (6 * a + p)) (p + 1))) dX6_waits_65 3 rfl (by rw [cN_s, if_pos e1]; exact nI_1 _) (Nat.le_of_ble_eq_true rfl) [(2, _), (5, _), (4, _), (3, _), (0, _), (1, _)] rfl ?_
        refine g_iinc X (v := nI (p + 1)) dX6_waits_68 1 rfl (nI_1 p) (Nat.le_of_ble_eq_true rfl) [(5, _), (2, _), (4, _), (3, _), (0, _), (1, _)] rfl ?_
        refine g_goto X 38 dX6_waits_71 (by decide) ?_
        refine g_L [0, 2, 3, 1, 4, 5] (L' := [(5, _), (4, _), (3, _), (2, _), (0, _), (1, _)]) rfl ?_
        exact ih (p + 1) (by omega) (by omega)
theorem lp_X6_waits_8 {E : gE} (X : Gc G E "ComplaintDesk" cX6_waits 6 4 0 0) (F : gF E M_X6_waits) (D : kW G Z) (hk : ∀ a, a < Z.nX → ∀ q, q < Z.np a → kN Z.nC (Ar 22 (6 * a + q))) (d : Nat)  : ∀ (f : Nat) (a : Nat), a ≤ Z.nL → Z.nL - a < f → GW G E (gMQ G E 0 0 (rX (some (.int (nI (sN (fun a => cN (fun p => wtP Ar (nI d) (6 * a + p)) (Z.np a)) Z.nL)))) (kH G Z I Ar T A Lg h0))) 6 8 [(3, .int (nI a)), (2, .int (nI (sN (fun a => cN (fun p => wtP Ar (nI d) (6 * a + p)) (Z.np a)) a))), (0, .ref (Z.da 1)), (1, .int (nI d))] [] (kH G Z I Ar T A Lg h0) 0 0 := by
  intro f
  induction f with
  | zero => intro a haa hf; exact absurd hf (Nat.not_lt_zero _)
  | succ f ih =>
    intro a haa hf
    have h80 := D.l80
    have hlx := D.lx
    have h12 := D.c12
    refine g_iload_n X dX6_waits_8 0 rfl ?_
    refine g_aload_n X dX6_waits_9 2 rfl ?_
    refine g_getfield X fl_X6_37 dX6_waits_10 (kL1 D) rfl ?_
    refine g_cV X ml_X6_92 (k_szL D) ⟨8, _, kL6 D, rfl⟩ (Nat.le_of_ble_eq_true rfl) rfl rfl (Nat.le_of_ble_eq_true rfl) (Nat.zero_le _) (Nat.zero_le _) dX6_waits_13 ?_
    refine g_icmp_ge X 80 dX6_waits_16 (by decide) (fun c_16 => ?_) (fun c_16 => ?_)
    · have hge : Z.nL ≤ a := (nI_leI (by omega) (by omega)).mp c_16
      refine g_iload_n X dX6_waits_80 1 rfl ?_
      refine g_iret X F rfl rfl dX6_waits_81 (Nat.zero_le _) (Nat.zero_le _) ?_
      have e1 : a = Z.nL := by omega
      subst e1
      exact ⟨rfl, rfl⟩
    · have hla : a < Z.nL := nI_lt_of c_16 (by omega) (by omega)
      refine g_aload_n X dX6_waits_19 2 rfl ?_
      refine g_getfield X fl_X6_37 dX6_waits_20 (kL1 D) rfl ?_
      refine g_iload_n X dX6_waits_23 0 rfl ?_
      refine g_cV X ml_X6_224 (k_getL D hla) ⟨8, _, kL6 D, rfl⟩ (Nat.le_of_ble_eq_true rfl) rfl rfl (Nat.le_of_ble_eq_true rfl) (Nat.zero_le _) (Nat.zero_le _) dX6_waits_24 ?_
      refine g_castO X cl_X6_120 (kLL D (Nat.lt_of_lt_of_le hla D.lx)) rfl dX6_waits_27 ?_
      refine g_getfield X fl_X6_155 dX6_waits_30 (kLL D (Nat.lt_of_lt_of_le hla D.lx)) rfl ?_
      refine g_astore X dX6_waits_33 (Nat.le_of_ble_eq_true rfl) [(4, _), (3, _), (2, _), (0, _), (1, _)] rfl ?_
      refine g_iconst X (v := 0) dX6_waits_35 ki_0 ?_
      refine g_istore X dX6_waits_36 (Nat.le_of_ble_eq_true rfl) [(5, _), (4, _), (3, _), (2, _), (0, _), (1, _)] rfl ?_
      refine g_L [0, 1, 2, 3, 4, 5] (L' := [(5, _), (4, _), (3, _), (2, _), (0, _), (1, _)]) rfl ?_
      refine g_L [0, 1, 2, 3, 4, 5] (L' := [(5, _), (4, _), (3, _), (2, .int (nI (sN (fun a => cN (fun p => wtP Ar (nI d) (6 * a + p)) (Z.np a)) a + cN (fun p => wtP Ar (nI d) (6 * a + p)) 0))), (0, _), (1, _)]) (by rw [cN_0]; rfl) ?_
      refine lp_X6_waits_38 X D hk d a (sN (fun a => cN (fun p => wtP Ar (nI d) (6 * a + p)) (Z.np a)) a) (Nat.lt_of_lt_of_le hla D.lx) ?_ _ 0 (Nat.zero_le _) (Nat.lt_succ_self _)
      refine g_iinc X (v := nI (a + 1)) dX6_waits_74 0 rfl (nI_1 a) (Nat.le_of_ble_eq_true rfl) [(3, _), (2, _), (0, _), (1, _)] rfl ?_
      refine g_goto X 8 dX6_waits_77 (by decide) ?_
      refine g_L [0, 1, 2, 3] (L' := [(3, _), (2, .int (nI (sN (fun a => cN (fun p => wtP Ar (nI d) (6 * a + p)) (Z.np a)) (a + 1)))), (0, _), (1, _)]) (by rw [sN_s]; rfl) ?_
      exact ih (a + 1) (by omega) (by omega)
theorem c_X6_waits (D : kW G Z) (V : kV Z I Ar) (d : Nat) (hd : d < 4)  : Ct G l 4 0 0 M_X6_waits [.ref (Z.da 1), .int (nI d)] (kH G Z I Ar T A Lg h0) (rX (some (.int (nI (cN (isOfP I Ar (nI d)) 480)))) (kH G Z I Ar T A Lg h0)) := by
  refine Ct.of (by decide +kernel) (Nat.le_of_ble_eq_true rfl) (fun E hE X F => ?_)
  have X : Gc G E "ComplaintDesk" cX6_waits 6 4 0 0 := X
  show GW G E _ 6 0 [(0, _), (1, _)] [] _ 0 0
  refine g_iload_n X dX6_waits_0 1 rfl ?_
  refine g_cS0 X ml_X6_78 (c_X6_checkDesk d hd) (Nat.le_of_ble_eq_true rfl) rfl rfl (Nat.le_of_ble_eq_true rfl) (Nat.zero_le _) (Nat.zero_le _) dX6_waits_1 ?_
  refine g_iconst X (v := 0) dX6_waits_4 ki_0 ?_
  refine g_istore_n X dX6_waits_5 (Nat.le_of_ble_eq_true rfl) [(2, _), (0, _), (1, _)] rfl ?_
  refine g_iconst X (v := 0) dX6_waits_6 ki_0 ?_
  refine g_istore_n X dX6_waits_7 (Nat.le_of_ble_eq_true rfl) [(3, _), (2, _), (0, _), (1, _)] rfl ?_
  refine g_L [0, 1, 2, 3] (L' := [(3, _), (2, _), (0, _), (1, _)]) rfl ?_
  refine g_L [0, 1, 2, 3] (L' := [(3, _), (2, .int (nI (sN (fun a => cN (fun p => wtP Ar (nI d) (6 * a + p)) (Z.np a)) 0))), (0, _), (1, _)]) (by rw [sN_0]; rfl) ?_
  rw [← sN_all D V]
  exact lp_X6_waits_8 X F D V.k22 d _ 0 (Nat.zero_le _) (Nat.lt_succ_self _)
theorem c_X6_template_full (D : kW G Z) (q : Int32) (hq : ¬ q = 0) (hq2 : q &&& ((nI (2 ^ Z.nC) - 1) ^^^ -1) = 0) (hI : I 26 = 10)  : Ct G l 1 0 0 M_X6_template [.ref (Z.da 1), .int q] (kH G Z I Ar T A Lg h0) (rX (some (.int (-1))) (kH G Z I Ar T A Lg h0)) := by
  refine Ct.of (by decide +kernel) (Nat.le_of_ble_eq_true rfl) (fun E hE X F => ?_)
  have X : Gc G E "ComplaintDesk" cX6_template 3 1 0 0 := X
  show GW G E _ 3 0 [(0, _), (1, _)] [] _ 0 0
  refine g_iconst X (v := 1) dX6_template_0 ki_1 ?_
  refine g_aload_n X dX6_template_1 0 rfl ?_
  refine g_getfield X fl_X6_33 dX6_template_2 (kL1 D) rfl ?_
  refine g_cV X ml_X6_92 (k_szC D) ⟨8, _, kL4 D, rfl⟩ (Nat.le_of_ble_eq_true rfl) rfl rfl (Nat.le_of_ble_eq_true rfl) (Nat.zero_le _) (Nat.zero_le _) dX6_template_5 ?_
  refine g_ishl X dX6_template_8 ?_
  refine g_eqi (y := nI (2 ^ Z.nC)) (shl1 Z.nC D.c12) ?_
  refine g_iconst X (v := 1) dX6_template_9 ki_1 ?_
  refine g_isub X dX6_template_10 ?_
  refine g_istore_n X dX6_template_11 (Nat.le_of_ble_eq_true rfl) [(2, _), (0, _), (1, _)] rfl ?_
  refine g_iload_n X dX6_template_12 2 rfl ?_
  refine g_if_eq X 24 dX6_template_13 (by decide) (fun c_13 => absurd c_13 hq) (fun c_13 => ?_)
  refine g_iload_n X dX6_template_16 2 rfl ?_
  refine g_iload_n X dX6_template_17 0 rfl ?_
  refine g_iconst X (v := (-1)) dX6_template_18 ki_m1 ?_
  refine g_ixor X dX6_template_19 ?_
  refine g_iand X dX6_template_20 ?_
  refine g_if_eq X 34 dX6_template_21 (by decide) (fun c_21 => ?_) (fun c_21 => absurd hq2 (by first | exact c_21 | exact fun z => c_21 z))
  refine g_aload_n X dX6_template_34 1 rfl ?_
  refine g_getfield X fl_X6_47 dX6_template_35 (kL1 D) rfl ?_
  refine g_eqi (y := (10 : Int32)) (hI) ?_
  refine g_aload_n X dX6_template_38 1 rfl ?_
  refine g_getfield X fl_X6_44 dX6_template_39 (kL1 D) rfl ?_
  refine g_alen X dX6_template_42 (t := 0) rfl (kL9 D) 10 rfl ?_
  refine g_icmp_lt X 48 dX6_template_43 (by decide) (fun c_43 => absurd c_43 (by decide)) (fun c_43 => ?_)
  refine g_iconst X (v := (-1)) dX6_template_46 ki_m1 ?_
  refine g_iret X F rfl rfl dX6_template_47 (Nat.zero_le _) (Nat.zero_le _) ?_
  exact ⟨rfl, rfl⟩
theorem c_X6_template (D : kW G Z) (q : Int32) (hq : ¬ q = 0) (hq2 : q &&& ((nI (2 ^ Z.nC) - 1) ^^^ -1) = 0) (nt : Nat) (hnt : nt < 10) (hI : I 26 = nI nt)  : Ct G l 1 0 0 M_X6_template [.ref (Z.da 1), .int q] (kH G Z I Ar T A Lg h0) (rX (some (.int (nI nt))) (kH G Z (va_up I 26 (nI (nt + 1))) (va_up Ar 25 (upd (Ar 25) nt q)) T A Lg h0)) := by
  refine Ct.of (by decide +kernel) (Nat.le_of_ble_eq_true rfl) (fun E hE X F => ?_)
  have X : Gc G E "ComplaintDesk" cX6_template 3 1 0 0 := X
  show GW G E _ 3 0 [(0, _), (1, _)] [] _ 0 0
  refine g_iconst X (v := 1) dX6_template_0 ki_1 ?_
  refine g_aload_n X dX6_template_1 0 rfl ?_
  refine g_getfield X fl_X6_33 dX6_template_2 (kL1 D) rfl ?_
  refine g_cV X ml_X6_92 (k_szC D) ⟨8, _, kL4 D, rfl⟩ (Nat.le_of_ble_eq_true rfl) rfl rfl (Nat.le_of_ble_eq_true rfl) (Nat.zero_le _) (Nat.zero_le _) dX6_template_5 ?_
  refine g_ishl X dX6_template_8 ?_
  refine g_eqi (y := nI (2 ^ Z.nC)) (shl1 Z.nC D.c12) ?_
  refine g_iconst X (v := 1) dX6_template_9 ki_1 ?_
  refine g_isub X dX6_template_10 ?_
  refine g_istore_n X dX6_template_11 (Nat.le_of_ble_eq_true rfl) [(2, _), (0, _), (1, _)] rfl ?_
  refine g_iload_n X dX6_template_12 2 rfl ?_
  refine g_if_eq X 24 dX6_template_13 (by decide) (fun c_13 => absurd c_13 hq) (fun c_13 => ?_)
  refine g_iload_n X dX6_template_16 2 rfl ?_
  refine g_iload_n X dX6_template_17 0 rfl ?_
  refine g_iconst X (v := (-1)) dX6_template_18 ki_m1 ?_
  refine g_ixor X dX6_template_19 ?_
  refine g_iand X dX6_template_20 ?_
  refine g_if_eq X 34 dX6_template_21 (by decide) (fun c_21 => ?_) (fun c_21 => absurd hq2 (by first | exact c_21 | exact fun z => c_21 z))
  refine g_aload_n X dX6_template_34 1 rfl ?_
  refine g_getfield X fl_X6_47 dX6_template_35 (kL1 D) rfl ?_
  refine g_eqi (y := nI nt) (hI) ?_
  refine g_aload_n X dX6_template_38 1 rfl ?_
  refine g_getfield X fl_X6_44 dX6_template_39 (kL1 D) rfl ?_
  refine g_alen X dX6_template_42 (t := 0) rfl (kL9 D) (nI 10) rfl ?_
  refine g_icmp_lt X 48 dX6_template_43 (by decide) (fun c_43 => ?_) (fun c_43 => absurd ((nI_ltI (a := nt) (b := 10) (by omega) (by omega)).mpr hnt) c_43)
  refine g_aload_n X dX6_template_48 1 rfl ?_
  refine g_getfield X fl_X6_44 dX6_template_49 (kL1 D) rfl ?_
  refine g_aload_n X dX6_template_52 1 rfl ?_
  refine g_getfield X fl_X6_47 dX6_template_53 (kL1 D) rfl ?_
  refine g_eqi (y := nI nt) (hI) ?_
  refine g_iload_n X dX6_template_56 2 rfl ?_
  refine g_iastore X dX6_template_57 (kL9 D) (vp_in_nI hnt (by decide)) ?_
  refine g_h (h' := (kH G Z I (va_up Ar 25 (upd (Ar 25) nt q)) T A Lg h0)) (by rw [nI_clamp (by omega)]; exact kuA25 D) ?_
  refine g_aload_n X dX6_template_58 1 rfl ?_
  refine g_dup X dX6_template_59 rfl ?_
  refine g_getfield X fl_X6_47 dX6_template_60 (kL1 D) rfl ?_
  refine g_eqi (y := nI nt) (hI) ?_
  refine g_iconst X (v := 1) dX6_template_63 ki_1 ?_
  refine g_iadd X dX6_template_64 ?_
  refine g_eqi (y := nI (nt + 1)) (nI_1 nt) ?_
  refine g_putfield X fp_X6_47 dX6_template_65 (kL1 D) (Nat.le_of_ble_eq_true rfl) rfl rfl _ rfl ?_
  refine g_h (h' := (kH G Z (va_up I 26 (nI (nt + 1))) (va_up Ar 25 (upd (Ar 25) nt q)) T A Lg h0)) (kuI26 D) ?_
  refine g_aload_n X dX6_template_68 1 rfl ?_
  refine g_getfield X fl_X6_47 dX6_template_69 (kL1 D) rfl ?_
  refine g_iconst X (v := 1) dX6_template_72 ki_1 ?_
  refine g_isub X dX6_template_73 ?_
  refine g_eqi (y := nI nt) (nI_pred nt) ?_
  refine g_iret X F rfl rfl dX6_template_74 (Nat.zero_le _) (Nat.zero_le _) ?_
  exact ⟨rfl, rfl⟩
theorem c_X6_count_0 (D : kW G Z)  : Ct G l 1 0 0 M_X6_count [.ref (Z.da 1), .int 0] (kH G Z I Ar T A Lg h0) (rX (some (.int (I 1))) (kH G Z I Ar T A Lg h0)) := by
  refine Ct.of (by decide +kernel) (Nat.le_of_ble_eq_true rfl) (fun E hE X F => ?_)
  have X : Gc G E "ComplaintDesk" cX6_count 2 1 0 0 := X
  show GW G E _ 2 0 [(0, _), (1, _)] [] _ 0 0
  refine g_iload_n X dX6_count_0 1 rfl ?_
  refine g_tswIn X (off := 51) 52 dX6_count_1 (by decide) (by decide) (by decide) (by decide) ?_
  refine g_aload_n X dX6_count_52 0 rfl ?_
  refine g_getfield X fl_X6_27 dX6_count_53 (kL1 D) rfl ?_
  refine g_iret X F rfl rfl dX6_count_56 (Nat.zero_le _) (Nat.zero_le _) ?_
  exact ⟨rfl, rfl⟩
theorem c_X6_count_1 (D : kW G Z)  : Ct G l 1 0 0 M_X6_count [.ref (Z.da 1), .int 1] (kH G Z I Ar T A Lg h0) (rX (some (.int (nI Z.nC))) (kH G Z I Ar T A Lg h0)) := by
  refine Ct.of (by decide +kernel) (Nat.le_of_ble_eq_true rfl) (fun E hE X F => ?_)
  have X : Gc G E "ComplaintDesk" cX6_count 2 1 0 0 := X
  show GW G E _ 2 0 [(0, _), (1, _)] [] _ 0 0
  refine g_iload_n X dX6_count_0 1 rfl ?_
  refine g_tswIn X (off := 56) 57 dX6_count_1 (by decide) (by decide) (by decide) (by decide) ?_
  refine g_aload_n X dX6_count_57 0 rfl ?_
  refine g_getfield X fl_X6_33 dX6_count_58 (kL1 D) rfl ?_
  refine g_cV X ml_X6_92 (k_szC D) ⟨8, _, kL4 D, rfl⟩ (Nat.le_of_ble_eq_true rfl) rfl rfl (Nat.le_of_ble_eq_true rfl) (Nat.zero_le _) (Nat.zero_le _) dX6_count_61 ?_
  refine g_iret X F rfl rfl dX6_count_64 (Nat.zero_le _) (Nat.zero_le _) ?_
  exact ⟨rfl, rfl⟩
theorem c_X6_count_2 (D : kW G Z)  : Ct G l 1 0 0 M_X6_count [.ref (Z.da 1), .int 2] (kH G Z I Ar T A Lg h0) (rX (some (.int (nI Z.nL))) (kH G Z I Ar T A Lg h0)) := by
  refine Ct.of (by decide +kernel) (Nat.le_of_ble_eq_true rfl) (fun E hE X F => ?_)
  have X : Gc G E "ComplaintDesk" cX6_count 2 1 0 0 := X
  show GW G E _ 2 0 [(0, _), (1, _)] [] _ 0 0
  refine g_iload_n X dX6_count_0 1 rfl ?_
  refine g_tswIn X (off := 64) 65 dX6_count_1 (by decide) (by decide) (by decide) (by decide) ?_
  refine g_aload_n X dX6_count_65 0 rfl ?_
  refine g_getfield X fl_X6_37 dX6_count_66 (kL1 D) rfl ?_
  refine g_cV X ml_X6_92 (k_szL D) ⟨8, _, kL6 D, rfl⟩ (Nat.le_of_ble_eq_true rfl) rfl rfl (Nat.le_of_ble_eq_true rfl) (Nat.zero_le _) (Nat.zero_le _) dX6_count_69 ?_
  refine g_iret X F rfl rfl dX6_count_72 (Nat.zero_le _) (Nat.zero_le _) ?_
  exact ⟨rfl, rfl⟩
theorem c_X6_count_8 (D : kW G Z)  : Ct G l 1 0 0 M_X6_count [.ref (Z.da 1), .int 8] (kH G Z I Ar T A Lg h0) (rX (some (.int (I 26))) (kH G Z I Ar T A Lg h0)) := by
  refine Ct.of (by decide +kernel) (Nat.le_of_ble_eq_true rfl) (fun E hE X F => ?_)
  have X : Gc G E "ComplaintDesk" cX6_count 2 1 0 0 := X
  show GW G E _ 2 0 [(0, _), (1, _)] [] _ 0 0
  refine g_iload_n X dX6_count_0 1 rfl ?_
  refine g_tswIn X (off := 83) 84 dX6_count_1 (by decide) (by decide) (by decide) (by decide) ?_
  refine g_aload_n X dX6_count_84 0 rfl ?_
  refine g_getfield X fl_X6_47 dX6_count_85 (kL1 D) rfl ?_
  refine g_iret X F rfl rfl dX6_count_88 (Nat.zero_le _) (Nat.zero_le _) ?_
  exact ⟨rfl, rfl⟩
theorem c_X6_count_x (w : Int32) (hw : w.toInt < 0 ∨ 8 < w.toInt)  : Ct G l 1 0 0 M_X6_count [.ref (Z.da 1), .int w] h (rX (some (.int (-1))) h) := by
  refine Ct.of (by decide +kernel) (Nat.le_of_ble_eq_true rfl) (fun E hE X F => ?_)
  have X : Gc G E "ComplaintDesk" cX6_count 2 1 0 0 := X
  show GW G E _ 2 0 [(0, _), (1, _)] [] _ 0 0
  refine g_iload_n X dX6_count_0 1 rfl ?_
  refine g_tswOut X 89 dX6_count_1 hw (by decide) ?_
  refine g_iconst X (v := (-1)) dX6_count_89 ki_m1 ?_
  refine g_iret X F rfl rfl dX6_count_90 (Nat.zero_le _) (Nat.zero_le _) ?_
  exact ⟨rfl, rfl⟩
theorem c_X6_count_3 (D : kW G Z) (V : kV Z I Ar)  : Ct G l 5 0 0 M_X6_count [.ref (Z.da 1), .int 3] (kH G Z I Ar T A Lg h0) (rX (some (.int (nI (cN (fun k => clP Ar k (Z.np k)) Z.nL)))) (kH G Z I Ar T A Lg h0)) := by
  refine Ct.of (by decide +kernel) (Nat.le_of_ble_eq_true rfl) (fun E hE X F => ?_)
  have X : Gc G E "ComplaintDesk" cX6_count 2 5 0 0 := X
  show GW G E _ 2 0 [(0, _), (1, _)] [] _ 0 0
  refine g_iload_n X dX6_count_0 1 rfl ?_
  refine g_tswIn X (off := 72) 73 dX6_count_1 (by decide) (by decide) (by decide) (by decide) ?_
  refine g_aload_n X dX6_count_73 0 rfl ?_
  refine g_cV X ml_X6_240 (c_X6_closedLetters D V.k24) ⟨6, _, kL1 D, rfl⟩ (Nat.le_of_ble_eq_true rfl) rfl rfl (Nat.le_of_ble_eq_true rfl) (Nat.zero_le _) (Nat.zero_le _) dX6_count_74 ?_
  refine g_iret X F rfl rfl dX6_count_77 (Nat.zero_le _) (Nat.zero_le _) ?_
  exact ⟨rfl, rfl⟩
theorem c_X6_count_4 (D : kW G Z) (V : kV Z I Ar)  : Ct G l 6 0 0 M_X6_count [.ref (Z.da 1), .int 4] (kH G Z I Ar T A Lg h0) (rX (some (.int (nI (sN (fun a => cN (fun p => icP Ar 4 (6 * a + p)) (Z.np a)) Z.nL)))) (kH G Z I Ar T A Lg h0)) := by
  refine Ct.of (by decide +kernel) (Nat.le_of_ble_eq_true rfl) (fun E hE X F => ?_)
  have X : Gc G E "ComplaintDesk" cX6_count 2 6 0 0 := X
  show GW G E _ 2 0 [(0, _), (1, _)] [] _ 0 0
  refine g_iload_n X dX6_count_0 1 rfl ?_
  refine g_tswIn X (off := 77) 78 dX6_count_1 (by decide) (by decide) (by decide) (by decide) ?_
  refine g_aload_n X dX6_count_78 0 rfl ?_
  refine g_iload_n X dX6_count_79 1 rfl ?_
  refine g_cV X ml_X6_243 (c_X6_pointsCounted_4 D V.k22) ⟨6, _, kL1 D, rfl⟩ (Nat.le_of_ble_eq_true rfl) rfl rfl (Nat.le_of_ble_eq_true rfl) (Nat.zero_le _) (Nat.zero_le _) dX6_count_80 ?_
  refine g_iret X F rfl rfl dX6_count_83 (Nat.zero_le _) (Nat.zero_le _) ?_
  exact ⟨rfl, rfl⟩
theorem c_X6_count_5 (D : kW G Z) (V : kV Z I Ar)  : Ct G l 6 0 0 M_X6_count [.ref (Z.da 1), .int 5] (kH G Z I Ar T A Lg h0) (rX (some (.int (nI (sN (fun a => cN (fun p => icP Ar 5 (6 * a + p)) (Z.np a)) Z.nL)))) (kH G Z I Ar T A Lg h0)) := by
  refine Ct.of (by decide +kernel) (Nat.le_of_ble_eq_true rfl) (fun E hE X F => ?_)
  have X : Gc G E "ComplaintDesk" cX6_count 2 6 0 0 := X
  show GW G E _ 2 0 [(0, _), (1, _)] [] _ 0 0
  refine g_iload_n X dX6_count_0 1 rfl ?_
  refine g_tswIn X (off := 77) 78 dX6_count_1 (by decide) (by decide) (by decide) (by decide) ?_
  refine g_aload_n X dX6_count_78 0 rfl ?_
  refine g_iload_n X dX6_count_79 1 rfl ?_
  refine g_cV X ml_X6_243 (c_X6_pointsCounted_5 D V.k22) ⟨6, _, kL1 D, rfl⟩ (Nat.le_of_ble_eq_true rfl) rfl rfl (Nat.le_of_ble_eq_true rfl) (Nat.zero_le _) (Nat.zero_le _) dX6_count_80 ?_
  refine g_iret X F rfl rfl dX6_count_83 (Nat.zero_le _) (Nat.zero_le _) ?_
  exact ⟨rfl, rfl⟩
theorem c_X6_count_6 (D : kW G Z) (V : kV Z I Ar)  : Ct G l 6 0 0 M_X6_count [.ref (Z.da 1), .int 6] (kH G Z I Ar T A Lg h0) (rX (some (.int (nI (sN (fun a => cN (fun p => icP Ar 6 (6 * a + p)) (Z.np a)) Z.nL)))) (kH G Z I Ar T A Lg h0)) := by
  refine Ct.of (by decide +kernel) (Nat.le_of_ble_eq_true rfl) (fun E hE X F => ?_)
  have X : Gc G E "ComplaintDesk" cX6_count 2 6 0 0 := X
  show GW G E _ 2 0 [(0, _), (1, _)] [] _ 0 0
  refine g_iload_n X dX6_count_0 1 rfl ?_
  refine g_tswIn X (off := 77) 78 dX6_count_1 (by decide) (by decide) (by decide) (by decide) ?_
  refine g_aload_n X dX6_count_78 0 rfl ?_
  refine g_iload_n X dX6_count_79 1 rfl ?_
  refine g_cV X ml_X6_243 (c_X6_pointsCounted_6 D V.k22) ⟨6, _, kL1 D, rfl⟩ (Nat.le_of_ble_eq_true rfl) rfl rfl (Nat.le_of_ble_eq_true rfl) (Nat.zero_le _) (Nat.zero_le _) dX6_count_80 ?_
  refine g_iret X F rfl rfl dX6_count_83 (Nat.zero_le _) (Nat.zero_le _) ?_
  exact ⟨rfl, rfl⟩
theorem c_X6_count_7 (D : kW G Z) (V : kV Z I Ar)  : Ct G l 6 0 0 M_X6_count [.ref (Z.da 1), .int 7] (kH G Z I Ar T A Lg h0) (rX (some (.int (nI (sN (fun a => cN (fun p => icP Ar 7 (6 * a + p)) (Z.np a)) Z.nL)))) (kH G Z I Ar T A Lg h0)) := by
  refine Ct.of (by decide +kernel) (Nat.le_of_ble_eq_true rfl) (fun E hE X F => ?_)
  have X : Gc G E "ComplaintDesk" cX6_count 2 6 0 0 := X
  show GW G E _ 2 0 [(0, _), (1, _)] [] _ 0 0
  refine g_iload_n X dX6_count_0 1 rfl ?_
  refine g_tswIn X (off := 77) 78 dX6_count_1 (by decide) (by decide) (by decide) (by decide) ?_
  refine g_aload_n X dX6_count_78 0 rfl ?_
  refine g_iload_n X dX6_count_79 1 rfl ?_
  refine g_cV X ml_X6_243 (c_X6_pointsCounted_7 D V.k22) ⟨6, _, kL1 D, rfl⟩ (Nat.le_of_ble_eq_true rfl) rfl rfl (Nat.le_of_ble_eq_true rfl) (Nat.zero_le _) (Nat.zero_le _) dX6_count_80 ?_
  refine g_iret X F rfl rfl dX6_count_83 (Nat.zero_le _) (Nat.zero_le _) ?_
  exact ⟨rfl, rfl⟩
theorem c_X6_fault (D : kW G Z)  : Ct G l 0 0 0 M_X6_fault [.ref (Z.da 1)] (kH G Z I Ar T A Lg h0) (rX (some (.int (I 32))) (kH G Z I Ar T A Lg h0)) := by
  refine Ct.of (by decide +kernel) (Nat.le_of_ble_eq_true rfl) (fun E hE X F => ?_)
  have X : Gc G E "ComplaintDesk" cX6_fault 1 0 0 0 := X
  show GW G E _ 1 0 [(0, _)] [] _ 0 0
  refine g_aload_n X dX6_fault_0 0 rfl ?_
  refine g_getfield X fl_X6_23 dX6_fault_1 (kL1 D) rfl ?_
  refine g_iret X F rfl rfl dX6_fault_4 (Nat.zero_le _) (Nat.zero_le _) ?_
  exact ⟨rfl, rfl⟩
theorem c_X6_answer (D : kW G Z) (V : kV Z I Ar) (a p : Nat) (hla : a < Z.nL) (hp : p < Z.np a)  : Ct G l 4 0 0 M_X6_answer [.ref (Z.da 1), .int (nI a), .int (nI p)] (kH G Z I Ar T A Lg h0) (rX (some (.int (b2 (Ar 24 (6 * a + p) < 0)))) (kH G Z I (if Ar 24 (6 * a + p) < 0 then va_up Ar 24 (upd (Ar 24) (6 * a + p) (I 1)) else Ar) T A Lg h0)) := by
  refine Ct.of (by decide +kernel) (Nat.le_of_ble_eq_true rfl) (fun E hE X F => ?_)
  have X : Gc G E "ComplaintDesk" cX6_answer 4 4 0 0 := X
  show GW G E _ 4 0 [(0, _), (1, _), (2, _)] [] _ 0 0
  have hax : a < Z.nX := Nat.lt_of_lt_of_le hla D.lx
  refine g_aload_n X dX6_answer_0 0 rfl ?_
  refine g_iload_n X dX6_answer_1 1 rfl ?_
  refine g_cV X ml_X6_163 (c_X6_letterAt D a hla) ⟨6, _, kL1 D, rfl⟩ (Nat.le_of_ble_eq_true rfl) rfl rfl (Nat.le_of_ble_eq_true rfl) (Nat.zero_le _) (Nat.zero_le _) dX6_answer_2 ?_
  refine g_iload_n X dX6_answer_5 2 rfl ?_
  refine g_cV X ml_X6_167 (c_X1_pointAt D a p hax hp) ⟨1, _, kLL D hax, rfl⟩ (Nat.le_of_ble_eq_true rfl) rfl rfl (Nat.le_of_ble_eq_true rfl) (Nat.zero_le _) (Nat.zero_le _) dX6_answer_6 ?_
  refine g_astore_n X dX6_answer_9 (Nat.le_of_ble_eq_true rfl) [(3, _), (0, _), (1, _), (2, _)] rfl ?_
  refine g_aload_n X dX6_answer_10 0 rfl ?_
  refine g_cV X ml_X6_171 (c_X3_isAnswered D a p hax hp) ⟨3, _, kLQ D hax hp, rfl⟩ (Nat.le_of_ble_eq_true rfl) rfl rfl (Nat.le_of_ble_eq_true rfl) (Nat.zero_le _) (Nat.zero_le _) dX6_answer_11 ?_
  refine g_if_eq X 19 dX6_answer_14 (by decide) (fun c_14 => ?_) (fun c_14 => ?_)
  · refine g_aload_n X dX6_answer_19 0 rfl ?_
    refine g_aload_n X dX6_answer_20 1 rfl ?_
    refine g_getfield X fl_X6_27 dX6_answer_21 (kL1 D) rfl ?_
    refine g_putfield X fp_X6_174 dX6_answer_24 (kLQ D hax hp) (Nat.le_of_ble_eq_true rfl) rfl rfl _ rfl ?_
    refine g_h (h' := (kH G Z I (va_up Ar 24 (upd (Ar 24) (6 * a + p) (I 1))) T A Lg h0)) (kuQ24 D hax hp) ?_
    refine g_iconst X (v := 1) dX6_answer_27 ki_1 ?_
    refine g_iret X F rfl rfl dX6_answer_28 (Nat.zero_le _) (Nat.zero_le _) ?_
    have e1 : Ar 24 (6 * a + p) < 0 := by rw [Classical.not_not.mp (b2_0.mp c_14)]; decide
    exact ⟨by rw [b2_t e1], by rw [if_pos e1]⟩
  · refine g_iconst X (v := 0) dX6_answer_17 ki_0 ?_
    refine g_iret X F rfl rfl dX6_answer_18 (Nat.zero_le _) (Nat.zero_le _) ?_
    have e1 : ¬ Ar 24 (6 * a + p) < 0 := fun q => b2_1.mp (b2_c.resolve_left c_14) (V.k24 a hax p hp q)
    exact ⟨by rw [b2_f e1], by rw [if_neg e1]⟩
theorem c_X6_hours_t1 (hs : l.stackTraces = false) (x n : Int32) (hx : noI x 4)  : CtX G l 7 1 6 M_X6_hours [.ref (Z.da 1), .int x, .int n] h (fun _ _ => False) (tX "java/lang/IndexOutOfBoundsException" h) := by
  refine CtX.of (by decide +kernel) (Nat.le_of_ble_eq_true rfl) (fun E hE X F => ?_)
  have X : Gc G E "ComplaintDesk" cX6_hours 3 7 1 6 := X
  show GW G E _ 3 0 [(0, _), (1, _), (2, _)] [] _ 0 0
  refine g_iload_n X dX6_hours_0 1 rfl ?_
  refine g_xS X F ml_X6_78 (c_X6_checkDesk_t (by rw [hE]; exact hs) x hx) (fun C9 h9 q9 => q9) (Nat.le_of_ble_eq_true rfl) rfl rfl (Nat.le_of_ble_eq_true rfl) (Nat.le_of_ble_eq_true rfl) (Nat.le_of_ble_eq_true rfl) (Nat.le_of_ble_eq_true rfl) (Nat.le_of_ble_eq_true rfl) dX6_hours_1 (fun v9 h9 q9 => q9.elim)
theorem c_X6_hours_t2 (hs : l.stackTraces = false) (d : Nat) (hd : d < 4) (n : Int32) (hn : n < 0 ∨ 20 < n)  : CtX G l 7 1 6 M_X6_hours [.ref (Z.da 1), .int (nI d), .int n] h (fun _ _ => False) (tX "java/lang/IllegalArgumentException" h) := by
  refine CtX.of (by decide +kernel) (Nat.le_of_ble_eq_true rfl) (fun E hE X F => ?_)
  have X : Gc G E "ComplaintDesk" cX6_hours 3 7 1 6 := X
  show GW G E _ 3 0 [(0, _), (1, _), (2, _)] [] _ 0 0
  refine g_iload_n X dX6_hours_0 1 rfl ?_
  refine g_cS0 X ml_X6_78 (c_X6_checkDesk d hd) (Nat.le_of_ble_eq_true rfl) rfl rfl (Nat.le_of_ble_eq_true rfl) (Nat.zero_le _) (Nat.zero_le _) dX6_hours_1 ?_
  refine g_iload_n X dX6_hours_4 2 rfl ?_
  refine g_if_lt X 14 dX6_hours_5 (by decide) (fun c_5 => ?_) (fun c_5 => ?_)
  · refine g_throwS X F (by rw [hE]; exact hs) thr_X6_85_158 dX6_hours_14 dX6_hours_17 dX6_hours_18 dX6_hours_20 dX6_hours_23 (Nat.le_of_ble_eq_true rfl) (Nat.le_of_ble_eq_true rfl) (Nat.le_of_ble_eq_true rfl) (Nat.le_of_ble_eq_true rfl) (Nat.le_of_ble_eq_true rfl) ?_
    exact ⟨rfl, rfl⟩
  · refine g_iload_n X dX6_hours_8 2 rfl ?_
    refine g_bipush X (v := 20) dX6_hours_9 kb_20 ?_
    refine g_icmp_le X 24 dX6_hours_11 (by decide) (fun c_11 => absurd c_11 (Int32.not_le.mpr (hn.resolve_left c_5))) (fun c_11 => ?_)
    refine g_throwS X F (by rw [hE]; exact hs) thr_X6_85_158 dX6_hours_14 dX6_hours_17 dX6_hours_18 dX6_hours_20 dX6_hours_23 (Nat.le_of_ble_eq_true rfl) (Nat.le_of_ble_eq_true rfl) (Nat.le_of_ble_eq_true rfl) (Nat.le_of_ble_eq_true rfl) (Nat.le_of_ble_eq_true rfl) ?_
    exact ⟨rfl, rfl⟩
theorem c_X6_waits_t (hs : l.stackTraces = false) (x : Int32) (hx : noI x 4)  : CtX G l 7 1 6 M_X6_waits [.ref (Z.da 1), .int x] h (fun _ _ => False) (tX "java/lang/IndexOutOfBoundsException" h) := by
  refine CtX.of (by decide +kernel) (Nat.le_of_ble_eq_true rfl) (fun E hE X F => ?_)
  have X : Gc G E "ComplaintDesk" cX6_waits 6 7 1 6 := X
  show GW G E _ 6 0 [(0, _), (1, _)] [] _ 0 0
  refine g_iload_n X dX6_waits_0 1 rfl ?_
  refine g_xS X F ml_X6_78 (c_X6_checkDesk_t (by rw [hE]; exact hs) x hx) (fun C9 h9 q9 => q9) (Nat.le_of_ble_eq_true rfl) rfl rfl (Nat.le_of_ble_eq_true rfl) (Nat.le_of_ble_eq_true rfl) (Nat.le_of_ble_eq_true rfl) (Nat.le_of_ble_eq_true rfl) (Nat.le_of_ble_eq_true rfl) dX6_waits_1 (fun v9 h9 q9 => q9.elim)
theorem c_X6_late_t (hs : l.stackTraces = false) (x : Int32) (hx : noI x 4)  : CtX G l 7 1 6 M_X6_late [.ref (Z.da 1), .int x] h (fun _ _ => False) (tX "java/lang/IndexOutOfBoundsException" h) := by
  refine CtX.of (by decide +kernel) (Nat.le_of_ble_eq_true rfl) (fun E hE X F => ?_)
  have X : Gc G E "ComplaintDesk" cX6_late 5 7 1 6 := X
  show GW G E _ 5 0 [(0, _), (1, _)] [] _ 0 0
  refine g_iload_n X dX6_late_0 1 rfl ?_
  refine g_xS X F ml_X6_78 (c_X6_checkDesk_t (by rw [hE]; exact hs) x hx) (fun C9 h9 q9 => q9) (Nat.le_of_ble_eq_true rfl) rfl rfl (Nat.le_of_ble_eq_true rfl) (Nat.le_of_ble_eq_true rfl) (Nat.le_of_ble_eq_true rfl) (Nat.le_of_ble_eq_true rfl) (Nat.le_of_ble_eq_true rfl) dX6_late_1 (fun v9 h9 q9 => q9.elim)
theorem c_X6_template_t (hs : l.stackTraces = false) (D : kW G Z) (q : Int32) (hq : q = 0 ∨ ¬ q &&& ((nI (2 ^ Z.nC) - 1) ^^^ -1) = 0)  : CtX G l 7 1 6 M_X6_template [.ref (Z.da 1), .int q] (kH G Z I Ar T A Lg h0) (fun _ _ => False) (tX "java/lang/IllegalArgumentException" (kH G Z I Ar T A Lg h0)) := by
  refine CtX.of (by decide +kernel) (Nat.le_of_ble_eq_true rfl) (fun E hE X F => ?_)
  have X : Gc G E "ComplaintDesk" cX6_template 3 7 1 6 := X
  show GW G E _ 3 0 [(0, _), (1, _)] [] _ 0 0
  refine g_iconst X (v := 1) dX6_template_0 ki_1 ?_
  refine g_aload_n X dX6_template_1 0 rfl ?_
  refine g_getfield X fl_X6_33 dX6_template_2 (kL1 D) rfl ?_
  refine g_cV X ml_X6_92 (k_szC D) ⟨8, _, kL4 D, rfl⟩ (Nat.le_of_ble_eq_true rfl) rfl rfl (Nat.le_of_ble_eq_true rfl) (Nat.zero_le _) (Nat.zero_le _) dX6_template_5 ?_
  refine g_ishl X dX6_template_8 ?_
  refine g_eqi (y := nI (2 ^ Z.nC)) (shl1 Z.nC D.c12) ?_
  refine g_iconst X (v := 1) dX6_template_9 ki_1 ?_
  refine g_isub X dX6_template_10 ?_
  refine g_istore_n X dX6_template_11 (Nat.le_of_ble_eq_true rfl) [(2, _), (0, _), (1, _)] rfl ?_
  refine g_iload_n X dX6_template_12 2 rfl ?_
  refine g_if_eq X 24 dX6_template_13 (by decide) (fun c_13 => ?_) (fun c_13 => ?_)
  · refine g_throwS X F (by rw [hE]; exact hs) thr_X6_85_231 dX6_template_24 dX6_template_27 dX6_template_28 dX6_template_30 dX6_template_33 (Nat.le_of_ble_eq_true rfl) (Nat.le_of_ble_eq_true rfl) (Nat.le_of_ble_eq_true rfl) (Nat.le_of_ble_eq_true rfl) (Nat.le_of_ble_eq_true rfl) ?_
    exact ⟨rfl, rfl⟩
  · refine g_iload_n X dX6_template_16 2 rfl ?_
    refine g_iload_n X dX6_template_17 0 rfl ?_
    refine g_iconst X (v := (-1)) dX6_template_18 ki_m1 ?_
    refine g_ixor X dX6_template_19 ?_
    refine g_iand X dX6_template_20 ?_
    refine g_if_eq X 34 dX6_template_21 (by decide) (fun c_21 => absurd c_21 (by have z9 := hq.resolve_left c_13; first | exact z9 | exact fun z => z9 z)) (fun c_21 => ?_)
    refine g_throwS X F (by rw [hE]; exact hs) thr_X6_85_231 dX6_template_24 dX6_template_27 dX6_template_28 dX6_template_30 dX6_template_33 (Nat.le_of_ble_eq_true rfl) (Nat.le_of_ble_eq_true rfl) (Nat.le_of_ble_eq_true rfl) (Nat.le_of_ble_eq_true rfl) (Nat.le_of_ble_eq_true rfl) ?_
    exact ⟨rfl, rfl⟩
theorem c_X6_counts_t (hs : l.stackTraces = false) (D : kW G Z) (x d : Int32) (hx : noI x Z.nC)  : CtX G l 7 1 6 M_X6_counts [.ref (Z.da 1), .int x, .int d] (kH G Z I Ar T A Lg h0) (fun _ _ => False) (tX "java/lang/IndexOutOfBoundsException" (kH G Z I Ar T A Lg h0)) := by
  refine CtX.of (by decide +kernel) (Nat.le_of_ble_eq_true rfl) (fun E hE X F => ?_)
  have X : Gc G E "ComplaintDesk" cX6_counts 4 7 1 6 := X
  show GW G E _ 4 0 [(0, _), (1, _), (2, _)] [] _ 0 0
  refine g_aload_n X dX6_counts_0 0 rfl ?_
  refine g_iload_n X dX6_counts_1 1 rfl ?_
  refine g_xV X F ml_X6_74 (c_X6_causeAt_t (by rw [hE]; exact hs) D x hx) ⟨6, _, kL1 D, rfl⟩ (fun C9 h9 q9 => q9) (Nat.le_of_ble_eq_true rfl) rfl rfl (Nat.le_of_ble_eq_true rfl) (Nat.le_of_ble_eq_true rfl) (Nat.le_of_ble_eq_true rfl) (Nat.le_of_ble_eq_true rfl) (Nat.le_of_ble_eq_true rfl) dX6_counts_2 (fun v9 h9 q9 => q9.elim)
theorem c_X6_wave_t (hs : l.stackTraces = false) (D : kW G Z) (x : Int32) (hx : noI x Z.nC)  : CtX G l 7 1 6 M_X6_wave [.ref (Z.da 1), .int x] (kH G Z I Ar T A Lg h0) (fun _ _ => False) (tX "java/lang/IndexOutOfBoundsException" (kH G Z I Ar T A Lg h0)) := by
  refine CtX.of (by decide +kernel) (Nat.le_of_ble_eq_true rfl) (fun E hE X F => ?_)
  have X : Gc G E "ComplaintDesk" cX6_wave 3 7 1 6 := X
  show GW G E _ 3 0 [(0, _), (1, _)] [] _ 0 0
  refine g_aload_n X dX6_wave_0 0 rfl ?_
  refine g_aload_n X dX6_wave_1 0 rfl ?_
  refine g_iload_n X dX6_wave_2 1 rfl ?_
  refine g_xV X F ml_X6_74 (c_X6_causeAt_t (by rw [hE]; exact hs) D x hx) ⟨6, _, kL1 D, rfl⟩ (fun C9 h9 q9 => q9) (Nat.le_of_ble_eq_true rfl) rfl rfl (Nat.le_of_ble_eq_true rfl) (Nat.le_of_ble_eq_true rfl) (Nat.le_of_ble_eq_true rfl) (Nat.le_of_ble_eq_true rfl) (Nat.le_of_ble_eq_true rfl) dX6_wave_3 (fun v9 h9 q9 => q9.elim)
theorem c_X6_answer_t1 (hs : l.stackTraces = false) (D : kW G Z) (x q : Int32) (hx : noI x Z.nL)  : CtX G l 7 1 6 M_X6_answer [.ref (Z.da 1), .int x, .int q] (kH G Z I Ar T A Lg h0) (fun _ _ => False) (tX "java/lang/IndexOutOfBoundsException" (kH G Z I Ar T A Lg h0)) := by
  refine CtX.of (by decide +kernel) (Nat.le_of_ble_eq_true rfl) (fun E hE X F => ?_)
  have X : Gc G E "ComplaintDesk" cX6_answer 4 7 1 6 := X
  show GW G E _ 4 0 [(0, _), (1, _), (2, _)] [] _ 0 0
  refine g_aload_n X dX6_answer_0 0 rfl ?_
  refine g_iload_n X dX6_answer_1 1 rfl ?_
  refine g_xV X F ml_X6_163 (c_X6_letterAt_t (by rw [hE]; exact hs) D x hx) ⟨6, _, kL1 D, rfl⟩ (fun C9 h9 q9 => q9) (Nat.le_of_ble_eq_true rfl) rfl rfl (Nat.le_of_ble_eq_true rfl) (Nat.le_of_ble_eq_true rfl) (Nat.le_of_ble_eq_true rfl) (Nat.le_of_ble_eq_true rfl) (Nat.le_of_ble_eq_true rfl) dX6_answer_2 (fun v9 h9 q9 => q9.elim)
theorem c_X6_answer_t2 (hs : l.stackTraces = false) (D : kW G Z) (a : Nat) (hla : a < Z.nL) (x : Int32) (hx : noI x (Z.np a))  : CtX G l 7 1 6 M_X6_answer [.ref (Z.da 1), .int (nI a), .int x] (kH G Z I Ar T A Lg h0) (fun _ _ => False) (tX "java/lang/IndexOutOfBoundsException" (kH G Z I Ar T A Lg h0)) := by
  refine CtX.of (by decide +kernel) (Nat.le_of_ble_eq_true rfl) (fun E hE X F => ?_)
  have X : Gc G E "ComplaintDesk" cX6_answer 4 7 1 6 := X
  show GW G E _ 4 0 [(0, _), (1, _), (2, _)] [] _ 0 0
  have hax : a < Z.nX := Nat.lt_of_lt_of_le hla D.lx
  refine g_aload_n X dX6_answer_0 0 rfl ?_
  refine g_iload_n X dX6_answer_1 1 rfl ?_
  refine g_cV X ml_X6_163 (c_X6_letterAt D a hla) ⟨6, _, kL1 D, rfl⟩ (Nat.le_of_ble_eq_true rfl) rfl rfl (Nat.le_of_ble_eq_true rfl) (Nat.zero_le _) (Nat.zero_le _) dX6_answer_2 ?_
  refine g_iload_n X dX6_answer_5 2 rfl ?_
  refine g_xV X F ml_X6_167 (c_X1_pointAt_t (by rw [hE]; exact hs) D a hax x hx) ⟨1, _, kLL D hax, rfl⟩ (fun C9 h9 q9 => q9) (Nat.le_of_ble_eq_true rfl) rfl rfl (Nat.le_of_ble_eq_true rfl) (Nat.le_of_ble_eq_true rfl) (Nat.le_of_ble_eq_true rfl) (Nat.le_of_ble_eq_true rfl) (Nat.le_of_ble_eq_true rfl) dX6_answer_6 (fun v9 h9 q9 => q9.elim)
theorem c_X6_point_t1 (hs : l.stackTraces = false) (D : kW G Z) (x q w : Int32) (hx : noI x Z.nL)  : CtX G l 7 1 6 M_X6_point [.ref (Z.da 1), .int x, .int q, .int w] (kH G Z I Ar T A Lg h0) (fun _ _ => False) (tX "java/lang/IndexOutOfBoundsException" (kH G Z I Ar T A Lg h0)) := by
  refine CtX.of (by decide +kernel) (Nat.le_of_ble_eq_true rfl) (fun E hE X F => ?_)
  have X : Gc G E "ComplaintDesk" cX6_point 6 7 1 6 := X
  show GW G E _ 6 0 [(0, _), (1, _), (2, _), (3, _)] [] _ 0 0
  refine g_aload_n X dX6_point_0 0 rfl ?_
  refine g_iload_n X dX6_point_1 1 rfl ?_
  refine g_xV X F ml_X6_163 (c_X6_letterAt_t (by rw [hE]; exact hs) D x hx) ⟨6, _, kL1 D, rfl⟩ (fun C9 h9 q9 => q9) (Nat.le_of_ble_eq_true rfl) rfl rfl (Nat.le_of_ble_eq_true rfl) (Nat.le_of_ble_eq_true rfl) (Nat.le_of_ble_eq_true rfl) (Nat.le_of_ble_eq_true rfl) (Nat.le_of_ble_eq_true rfl) dX6_point_2 (fun v9 h9 q9 => q9.elim)
theorem c_X6_point_t2 (hs : l.stackTraces = false) (D : kW G Z) (a : Nat) (hla : a < Z.nL) (x w : Int32) (hx : noI x (Z.np a))  : CtX G l 7 1 6 M_X6_point [.ref (Z.da 1), .int (nI a), .int x, .int w] (kH G Z I Ar T A Lg h0) (fun _ _ => False) (tX "java/lang/IndexOutOfBoundsException" (kH G Z I Ar T A Lg h0)) := by
  refine CtX.of (by decide +kernel) (Nat.le_of_ble_eq_true rfl) (fun E hE X F => ?_)
  have X : Gc G E "ComplaintDesk" cX6_point 6 7 1 6 := X
  show GW G E _ 6 0 [(0, _), (1, _), (2, _), (3, _)] [] _ 0 0
  have hax : a < Z.nX := Nat.lt_of_lt_of_le hla D.lx
  refine g_aload_n X dX6_point_0 0 rfl ?_
  refine g_iload_n X dX6_point_1 1 rfl ?_
  refine g_cV X ml_X6_163 (c_X6_letterAt D a hla) ⟨6, _, kL1 D, rfl⟩ (Nat.le_of_ble_eq_true rfl) rfl rfl (Nat.le_of_ble_eq_true rfl) (Nat.zero_le _) (Nat.zero_le _) dX6_point_2 ?_
  refine g_astore X dX6_point_5 (Nat.le_of_ble_eq_true rfl) [(4, _), (0, _), (1, _), (2, _), (3, _)] rfl ?_
  refine g_aload X dX6_point_7 0 rfl ?_
  refine g_iload_n X dX6_point_9 3 rfl ?_
  refine g_xV X F ml_X6_167 (c_X1_pointAt_t (by rw [hE]; exact hs) D a hax x hx) ⟨1, _, kLL D hax, rfl⟩ (fun C9 h9 q9 => q9) (Nat.le_of_ble_eq_true rfl) rfl rfl (Nat.le_of_ble_eq_true rfl) (Nat.le_of_ble_eq_true rfl) (Nat.le_of_ble_eq_true rfl) (Nat.le_of_ble_eq_true rfl) (Nat.le_of_ble_eq_true rfl) dX6_point_10 (fun v9 h9 q9 => q9.elim)
theorem c_X6_look_t1 (hs : l.stackTraces = false) (D : kW G Z) (x w : Int32) (hx : noI x Z.nL)  : CtX G l 7 1 6 M_X6_look [.ref (Z.da 1), .int x, .int w] (kH G Z I Ar T A Lg h0) (fun _ _ => False) (tX "java/lang/IndexOutOfBoundsException" (kH G Z I Ar T A Lg h0)) := by
  refine CtX.of (by decide +kernel) (Nat.le_of_ble_eq_true rfl) (fun E hE X F => ?_)
  have X : Gc G E "ComplaintDesk" cX6_look 4 7 1 6 := X
  show GW G E _ 4 0 [(0, _), (1, _), (2, _)] [] _ 0 0
  refine g_aload_n X dX6_look_0 0 rfl ?_
  refine g_iload_n X dX6_look_1 1 rfl ?_
  refine g_xV X F ml_X6_163 (c_X6_letterAt_t (by rw [hE]; exact hs) D x hx) ⟨6, _, kL1 D, rfl⟩ (fun C9 h9 q9 => q9) (Nat.le_of_ble_eq_true rfl) rfl rfl (Nat.le_of_ble_eq_true rfl) (Nat.le_of_ble_eq_true rfl) (Nat.le_of_ble_eq_true rfl) (Nat.le_of_ble_eq_true rfl) (Nat.le_of_ble_eq_true rfl) dX6_look_2 (fun v9 h9 q9 => q9.elim)
theorem c_X6_days_t (hs : l.stackTraces = false) (n : Int32) (hn : n < 0 ∨ 60 < n)  : CtX G l 7 1 6 M_X6_days [.ref (Z.da 1), .int n] h (fun _ _ => False) (tX "java/lang/IllegalArgumentException" h) := by
  refine CtX.of (by decide +kernel) (Nat.le_of_ble_eq_true rfl) (fun E hE X F => ?_)
  have X : Gc G E "ComplaintDesk" cX6_days 4 7 1 6 := X
  show GW G E _ 4 0 [(0, _), (1, _)] [] _ 0 0
  refine g_iload_n X dX6_days_0 1 rfl ?_
  refine g_if_lt X 10 dX6_days_1 (by decide) (fun c_1 => ?_) (fun c_1 => ?_)
  · refine g_throwS X F (by rw [hE]; exact hs) thr_X6_85_83 dX6_days_10 dX6_days_13 dX6_days_14 dX6_days_16 dX6_days_19 (Nat.le_of_ble_eq_true rfl) (Nat.le_of_ble_eq_true rfl) (Nat.le_of_ble_eq_true rfl) (Nat.le_of_ble_eq_true rfl) (Nat.le_of_ble_eq_true rfl) ?_
    exact ⟨rfl, rfl⟩
  · refine g_iload_n X dX6_days_4 1 rfl ?_
    refine g_bipush X (v := 60) dX6_days_5 kb_60 ?_
    refine g_icmp_le X 20 dX6_days_7 (by decide) (fun c_7 => absurd c_7 (Int32.not_le.mpr (hn.resolve_left c_1))) (fun c_7 => ?_)
    refine g_throwS X F (by rw [hE]; exact hs) thr_X6_85_83 dX6_days_10 dX6_days_13 dX6_days_14 dX6_days_16 dX6_days_19 (Nat.le_of_ble_eq_true rfl) (Nat.le_of_ble_eq_true rfl) (Nat.le_of_ble_eq_true rfl) (Nat.le_of_ble_eq_true rfl) (Nat.le_of_ble_eq_true rfl) ?_
    exact ⟨rfl, rfl⟩
end K16
