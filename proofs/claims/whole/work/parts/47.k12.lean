section K12
variable {G : gG} {l : Launch} {h h0 : hW} {Z : kZ} {I : Nat → Int32} {Ar : Nat → Nat → Int32} {T : Nat → Int32} {A : Nat → Nat → Int32} {Lg : Nat → Nat → Int64}
/-- what is due in so many days, of the first k points -/
def fdK (I : Nat → Int32) (Ar : Nat → Nat → Int32) (dk : Int32) (F : Nat → Int32) : Nat → Nat → Int32
  | 0 => F
  | k + 1 => if isOfP I Ar dk k ∧ 0 < Ar 23 k - I 1 ∧ Ar 23 k - I 1 < 61 then upd (fdK I Ar dk F k) (cl (Ar 23 k - I 1)) (fdK I Ar dk F k (cl (Ar 23 k - I 1)) + 1) else fdK I Ar dk F k
termination_by n => n
theorem fdK_0 {dk : Int32} {F : Nat → Int32} : fdK I Ar dk F 0 = F := by rw [fdK]
theorem fdK_s {dk : Int32} {F : Nat → Int32} {k : Nat} : fdK I Ar dk F (k + 1) = if isOfP I Ar dk k ∧ 0 < Ar 23 k - I 1 ∧ Ar 23 k - I 1 < 61 then upd (fdK I Ar dk F k) (cl (Ar 23 k - I 1)) (fdK I Ar dk F k (cl (Ar 23 k - I 1)) + 1) else fdK I Ar dk F k := by rw [fdK]
theorem fdK_skip {dk : Int32} {F : Nat → Int32} {k : Nat} : ∀ nn, (∀ j, k ≤ j → j < k + nn → ¬ isOfP I Ar dk j) → fdK I Ar dk F (k + nn) = fdK I Ar dk F k
  | 0, _ => rfl
  | nn + 1, hz => by rw [show k + (nn + 1) = k + nn + 1 from rfl, fdK_s, if_neg (fun z => hz _ (by omega) (by omega) z.1), fdK_skip nn (fun j z1 z2 => hz j z1 (by omega))]
theorem cN_skip {PP : Nat → Prop} [DecidablePred PP] {k : Nat} : ∀ nn, (∀ j, k ≤ j → j < k + nn → ¬ PP j) → cN PP (k + nn) = cN PP k
  | 0, _ => rfl
  | nn + 1, hz => by rw [show k + (nn + 1) = k + nn + 1 from rfl, cN_s, if_neg (hz _ (by omega) (by omega)), cN_skip nn (fun j z1 z2 => hz j z1 (by omega))]; rfl
/-- behind a letter's last point nothing is -/
theorem row_off (D : kW G Z) (V : kV Z I Ar) {dk : Int32} {a : Nat} (ha : a < Z.nX) : 6 * (a + 1) = 6 * a + Z.np a + (6 - Z.np a) ∧ ∀ j, 6 * a + Z.np a ≤ j → j < 6 * a + Z.np a + (6 - Z.np a) → ¬ isOfP I Ar dk j := by
  have h6 := D.p6 a
  have h80 := D.l80
  refine ⟨by omega, fun j h1 h2 => ?_⟩
  rw [show j = 6 * a + (j - 6 * a) by omega]
  exact isOf_n D V (by omega) (by omega) (fun q => by omega)
theorem all_off (D : kW G Z) (V : kV Z I Ar) {dk : Int32} : 480 = 6 * Z.nL + (480 - 6 * Z.nL) ∧ ∀ j, 6 * Z.nL ≤ j → j < 6 * Z.nL + (480 - 6 * Z.nL) → ¬ isOfP I Ar dk j := by
  have h80 := D.l80
  have hX := V.1.1
  exact ⟨by omega, fun j h1 h2 q => by have := (isOf_u D V (by omega) q).1; omega⟩
theorem fdK_row (D : kW G Z) (V : kV Z I Ar) {dk : Int32} {F : Nat → Int32} {a : Nat} (ha : a < Z.nX) : fdK I Ar dk F (6 * (a + 1)) = fdK I Ar dk F (6 * a + Z.np a) := by
  obtain ⟨z1, z2⟩ := row_off D V (dk := dk) ha
  rw [z1]; exact fdK_skip _ z2
theorem cN_row (D : kW G Z) (V : kV Z I Ar) {dk : Int32} {a : Nat} (ha : a < Z.nX) : cN (isOfP I Ar dk) (6 * (a + 1)) = cN (isOfP I Ar dk) (6 * a + Z.np a) := by
  obtain ⟨z1, z2⟩ := row_off D V (dk := dk) ha
  rw [z1]; exact cN_skip _ z2
theorem fdK_all (D : kW G Z) (V : kV Z I Ar) {dk : Int32} {F : Nat → Int32} : fdK I Ar dk F 480 = fdK I Ar dk F (6 * Z.nL) := by
  obtain ⟨z1, z2⟩ := all_off D V (dk := dk)
  rw [z1]; exact fdK_skip _ z2
theorem cN_all (D : kW G Z) (V : kV Z I Ar) {dk : Int32} : cN (isOfP I Ar dk) 480 = cN (isOfP I Ar dk) (6 * Z.nL) := by
  obtain ⟨z1, z2⟩ := all_off D V (dk := dk)
  rw [z1]; exact cN_skip _ z2
/-- counting points by letters is counting them all -/
theorem sN_all (D : kW G Z) (V : kV Z I Ar) {dk : Int32} : sN (fun a => cN (fun p => wtP Ar dk (6 * a + p)) (Z.np a)) Z.nL = cN (isOfP I Ar dk) 480 := by
  rw [cN_all D V]
  have inn : ∀ a, a < Z.nX → ∀ p, p ≤ Z.np a → cN (isOfP I Ar dk) (6 * a + p) = cN (isOfP I Ar dk) (6 * a) + cN (fun p => wtP Ar dk (6 * a + p)) p := by
    intro a ha p hp
    induction p with
    | zero => rw [cN_0]; rfl
    | succ p ih =>
      rw [show 6 * a + (p + 1) = 6 * a + p + 1 from rfl, cN_s, cN_s, ih (by omega)]
      by_cases e : wtP Ar dk (6 * a + p)
      · rw [if_pos e, if_pos ((isOf_w D V ha (by omega)).mpr e)]; rfl
      · rw [if_neg e, if_neg (fun z => e ((isOf_w D V ha (by omega)).mp z))]; rfl
  have out : ∀ nn, nn ≤ Z.nX → sN (fun a => cN (fun p => wtP Ar dk (6 * a + p)) (Z.np a)) nn = cN (isOfP I Ar dk) (6 * nn) := by
    intro nn hnn
    induction nn with
    | zero => rw [sN_0, show 6 * 0 = 0 from rfl, cN_0]
    | succ nn ih => rw [sN_s, ih (by omega), cN_row D V (by omega), inn nn (by omega) _ (Nat.le_refl _)]
  exact out _ (by rw [V.1.1]; exact Nat.le_refl _)
theorem lp_X6_fillDueInDays_42 {E : gE} (X : Gc G E "ComplaintDesk" cX6_fillDueInDays 8 3 0 0) {Q : State → Prop} (D : kW G Z) (V : kV Z I Ar) (dk : Int32) (a : Nat) (ha : a < Z.nX) (K : GW G E Q 8 120 [(3, .int (nI a)), (2, .int (nI (cN (isOfP I Ar dk) (6 * a + Z.np a)))), (0, .ref (Z.da 1)), (1, .int dk)] [] (kH G Z I Ar T (va_up A 11 (fdK I Ar dk (zeroN (A 11) 61) (6 * a + Z.np a))) Lg h0) 0 0)  : ∀ (f : Nat) (p : Nat), p ≤ Z.np a → Z.np a - p < f → GW G E Q 8 42 [(5, .int (nI p)), (4, .ref (Z.da (1100 + a))), (3, .int (nI a)), (2, .int (nI (cN (isOfP I Ar dk) ((6 * a + p))))), (0, .ref (Z.da 1)), (1, .int dk)] [] (kH G Z I Ar T (va_up A 11 (fdK I Ar dk (zeroN (A 11) 61) ((6 * a + p)))) Lg h0) 0 0 := by
  intro f
  induction f with
  | zero => intro p hpn hf; exact absurd hf (Nat.not_lt_zero _)
  | succ f ih =>
    intro p hpn hf
    have h80 := D.l80
    have hlx := D.lx
    have h12 := D.c12
    have h6 := D.p6 a
    refine g_iload X dX6_fillDueInDays_42 0 rfl ?_
    refine g_aload X dX6_fillDueInDays_44 1 rfl ?_
    refine g_cV X ml_X6_92 (k_szQ D ha) ⟨8, _, kLLL D ha, rfl⟩ (Nat.le_of_ble_eq_true rfl) rfl rfl (Nat.le_of_ble_eq_true rfl) (Nat.zero_le _) (Nat.zero_le _) dX6_fillDueInDays_46 ?_
    refine g_icmp_ge X 120 dX6_fillDueInDays_49 (by decide) (fun c_49 => ?_) (fun c_49 => ?_)
    · have hge : (Z.np a) ≤ p := (nI_leI (by omega) (by omega)).mp c_49
      have epn : p = Z.np a := by omega
      refine g_L [2, 3, 4, 5] (L' := [(3, _), (2, _), (0, _), (1, _)]) rfl ?_
      rw [epn]
      exact K
    · have hp : p < (Z.np a) := nI_lt_of c_49 (by omega) (by omega)
      refine g_aload X dX6_fillDueInDays_52 1 rfl ?_
      refine g_iload X dX6_fillDueInDays_54 0 rfl ?_
      refine g_cV X ml_X6_224 (k_getQ D ha hp) ⟨8, _, kLLL D ha, rfl⟩ (Nat.le_of_ble_eq_true rfl) rfl rfl (Nat.le_of_ble_eq_true rfl) (Nat.zero_le _) (Nat.zero_le _) dX6_fillDueInDays_56 ?_
      refine g_castO X cl_X6_135 (kLQ D ha hp) rfl dX6_fillDueInDays_59 ?_
      refine g_astore X dX6_fillDueInDays_62 (Nat.le_of_ble_eq_true rfl) [(6, _), (5, _), (4, _), (3, _), (2, _), (0, _), (1, _)] rfl ?_
      refine g_aload X dX6_fillDueInDays_64 0 rfl ?_
      refine g_iload_n X dX6_fillDueInDays_66 6 rfl ?_
      refine g_cV X ml_X6_228 (c_X3_isWaitingAt D a p ha hp (V.k22 a ha p hp) dk) ⟨3, _, kLQ D ha hp, rfl⟩ (Nat.le_of_ble_eq_true rfl) rfl rfl (Nat.le_of_ble_eq_true rfl) (Nat.zero_le _) (Nat.zero_le _) dX6_fillDueInDays_67 ?_
      refine g_if_eq X 114 dX6_fillDueInDays_70 (by decide) (fun c_70 => ?_) (fun c_70 => ?_)
      · refine g_iinc X (v := nI (p + 1)) dX6_fillDueInDays_114 1 rfl (nI_1 p) (Nat.le_of_ble_eq_true rfl) [(5, _), (6, _), (4, _), (3, _), (2, _), (0, _), (1, _)] rfl ?_
        refine g_goto X 42 dX6_fillDueInDays_117 (by decide) ?_
        refine g_L [0, 2, 3, 4, 5, 6] (L' := [(5, _), (4, _), (3, _), (2, _), (0, _), (1, _)]) rfl ?_
        have e0 : ¬ isOfP I Ar dk (6 * a + p) := fun z => b2_0.mp c_70 ((isOf_w D V ha hp).mp z)
        have e1 : fdK I Ar dk (zeroN (A 11) 61) (6 * a + p + 1) = fdK I Ar dk (zeroN (A 11) 61) (6 * a + p) := by rw [fdK_s, if_neg (fun z => e0 z.1)]
        have e2 : cN (isOfP I Ar dk) (6 * a + p + 1) = cN (isOfP I Ar dk) (6 * a + p) := by rw [cN_s, if_neg e0]; rfl
        refine g_L [0, 1, 2, 3, 4, 5] (L' := [(5, _), (4, _), (3, _), (2, .int (nI (cN (isOfP I Ar dk) (6 * a + (p + 1))))), (0, _), (1, _)]) (by rw [show 6 * a + (p + 1) = 6 * a + p + 1 from rfl, e2]; rfl) ?_
        refine g_h (h' := (kH G Z I Ar T (va_up A 11 (fdK I Ar dk (zeroN (A 11) 61) (6 * a + (p + 1)))) Lg h0)) (by rw [show 6 * a + (p + 1) = 6 * a + p + 1 from rfl, e1]) ?_
        exact ih (p + 1) (by omega) (by omega)
      · have e0 : isOfP I Ar dk (6 * a + p) := (isOf_w D V ha hp).mpr (b2_1.mp (b2_c.resolve_left c_70))
        refine g_iinc X (v := (nI (cN (isOfP I Ar dk) (6 * a + p + 1)))) dX6_fillDueInDays_73 4 rfl (cN_t e0) (Nat.le_of_ble_eq_true rfl) [(2, _), (6, _), (5, _), (4, _), (3, _), (0, _), (1, _)] rfl ?_
        refine g_aload X dX6_fillDueInDays_76 1 rfl ?_
        refine g_getfield X fl_X6_184 dX6_fillDueInDays_78 (kLQ D ha hp) rfl ?_
        refine g_aload_n X dX6_fillDueInDays_81 5 rfl ?_
        refine g_getfield X fl_X6_27 dX6_fillDueInDays_82 (kL1 D) rfl ?_
        refine g_isub X dX6_fillDueInDays_85 ?_
        refine g_istore X dX6_fillDueInDays_86 (Nat.le_of_ble_eq_true rfl) [(7, _), (2, _), (6, _), (5, _), (4, _), (3, _), (0, _), (1, _)] rfl ?_
        refine g_iload X dX6_fillDueInDays_88 0 rfl ?_
        refine g_if_le X 114 dX6_fillDueInDays_90 (by decide) (fun c_90 => ?_) (fun c_90 => ?_)
        · refine g_iinc X (v := nI (p + 1)) dX6_fillDueInDays_114 3 rfl (nI_1 p) (Nat.le_of_ble_eq_true rfl) [(5, _), (7, _), (2, _), (6, _), (4, _), (3, _), (0, _), (1, _)] rfl ?_
          refine g_goto X 42 dX6_fillDueInDays_117 (by decide) ?_
          refine g_L [0, 4, 5, 2, 6, 7] (L' := [(5, _), (4, _), (3, _), (2, _), (0, _), (1, _)]) rfl ?_
          have e1 : fdK I Ar dk (zeroN (A 11) 61) (6 * a + p + 1) = fdK I Ar dk (zeroN (A 11) 61) (6 * a + p) := by rw [fdK_s, if_neg (fun z => Int32.not_lt.mpr c_90 z.2.1)]
          have e2 : cN (isOfP I Ar dk) (6 * a + p + 1) = cN (isOfP I Ar dk) (6 * a + p + 1) := rfl
          refine g_L [0, 1, 2, 3, 4, 5] (L' := [(5, _), (4, _), (3, _), (2, .int (nI (cN (isOfP I Ar dk) (6 * a + (p + 1))))), (0, _), (1, _)]) (by rw [show 6 * a + (p + 1) = 6 * a + p + 1 from rfl, e2]; rfl) ?_
          refine g_h (h' := (kH G Z I Ar T (va_up A 11 (fdK I Ar dk (zeroN (A 11) 61) (6 * a + (p + 1)))) Lg h0)) (by rw [show 6 * a + (p + 1) = 6 * a + p + 1 from rfl, e1]) ?_
          exact ih (p + 1) (by omega) (by omega)
        · refine g_iload X dX6_fillDueInDays_93 0 rfl ?_
          refine g_aload_n X dX6_fillDueInDays_95 6 rfl ?_
          refine g_getfield X fl_X6_53 dX6_fillDueInDays_96 (kL1 D) rfl ?_
          refine g_alen X dX6_fillDueInDays_99 (t := 0) rfl (kL11 D) (nI 61) rfl ?_
          refine g_icmp_ge X 114 dX6_fillDueInDays_100 (by decide) (fun c_100 => ?_) (fun c_100 => ?_)
          · refine g_iinc X (v := nI (p + 1)) dX6_fillDueInDays_114 3 rfl (nI_1 p) (Nat.le_of_ble_eq_true rfl) [(5, _), (7, _), (2, _), (6, _), (4, _), (3, _), (0, _), (1, _)] rfl ?_
            refine g_goto X 42 dX6_fillDueInDays_117 (by decide) ?_
            refine g_L [0, 4, 5, 2, 6, 7] (L' := [(5, _), (4, _), (3, _), (2, _), (0, _), (1, _)]) rfl ?_
            have e1 : fdK I Ar dk (zeroN (A 11) 61) (6 * a + p + 1) = fdK I Ar dk (zeroN (A 11) 61) (6 * a + p) := by rw [fdK_s, if_neg (fun z => Int32.not_lt.mpr c_100 z.2.2)]
            have e2 : cN (isOfP I Ar dk) (6 * a + p + 1) = cN (isOfP I Ar dk) (6 * a + p + 1) := rfl
            refine g_L [0, 1, 2, 3, 4, 5] (L' := [(5, _), (4, _), (3, _), (2, .int (nI (cN (isOfP I Ar dk) (6 * a + (p + 1))))), (0, _), (1, _)]) (by rw [show 6 * a + (p + 1) = 6 * a + p + 1 from rfl, e2]; rfl) ?_
            refine g_h (h' := (kH G Z I Ar T (va_up A 11 (fdK I Ar dk (zeroN (A 11) 61) (6 * a + (p + 1)))) Lg h0)) (by rw [show 6 * a + (p + 1) = 6 * a + p + 1 from rfl, e1]) ?_
            exact ih (p + 1) (by omega) (by omega)
          · have hvp : vp_in (Ar 23 (6 * a + p) - I 1) 61 := by
              have z1 := Int32.not_le.mp c_90
              have z2 := Int32.not_le.mp c_100
              rw [i32_lt] at z1 z2
              exact vpi (by rw [show (0 : Int32).toInt = 0 by decide] at z1; omega) (by rw [show (nI 61).toInt = 61 by decide] at z2; exact z2)
            refine g_aload_n X dX6_fillDueInDays_103 6 rfl ?_
            refine g_getfield X fl_X6_53 dX6_fillDueInDays_104 (kL1 D) rfl ?_
            refine g_iload X dX6_fillDueInDays_107 0 rfl ?_
            refine g_dup2 X dX6_fillDueInDays_109 rfl rfl ?_
            refine g_iaload X dX6_fillDueInDays_110 (kL11 D) hvp ?_
            refine g_iconst X (v := 1) dX6_fillDueInDays_111 ki_1 ?_
            refine g_iadd X dX6_fillDueInDays_112 ?_
            refine g_iastore X dX6_fillDueInDays_113 (kL11 D) hvp ?_
            refine g_h (h' := (kH G Z I Ar T (va_up A 11 (fdK I Ar dk (zeroN (A 11) 61) (6 * a + p + 1))) Lg h0)) ((kuB11 D).trans (by rw [va_up_up, fdK_s, if_pos ⟨e0, Int32.not_le.mp c_90, Int32.not_le.mp c_100⟩]; rfl)) ?_
            refine g_iinc X (v := nI (p + 1)) dX6_fillDueInDays_114 3 rfl (nI_1 p) (Nat.le_of_ble_eq_true rfl) [(5, _), (7, _), (2, _), (6, _), (4, _), (3, _), (0, _), (1, _)] rfl ?_
            refine g_goto X 42 dX6_fillDueInDays_117 (by decide) ?_
            refine g_L [0, 4, 5, 2, 6, 7] (L' := [(5, _), (4, _), (3, _), (2, _), (0, _), (1, _)]) rfl ?_
            have e2 : cN (isOfP I Ar dk) (6 * a + p + 1) = cN (isOfP I Ar dk) (6 * a + p + 1) := rfl
            refine g_L [0, 1, 2, 3, 4, 5] (L' := [(5, _), (4, _), (3, _), (2, .int (nI (cN (isOfP I Ar dk) (6 * a + (p + 1))))), (0, _), (1, _)]) (by rw [show 6 * a + (p + 1) = 6 * a + p + 1 from rfl, e2]; rfl) ?_
            exact ih (p + 1) (by omega) (by omega)
theorem lp_X6_fillDueInDays_12 {E : gE} (X : Gc G E "ComplaintDesk" cX6_fillDueInDays 8 3 0 0) (F : gF E M_X6_fillDueInDays) (D : kW G Z) (V : kV Z I Ar) (dk : Int32)  : ∀ (f : Nat) (a : Nat), a ≤ Z.nL → Z.nL - a < f → GW G E (gMQ G E 0 0 (rX (some (.int (nI (cN (isOfP I Ar dk) (480))))) (kH G Z I Ar T (va_up A 11 (fdK I Ar dk (zeroN (A 11) 61) (480))) Lg h0))) 8 12 [(3, .int (nI a)), (2, .int (nI (cN (isOfP I Ar dk) (6 * a)))), (0, .ref (Z.da 1)), (1, .int dk)] [] (kH G Z I Ar T (va_up A 11 (fdK I Ar dk (zeroN (A 11) 61) (6 * a))) Lg h0) 0 0 := by
  intro f
  induction f with
  | zero => intro a haa hf; exact absurd hf (Nat.not_lt_zero _)
  | succ f ih =>
    intro a haa hf
    have h80 := D.l80
    have hlx := D.lx
    have h12 := D.c12
    refine g_iload_n X dX6_fillDueInDays_12 0 rfl ?_
    refine g_aload_n X dX6_fillDueInDays_13 2 rfl ?_
    refine g_getfield X fl_X6_37 dX6_fillDueInDays_14 (kL1 D) rfl ?_
    refine g_cV X ml_X6_92 (k_szL D) ⟨8, _, kL6 D, rfl⟩ (Nat.le_of_ble_eq_true rfl) rfl rfl (Nat.le_of_ble_eq_true rfl) (Nat.zero_le _) (Nat.zero_le _) dX6_fillDueInDays_17 ?_
    refine g_icmp_ge X 126 dX6_fillDueInDays_20 (by decide) (fun c_20 => ?_) (fun c_20 => ?_)
    · have hge : Z.nL ≤ a := (nI_leI (by omega) (by omega)).mp c_20
      refine g_iload_n X dX6_fillDueInDays_126 1 rfl ?_
      refine g_iret X F rfl rfl dX6_fillDueInDays_127 (Nat.zero_le _) (Nat.zero_le _) ?_
      have e1 : a = Z.nL := by omega
      exact ⟨by rw [e1, cN_all D V], by rw [e1, fdK_all D V]⟩
    · have hla : a < Z.nL := nI_lt_of c_20 (by omega) (by omega)
      refine g_aload_n X dX6_fillDueInDays_23 2 rfl ?_
      refine g_getfield X fl_X6_37 dX6_fillDueInDays_24 (kL1 D) rfl ?_
      refine g_iload_n X dX6_fillDueInDays_27 0 rfl ?_
      refine g_cV X ml_X6_224 (k_getL D hla) ⟨8, _, kL6 D, rfl⟩ (Nat.le_of_ble_eq_true rfl) rfl rfl (Nat.le_of_ble_eq_true rfl) (Nat.zero_le _) (Nat.zero_le _) dX6_fillDueInDays_28 ?_
      refine g_castO X cl_X6_120 (kLL D (Nat.lt_of_lt_of_le hla D.lx)) rfl dX6_fillDueInDays_31 ?_
      refine g_getfield X fl_X6_155 dX6_fillDueInDays_34 (kLL D (Nat.lt_of_lt_of_le hla D.lx)) rfl ?_
      refine g_astore X dX6_fillDueInDays_37 (Nat.le_of_ble_eq_true rfl) [(4, _), (3, _), (2, _), (0, _), (1, _)] rfl ?_
      refine g_iconst X (v := 0) dX6_fillDueInDays_39 ki_0 ?_
      refine g_istore X dX6_fillDueInDays_40 (Nat.le_of_ble_eq_true rfl) [(5, _), (4, _), (3, _), (2, _), (0, _), (1, _)] rfl ?_
      refine g_L [0, 1, 2, 3, 4, 5] (L' := [(5, _), (4, _), (3, _), (2, _), (0, _), (1, _)]) rfl ?_
      refine lp_X6_fillDueInDays_42 X D V dk a (Nat.lt_of_lt_of_le hla D.lx) ?_ _ 0 (Nat.zero_le _) (Nat.lt_succ_self _)
      refine g_iinc X (v := nI (a + 1)) dX6_fillDueInDays_120 0 rfl (nI_1 a) (Nat.le_of_ble_eq_true rfl) [(3, _), (2, _), (0, _), (1, _)] rfl ?_
      refine g_goto X 12 dX6_fillDueInDays_123 (by decide) ?_
      refine g_L [0, 1, 2, 3] (L' := [(3, _), (2, .int (nI (cN (isOfP I Ar dk) (6 * (a + 1))))), (0, _), (1, _)]) (by rw [cN_row D V (Nat.lt_of_lt_of_le hla D.lx)]; rfl) ?_
      refine g_h (h' := (kH G Z I Ar T (va_up A 11 (fdK I Ar dk (zeroN (A 11) 61) (6 * (a + 1)))) Lg h0)) (by rw [fdK_row D V (Nat.lt_of_lt_of_le hla D.lx)]) ?_
      exact ih (a + 1) (by omega) (by omega)
theorem c_X6_fillDueInDays (D : kW G Z) (V : kV Z I Ar) (dk : Int32)  : Ct G l 3 0 0 M_X6_fillDueInDays [.ref (Z.da 1), .int dk] (kH G Z I Ar T A Lg h0) (rX (some (.int (nI (cN (isOfP I Ar dk) (480))))) (kH G Z I Ar T (va_up A 11 (fdK I Ar dk (zeroN (A 11) 61) (480))) Lg h0)) := by
  refine Ct.of (by decide +kernel) (Nat.le_of_ble_eq_true rfl) (fun E hE X F => ?_)
  have X : Gc G E "ComplaintDesk" cX6_fillDueInDays 8 3 0 0 := X
  show GW G E _ 8 0 [(0, _), (1, _)] [] _ 0 0
  refine g_aload_n X dX6_fillDueInDays_0 0 rfl ?_
  refine g_getfield X fl_X6_53 dX6_fillDueInDays_1 (kL1 D) rfl ?_
  refine g_iconst X (v := 0) dX6_fillDueInDays_4 ki_0 ?_
  refine g_cS0 X ml_X6_282 (c_J7_fill_53178 (Z.da 11) 61 0 (A 11) (by decide) (kL11 D)) (Nat.le_of_ble_eq_true rfl) rfl rfl (Nat.le_of_ble_eq_true rfl) (Nat.zero_le _) (Nat.zero_le _) dX6_fillDueInDays_5 ?_
  refine g_h (h' := (kH G Z I Ar T (va_up A 11 (fdK I Ar dk (zeroN (A 11) 61) (6 * 0))) Lg h0)) (by rw [show 6 * 0 = 0 from rfl, fdK_0]; exact kuB11 D) ?_
  refine g_iconst X (v := 0) dX6_fillDueInDays_8 ki_0 ?_
  refine g_istore_n X dX6_fillDueInDays_9 (Nat.le_of_ble_eq_true rfl) [(2, _), (0, _), (1, _)] rfl ?_
  refine g_iconst X (v := 0) dX6_fillDueInDays_10 ki_0 ?_
  refine g_istore_n X dX6_fillDueInDays_11 (Nat.le_of_ble_eq_true rfl) [(3, _), (2, _), (0, _), (1, _)] rfl ?_
  refine g_L [0, 1, 2, 3] (L' := [(3, _), (2, _), (0, _), (1, _)]) rfl ?_
  refine g_L [0, 1, 2, 3] (L' := [(3, _), (2, .int (nI (cN (isOfP I Ar dk) (6 * 0)))), (0, _), (1, _)]) (by rw [show 6 * 0 = 0 from rfl, cN_0]; rfl) ?_
  exact lp_X6_fillDueInDays_12 X F D V dk _ 0 (Nat.zero_le _) (Nat.lt_succ_self _)
end K12
