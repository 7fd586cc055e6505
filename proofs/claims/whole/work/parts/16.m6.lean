section M6
variable {G : gG} {l : Launch} {ix : Nat → Nat} {m : Nat} {ad : Nat → Nat} {I : Nat → Int32} {Ar : Nat → Nat → Int32} {h0 h : hW}
theorem c_X7_counts_e1 (D : md ix m ad) (c d : Int32) (hd : ¬ inR c 0 (I 11 - 1))  : Ct G l 2 0 0 M_X7_counts [.ref m, .int c, .int d] (mH G ix ad I Ar h0) (rX (some (.int 0)) (mH G ix ad (va_up (t0 I) 0 1) Ar h0)) := by
  refine Ct.of (by decide +kernel) (Nat.le_of_ble_eq_true rfl) (fun E hE X F => ?_)
  have X : Gc G E "ComplaintDeskModel" cX7_counts 3 2 0 0 := X
  show GW G E _ 3 0 [(0, _), (1, _), (2, _)] [] _ 0 0
  refine g_aload_n X dX7_counts_0 0 rfl ?_
  refine g_iconst X (v := 0) dX7_counts_1 ki_0 ?_
  refine m_put X D 0 (by decide) fp_X7_91 dX7_counts_2 (mset_0 _ _ _) ?_
  refine g_aload_n X dX7_counts_5 0 rfl ?_
  refine g_aload_n X dX7_counts_6 0 rfl ?_
  refine g_iload_n X dX7_counts_7 1 rfl ?_
  refine g_cV X ml_X7_173 (c_X7_noCause (I := t0 I) D _) ⟨7, _, mLm D, rfl⟩ (Nat.le_of_ble_eq_true rfl) rfl rfl (Nat.le_of_ble_eq_true rfl) (Nat.zero_le _) (Nat.zero_le _) dX7_counts_8 ?_
  refine g_eqi (y := (1 : Int32)) (b2_t hd) ?_
  refine g_iconst X (v := 1) dX7_counts_11 ki_1 ?_
  refine g_cV X ml_X7_179 (c_X7_throwsIf1 D _) ⟨7, _, mLm D, rfl⟩ (Nat.le_of_ble_eq_true rfl) rfl rfl (Nat.le_of_ble_eq_true rfl) (Nat.zero_le _) (Nat.zero_le _) dX7_counts_12 ?_
  refine g_if_ne X 30 dX7_counts_15 (by decide) (fun c_15 => ?_) (fun c_15 => absurd c_15 (by decide))
  refine g_iconst X (v := 0) dX7_counts_30 ki_0 ?_
  refine g_iret X F rfl rfl dX7_counts_31 (Nat.zero_le _) (Nat.zero_le _) ?_
  exact ⟨rfl, rfl⟩
theorem c_X7_counts (D : md ix m ad) (c d : Int32) (hd : inR c 0 (I 11 - 1)) (hA : abvP I Ar) (hI : okN (I 11) 12) (hL : okN (I 21) 80) (hP : ∀ a, a < 80 → okN (Ar 15 a) 6) (hW : ∀ a, a < 80 → okN (Ar 14 a) 400) (hC : ∀ a, a < cl (I 21) → ∀ p, p < cl (Ar 15 a) → -1 ≤ Ar 22 (6 * a + p) ∧ Ar 22 (6 * a + p) < I 11) (hT : okN (I 1) 400) : Ct G l 2 0 0 M_X7_counts [.ref m, .int c, .int d] (mH G ix ad I Ar h0) (rX (some (.int (if inR d 0 (I 1) then cdA I Ar c (cl d) else 0))) (mH G ix ad (t0 I) (if inR d 0 (I 1) then (va_up Ar 34 (cdA I Ar c)) else Ar) h0)) := by
  refine Ct.of (by decide +kernel) (Nat.le_of_ble_eq_true rfl) (fun E hE X F => ?_)
  have X : Gc G E "ComplaintDeskModel" cX7_counts 3 2 0 0 := X
  show GW G E _ 3 0 [(0, _), (1, _), (2, _)] [] _ 0 0
  refine g_aload_n X dX7_counts_0 0 rfl ?_
  refine g_iconst X (v := 0) dX7_counts_1 ki_0 ?_
  refine m_put X D 0 (by decide) fp_X7_91 dX7_counts_2 (mset_0 _ _ _) ?_
  refine g_aload_n X dX7_counts_5 0 rfl ?_
  refine g_aload_n X dX7_counts_6 0 rfl ?_
  refine g_iload_n X dX7_counts_7 1 rfl ?_
  refine g_cV X ml_X7_173 (c_X7_noCause (I := t0 I) D _) ⟨7, _, mLm D, rfl⟩ (Nat.le_of_ble_eq_true rfl) rfl rfl (Nat.le_of_ble_eq_true rfl) (Nat.zero_le _) (Nat.zero_le _) dX7_counts_8 ?_
  refine g_eqi (y := (0 : Int32)) (b2_f (Decidable.not_not.mpr hd)) ?_
  refine g_iconst X (v := 1) dX7_counts_11 ki_1 ?_
  refine g_cV X ml_X7_179 (c_X7_throwsIf0 D _) ⟨7, _, mLm D, rfl⟩ (Nat.le_of_ble_eq_true rfl) rfl rfl (Nat.le_of_ble_eq_true rfl) (Nat.zero_le _) (Nat.zero_le _) dX7_counts_12 ?_
  refine g_if_ne X 30 dX7_counts_15 (by decide) (fun c_15 => absurd rfl c_15) (fun c_15 => ?_)
  refine g_iload_n X dX7_counts_18 2 rfl ?_
  refine g_iconst X (v := 0) dX7_counts_19 ki_0 ?_
  refine g_aload_n X dX7_counts_20 0 rfl ?_
  refine g_getfield X fl_X7_201 dX7_counts_21 (mLm D) rfl ?_
  refine g_cS X ml_X7_97 (c_X7_in _ _ _) (Nat.le_of_ble_eq_true rfl) rfl rfl (Nat.le_of_ble_eq_true rfl) (Nat.zero_le _) (Nat.zero_le _) dX7_counts_24 ?_
  refine g_if_ne X 32 dX7_counts_27 (by decide) (fun c_27 => ?_) (fun c_27 => ?_)
  · have hq : inR d 0 (I 1) := Decidable.not_not.mp (fun q => c_27 (b2_0.mpr q))
    refine g_aload_n X dX7_counts_32 0 rfl ?_
    refine g_iload_n X dX7_counts_33 1 rfl ?_
    refine g_cV0 X ml_X7_234 (c_X7_counted (I := t0 I) D _ hA hI hL (Int32.not_lt.mp hd.1) hP hW hC) ⟨7, _, mLm D, rfl⟩ (Nat.le_of_ble_eq_true rfl) rfl rfl (Nat.le_of_ble_eq_true rfl) (Nat.zero_le _) (Nat.zero_le _) dX7_counts_34 ?_
    refine g_aload_n X dX7_counts_37 0 rfl ?_
    refine g_getfield X fl_X7_88 dX7_counts_38 (mLm D) rfl ?_
    refine g_iload_n X dX7_counts_41 2 rfl ?_
    refine g_iaload X dX7_counts_42 (mLa D 34 rfl) (by have h1 := hT.le; rw [hT.eq.1] at hq; obtain ⟨j, q1, rfl⟩ := inR_nat (N := cl (I 1)) (by omega) hq; exact vp_in_nI (by omega) (by decide)) ?_
    refine g_iret X F rfl rfl dX7_counts_43 (Nat.zero_le _) (Nat.zero_le _) ?_
    first | exact ⟨by rw [if_pos hq]; rfl, by rw [if_pos hq]; rfl⟩ | exact ⟨by rw [if_neg hq], by rw [if_neg hq]⟩
  · have hq : ¬ inR d 0 (I 1) := b2_0.mp c_27
    refine g_iconst X (v := 0) dX7_counts_30 ki_0 ?_
    refine g_iret X F rfl rfl dX7_counts_31 (Nat.zero_le _) (Nat.zero_le _) ?_
    first | exact ⟨by rw [if_pos hq]; rfl, by rw [if_pos hq]; rfl⟩ | exact ⟨by rw [if_neg hq], by rw [if_neg hq]⟩
/-- rare on a day, by the counts F -/
abbrev rareP (F : Nat → Int32) (d : Nat) : Prop := ¬ F d < 2 ∧ ¬ nI d + 1 < 20 * (nI (cN (fun k => ¬ F k < F d) d) + 1)
def waveF (F : Nat → Int32) : Nat → Option Nat
  | 0 => none
  | n + 1 => match waveF F n with
    | some x => some x
    | none => if rareP F n then some n else none
termination_by n => n
theorem waveF_0 {F : Nat → Int32} : waveF F 0 = none := by rw [waveF]
theorem waveF_s {F : Nat → Int32} {n : Nat} : waveF F (n + 1) = match waveF F n with
    | some x => some x
    | none => if rareP F n then some n else none := by rw [waveF]
theorem waveF_keep {F : Nat → Int32} {n x : Nat} (h : waveF F n = some x) : ∀ j, waveF F (n + j) = some x := by
  intro j
  induction j with
  | zero => exact h
  | succ j ih => rw [show n + (j + 1) = (n + j) + 1 from rfl, waveF_s, ih]
theorem lp_X7_wave_40 {E : gE} (X : Gc G E "ComplaintDeskModel" cX7_wave 5 2 0 0) {Q : State → Prop} (D : md ix m ad) (c : Int32) (Fc : Nat → Int32) (d : Nat) (hd4 : d ≤ 400) (K : GW G E Q 5 76 [(0, .ref m), (1, .int c), (2, .int (nI d)), (3, .int (nI (cN (fun k => ¬ Fc k < Fc d) d)))] [] (mH G ix ad (t0 I) (va_up Ar 34 Fc) h0) 0 0) : ∀ (f : Nat) (k : Nat), k ≤ d → d - k < f → GW G E Q 5 40 [(0, .ref m), (1, .int c), (2, .int (nI d)), (3, .int (nI (cN (fun k => ¬ Fc k < Fc d) k))), (4, .int (nI k))] [] (mH G ix ad (t0 I) (va_up Ar 34 Fc) h0) 0 0 := by
  intro f
  induction f with
  | zero => intro k hk hf; exact absurd hf (Nat.not_lt_zero _)
  | succ f ih =>
    intro k hk hf
    refine g_iload X dX7_wave_40 4 rfl ?_
    refine g_iload_n X dX7_wave_42 2 rfl ?_
    refine g_icmp_ge X 76 dX7_wave_43 (by decide) (fun c_43 => ?_) (fun c_43 => ?_)
    · have hq : k = d := by have := (nI_leI (by omega) (by omega)).mp c_43; omega
      subst hq
      refine g_L [0, 1, 2, 3] (L' := [(0, _), (1, _), (2, _), (3, _)]) rfl ?_
      exact K
    · have hq : k < d := by have := (nI_ltI (by omega) (by omega)).mp (Int32.not_le.mp c_43); omega
      refine g_iload_n X dX7_wave_46 3 rfl ?_
      refine g_aload_n X dX7_wave_47 0 rfl ?_
      refine g_getfield X fl_X7_88 dX7_wave_48 (mLm D) rfl ?_
      refine g_iload X dX7_wave_51 4 rfl ?_
      refine g_iaload X dX7_wave_53 (mLa D 34 rfl) (vp_in_nI (by omega) (by decide)) ?_
      refine g_eqi (y := Fc k) (by rw [nI_clamp (by omega)]; rfl) ?_
      refine g_aload_n X dX7_wave_54 0 rfl ?_
      refine g_getfield X fl_X7_88 dX7_wave_55 (mLm D) rfl ?_
      refine g_iload_n X dX7_wave_58 2 rfl ?_
      refine g_iaload X dX7_wave_59 (mLa D 34 rfl) (vp_in_nI (by omega) (by decide)) ?_
      refine g_eqi (y := Fc d) (by rw [nI_clamp (by omega)]; rfl) ?_
      refine g_icmp_lt X 67 dX7_wave_60 (by decide) (fun c_60 => ?_) (fun c_60 => ?_)
      · refine g_iconst X (v := 0) dX7_wave_67 ki_0 ?_
        refine g_iadd X dX7_wave_68 ?_
        refine g_eqi (y := nI (cN (fun k => ¬ Fc k < Fc d) (k + 1))) (by first | exact cN_t (P := fun k => ¬ Fc k < Fc d) c_60 | exact cN_f (P := fun k => ¬ Fc k < Fc d) (fun q => q c_60)) ?_
        refine g_istore_n X dX7_wave_69 (Nat.le_of_ble_eq_true rfl) [(3, _), (0, _), (1, _), (2, _), (4, _)] rfl ?_
        refine g_iinc X (v := nI (k + 1)) dX7_wave_70 4 rfl (nI_1 k) (Nat.le_of_ble_eq_true rfl) [(4, _), (3, _), (0, _), (1, _), (2, _)] rfl ?_
        refine g_goto X 40 dX7_wave_73 (by decide) ?_
        refine g_L [2, 3, 4, 1, 0] (L' := [(0, _), (1, _), (2, _), (3, _), (4, _)]) rfl ?_
        exact ih (k + 1) (by omega) (by omega)
      · refine g_iconst X (v := 1) dX7_wave_63 ki_1 ?_
        refine g_goto X 68 dX7_wave_64 (by decide) ?_
        refine g_iadd X dX7_wave_68 ?_
        refine g_eqi (y := nI (cN (fun k => ¬ Fc k < Fc d) (k + 1))) (by first | exact cN_t (P := fun k => ¬ Fc k < Fc d) c_60 | exact cN_f (P := fun k => ¬ Fc k < Fc d) (fun q => q c_60)) ?_
        refine g_istore_n X dX7_wave_69 (Nat.le_of_ble_eq_true rfl) [(3, _), (0, _), (1, _), (2, _), (4, _)] rfl ?_
        refine g_iinc X (v := nI (k + 1)) dX7_wave_70 4 rfl (nI_1 k) (Nat.le_of_ble_eq_true rfl) [(4, _), (3, _), (0, _), (1, _), (2, _)] rfl ?_
        refine g_goto X 40 dX7_wave_73 (by decide) ?_
        refine g_L [2, 3, 4, 1, 0] (L' := [(0, _), (1, _), (2, _), (3, _), (4, _)]) rfl ?_
        exact ih (k + 1) (by omega) (by omega)
theorem lp_X7_wave_27 {E : gE} (X : Gc G E "ComplaintDeskModel" cX7_wave 5 2 0 0) (F : gF E M_X7_wave) (D : md ix m ad) (c : Int32) (Fc : Nat → Int32) (hT : okN (I 1) 400) : ∀ (f : Nat) (d : Nat), d ≤ cl (I 1) + 1 → cl (I 1) + 1 - d < f → waveF Fc d = none → GW G E (gMQ G E 0 0 (rX (some (.int (enO (waveF Fc (cl (I 1) + 1))))) (mH G ix ad (t0 I) (va_up Ar 34 Fc) h0))) 5 27 [(0, .ref m), (1, .int c), (2, .int (nI d))] [] (mH G ix ad (t0 I) (va_up Ar 34 Fc) h0) 0 0 := by
  intro f
  induction f with
  | zero => intro d hd hf hw; exact absurd hf (Nat.not_lt_zero _)
  | succ f ih =>
    intro d hd hf hw
    have hT1 := hT.eq
    refine g_iload_n X dX7_wave_27 2 rfl ?_
    refine g_aload_n X dX7_wave_28 0 rfl ?_
    refine g_getfield X fl_X7_201 dX7_wave_29 (mLm D) rfl ?_
    refine g_icmp_gt X 106 dX7_wave_32 (by decide) (fun c_32 => ?_) (fun c_32 => ?_)
    · have hq : d = cl (I 1) + 1 := by have c2 : I 1 < nI d := c_32; rw [hT1.1] at c2; have := (nI_ltI (by omega) (by omega)).mp c2; omega
      subst hq
      refine g_iconst X (v := (-1)) dX7_wave_106 ki_m1 ?_
      refine g_iret X F rfl rfl dX7_wave_107 (Nat.zero_le _) (Nat.zero_le _) ?_
      first | exact ⟨by rw [hw]; rfl, rfl⟩ | exact ⟨by rw [show cl (I 1) + 1 = (d + 1) + (cl (I 1) - d) by omega, waveF_keep hw2]; rfl, rfl⟩
    · have hq : d ≤ cl (I 1) := by have c2 : ¬ I 1 < nI d := c_32; rw [hT1.1] at c2; have := (nI_leI (by omega) (by omega)).mp (Int32.not_lt.mp c2); omega
      refine g_iconst X (v := 0) dX7_wave_35 ki_0 ?_
      refine g_istore_n X dX7_wave_36 (Nat.le_of_ble_eq_true rfl) [(3, _), (0, _), (1, _), (2, _)] rfl ?_
      refine g_iconst X (v := 0) dX7_wave_37 ki_0 ?_
      refine g_istore X dX7_wave_38 (Nat.le_of_ble_eq_true rfl) [(4, _), (3, _), (0, _), (1, _), (2, _)] rfl ?_
      refine g_L [2, 3, 4, 1, 0] (L' := [(0, _), (1, _), (2, _), (3, _), (4, _)]) rfl ?_
      refine (fun K => ?_ : GW G E (gMQ G E 0 0 (rX (some (.int (enO (waveF Fc (cl (I 1) + 1))))) (mH G ix ad (t0 I) (va_up Ar 34 Fc) h0))) 5 76 [(0, .ref m), (1, .int c), (2, .int (nI d)), (3, .int (nI (cN (fun k => ¬ Fc k < Fc d) d)))] [] (mH G ix ad (t0 I) (va_up Ar 34 Fc) h0) 0 0 → _) ?_
      · refine g_L [0, 1, 2, 3, 4] (L' := [(0, _), (1, _), (2, _), (3, .int (nI (cN (fun k => ¬ Fc k < Fc d) 0))), (4, _)]) (by rw [cN_0]; rfl) ?_
        exact lp_X7_wave_40 X D c Fc d (by omega) K _ 0 (Nat.zero_le _) (Nat.lt_succ_self _)
      refine g_aload_n X dX7_wave_76 0 rfl ?_
      refine g_getfield X fl_X7_88 dX7_wave_77 (mLm D) rfl ?_
      refine g_iload_n X dX7_wave_80 2 rfl ?_
      refine g_iaload X dX7_wave_81 (mLa D 34 rfl) (vp_in_nI (by omega) (by decide)) ?_
      refine g_eqi (y := Fc d) (by rw [nI_clamp (by omega)]; rfl) ?_
      refine g_iconst X (v := 2) dX7_wave_82 ki_2 ?_
      refine g_icmp_lt X 100 dX7_wave_83 (by decide) (fun c_83 => ?_) (fun c_83 => ?_)
      · have hw2 : waveF Fc (d + 1) = none := by rw [waveF_s, hw]; exact if_neg (fun q => by first | exact q.1 c_83 | exact q.2 c_95)
        refine g_iinc X (v := nI (d + 1)) dX7_wave_100 2 rfl (nI_1 d) (Nat.le_of_ble_eq_true rfl) [(2, _), (0, _), (1, _), (3, _)] rfl ?_
        refine g_goto X 27 dX7_wave_103 (by decide) ?_
        refine g_L [1, 2, 0] (L' := [(0, _), (1, _), (2, _)]) rfl ?_
        exact ih (d + 1) (by omega) (by omega) hw2
      · refine g_bipush X (v := 20) dX7_wave_86 kb_20 ?_
        refine g_iload_n X dX7_wave_88 3 rfl ?_
        refine g_iconst X (v := 1) dX7_wave_89 ki_1 ?_
        refine g_iadd X dX7_wave_90 ?_
        refine g_imul X dX7_wave_91 ?_
        refine g_iload_n X dX7_wave_92 2 rfl ?_
        refine g_iconst X (v := 1) dX7_wave_93 ki_1 ?_
        refine g_iadd X dX7_wave_94 ?_
        refine g_icmp_gt X 100 dX7_wave_95 (by decide) (fun c_95 => ?_) (fun c_95 => ?_)
        · have hw2 : waveF Fc (d + 1) = none := by rw [waveF_s, hw]; exact if_neg (fun q => by first | exact q.1 c_83 | exact q.2 c_95)
          refine g_iinc X (v := nI (d + 1)) dX7_wave_100 2 rfl (nI_1 d) (Nat.le_of_ble_eq_true rfl) [(2, _), (0, _), (1, _), (3, _)] rfl ?_
          refine g_goto X 27 dX7_wave_103 (by decide) ?_
          refine g_L [1, 2, 0] (L' := [(0, _), (1, _), (2, _)]) rfl ?_
          exact ih (d + 1) (by omega) (by omega) hw2
        · have hw2 : waveF Fc (d + 1) = some d := by rw [waveF_s, hw]; exact if_pos ⟨c_83, c_95⟩
          refine g_iload_n X dX7_wave_98 2 rfl ?_
          refine g_iret X F rfl rfl dX7_wave_99 (Nat.zero_le _) (Nat.zero_le _) ?_
          exact ⟨by rw [show cl (I 1) + 1 = (d + 1) + (cl (I 1) - d) by omega, waveF_keep hw2]; rfl, rfl⟩
theorem c_X7_wave_e1 (D : md ix m ad) (c : Int32) (hd : ¬ inR c 0 (I 11 - 1))  : Ct G l 2 0 0 M_X7_wave [.ref m, .int c] (mH G ix ad I Ar h0) (rX (some (.int 0)) (mH G ix ad (va_up (t0 I) 0 1) Ar h0)) := by
  refine Ct.of (by decide +kernel) (Nat.le_of_ble_eq_true rfl) (fun E hE X F => ?_)
  have X : Gc G E "ComplaintDeskModel" cX7_wave 5 2 0 0 := X
  show GW G E _ 5 0 [(0, _), (1, _)] [] _ 0 0
  refine g_aload_n X dX7_wave_0 0 rfl ?_
  refine g_iconst X (v := 0) dX7_wave_1 ki_0 ?_
  refine m_put X D 0 (by decide) fp_X7_91 dX7_wave_2 (mset_0 _ _ _) ?_
  refine g_aload_n X dX7_wave_5 0 rfl ?_
  refine g_aload_n X dX7_wave_6 0 rfl ?_
  refine g_iload_n X dX7_wave_7 1 rfl ?_
  refine g_cV X ml_X7_173 (c_X7_noCause (I := t0 I) D _) ⟨7, _, mLm D, rfl⟩ (Nat.le_of_ble_eq_true rfl) rfl rfl (Nat.le_of_ble_eq_true rfl) (Nat.zero_le _) (Nat.zero_le _) dX7_wave_8 ?_
  refine g_eqi (y := (1 : Int32)) (b2_t hd) ?_
  refine g_iconst X (v := 1) dX7_wave_11 ki_1 ?_
  refine g_cV X ml_X7_179 (c_X7_throwsIf1 D _) ⟨7, _, mLm D, rfl⟩ (Nat.le_of_ble_eq_true rfl) rfl rfl (Nat.le_of_ble_eq_true rfl) (Nat.zero_le _) (Nat.zero_le _) dX7_wave_12 ?_
  refine g_if_eq X 20 dX7_wave_15 (by decide) (fun c_15 => absurd c_15 (by decide)) (fun c_15 => ?_)
  refine g_iconst X (v := 0) dX7_wave_18 ki_0 ?_
  refine g_iret X F rfl rfl dX7_wave_19 (Nat.zero_le _) (Nat.zero_le _) ?_
  exact ⟨rfl, rfl⟩
theorem c_X7_wave (D : md ix m ad) (c : Int32) (hd : inR c 0 (I 11 - 1)) (hA : abvP I Ar) (hI : okN (I 11) 12) (hL : okN (I 21) 80) (hP : ∀ a, a < 80 → okN (Ar 15 a) 6) (hW : ∀ a, a < 80 → okN (Ar 14 a) 400) (hC : ∀ a, a < cl (I 21) → ∀ p, p < cl (Ar 15 a) → -1 ≤ Ar 22 (6 * a + p) ∧ Ar 22 (6 * a + p) < I 11) (hT : okN (I 1) 400) : Ct G l 2 0 0 M_X7_wave [.ref m, .int c] (mH G ix ad I Ar h0) (rX (some (.int (enO (waveF (cdA I Ar c) (cl (I 1) + 1))))) (mH G ix ad (t0 I) (va_up Ar 34 (cdA I Ar c)) h0)) := by
  refine Ct.of (by decide +kernel) (Nat.le_of_ble_eq_true rfl) (fun E hE X F => ?_)
  have X : Gc G E "ComplaintDeskModel" cX7_wave 5 2 0 0 := X
  show GW G E _ 5 0 [(0, _), (1, _)] [] _ 0 0
  refine g_aload_n X dX7_wave_0 0 rfl ?_
  refine g_iconst X (v := 0) dX7_wave_1 ki_0 ?_
  refine m_put X D 0 (by decide) fp_X7_91 dX7_wave_2 (mset_0 _ _ _) ?_
  refine g_aload_n X dX7_wave_5 0 rfl ?_
  refine g_aload_n X dX7_wave_6 0 rfl ?_
  refine g_iload_n X dX7_wave_7 1 rfl ?_
  refine g_cV X ml_X7_173 (c_X7_noCause (I := t0 I) D _) ⟨7, _, mLm D, rfl⟩ (Nat.le_of_ble_eq_true rfl) rfl rfl (Nat.le_of_ble_eq_true rfl) (Nat.zero_le _) (Nat.zero_le _) dX7_wave_8 ?_
  refine g_eqi (y := (0 : Int32)) (b2_f (Decidable.not_not.mpr hd)) ?_
  refine g_iconst X (v := 1) dX7_wave_11 ki_1 ?_
  refine g_cV X ml_X7_179 (c_X7_throwsIf0 D _) ⟨7, _, mLm D, rfl⟩ (Nat.le_of_ble_eq_true rfl) rfl rfl (Nat.le_of_ble_eq_true rfl) (Nat.zero_le _) (Nat.zero_le _) dX7_wave_12 ?_
  refine g_if_eq X 20 dX7_wave_15 (by decide) (fun c_15 => ?_) (fun c_15 => absurd rfl c_15)
  refine g_aload_n X dX7_wave_20 0 rfl ?_
  refine g_iload_n X dX7_wave_21 1 rfl ?_
  refine g_cV0 X ml_X7_234 (c_X7_counted (I := t0 I) D _ hA hI hL (Int32.not_lt.mp hd.1) hP hW hC) ⟨7, _, mLm D, rfl⟩ (Nat.le_of_ble_eq_true rfl) rfl rfl (Nat.le_of_ble_eq_true rfl) (Nat.zero_le _) (Nat.zero_le _) dX7_wave_22 ?_
  refine g_iconst X (v := 0) dX7_wave_25 ki_0 ?_
  refine g_istore_n X dX7_wave_26 (Nat.le_of_ble_eq_true rfl) [(2, _), (0, _), (1, _)] rfl ?_
  refine g_L [1, 2, 0] (L' := [(0, _), (1, _), (2, _)]) rfl ?_
  exact lp_X7_wave_27 X F D c (cdA I Ar c) hT _ 0 (Nat.zero_le _) (Nat.lt_succ_self _) waveF_0
theorem c_X7_count_0 (D : md ix m ad)  : Ct G l 1 0 0 M_X7_count [.ref m, .int 0] (mH G ix ad I Ar h0) (rX (some (.int (I 1))) (mH G ix ad (t0 I) Ar h0)) := by
  refine Ct.of (by decide +kernel) (Nat.le_of_ble_eq_true rfl) (fun E hE X F => ?_)
  have X : Gc G E "ComplaintDeskModel" cX7_count 7 1 0 0 := X
  show GW G E _ 7 0 [(0, _), (1, _)] [] _ 0 0
  refine g_aload_n X dX7_count_0 0 rfl ?_
  refine g_iconst X (v := 0) dX7_count_1 ki_0 ?_
  refine m_put X D 0 (by decide) fp_X7_91 dX7_count_2 (mset_0 _ _ _) ?_
  refine g_iconst X (v := 0) dX7_count_5 ki_0 ?_
  refine g_istore_n X dX7_count_6 (Nat.le_of_ble_eq_true rfl) [(2, _), (0, _), (1, _)] rfl ?_
  refine g_iload_n X dX7_count_7 2 rfl ?_
  refine g_tswIn X (off := 52) 60 dX7_count_8 (by decide) (by decide) (by decide) (by decide) ?_
  refine g_aload_n X dX7_count_60 1 rfl ?_
  refine g_getfield X fl_X7_201 dX7_count_61 (mLm D) rfl ?_
  refine g_iret X F rfl rfl dX7_count_64 (Nat.zero_le _) (Nat.zero_le _) ?_
  exact ⟨rfl, rfl⟩
theorem c_X7_count_1 (D : md ix m ad)  : Ct G l 1 0 0 M_X7_count [.ref m, .int 1] (mH G ix ad I Ar h0) (rX (some (.int (I 11))) (mH G ix ad (t0 I) Ar h0)) := by
  refine Ct.of (by decide +kernel) (Nat.le_of_ble_eq_true rfl) (fun E hE X F => ?_)
  have X : Gc G E "ComplaintDeskModel" cX7_count 7 1 0 0 := X
  show GW G E _ 7 0 [(0, _), (1, _)] [] _ 0 0
  refine g_aload_n X dX7_count_0 0 rfl ?_
  refine g_iconst X (v := 0) dX7_count_1 ki_0 ?_
  refine m_put X D 0 (by decide) fp_X7_91 dX7_count_2 (mset_0 _ _ _) ?_
  refine g_iconst X (v := 0) dX7_count_5 ki_0 ?_
  refine g_istore_n X dX7_count_6 (Nat.le_of_ble_eq_true rfl) [(2, _), (0, _), (1, _)] rfl ?_
  refine g_iload_n X dX7_count_7 2 rfl ?_
  refine g_tswIn X (off := 57) 65 dX7_count_8 (by decide) (by decide) (by decide) (by decide) ?_
  refine g_aload_n X dX7_count_65 1 rfl ?_
  refine g_getfield X fl_X7_94 dX7_count_66 (mLm D) rfl ?_
  refine g_iret X F rfl rfl dX7_count_69 (Nat.zero_le _) (Nat.zero_le _) ?_
  exact ⟨rfl, rfl⟩
theorem c_X7_count_2 (D : md ix m ad)  : Ct G l 1 0 0 M_X7_count [.ref m, .int 2] (mH G ix ad I Ar h0) (rX (some (.int (I 21))) (mH G ix ad (t0 I) Ar h0)) := by
  refine Ct.of (by decide +kernel) (Nat.le_of_ble_eq_true rfl) (fun E hE X F => ?_)
  have X : Gc G E "ComplaintDeskModel" cX7_count 7 1 0 0 := X
  show GW G E _ 7 0 [(0, _), (1, _)] [] _ 0 0
  refine g_aload_n X dX7_count_0 0 rfl ?_
  refine g_iconst X (v := 0) dX7_count_1 ki_0 ?_
  refine m_put X D 0 (by decide) fp_X7_91 dX7_count_2 (mset_0 _ _ _) ?_
  refine g_iconst X (v := 0) dX7_count_5 ki_0 ?_
  refine g_istore_n X dX7_count_6 (Nat.le_of_ble_eq_true rfl) [(2, _), (0, _), (1, _)] rfl ?_
  refine g_iload_n X dX7_count_7 2 rfl ?_
  refine g_tswIn X (off := 62) 70 dX7_count_8 (by decide) (by decide) (by decide) (by decide) ?_
  refine g_aload_n X dX7_count_70 1 rfl ?_
  refine g_getfield X fl_X7_101 dX7_count_71 (mLm D) rfl ?_
  refine g_iret X F rfl rfl dX7_count_74 (Nat.zero_le _) (Nat.zero_le _) ?_
  exact ⟨rfl, rfl⟩
theorem c_X7_count_8 (D : md ix m ad)  : Ct G l 1 0 0 M_X7_count [.ref m, .int 8] (mH G ix ad I Ar h0) (rX (some (.int (I 26))) (mH G ix ad (t0 I) Ar h0)) := by
  refine Ct.of (by decide +kernel) (Nat.le_of_ble_eq_true rfl) (fun E hE X F => ?_)
  have X : Gc G E "ComplaintDeskModel" cX7_count 7 1 0 0 := X
  show GW G E _ 7 0 [(0, _), (1, _)] [] _ 0 0
  refine g_aload_n X dX7_count_0 0 rfl ?_
  refine g_iconst X (v := 0) dX7_count_1 ki_0 ?_
  refine m_put X D 0 (by decide) fp_X7_91 dX7_count_2 (mset_0 _ _ _) ?_
  refine g_iconst X (v := 0) dX7_count_5 ki_0 ?_
  refine g_istore_n X dX7_count_6 (Nat.le_of_ble_eq_true rfl) [(2, _), (0, _), (1, _)] rfl ?_
  refine g_iload_n X dX7_count_7 2 rfl ?_
  refine g_tswIn X (off := 269) 277 dX7_count_8 (by decide) (by decide) (by decide) (by decide) ?_
  refine g_aload_n X dX7_count_277 1 rfl ?_
  refine g_getfield X fl_X7_217 dX7_count_278 (mLm D) rfl ?_
  refine g_iret X F rfl rfl dX7_count_281 (Nat.zero_le _) (Nat.zero_le _) ?_
  exact ⟨rfl, rfl⟩
theorem c_X7_count_x (D : md ix m ad) (w : Int32) (hw : w.toInt < 0 ∨ 8 < w.toInt) : Ct G l 1 0 0 M_X7_count [.ref m, .int w] (mH G ix ad I Ar h0) (rX (some (.int (-1))) (mH G ix ad (t0 I) Ar h0)) := by
  refine Ct.of (by decide +kernel) (Nat.le_of_ble_eq_true rfl) (fun E hE X F => ?_)
  have X : Gc G E "ComplaintDeskModel" cX7_count 7 1 0 0 := X
  show GW G E _ 7 0 [(0, _), (1, _)] [] _ 0 0
  refine g_aload_n X dX7_count_0 0 rfl ?_
  refine g_iconst X (v := 0) dX7_count_1 ki_0 ?_
  refine m_put X D 0 (by decide) fp_X7_91 dX7_count_2 (mset_0 _ _ _) ?_
  refine g_iconst X (v := 0) dX7_count_5 ki_0 ?_
  refine g_istore_n X dX7_count_6 (Nat.le_of_ble_eq_true rfl) [(2, _), (0, _), (1, _)] rfl ?_
  refine g_iload_n X dX7_count_7 2 rfl ?_
  refine g_tswOut X 282 dX7_count_8 hw (by decide) ?_
  refine g_iconst X (v := (-1)) dX7_count_282 ki_m1 ?_
  refine g_iret X F rfl rfl dX7_count_283 (Nat.zero_le _) (Nat.zero_le _) ?_
  exact ⟨rfl, rfl⟩
theorem lp_X7_count_77 {E : gE} (X : Gc G E "ComplaintDeskModel" cX7_count 7 1 0 0) (F : gF E M_X7_count) (D : md ix m ad) (hL : okN (I 21) 80) (hP : ∀ a, a < 80 → okN (Ar 15 a) 6)  : ∀ (f : Nat) (k : Nat), k ≤ cl (I 21) → cl (I 21) - k < f → GW G E (gMQ G E 0 0 (rX (some (.int (nI (cN (fun k => clP Ar k (cl (Ar 15 k))) (cl (I 21)))))) (mH G ix ad (t0 I) Ar h0))) 7 77 [(0, .ref m), (1, .int 3), (2, .int (nI (cN (fun k => clP Ar k (cl (Ar 15 k))) k))), (3, .int (nI k))] [] (mH G ix ad (t0 I) Ar h0) 0 0 := by
  intro f
  induction f with
  | zero => intro k hk hf; exact absurd hf (Nat.not_lt_zero _)
  | succ f ih =>
    intro k hk hf
    have hL1 := hL.le
    refine g_iload_n X dX7_count_77 3 rfl ?_
    refine g_aload_n X dX7_count_78 0 rfl ?_
    refine g_getfield X fl_X7_101 dX7_count_79 (mLm D) rfl ?_
    refine g_icmp_ge X 107 dX7_count_82 (by decide) (fun c_82 => ?_) (fun c_82 => ?_)
    · have hq : k = cl (I 21) := by have := hL.ge c_82 (by omega); omega
      subst hq
      refine g_iload_n X dX7_count_107 2 rfl ?_
      refine g_iret X F rfl rfl dX7_count_108 (Nat.zero_le _) (Nat.zero_le _) ?_
      exact ⟨rfl, rfl⟩
    · have hq : k < cl (I 21) := hL.lt (Int32.not_le.mp c_82) (by omega)
      refine g_iload_n X dX7_count_85 2 rfl ?_
      refine g_aload_n X dX7_count_86 0 rfl ?_
      refine g_iload_n X dX7_count_87 3 rfl ?_
      refine g_cV X ml_X7_225 (c_X7_isClosed D k (by omega) (hP k (by omega))) ⟨7, _, mLm D, rfl⟩ (Nat.le_of_ble_eq_true rfl) rfl rfl (Nat.le_of_ble_eq_true rfl) (Nat.zero_le _) (Nat.zero_le _) dX7_count_88 ?_
      refine g_if_eq X 98 dX7_count_91 (by decide) (fun c_91 => ?_) (fun c_91 => ?_)
      · refine g_iconst X (v := 0) dX7_count_98 ki_0 ?_
        refine g_iadd X dX7_count_99 ?_
        refine g_eqi (y := nI (cN (fun k => clP Ar k (cl (Ar 15 k))) (k + 1))) (by first | exact cN_f (P := fun k => clP Ar k (cl (Ar 15 k))) (b2_0.mp c_91) | exact cN_t (P := fun k => clP Ar k (cl (Ar 15 k))) (Decidable.not_not.mp (fun q => c_91 (b2_0.mpr q)))) ?_
        refine g_istore_n X dX7_count_100 (Nat.le_of_ble_eq_true rfl) [(2, _), (0, _), (1, _), (3, _)] rfl ?_
        refine g_iinc X (v := nI (k + 1)) dX7_count_101 3 rfl (nI_1 k) (Nat.le_of_ble_eq_true rfl) [(3, _), (2, _), (0, _), (1, _)] rfl ?_
        refine g_goto X 77 dX7_count_104 (by decide) ?_
        refine g_L [2, 3, 1, 0] (L' := [(0, _), (1, _), (2, _), (3, _)]) rfl ?_
        exact ih (k + 1) (by omega) (by omega)
      · refine g_iconst X (v := 1) dX7_count_94 ki_1 ?_
        refine g_goto X 99 dX7_count_95 (by decide) ?_
        refine g_iadd X dX7_count_99 ?_
        refine g_eqi (y := nI (cN (fun k => clP Ar k (cl (Ar 15 k))) (k + 1))) (by first | exact cN_f (P := fun k => clP Ar k (cl (Ar 15 k))) (b2_0.mp c_91) | exact cN_t (P := fun k => clP Ar k (cl (Ar 15 k))) (Decidable.not_not.mp (fun q => c_91 (b2_0.mpr q)))) ?_
        refine g_istore_n X dX7_count_100 (Nat.le_of_ble_eq_true rfl) [(2, _), (0, _), (1, _), (3, _)] rfl ?_
        refine g_iinc X (v := nI (k + 1)) dX7_count_101 3 rfl (nI_1 k) (Nat.le_of_ble_eq_true rfl) [(3, _), (2, _), (0, _), (1, _)] rfl ?_
        refine g_goto X 77 dX7_count_104 (by decide) ?_
        refine g_L [2, 3, 1, 0] (L' := [(0, _), (1, _), (2, _), (3, _)]) rfl ?_
        exact ih (k + 1) (by omega) (by omega)
theorem c_X7_count_3 (D : md ix m ad) (hL : okN (I 21) 80) (hP : ∀ a, a < 80 → okN (Ar 15 a) 6)  : Ct G l 1 0 0 M_X7_count [.ref m, .int 3] (mH G ix ad I Ar h0) (rX (some (.int (nI (cN (fun k => clP Ar k (cl (Ar 15 k))) (cl (I 21)))))) (mH G ix ad (t0 I) Ar h0)) := by
  refine Ct.of (by decide +kernel) (Nat.le_of_ble_eq_true rfl) (fun E hE X F => ?_)
  have X : Gc G E "ComplaintDeskModel" cX7_count 7 1 0 0 := X
  show GW G E _ 7 0 [(0, _), (1, _)] [] _ 0 0
  refine g_aload_n X dX7_count_0 0 rfl ?_
  refine g_iconst X (v := 0) dX7_count_1 ki_0 ?_
  refine m_put X D 0 (by decide) fp_X7_91 dX7_count_2 (mset_0 _ _ _) ?_
  refine g_iconst X (v := 0) dX7_count_5 ki_0 ?_
  refine g_istore_n X dX7_count_6 (Nat.le_of_ble_eq_true rfl) [(2, _), (0, _), (1, _)] rfl ?_
  refine g_iload_n X dX7_count_7 2 rfl ?_
  refine g_tswIn X (off := 67) 75 dX7_count_8 (by decide) (by decide) (by decide) (by decide) ?_
  refine g_iconst X (v := 0) dX7_count_75 ki_0 ?_
  refine g_istore_n X dX7_count_76 (Nat.le_of_ble_eq_true rfl) [(3, _), (2, _), (0, _), (1, _)] rfl ?_
  refine g_L [2, 3, 1, 0] (L' := [(0, _), (1, _), (2, _), (3, _)]) rfl ?_
  refine g_L [0, 1, 2, 3] (L' := [(0, _), (1, _), (2, .int (nI (cN (fun k => clP Ar k (cl (Ar 15 k))) 0))), (3, _)]) (by rw [cN_0]; rfl) ?_
  exact lp_X7_count_77 X F D hL hP _ 0 (Nat.zero_le _) (Nat.lt_succ_self _)
theorem lp_X7_count_111 {E : gE} (X : Gc G E "ComplaintDeskModel" cX7_count 7 1 0 0) (F : gF E M_X7_count) (D : md ix m ad) (hL : okN (I 21) 80) (hP : ∀ a, a < 80 → okN (Ar 15 a) 6)  : ∀ (f : Nat) (k : Nat), k ≤ cl (I 21) → cl (I 21) - k < f → GW G E (gMQ G E 0 0 (rX (some (.int (nI (sN (fun k => cl (Ar 15 k)) (cl (I 21)))))) (mH G ix ad (t0 I) Ar h0))) 7 111 [(0, .ref m), (1, .int 4), (2, .int (nI (sN (fun k => cl (Ar 15 k)) k))), (3, .int (nI k))] [] (mH G ix ad (t0 I) Ar h0) 0 0 := by
  intro f
  induction f with
  | zero => intro k hk hf; exact absurd hf (Nat.not_lt_zero _)
  | succ f ih =>
    intro k hk hf
    have hL1 := hL.le
    refine g_iload_n X dX7_count_111 3 rfl ?_
    refine g_aload_n X dX7_count_112 0 rfl ?_
    refine g_getfield X fl_X7_101 dX7_count_113 (mLm D) rfl ?_
    refine g_icmp_ge X 134 dX7_count_116 (by decide) (fun c_116 => ?_) (fun c_116 => ?_)
    · have hq : k = cl (I 21) := by have := hL.ge c_116 (by omega); omega
      subst hq
      refine g_iload_n X dX7_count_134 2 rfl ?_
      refine g_iret X F rfl rfl dX7_count_135 (Nat.zero_le _) (Nat.zero_le _) ?_
      exact ⟨rfl, rfl⟩
    · have hq : k < cl (I 21) := hL.lt (Int32.not_le.mp c_116) (by omega)
      refine g_iload_n X dX7_count_119 2 rfl ?_
      refine g_aload_n X dX7_count_120 0 rfl ?_
      refine g_getfield X fl_X7_48 dX7_count_121 (mLm D) rfl ?_
      refine g_iload_n X dX7_count_124 3 rfl ?_
      refine g_iaload X dX7_count_125 (mLa D 15 rfl) (vp_in_nI (by omega) (by decide)) ?_
      refine g_eqi (y := nI (cl (Ar 15 k))) (by rw [nI_clamp (by omega)]; exact (hP k (by omega)).eq.1) ?_
      refine g_iadd X dX7_count_126 ?_
      refine g_eqi (y := nI (sN (fun k => cl (Ar 15 k)) (k + 1))) (by rw [sN_s]; exact nI_add _ _) ?_
      refine g_istore_n X dX7_count_127 (Nat.le_of_ble_eq_true rfl) [(2, _), (0, _), (1, _), (3, _)] rfl ?_
      refine g_iinc X (v := nI (k + 1)) dX7_count_128 3 rfl (nI_1 k) (Nat.le_of_ble_eq_true rfl) [(3, _), (2, _), (0, _), (1, _)] rfl ?_
      refine g_goto X 111 dX7_count_131 (by decide) ?_
      refine g_L [2, 3, 1, 0] (L' := [(0, _), (1, _), (2, _), (3, _)]) rfl ?_
      exact ih (k + 1) (by omega) (by omega)
theorem c_X7_count_4 (D : md ix m ad) (hL : okN (I 21) 80) (hP : ∀ a, a < 80 → okN (Ar 15 a) 6)  : Ct G l 1 0 0 M_X7_count [.ref m, .int 4] (mH G ix ad I Ar h0) (rX (some (.int (nI (sN (fun k => cl (Ar 15 k)) (cl (I 21)))))) (mH G ix ad (t0 I) Ar h0)) := by
  refine Ct.of (by decide +kernel) (Nat.le_of_ble_eq_true rfl) (fun E hE X F => ?_)
  have X : Gc G E "ComplaintDeskModel" cX7_count 7 1 0 0 := X
  show GW G E _ 7 0 [(0, _), (1, _)] [] _ 0 0
  refine g_aload_n X dX7_count_0 0 rfl ?_
  refine g_iconst X (v := 0) dX7_count_1 ki_0 ?_
  refine m_put X D 0 (by decide) fp_X7_91 dX7_count_2 (mset_0 _ _ _) ?_
  refine g_iconst X (v := 0) dX7_count_5 ki_0 ?_
  refine g_istore_n X dX7_count_6 (Nat.le_of_ble_eq_true rfl) [(2, _), (0, _), (1, _)] rfl ?_
  refine g_iload_n X dX7_count_7 2 rfl ?_
  refine g_tswIn X (off := 101) 109 dX7_count_8 (by decide) (by decide) (by decide) (by decide) ?_
  refine g_iconst X (v := 0) dX7_count_109 ki_0 ?_
  refine g_istore_n X dX7_count_110 (Nat.le_of_ble_eq_true rfl) [(3, _), (2, _), (0, _), (1, _)] rfl ?_
  refine g_L [2, 3, 1, 0] (L' := [(0, _), (1, _), (2, _), (3, _)]) rfl ?_
  refine g_L [0, 1, 2, 3] (L' := [(0, _), (1, _), (2, .int (nI (sN (fun k => cl (Ar 15 k)) 0))), (3, _)]) (by rw [sN_0]; rfl) ?_
  exact lp_X7_count_111 X F D hL hP _ 0 (Nat.zero_le _) (Nat.lt_succ_self _)
/-- what count(w) counts, of w 5 to 7 -/
abbrev pcP (Ar : Nat → Nat → Int32) (w : Int32) (k : Nat) : Prop := if w = 5 then Ar 24 k < 0 ∧ Ar 22 k < 0 else if w = 6 then ¬ Ar 24 k < 0 else ¬ Ar 24 k < 0 ∧ ¬ Ar 22 k < 0 ∧ ¬ Ar 24 k ≤ Ar 23 k
abbrev pcN (Ar : Nat → Nat → Int32) (w : Int32) (a : Nat) : Nat := cN (fun p => pcP Ar w (6 * a + p)) (cl (Ar 15 a))
theorem lp_X7_count_149 {E : gE} (X : Gc G E "ComplaintDeskModel" cX7_count 7 1 0 0) {Q : State → Prop} (D : md ix m ad) (w : Int32) (a : Nat) (ha : a < 80) (hP : okN (Ar 15 a) 6) (s : Nat) (hs : s < 1000) (K : GW G E Q 7 269 [(0, .ref m), (1, .int w), (2, .int (nI (s + pcN Ar w a))), (3, .int (nI a))] [] (mH G ix ad (t0 I) Ar h0) 0 0) : ∀ (f : Nat) (p : Nat), p ≤ cl (Ar 15 a) → cl (Ar 15 a) - p < f → GW G E Q 7 149 [(0, .ref m), (1, .int w), (2, .int (nI (s + cN (fun p => pcP Ar w (6 * a + p)) p))), (3, .int (nI a)), (4, .int (nI p))] [] (mH G ix ad (t0 I) Ar h0) 0 0 := by
  intro f
  induction f with
  | zero => intro p hp hf; exact absurd hf (Nat.not_lt_zero _)
  | succ f ih =>
    intro p hp hf
    have hp6 := hP.le
    have cnt : pcP Ar w (6 * a + p) → nI (s + cN (fun p => pcP Ar w (6 * a + p)) p) + 1 = nI (s + cN (fun p => pcP Ar w (6 * a + p)) (p + 1)) := fun q => by rw [cN_s, if_pos q]; exact nI_1 _
    have cnf : ¬ pcP Ar w (6 * a + p) → nI (s + cN (fun p => pcP Ar w (6 * a + p)) p) + 0 = nI (s + cN (fun p => pcP Ar w (6 * a + p)) (p + 1)) := fun q => by rw [cN_s, if_neg q]; exact nI_add _ 0
    refine g_iload X dX7_count_149 4 rfl ?_
    refine g_aload_n X dX7_count_151 0 rfl ?_
    refine g_getfield X fl_X7_48 dX7_count_152 (mLm D) rfl ?_
    refine g_iload_n X dX7_count_155 3 rfl ?_
    refine g_iaload X dX7_count_156 (mLa D 15 rfl) (vp_in_nI (by omega) (by decide)) ?_
    refine g_eqi (y := Ar 15 a) (by rw [nI_clamp (by omega)]) ?_
    refine g_icmp_ge X 269 dX7_count_157 (by decide) (fun c_157 => ?_) (fun c_157 => ?_)
    · have hq : p = cl (Ar 15 a) := by have := hP.ge c_157 (by omega); omega
      subst hq
      refine g_L [0, 1, 2, 3] (L' := [(0, _), (1, _), (2, _), (3, _)]) rfl ?_
      exact K
    · have hq : p < cl (Ar 15 a) := hP.lt (Int32.not_le.mp c_157) (by omega)
      refine g_bipush X (v := 6) dX7_count_160 kb_6 ?_
      refine g_iload_n X dX7_count_162 3 rfl ?_
      refine g_imul X dX7_count_163 ?_
      refine g_iload X dX7_count_164 4 rfl ?_
      refine g_iadd X dX7_count_166 ?_
      refine g_eqi (y := nI (6 * a + p)) (ix6 a p) ?_
      refine g_istore X dX7_count_167 (Nat.le_of_ble_eq_true rfl) [(5, _), (0, _), (1, _), (2, _), (3, _), (4, _)] rfl ?_
      refine g_aload_n X dX7_count_169 1 rfl ?_
      refine g_getfield X fl_X7_72 dX7_count_170 (mLm D) rfl ?_
      refine g_iload X dX7_count_173 0 rfl ?_
      refine g_iaload X dX7_count_175 (mLa D 24 rfl) (vp_in_nI (by omega) (by decide)) ?_
      refine g_eqi (y := Ar 24 (6 * a + p)) (by rw [nI_clamp (by omega)]) ?_
      refine g_if_lt X 183 dX7_count_176 (by decide) (fun c_176 => ?_) (fun c_176 => ?_)
      · refine g_iconst X (v := 0) dX7_count_183 ki_0 ?_
        refine g_istore X dX7_count_184 (Nat.le_of_ble_eq_true rfl) [(6, _), (5, _), (0, _), (1, _), (2, _), (3, _), (4, _)] rfl ?_
        refine g_iload_n X dX7_count_186 4 rfl ?_
        refine g_iload_n X dX7_count_187 3 rfl ?_
        refine g_iconst X (v := 5) dX7_count_188 ki_5 ?_
        refine g_icmp_ne X 210 dX7_count_189 (by decide) (fun c_189 => ?_) (fun c_189 => ?_)
        · refine g_iload_n X dX7_count_210 3 rfl ?_
          refine g_bipush X (v := 6) dX7_count_211 kb_6 ?_
          refine g_icmp_ne X 224 dX7_count_213 (by decide) (fun c_213 => ?_) (fun c_213 => ?_)
          · have ew : pcP Ar w (6 * a + p) = (¬ Ar 24 (6 * a + p) < 0 ∧ ¬ Ar 22 (6 * a + p) < 0 ∧ ¬ Ar 24 (6 * a + p) ≤ Ar 23 (6 * a + p)) := (if_neg c_189).trans (if_neg c_213)
            refine g_iload X dX7_count_224 0 rfl ?_
            refine g_if_eq X 260 dX7_count_226 (by decide) (fun c_226 => ?_) (fun c_226 => ?_)
            · refine g_iconst X (v := 0) dX7_count_260 ki_0 ?_
              refine g_iadd X dX7_count_261 ?_
              refine g_eqi (y := nI (s + cN (fun p => pcP Ar w (6 * a + p)) (p + 1))) (by first | (exact absurd rfl c_226) | (exact absurd c_226 (by decide)) | (exact absurd rfl c_194) | (exact absurd c_194 (by decide)) | (exact absurd rfl c_218) | (exact absurd c_218 (by decide)) | (refine cnt ?_; rw [ew]; exact ⟨c_176, n204⟩) | (refine cnt ?_; rw [ew]; exact c_176) | (refine cnt ?_; rw [ew]; exact ⟨c_176, c_236, c_253⟩) | (refine cnf ?_; rw [ew]; exact fun z => c_176 z.1) | (refine cnf ?_; rw [ew]; exact fun z => n204 z.2) | (refine cnf ?_; rw [ew]; exact fun z => z c_176) | (refine cnf ?_; rw [ew]; exact fun z => z.1 c_176) | (refine cnf ?_; rw [ew]; exact fun z => z.2.1 c_236) | (refine cnf ?_; rw [ew]; exact fun z => z.2.2 c_253)) ?_
              refine g_istore_n X dX7_count_262 (Nat.le_of_ble_eq_true rfl) [(2, _), (6, _), (5, _), (0, _), (1, _), (3, _), (4, _)] rfl ?_
              refine g_iinc X (v := nI (p + 1)) dX7_count_263 6 rfl (nI_1 p) (Nat.le_of_ble_eq_true rfl) [(4, _), (2, _), (6, _), (5, _), (0, _), (1, _), (3, _)] rfl ?_
              refine g_goto X 149 dX7_count_266 (by decide) ?_
              refine g_L [4, 5, 1, 6, 0] (L' := [(0, _), (1, _), (2, _), (3, _), (4, _)]) rfl ?_
              exact ih (p + 1) (by omega) (by omega)
            · refine g_aload_n X dX7_count_229 2 rfl ?_
              refine g_getfield X fl_X7_66 dX7_count_230 (mLm D) rfl ?_
              refine g_iload X dX7_count_233 1 rfl ?_
              refine g_iaload X dX7_count_235 (mLa D 22 rfl) (vp_in_nI (by omega) (by decide)) ?_
              refine g_eqi (y := Ar 22 (6 * a + p)) (by rw [nI_clamp (by omega)]) ?_
              refine g_if_lt X 260 dX7_count_236 (by decide) (fun c_236 => ?_) (fun c_236 => ?_)
              · refine g_iconst X (v := 0) dX7_count_260 ki_0 ?_
                refine g_iadd X dX7_count_261 ?_
                refine g_eqi (y := nI (s + cN (fun p => pcP Ar w (6 * a + p)) (p + 1))) (by first | (exact absurd rfl c_226) | (exact absurd c_226 (by decide)) | (exact absurd rfl c_194) | (exact absurd c_194 (by decide)) | (exact absurd rfl c_218) | (exact absurd c_218 (by decide)) | (refine cnt ?_; rw [ew]; exact ⟨c_176, n204⟩) | (refine cnt ?_; rw [ew]; exact c_176) | (refine cnt ?_; rw [ew]; exact ⟨c_176, c_236, c_253⟩) | (refine cnf ?_; rw [ew]; exact fun z => c_176 z.1) | (refine cnf ?_; rw [ew]; exact fun z => n204 z.2) | (refine cnf ?_; rw [ew]; exact fun z => z c_176) | (refine cnf ?_; rw [ew]; exact fun z => z.1 c_176) | (refine cnf ?_; rw [ew]; exact fun z => z.2.1 c_236) | (refine cnf ?_; rw [ew]; exact fun z => z.2.2 c_253)) ?_
                refine g_istore_n X dX7_count_262 (Nat.le_of_ble_eq_true rfl) [(2, _), (6, _), (5, _), (0, _), (1, _), (3, _), (4, _)] rfl ?_
                refine g_iinc X (v := nI (p + 1)) dX7_count_263 6 rfl (nI_1 p) (Nat.le_of_ble_eq_true rfl) [(4, _), (2, _), (6, _), (5, _), (0, _), (1, _), (3, _)] rfl ?_
                refine g_goto X 149 dX7_count_266 (by decide) ?_
                refine g_L [4, 5, 1, 6, 0] (L' := [(0, _), (1, _), (2, _), (3, _), (4, _)]) rfl ?_
                exact ih (p + 1) (by omega) (by omega)
              · refine g_aload_n X dX7_count_239 2 rfl ?_
                refine g_getfield X fl_X7_72 dX7_count_240 (mLm D) rfl ?_
                refine g_iload X dX7_count_243 1 rfl ?_
                refine g_iaload X dX7_count_245 (mLa D 24 rfl) (vp_in_nI (by omega) (by decide)) ?_
                refine g_eqi (y := Ar 24 (6 * a + p)) (by rw [nI_clamp (by omega)]) ?_
                refine g_aload_n X dX7_count_246 2 rfl ?_
                refine g_getfield X fl_X7_69 dX7_count_247 (mLm D) rfl ?_
                refine g_iload X dX7_count_250 1 rfl ?_
                refine g_iaload X dX7_count_252 (mLa D 23 rfl) (vp_in_nI (by omega) (by decide)) ?_
                refine g_eqi (y := Ar 23 (6 * a + p)) (by rw [nI_clamp (by omega)]) ?_
                refine g_icmp_le X 260 dX7_count_253 (by decide) (fun c_253 => ?_) (fun c_253 => ?_)
                · refine g_iconst X (v := 0) dX7_count_260 ki_0 ?_
                  refine g_iadd X dX7_count_261 ?_
                  refine g_eqi (y := nI (s + cN (fun p => pcP Ar w (6 * a + p)) (p + 1))) (by first | (exact absurd rfl c_226) | (exact absurd c_226 (by decide)) | (exact absurd rfl c_194) | (exact absurd c_194 (by decide)) | (exact absurd rfl c_218) | (exact absurd c_218 (by decide)) | (refine cnt ?_; rw [ew]; exact ⟨c_176, n204⟩) | (refine cnt ?_; rw [ew]; exact c_176) | (refine cnt ?_; rw [ew]; exact ⟨c_176, c_236, c_253⟩) | (refine cnf ?_; rw [ew]; exact fun z => c_176 z.1) | (refine cnf ?_; rw [ew]; exact fun z => n204 z.2) | (refine cnf ?_; rw [ew]; exact fun z => z c_176) | (refine cnf ?_; rw [ew]; exact fun z => z.1 c_176) | (refine cnf ?_; rw [ew]; exact fun z => z.2.1 c_236) | (refine cnf ?_; rw [ew]; exact fun z => z.2.2 c_253)) ?_
                  refine g_istore_n X dX7_count_262 (Nat.le_of_ble_eq_true rfl) [(2, _), (6, _), (5, _), (0, _), (1, _), (3, _), (4, _)] rfl ?_
                  refine g_iinc X (v := nI (p + 1)) dX7_count_263 6 rfl (nI_1 p) (Nat.le_of_ble_eq_true rfl) [(4, _), (2, _), (6, _), (5, _), (0, _), (1, _), (3, _)] rfl ?_
                  refine g_goto X 149 dX7_count_266 (by decide) ?_
                  refine g_L [4, 5, 1, 6, 0] (L' := [(0, _), (1, _), (2, _), (3, _), (4, _)]) rfl ?_
                  exact ih (p + 1) (by omega) (by omega)
                · refine g_iconst X (v := 1) dX7_count_256 ki_1 ?_
                  refine g_goto X 261 dX7_count_257 (by decide) ?_
                  refine g_iadd X dX7_count_261 ?_
                  refine g_eqi (y := nI (s + cN (fun p => pcP Ar w (6 * a + p)) (p + 1))) (by first | (exact absurd rfl c_226) | (exact absurd c_226 (by decide)) | (exact absurd rfl c_194) | (exact absurd c_194 (by decide)) | (exact absurd rfl c_218) | (exact absurd c_218 (by decide)) | (refine cnt ?_; rw [ew]; exact ⟨c_176, n204⟩) | (refine cnt ?_; rw [ew]; exact c_176) | (refine cnt ?_; rw [ew]; exact ⟨c_176, c_236, c_253⟩) | (refine cnf ?_; rw [ew]; exact fun z => c_176 z.1) | (refine cnf ?_; rw [ew]; exact fun z => n204 z.2) | (refine cnf ?_; rw [ew]; exact fun z => z c_176) | (refine cnf ?_; rw [ew]; exact fun z => z.1 c_176) | (refine cnf ?_; rw [ew]; exact fun z => z.2.1 c_236) | (refine cnf ?_; rw [ew]; exact fun z => z.2.2 c_253)) ?_
                  refine g_istore_n X dX7_count_262 (Nat.le_of_ble_eq_true rfl) [(2, _), (6, _), (5, _), (0, _), (1, _), (3, _), (4, _)] rfl ?_
                  refine g_iinc X (v := nI (p + 1)) dX7_count_263 6 rfl (nI_1 p) (Nat.le_of_ble_eq_true rfl) [(4, _), (2, _), (6, _), (5, _), (0, _), (1, _), (3, _)] rfl ?_
                  refine g_goto X 149 dX7_count_266 (by decide) ?_
                  refine g_L [4, 5, 1, 6, 0] (L' := [(0, _), (1, _), (2, _), (3, _), (4, _)]) rfl ?_
                  exact ih (p + 1) (by omega) (by omega)
          · have ew : pcP Ar w (6 * a + p) = (¬ Ar 24 (6 * a + p) < 0) := (if_neg c_189).trans (if_pos c_213)
            refine g_iload X dX7_count_216 0 rfl ?_
            refine g_if_eq X 260 dX7_count_218 (by decide) (fun c_218 => ?_) (fun c_218 => ?_)
            · refine g_iconst X (v := 0) dX7_count_260 ki_0 ?_
              refine g_iadd X dX7_count_261 ?_
              refine g_eqi (y := nI (s + cN (fun p => pcP Ar w (6 * a + p)) (p + 1))) (by first | (exact absurd rfl c_226) | (exact absurd c_226 (by decide)) | (exact absurd rfl c_194) | (exact absurd c_194 (by decide)) | (exact absurd rfl c_218) | (exact absurd c_218 (by decide)) | (refine cnt ?_; rw [ew]; exact ⟨c_176, n204⟩) | (refine cnt ?_; rw [ew]; exact c_176) | (refine cnt ?_; rw [ew]; exact ⟨c_176, c_236, c_253⟩) | (refine cnf ?_; rw [ew]; exact fun z => c_176 z.1) | (refine cnf ?_; rw [ew]; exact fun z => n204 z.2) | (refine cnf ?_; rw [ew]; exact fun z => z c_176) | (refine cnf ?_; rw [ew]; exact fun z => z.1 c_176) | (refine cnf ?_; rw [ew]; exact fun z => z.2.1 c_236) | (refine cnf ?_; rw [ew]; exact fun z => z.2.2 c_253)) ?_
              refine g_istore_n X dX7_count_262 (Nat.le_of_ble_eq_true rfl) [(2, _), (6, _), (5, _), (0, _), (1, _), (3, _), (4, _)] rfl ?_
              refine g_iinc X (v := nI (p + 1)) dX7_count_263 6 rfl (nI_1 p) (Nat.le_of_ble_eq_true rfl) [(4, _), (2, _), (6, _), (5, _), (0, _), (1, _), (3, _)] rfl ?_
              refine g_goto X 149 dX7_count_266 (by decide) ?_
              refine g_L [4, 5, 1, 6, 0] (L' := [(0, _), (1, _), (2, _), (3, _), (4, _)]) rfl ?_
              exact ih (p + 1) (by omega) (by omega)
            · refine g_goto X 256 dX7_count_221 (by decide) ?_
              refine g_iconst X (v := 1) dX7_count_256 ki_1 ?_
              refine g_goto X 261 dX7_count_257 (by decide) ?_
              refine g_iadd X dX7_count_261 ?_
              refine g_eqi (y := nI (s + cN (fun p => pcP Ar w (6 * a + p)) (p + 1))) (by first | (exact absurd rfl c_226) | (exact absurd c_226 (by decide)) | (exact absurd rfl c_194) | (exact absurd c_194 (by decide)) | (exact absurd rfl c_218) | (exact absurd c_218 (by decide)) | (refine cnt ?_; rw [ew]; exact ⟨c_176, n204⟩) | (refine cnt ?_; rw [ew]; exact c_176) | (refine cnt ?_; rw [ew]; exact ⟨c_176, c_236, c_253⟩) | (refine cnf ?_; rw [ew]; exact fun z => c_176 z.1) | (refine cnf ?_; rw [ew]; exact fun z => n204 z.2) | (refine cnf ?_; rw [ew]; exact fun z => z c_176) | (refine cnf ?_; rw [ew]; exact fun z => z.1 c_176) | (refine cnf ?_; rw [ew]; exact fun z => z.2.1 c_236) | (refine cnf ?_; rw [ew]; exact fun z => z.2.2 c_253)) ?_
              refine g_istore_n X dX7_count_262 (Nat.le_of_ble_eq_true rfl) [(2, _), (6, _), (5, _), (0, _), (1, _), (3, _), (4, _)] rfl ?_
              refine g_iinc X (v := nI (p + 1)) dX7_count_263 6 rfl (nI_1 p) (Nat.le_of_ble_eq_true rfl) [(4, _), (2, _), (6, _), (5, _), (0, _), (1, _), (3, _)] rfl ?_
              refine g_goto X 149 dX7_count_266 (by decide) ?_
              refine g_L [4, 5, 1, 6, 0] (L' := [(0, _), (1, _), (2, _), (3, _), (4, _)]) rfl ?_
              exact ih (p + 1) (by omega) (by omega)
        · have ew : pcP Ar w (6 * a + p) = (Ar 24 (6 * a + p) < 0 ∧ Ar 22 (6 * a + p) < 0) := if_pos c_189
          refine g_iload X dX7_count_192 0 rfl ?_
          refine g_if_ne X 260 dX7_count_194 (by decide) (fun c_194 => ?_) (fun c_194 => ?_)
          · refine g_iconst X (v := 0) dX7_count_260 ki_0 ?_
            refine g_iadd X dX7_count_261 ?_
            refine g_eqi (y := nI (s + cN (fun p => pcP Ar w (6 * a + p)) (p + 1))) (by first | (exact absurd rfl c_226) | (exact absurd c_226 (by decide)) | (exact absurd rfl c_194) | (exact absurd c_194 (by decide)) | (exact absurd rfl c_218) | (exact absurd c_218 (by decide)) | (refine cnt ?_; rw [ew]; exact ⟨c_176, n204⟩) | (refine cnt ?_; rw [ew]; exact c_176) | (refine cnt ?_; rw [ew]; exact ⟨c_176, c_236, c_253⟩) | (refine cnf ?_; rw [ew]; exact fun z => c_176 z.1) | (refine cnf ?_; rw [ew]; exact fun z => n204 z.2) | (refine cnf ?_; rw [ew]; exact fun z => z c_176) | (refine cnf ?_; rw [ew]; exact fun z => z.1 c_176) | (refine cnf ?_; rw [ew]; exact fun z => z.2.1 c_236) | (refine cnf ?_; rw [ew]; exact fun z => z.2.2 c_253)) ?_
            refine g_istore_n X dX7_count_262 (Nat.le_of_ble_eq_true rfl) [(2, _), (6, _), (5, _), (0, _), (1, _), (3, _), (4, _)] rfl ?_
            refine g_iinc X (v := nI (p + 1)) dX7_count_263 6 rfl (nI_1 p) (Nat.le_of_ble_eq_true rfl) [(4, _), (2, _), (6, _), (5, _), (0, _), (1, _), (3, _)] rfl ?_
            refine g_goto X 149 dX7_count_266 (by decide) ?_
            refine g_L [4, 5, 1, 6, 0] (L' := [(0, _), (1, _), (2, _), (3, _), (4, _)]) rfl ?_
            exact ih (p + 1) (by omega) (by omega)
          · refine g_aload_n X dX7_count_197 2 rfl ?_
            refine g_getfield X fl_X7_66 dX7_count_198 (mLm D) rfl ?_
            refine g_iload X dX7_count_201 1 rfl ?_
            refine g_iaload X dX7_count_203 (mLa D 22 rfl) (vp_in_nI (by omega) (by decide)) ?_
            refine g_eqi (y := Ar 22 (6 * a + p)) (by rw [nI_clamp (by omega)]) ?_
            refine g_if_ge X 260 dX7_count_204 (by decide) (fun c_204 => ?_) (fun c_204 => ?_)
            · have n204 : ¬ Ar 22 (6 * a + p) < 0 := Int32.not_lt.mpr c_204
              refine g_iconst X (v := 0) dX7_count_260 ki_0 ?_
              refine g_iadd X dX7_count_261 ?_
              refine g_eqi (y := nI (s + cN (fun p => pcP Ar w (6 * a + p)) (p + 1))) (by first | (exact absurd rfl c_226) | (exact absurd c_226 (by decide)) | (exact absurd rfl c_194) | (exact absurd c_194 (by decide)) | (exact absurd rfl c_218) | (exact absurd c_218 (by decide)) | (refine cnt ?_; rw [ew]; exact ⟨c_176, n204⟩) | (refine cnt ?_; rw [ew]; exact c_176) | (refine cnt ?_; rw [ew]; exact ⟨c_176, c_236, c_253⟩) | (refine cnf ?_; rw [ew]; exact fun z => c_176 z.1) | (refine cnf ?_; rw [ew]; exact fun z => n204 z.2) | (refine cnf ?_; rw [ew]; exact fun z => z c_176) | (refine cnf ?_; rw [ew]; exact fun z => z.1 c_176) | (refine cnf ?_; rw [ew]; exact fun z => z.2.1 c_236) | (refine cnf ?_; rw [ew]; exact fun z => z.2.2 c_253)) ?_
              refine g_istore_n X dX7_count_262 (Nat.le_of_ble_eq_true rfl) [(2, _), (6, _), (5, _), (0, _), (1, _), (3, _), (4, _)] rfl ?_
              refine g_iinc X (v := nI (p + 1)) dX7_count_263 6 rfl (nI_1 p) (Nat.le_of_ble_eq_true rfl) [(4, _), (2, _), (6, _), (5, _), (0, _), (1, _), (3, _)] rfl ?_
              refine g_goto X 149 dX7_count_266 (by decide) ?_
              refine g_L [4, 5, 1, 6, 0] (L' := [(0, _), (1, _), (2, _), (3, _), (4, _)]) rfl ?_
              exact ih (p + 1) (by omega) (by omega)
            · have n204 : Ar 22 (6 * a + p) < 0 := Int32.not_le.mp c_204
              refine g_goto X 256 dX7_count_207 (by decide) ?_
              refine g_iconst X (v := 1) dX7_count_256 ki_1 ?_
              refine g_goto X 261 dX7_count_257 (by decide) ?_
              refine g_iadd X dX7_count_261 ?_
              refine g_eqi (y := nI (s + cN (fun p => pcP Ar w (6 * a + p)) (p + 1))) (by first | (exact absurd rfl c_226) | (exact absurd c_226 (by decide)) | (exact absurd rfl c_194) | (exact absurd c_194 (by decide)) | (exact absurd rfl c_218) | (exact absurd c_218 (by decide)) | (refine cnt ?_; rw [ew]; exact ⟨c_176, n204⟩) | (refine cnt ?_; rw [ew]; exact c_176) | (refine cnt ?_; rw [ew]; exact ⟨c_176, c_236, c_253⟩) | (refine cnf ?_; rw [ew]; exact fun z => c_176 z.1) | (refine cnf ?_; rw [ew]; exact fun z => n204 z.2) | (refine cnf ?_; rw [ew]; exact fun z => z c_176) | (refine cnf ?_; rw [ew]; exact fun z => z.1 c_176) | (refine cnf ?_; rw [ew]; exact fun z => z.2.1 c_236) | (refine cnf ?_; rw [ew]; exact fun z => z.2.2 c_253)) ?_
              refine g_istore_n X dX7_count_262 (Nat.le_of_ble_eq_true rfl) [(2, _), (6, _), (5, _), (0, _), (1, _), (3, _), (4, _)] rfl ?_
              refine g_iinc X (v := nI (p + 1)) dX7_count_263 6 rfl (nI_1 p) (Nat.le_of_ble_eq_true rfl) [(4, _), (2, _), (6, _), (5, _), (0, _), (1, _), (3, _)] rfl ?_
              refine g_goto X 149 dX7_count_266 (by decide) ?_
              refine g_L [4, 5, 1, 6, 0] (L' := [(0, _), (1, _), (2, _), (3, _), (4, _)]) rfl ?_
              exact ih (p + 1) (by omega) (by omega)
      · refine g_iconst X (v := 1) dX7_count_179 ki_1 ?_
        refine g_goto X 184 dX7_count_180 (by decide) ?_
        refine g_istore X dX7_count_184 (Nat.le_of_ble_eq_true rfl) [(6, _), (5, _), (0, _), (1, _), (2, _), (3, _), (4, _)] rfl ?_
        refine g_iload_n X dX7_count_186 4 rfl ?_
        refine g_iload_n X dX7_count_187 3 rfl ?_
        refine g_iconst X (v := 5) dX7_count_188 ki_5 ?_
        refine g_icmp_ne X 210 dX7_count_189 (by decide) (fun c_189 => ?_) (fun c_189 => ?_)
        · refine g_iload_n X dX7_count_210 3 rfl ?_
          refine g_bipush X (v := 6) dX7_count_211 kb_6 ?_
          refine g_icmp_ne X 224 dX7_count_213 (by decide) (fun c_213 => ?_) (fun c_213 => ?_)
          · have ew : pcP Ar w (6 * a + p) = (¬ Ar 24 (6 * a + p) < 0 ∧ ¬ Ar 22 (6 * a + p) < 0 ∧ ¬ Ar 24 (6 * a + p) ≤ Ar 23 (6 * a + p)) := (if_neg c_189).trans (if_neg c_213)
            refine g_iload X dX7_count_224 0 rfl ?_
            refine g_if_eq X 260 dX7_count_226 (by decide) (fun c_226 => ?_) (fun c_226 => ?_)
            · refine g_iconst X (v := 0) dX7_count_260 ki_0 ?_
              refine g_iadd X dX7_count_261 ?_
              refine g_eqi (y := nI (s + cN (fun p => pcP Ar w (6 * a + p)) (p + 1))) (by first | (exact absurd rfl c_226) | (exact absurd c_226 (by decide)) | (exact absurd rfl c_194) | (exact absurd c_194 (by decide)) | (exact absurd rfl c_218) | (exact absurd c_218 (by decide)) | (refine cnt ?_; rw [ew]; exact ⟨c_176, n204⟩) | (refine cnt ?_; rw [ew]; exact c_176) | (refine cnt ?_; rw [ew]; exact ⟨c_176, c_236, c_253⟩) | (refine cnf ?_; rw [ew]; exact fun z => c_176 z.1) | (refine cnf ?_; rw [ew]; exact fun z => n204 z.2) | (refine cnf ?_; rw [ew]; exact fun z => z c_176) | (refine cnf ?_; rw [ew]; exact fun z => z.1 c_176) | (refine cnf ?_; rw [ew]; exact fun z => z.2.1 c_236) | (refine cnf ?_; rw [ew]; exact fun z => z.2.2 c_253)) ?_
              refine g_istore_n X dX7_count_262 (Nat.le_of_ble_eq_true rfl) [(2, _), (6, _), (5, _), (0, _), (1, _), (3, _), (4, _)] rfl ?_
              refine g_iinc X (v := nI (p + 1)) dX7_count_263 6 rfl (nI_1 p) (Nat.le_of_ble_eq_true rfl) [(4, _), (2, _), (6, _), (5, _), (0, _), (1, _), (3, _)] rfl ?_
              refine g_goto X 149 dX7_count_266 (by decide) ?_
              refine g_L [4, 5, 1, 6, 0] (L' := [(0, _), (1, _), (2, _), (3, _), (4, _)]) rfl ?_
              exact ih (p + 1) (by omega) (by omega)
            · refine g_aload_n X dX7_count_229 2 rfl ?_
              refine g_getfield X fl_X7_66 dX7_count_230 (mLm D) rfl ?_
              refine g_iload X dX7_count_233 1 rfl ?_
              refine g_iaload X dX7_count_235 (mLa D 22 rfl) (vp_in_nI (by omega) (by decide)) ?_
              refine g_eqi (y := Ar 22 (6 * a + p)) (by rw [nI_clamp (by omega)]) ?_
              refine g_if_lt X 260 dX7_count_236 (by decide) (fun c_236 => ?_) (fun c_236 => ?_)
              · refine g_iconst X (v := 0) dX7_count_260 ki_0 ?_
                refine g_iadd X dX7_count_261 ?_
                refine g_eqi (y := nI (s + cN (fun p => pcP Ar w (6 * a + p)) (p + 1))) (by first | (exact absurd rfl c_226) | (exact absurd c_226 (by decide)) | (exact absurd rfl c_194) | (exact absurd c_194 (by decide)) | (exact absurd rfl c_218) | (exact absurd c_218 (by decide)) | (refine cnt ?_; rw [ew]; exact ⟨c_176, n204⟩) | (refine cnt ?_; rw [ew]; exact c_176) | (refine cnt ?_; rw [ew]; exact ⟨c_176, c_236, c_253⟩) | (refine cnf ?_; rw [ew]; exact fun z => c_176 z.1) | (refine cnf ?_; rw [ew]; exact fun z => n204 z.2) | (refine cnf ?_; rw [ew]; exact fun z => z c_176) | (refine cnf ?_; rw [ew]; exact fun z => z.1 c_176) | (refine cnf ?_; rw [ew]; exact fun z => z.2.1 c_236) | (refine cnf ?_; rw [ew]; exact fun z => z.2.2 c_253)) ?_
                refine g_istore_n X dX7_count_262 (Nat.le_of_ble_eq_true rfl) [(2, _), (6, _), (5, _), (0, _), (1, _), (3, _), (4, _)] rfl ?_
                refine g_iinc X (v := nI (p + 1)) dX7_count_263 6 rfl (nI_1 p) (Nat.le_of_ble_eq_true rfl) [(4, _), (2, _), (6, _), (5, _), (0, _), (1, _), (3, _)] rfl ?_
                refine g_goto X 149 dX7_count_266 (by decide) ?_
                refine g_L [4, 5, 1, 6, 0] (L' := [(0, _), (1, _), (2, _), (3, _), (4, _)]) rfl ?_
                exact ih (p + 1) (by omega) (by omega)
              · refine g_aload_n X dX7_count_239 2 rfl ?_
                refine g_getfield X fl_X7_72 dX7_count_240 (mLm D) rfl ?_
                refine g_iload X dX7_count_243 1 rfl ?_
                refine g_iaload X dX7_count_245 (mLa D 24 rfl) (vp_in_nI (by omega) (by decide)) ?_
                refine g_eqi (y := Ar 24 (6 * a + p)) (by rw [nI_clamp (by omega)]) ?_
                refine g_aload_n X dX7_count_246 2 rfl ?_
                refine g_getfield X fl_X7_69 dX7_count_247 (mLm D) rfl ?_
                refine g_iload X dX7_count_250 1 rfl ?_
                refine g_iaload X dX7_count_252 (mLa D 23 rfl) (vp_in_nI (by omega) (by decide)) ?_
                refine g_eqi (y := Ar 23 (6 * a + p)) (by rw [nI_clamp (by omega)]) ?_
                refine g_icmp_le X 260 dX7_count_253 (by decide) (fun c_253 => ?_) (fun c_253 => ?_)
                · refine g_iconst X (v := 0) dX7_count_260 ki_0 ?_
                  refine g_iadd X dX7_count_261 ?_
                  refine g_eqi (y := nI (s + cN (fun p => pcP Ar w (6 * a + p)) (p + 1))) (by first | (exact absurd rfl c_226) | (exact absurd c_226 (by decide)) | (exact absurd rfl c_194) | (exact absurd c_194 (by decide)) | (exact absurd rfl c_218) | (exact absurd c_218 (by decide)) | (refine cnt ?_; rw [ew]; exact ⟨c_176, n204⟩) | (refine cnt ?_; rw [ew]; exact c_176) | (refine cnt ?_; rw [ew]; exact ⟨c_176, c_236, c_253⟩) | (refine cnf ?_; rw [ew]; exact fun z => c_176 z.1) | (refine cnf ?_; rw [ew]; exact fun z => n204 z.2) | (refine cnf ?_; rw [ew]; exact fun z => z c_176) | (refine cnf ?_; rw [ew]; exact fun z => z.1 c_176) | (refine cnf ?_; rw [ew]; exact fun z => z.2.1 c_236) | (refine cnf ?_; rw [ew]; exact fun z => z.2.2 c_253)) ?_
                  refine g_istore_n X dX7_count_262 (Nat.le_of_ble_eq_true rfl) [(2, _), (6, _), (5, _), (0, _), (1, _), (3, _), (4, _)] rfl ?_
                  refine g_iinc X (v := nI (p + 1)) dX7_count_263 6 rfl (nI_1 p) (Nat.le_of_ble_eq_true rfl) [(4, _), (2, _), (6, _), (5, _), (0, _), (1, _), (3, _)] rfl ?_
                  refine g_goto X 149 dX7_count_266 (by decide) ?_
                  refine g_L [4, 5, 1, 6, 0] (L' := [(0, _), (1, _), (2, _), (3, _), (4, _)]) rfl ?_
                  exact ih (p + 1) (by omega) (by omega)
                · refine g_iconst X (v := 1) dX7_count_256 ki_1 ?_
                  refine g_goto X 261 dX7_count_257 (by decide) ?_
                  refine g_iadd X dX7_count_261 ?_
                  refine g_eqi (y := nI (s + cN (fun p => pcP Ar w (6 * a + p)) (p + 1))) (by first | (exact absurd rfl c_226) | (exact absurd c_226 (by decide)) | (exact absurd rfl c_194) | (exact absurd c_194 (by decide)) | (exact absurd rfl c_218) | (exact absurd c_218 (by decide)) | (refine cnt ?_; rw [ew]; exact ⟨c_176, n204⟩) | (refine cnt ?_; rw [ew]; exact c_176) | (refine cnt ?_; rw [ew]; exact ⟨c_176, c_236, c_253⟩) | (refine cnf ?_; rw [ew]; exact fun z => c_176 z.1) | (refine cnf ?_; rw [ew]; exact fun z => n204 z.2) | (refine cnf ?_; rw [ew]; exact fun z => z c_176) | (refine cnf ?_; rw [ew]; exact fun z => z.1 c_176) | (refine cnf ?_; rw [ew]; exact fun z => z.2.1 c_236) | (refine cnf ?_; rw [ew]; exact fun z => z.2.2 c_253)) ?_
                  refine g_istore_n X dX7_count_262 (Nat.le_of_ble_eq_true rfl) [(2, _), (6, _), (5, _), (0, _), (1, _), (3, _), (4, _)] rfl ?_
                  refine g_iinc X (v := nI (p + 1)) dX7_count_263 6 rfl (nI_1 p) (Nat.le_of_ble_eq_true rfl) [(4, _), (2, _), (6, _), (5, _), (0, _), (1, _), (3, _)] rfl ?_
                  refine g_goto X 149 dX7_count_266 (by decide) ?_
                  refine g_L [4, 5, 1, 6, 0] (L' := [(0, _), (1, _), (2, _), (3, _), (4, _)]) rfl ?_
                  exact ih (p + 1) (by omega) (by omega)
          · have ew : pcP Ar w (6 * a + p) = (¬ Ar 24 (6 * a + p) < 0) := (if_neg c_189).trans (if_pos c_213)
            refine g_iload X dX7_count_216 0 rfl ?_
            refine g_if_eq X 260 dX7_count_218 (by decide) (fun c_218 => ?_) (fun c_218 => ?_)
            · refine g_iconst X (v := 0) dX7_count_260 ki_0 ?_
              refine g_iadd X dX7_count_261 ?_
              refine g_eqi (y := nI (s + cN (fun p => pcP Ar w (6 * a + p)) (p + 1))) (by first | (exact absurd rfl c_226) | (exact absurd c_226 (by decide)) | (exact absurd rfl c_194) | (exact absurd c_194 (by decide)) | (exact absurd rfl c_218) | (exact absurd c_218 (by decide)) | (refine cnt ?_; rw [ew]; exact ⟨c_176, n204⟩) | (refine cnt ?_; rw [ew]; exact c_176) | (refine cnt ?_; rw [ew]; exact ⟨c_176, c_236, c_253⟩) | (refine cnf ?_; rw [ew]; exact fun z => c_176 z.1) | (refine cnf ?_; rw [ew]; exact fun z => n204 z.2) | (refine cnf ?_; rw [ew]; exact fun z => z c_176) | (refine cnf ?_; rw [ew]; exact fun z => z.1 c_176) | (refine cnf ?_; rw [ew]; exact fun z => z.2.1 c_236) | (refine cnf ?_; rw [ew]; exact fun z => z.2.2 c_253)) ?_
              refine g_istore_n X dX7_count_262 (Nat.le_of_ble_eq_true rfl) [(2, _), (6, _), (5, _), (0, _), (1, _), (3, _), (4, _)] rfl ?_
              refine g_iinc X (v := nI (p + 1)) dX7_count_263 6 rfl (nI_1 p) (Nat.le_of_ble_eq_true rfl) [(4, _), (2, _), (6, _), (5, _), (0, _), (1, _), (3, _)] rfl ?_
              refine g_goto X 149 dX7_count_266 (by decide) ?_
              refine g_L [4, 5, 1, 6, 0] (L' := [(0, _), (1, _), (2, _), (3, _), (4, _)]) rfl ?_
              exact ih (p + 1) (by omega) (by omega)
            · refine g_goto X 256 dX7_count_221 (by decide) ?_
              refine g_iconst X (v := 1) dX7_count_256 ki_1 ?_
              refine g_goto X 261 dX7_count_257 (by decide) ?_
              refine g_iadd X dX7_count_261 ?_
              refine g_eqi (y := nI (s + cN (fun p => pcP Ar w (6 * a + p)) (p + 1))) (by first | (exact absurd rfl c_226) | (exact absurd c_226 (by decide)) | (exact absurd rfl c_194) | (exact absurd c_194 (by decide)) | (exact absurd rfl c_218) | (exact absurd c_218 (by decide)) | (refine cnt ?_; rw [ew]; exact ⟨c_176, n204⟩) | (refine cnt ?_; rw [ew]; exact c_176) | (refine cnt ?_; rw [ew]; exact ⟨c_176, c_236, c_253⟩) | (refine cnf ?_; rw [ew]; exact fun z => c_176 z.1) | (refine cnf ?_; rw [ew]; exact fun z => n204 z.2) | (refine cnf ?_; rw [ew]; exact fun z => z c_176) | (refine cnf ?_; rw [ew]; exact fun z => z.1 c_176) | (refine cnf ?_; rw [ew]; exact fun z => z.2.1 c_236) | (refine cnf ?_; rw [ew]; exact fun z => z.2.2 c_253)) ?_
              refine g_istore_n X dX7_count_262 (Nat.le_of_ble_eq_true rfl) [(2, _), (6, _), (5, _), (0, _), (1, _), (3, _), (4, _)] rfl ?_
              refine g_iinc X (v := nI (p + 1)) dX7_count_263 6 rfl (nI_1 p) (Nat.le_of_ble_eq_true rfl) [(4, _), (2, _), (6, _), (5, _), (0, _), (1, _), (3, _)] rfl ?_
              refine g_goto X 149 dX7_count_266 (by decide) ?_
              refine g_L [4, 5, 1, 6, 0] (L' := [(0, _), (1, _), (2, _), (3, _), (4, _)]) rfl ?_
              exact ih (p + 1) (by omega) (by omega)
        · have ew : pcP Ar w (6 * a + p) = (Ar 24 (6 * a + p) < 0 ∧ Ar 22 (6 * a + p) < 0) := if_pos c_189
          refine g_iload X dX7_count_192 0 rfl ?_
          refine g_if_ne X 260 dX7_count_194 (by decide) (fun c_194 => ?_) (fun c_194 => ?_)
          · refine g_iconst X (v := 0) dX7_count_260 ki_0 ?_
            refine g_iadd X dX7_count_261 ?_
            refine g_eqi (y := nI (s + cN (fun p => pcP Ar w (6 * a + p)) (p + 1))) (by first | (exact absurd rfl c_226) | (exact absurd c_226 (by decide)) | (exact absurd rfl c_194) | (exact absurd c_194 (by decide)) | (exact absurd rfl c_218) | (exact absurd c_218 (by decide)) | (refine cnt ?_; rw [ew]; exact ⟨c_176, n204⟩) | (refine cnt ?_; rw [ew]; exact c_176) | (refine cnt ?_; rw [ew]; exact ⟨c_176, c_236, c_253⟩) | (refine cnf ?_; rw [ew]; exact fun z => c_176 z.1) | (refine cnf ?_; rw [ew]; exact fun z => n204 z.2) | (refine cnf ?_; rw [ew]; exact fun z => z c_176) | (refine cnf ?_; rw [ew]; exact fun z => z.1 c_176) | (refine cnf ?_; rw [ew]; exact fun z => z.2.1 c_236) | (refine cnf ?_; rw [ew]; exact fun z => z.2.2 c_253)) ?_
            refine g_istore_n X dX7_count_262 (Nat.le_of_ble_eq_true rfl) [(2, _), (6, _), (5, _), (0, _), (1, _), (3, _), (4, _)] rfl ?_
            refine g_iinc X (v := nI (p + 1)) dX7_count_263 6 rfl (nI_1 p) (Nat.le_of_ble_eq_true rfl) [(4, _), (2, _), (6, _), (5, _), (0, _), (1, _), (3, _)] rfl ?_
            refine g_goto X 149 dX7_count_266 (by decide) ?_
            refine g_L [4, 5, 1, 6, 0] (L' := [(0, _), (1, _), (2, _), (3, _), (4, _)]) rfl ?_
            exact ih (p + 1) (by omega) (by omega)
          · refine g_aload_n X dX7_count_197 2 rfl ?_
            refine g_getfield X fl_X7_66 dX7_count_198 (mLm D) rfl ?_
            refine g_iload X dX7_count_201 1 rfl ?_
            refine g_iaload X dX7_count_203 (mLa D 22 rfl) (vp_in_nI (by omega) (by decide)) ?_
            refine g_eqi (y := Ar 22 (6 * a + p)) (by rw [nI_clamp (by omega)]) ?_
            refine g_if_ge X 260 dX7_count_204 (by decide) (fun c_204 => ?_) (fun c_204 => ?_)
            · have n204 : ¬ Ar 22 (6 * a + p) < 0 := Int32.not_lt.mpr c_204
              refine g_iconst X (v := 0) dX7_count_260 ki_0 ?_
              refine g_iadd X dX7_count_261 ?_
              refine g_eqi (y := nI (s + cN (fun p => pcP Ar w (6 * a + p)) (p + 1))) (by first | (exact absurd rfl c_226) | (exact absurd c_226 (by decide)) | (exact absurd rfl c_194) | (exact absurd c_194 (by decide)) | (exact absurd rfl c_218) | (exact absurd c_218 (by decide)) | (refine cnt ?_; rw [ew]; exact ⟨c_176, n204⟩) | (refine cnt ?_; rw [ew]; exact c_176) | (refine cnt ?_; rw [ew]; exact ⟨c_176, c_236, c_253⟩) | (refine cnf ?_; rw [ew]; exact fun z => c_176 z.1) | (refine cnf ?_; rw [ew]; exact fun z => n204 z.2) | (refine cnf ?_; rw [ew]; exact fun z => z c_176) | (refine cnf ?_; rw [ew]; exact fun z => z.1 c_176) | (refine cnf ?_; rw [ew]; exact fun z => z.2.1 c_236) | (refine cnf ?_; rw [ew]; exact fun z => z.2.2 c_253)) ?_
              refine g_istore_n X dX7_count_262 (Nat.le_of_ble_eq_true rfl) [(2, _), (6, _), (5, _), (0, _), (1, _), (3, _), (4, _)] rfl ?_
              refine g_iinc X (v := nI (p + 1)) dX7_count_263 6 rfl (nI_1 p) (Nat.le_of_ble_eq_true rfl) [(4, _), (2, _), (6, _), (5, _), (0, _), (1, _), (3, _)] rfl ?_
              refine g_goto X 149 dX7_count_266 (by decide) ?_
              refine g_L [4, 5, 1, 6, 0] (L' := [(0, _), (1, _), (2, _), (3, _), (4, _)]) rfl ?_
              exact ih (p + 1) (by omega) (by omega)
            · have n204 : Ar 22 (6 * a + p) < 0 := Int32.not_le.mp c_204
              refine g_goto X 256 dX7_count_207 (by decide) ?_
              refine g_iconst X (v := 1) dX7_count_256 ki_1 ?_
              refine g_goto X 261 dX7_count_257 (by decide) ?_
              refine g_iadd X dX7_count_261 ?_
              refine g_eqi (y := nI (s + cN (fun p => pcP Ar w (6 * a + p)) (p + 1))) (by first | (exact absurd rfl c_226) | (exact absurd c_226 (by decide)) | (exact absurd rfl c_194) | (exact absurd c_194 (by decide)) | (exact absurd rfl c_218) | (exact absurd c_218 (by decide)) | (refine cnt ?_; rw [ew]; exact ⟨c_176, n204⟩) | (refine cnt ?_; rw [ew]; exact c_176) | (refine cnt ?_; rw [ew]; exact ⟨c_176, c_236, c_253⟩) | (refine cnf ?_; rw [ew]; exact fun z => c_176 z.1) | (refine cnf ?_; rw [ew]; exact fun z => n204 z.2) | (refine cnf ?_; rw [ew]; exact fun z => z c_176) | (refine cnf ?_; rw [ew]; exact fun z => z.1 c_176) | (refine cnf ?_; rw [ew]; exact fun z => z.2.1 c_236) | (refine cnf ?_; rw [ew]; exact fun z => z.2.2 c_253)) ?_
              refine g_istore_n X dX7_count_262 (Nat.le_of_ble_eq_true rfl) [(2, _), (6, _), (5, _), (0, _), (1, _), (3, _), (4, _)] rfl ?_
              refine g_iinc X (v := nI (p + 1)) dX7_count_263 6 rfl (nI_1 p) (Nat.le_of_ble_eq_true rfl) [(4, _), (2, _), (6, _), (5, _), (0, _), (1, _), (3, _)] rfl ?_
              refine g_goto X 149 dX7_count_266 (by decide) ?_
              refine g_L [4, 5, 1, 6, 0] (L' := [(0, _), (1, _), (2, _), (3, _), (4, _)]) rfl ?_
              exact ih (p + 1) (by omega) (by omega)
theorem sN_le6 {f : Nat → Nat} {c n : Nat} (h : ∀ k, k < n → f k ≤ c) : sN f n ≤ n * c := by
  induction n with
  | zero => rw [sN_0]; exact Nat.zero_le _
  | succ n ih => have := h n (Nat.lt_succ_self n); have := ih (fun k hk => h k (by omega)); rw [sN_s, Nat.add_mul]; omega
theorem lp_X7_count_138 {E : gE} (X : Gc G E "ComplaintDeskModel" cX7_count 7 1 0 0) (F : gF E M_X7_count) (D : md ix m ad) (w : Int32) (hL : okN (I 21) 80) (hP : ∀ a, a < 80 → okN (Ar 15 a) 6)  : ∀ (f : Nat) (a : Nat), a ≤ cl (I 21) → cl (I 21) - a < f → GW G E (gMQ G E 0 0 (rX (some (.int (nI (sN (pcN Ar w) (cl (I 21)))))) (mH G ix ad (t0 I) Ar h0))) 7 138 [(0, .ref m), (1, .int w), (2, .int (nI (sN (pcN Ar w) a))), (3, .int (nI a))] [] (mH G ix ad (t0 I) Ar h0) 0 0 := by
  intro f
  induction f with
  | zero => intro a ha hf; exact absurd hf (Nat.not_lt_zero _)
  | succ f ih =>
    intro a ha hf
    have hL1 := hL.le
    have hs6 : sN (pcN Ar w) a ≤ a * 6 := sN_le6 (fun k hk => Nat.le_trans (cN_le _ _) (hP k (by omega)).le)
    refine g_iload_n X dX7_count_138 3 rfl ?_
    refine g_aload_n X dX7_count_139 0 rfl ?_
    refine g_getfield X fl_X7_101 dX7_count_140 (mLm D) rfl ?_
    refine g_icmp_ge X 275 dX7_count_143 (by decide) (fun c_143 => ?_) (fun c_143 => ?_)
    · have hq : a = cl (I 21) := by have := hL.ge c_143 (by omega); omega
      subst hq
      refine g_iload_n X dX7_count_275 2 rfl ?_
      refine g_iret X F rfl rfl dX7_count_276 (Nat.zero_le _) (Nat.zero_le _) ?_
      exact ⟨rfl, rfl⟩
    · have hq : a < cl (I 21) := hL.lt (Int32.not_le.mp c_143) (by omega)
      refine g_iconst X (v := 0) dX7_count_146 ki_0 ?_
      refine g_istore X dX7_count_147 (Nat.le_of_ble_eq_true rfl) [(4, _), (0, _), (1, _), (2, _), (3, _)] rfl ?_
      refine g_L [1, 2, 3, 4, 0] (L' := [(0, _), (1, _), (2, _), (3, _), (4, _)]) rfl ?_
      refine g_L [0, 1, 2, 3, 4] (L' := [(0, _), (1, _), (2, .int (nI (sN (pcN Ar w) a + cN (fun p => pcP Ar w (6 * a + p)) 0))), (3, _), (4, _)]) (by rw [cN_0]; rfl) ?_
      refine lp_X7_count_149 X D w a (by omega) (hP a (by omega)) (sN (pcN Ar w) a) (by omega) ?_ _ 0 (Nat.zero_le _) (Nat.lt_succ_self _)
      rw [← sN_s]
      refine g_iinc X (v := nI (a + 1)) dX7_count_269 3 rfl (nI_1 a) (Nat.le_of_ble_eq_true rfl) [(3, _), (0, _), (1, _), (2, _)] rfl ?_
      refine g_goto X 138 dX7_count_272 (by decide) ?_
      refine g_L [1, 2, 3, 0] (L' := [(0, _), (1, _), (2, _), (3, _)]) rfl ?_
      exact ih (a + 1) (by omega) (by omega)
theorem c_X7_count_5 (D : md ix m ad) (hL : okN (I 21) 80) (hP : ∀ a, a < 80 → okN (Ar 15 a) 6)  : Ct G l 1 0 0 M_X7_count [.ref m, .int 5] (mH G ix ad I Ar h0) (rX (some (.int (nI (sN (pcN Ar 5) (cl (I 21)))))) (mH G ix ad (t0 I) Ar h0)) := by
  refine Ct.of (by decide +kernel) (Nat.le_of_ble_eq_true rfl) (fun E hE X F => ?_)
  have X : Gc G E "ComplaintDeskModel" cX7_count 7 1 0 0 := X
  show GW G E _ 7 0 [(0, _), (1, _)] [] _ 0 0
  refine g_aload_n X dX7_count_0 0 rfl ?_
  refine g_iconst X (v := 0) dX7_count_1 ki_0 ?_
  refine m_put X D 0 (by decide) fp_X7_91 dX7_count_2 (mset_0 _ _ _) ?_
  refine g_iconst X (v := 0) dX7_count_5 ki_0 ?_
  refine g_istore_n X dX7_count_6 (Nat.le_of_ble_eq_true rfl) [(2, _), (0, _), (1, _)] rfl ?_
  refine g_iload_n X dX7_count_7 2 rfl ?_
  refine g_tswIn X (off := 128) 136 dX7_count_8 (by decide) (by decide) (by decide) (by decide) ?_
  refine g_iconst X (v := 0) dX7_count_136 ki_0 ?_
  refine g_istore_n X dX7_count_137 (Nat.le_of_ble_eq_true rfl) [(3, _), (2, _), (0, _), (1, _)] rfl ?_
  refine g_L [2, 3, 1, 0] (L' := [(0, _), (1, _), (2, _), (3, _)]) rfl ?_
  refine g_L [0, 1, 2, 3] (L' := [(0, _), (1, _), (2, .int (nI (sN (pcN Ar 5) 0))), (3, _)]) (by rw [sN_0]; rfl) ?_
  exact lp_X7_count_138 X F D 5 hL hP _ 0 (Nat.zero_le _) (Nat.lt_succ_self _)
theorem c_X7_count_6 (D : md ix m ad) (hL : okN (I 21) 80) (hP : ∀ a, a < 80 → okN (Ar 15 a) 6)  : Ct G l 1 0 0 M_X7_count [.ref m, .int 6] (mH G ix ad I Ar h0) (rX (some (.int (nI (sN (pcN Ar 6) (cl (I 21)))))) (mH G ix ad (t0 I) Ar h0)) := by
  refine Ct.of (by decide +kernel) (Nat.le_of_ble_eq_true rfl) (fun E hE X F => ?_)
  have X : Gc G E "ComplaintDeskModel" cX7_count 7 1 0 0 := X
  show GW G E _ 7 0 [(0, _), (1, _)] [] _ 0 0
  refine g_aload_n X dX7_count_0 0 rfl ?_
  refine g_iconst X (v := 0) dX7_count_1 ki_0 ?_
  refine m_put X D 0 (by decide) fp_X7_91 dX7_count_2 (mset_0 _ _ _) ?_
  refine g_iconst X (v := 0) dX7_count_5 ki_0 ?_
  refine g_istore_n X dX7_count_6 (Nat.le_of_ble_eq_true rfl) [(2, _), (0, _), (1, _)] rfl ?_
  refine g_iload_n X dX7_count_7 2 rfl ?_
  refine g_tswIn X (off := 128) 136 dX7_count_8 (by decide) (by decide) (by decide) (by decide) ?_
  refine g_iconst X (v := 0) dX7_count_136 ki_0 ?_
  refine g_istore_n X dX7_count_137 (Nat.le_of_ble_eq_true rfl) [(3, _), (2, _), (0, _), (1, _)] rfl ?_
  refine g_L [2, 3, 1, 0] (L' := [(0, _), (1, _), (2, _), (3, _)]) rfl ?_
  refine g_L [0, 1, 2, 3] (L' := [(0, _), (1, _), (2, .int (nI (sN (pcN Ar 6) 0))), (3, _)]) (by rw [sN_0]; rfl) ?_
  exact lp_X7_count_138 X F D 6 hL hP _ 0 (Nat.zero_le _) (Nat.lt_succ_self _)
theorem c_X7_count_7 (D : md ix m ad) (hL : okN (I 21) 80) (hP : ∀ a, a < 80 → okN (Ar 15 a) 6)  : Ct G l 1 0 0 M_X7_count [.ref m, .int 7] (mH G ix ad I Ar h0) (rX (some (.int (nI (sN (pcN Ar 7) (cl (I 21)))))) (mH G ix ad (t0 I) Ar h0)) := by
  refine Ct.of (by decide +kernel) (Nat.le_of_ble_eq_true rfl) (fun E hE X F => ?_)
  have X : Gc G E "ComplaintDeskModel" cX7_count 7 1 0 0 := X
  show GW G E _ 7 0 [(0, _), (1, _)] [] _ 0 0
  refine g_aload_n X dX7_count_0 0 rfl ?_
  refine g_iconst X (v := 0) dX7_count_1 ki_0 ?_
  refine m_put X D 0 (by decide) fp_X7_91 dX7_count_2 (mset_0 _ _ _) ?_
  refine g_iconst X (v := 0) dX7_count_5 ki_0 ?_
  refine g_istore_n X dX7_count_6 (Nat.le_of_ble_eq_true rfl) [(2, _), (0, _), (1, _)] rfl ?_
  refine g_iload_n X dX7_count_7 2 rfl ?_
  refine g_tswIn X (off := 128) 136 dX7_count_8 (by decide) (by decide) (by decide) (by decide) ?_
  refine g_iconst X (v := 0) dX7_count_136 ki_0 ?_
  refine g_istore_n X dX7_count_137 (Nat.le_of_ble_eq_true rfl) [(3, _), (2, _), (0, _), (1, _)] rfl ?_
  refine g_L [2, 3, 1, 0] (L' := [(0, _), (1, _), (2, _), (3, _)]) rfl ?_
  refine g_L [0, 1, 2, 3] (L' := [(0, _), (1, _), (2, .int (nI (sN (pcN Ar 7) 0))), (3, _)]) (by rw [sN_0]; rfl) ?_
  exact lp_X7_count_138 X F D 7 hL hP _ 0 (Nat.zero_le _) (Nat.lt_succ_self _)
end M6
