section M5
variable {G : gG} {l : Launch} {ix : Nat → Nat} {m : Nat} {ad : Nat → Nat} {I : Nat → Int32} {Ar : Nat → Nat → Int32} {h0 h : hW}
/-- whether the cause c is a cause it, or below it -/
def undF (Ar : Nat → Nat → Int32) (it : Int32) : Nat → Int32 → Bool
  | 0, _ => false
  | f + 1, c => if c < 0 then false else if c = it then true else undF Ar it f (Ar 2 (cl c))
theorem undF_s {Ar : Nat → Nat → Int32} {it : Int32} {f : Nat} {c : Int32} : undF Ar it (f + 1) c = if c < 0 then false else if c = it then true else undF Ar it f (Ar 2 (cl c)) := rfl
/-- each cause's number is above that of the one above it -/
def abvP (I : Nat → Int32) (Ar : Nat → Nat → Int32) : Prop := ∀ c : Nat, nI c < I 11 → c < 12 → Ar 2 c < nI c ∧ -1 ≤ Ar 2 c
theorem lp_X7_isUnder_2 {E : gE} (X : Gc G E "ComplaintDeskModel" cX7_isUnder 4 0 0 0) (F : gF E M_X7_isUnder) (D : md ix m ad) (it c : Int32) (hA : abvP I Ar) (hI : okN (I 11) 12) (hit : 0 ≤ it) : ∀ (f : Nat) (k : Int32), -1 ≤ k → k < I 11 → (k.toInt + 1).toNat < f → undF Ar it 13 c = undF Ar it f k → GW G E (gMQ G E 0 0 (rX (some (.int (b2 (undF Ar it 13 c = true)))) (mH G ix ad I Ar h0))) 4 2 [(0, .ref m), (1, .int c), (2, .int it), (3, .int k)] [] (mH G ix ad I Ar h0) 0 0 := by
  intro f
  induction f with
  | zero => intro k hk1 hk2 hf hu; exact absurd hf (Nat.not_lt_zero _)
  | succ f ih =>
    intro k hk1 hk2 hf hu
    have hI2 := hI.eq
    have hk3 : (I 11).toInt ≤ 12 := by rw [hI2.1, nI_toInt (by omega)]; omega
    rw [undF_s (f := f) (c := k)] at hu
    refine g_iload_n X dX7_isUnder_2 3 rfl ?_
    refine g_if_lt X 21 dX7_isUnder_3 (by decide) (fun c_3 => ?_) (fun c_3 => ?_)
    · rw [if_pos c_3] at hu
      refine g_iload_n X dX7_isUnder_21 3 rfl ?_
      refine g_if_lt X 29 dX7_isUnder_22 (by decide) (fun c_22 => ?_) (fun c_22 => ?_)
      · refine g_iconst X (v := 0) dX7_isUnder_29 ki_0 ?_
        refine g_iret X F rfl rfl dX7_isUnder_30 (Nat.zero_le _) (Nat.zero_le _) ?_
        refine ⟨congrArg (fun z => some (Value.int z)) ?_, rfl⟩
        first | exact absurd c_3 c_22 | exact absurd c_22 c_3 | exact (b2_t hu).symm | (refine (b2_f ?_).symm; rw [hu]; decide) | (have q1 := hit; have q2 : k = it := by assumption; subst q2; exact absurd (by assumption) (Int32.not_lt.mpr q1))
      · refine g_iconst X (v := 1) dX7_isUnder_25 ki_1 ?_
        refine g_goto X 30 dX7_isUnder_26 (by decide) ?_
        refine g_iret X F rfl rfl dX7_isUnder_30 (Nat.zero_le _) (Nat.zero_le _) ?_
        refine ⟨congrArg (fun z => some (Value.int z)) ?_, rfl⟩
        first | exact absurd c_3 c_22 | exact absurd c_22 c_3 | exact (b2_t hu).symm | (refine (b2_f ?_).symm; rw [hu]; decide) | (have q1 := hit; have q2 : k = it := by assumption; subst q2; exact absurd (by assumption) (Int32.not_lt.mpr q1))
    · rw [if_neg c_3] at hu
      obtain ⟨j, hj, ej⟩ := nI_of c_3
      have hj12 : j < 12 := by rw [i32_lt, ej, nI_toInt hj] at hk2; omega
      have hA1 := hA j (by rw [← ej]; exact hk2) hj12
      have hcl : cl k = j := by rw [ej]; exact nI_clamp hj
      refine g_iload_n X dX7_isUnder_6 3 rfl ?_
      refine g_iload_n X dX7_isUnder_7 2 rfl ?_
      refine g_icmp_eq X 21 dX7_isUnder_8 (by decide) (fun c_8 => ?_) (fun c_8 => ?_)
      · rw [if_pos c_8] at hu
        refine g_iload_n X dX7_isUnder_21 3 rfl ?_
        refine g_if_lt X 29 dX7_isUnder_22 (by decide) (fun c_22 => ?_) (fun c_22 => ?_)
        · refine g_iconst X (v := 0) dX7_isUnder_29 ki_0 ?_
          refine g_iret X F rfl rfl dX7_isUnder_30 (Nat.zero_le _) (Nat.zero_le _) ?_
          refine ⟨congrArg (fun z => some (Value.int z)) ?_, rfl⟩
          first | exact absurd c_3 c_22 | exact absurd c_22 c_3 | exact (b2_t hu).symm | (refine (b2_f ?_).symm; rw [hu]; decide) | (have q1 := hit; have q2 : k = it := by assumption; subst q2; exact absurd (by assumption) (Int32.not_lt.mpr q1))
        · refine g_iconst X (v := 1) dX7_isUnder_25 ki_1 ?_
          refine g_goto X 30 dX7_isUnder_26 (by decide) ?_
          refine g_iret X F rfl rfl dX7_isUnder_30 (Nat.zero_le _) (Nat.zero_le _) ?_
          refine ⟨congrArg (fun z => some (Value.int z)) ?_, rfl⟩
          first | exact absurd c_3 c_22 | exact absurd c_22 c_3 | exact (b2_t hu).symm | (refine (b2_f ?_).symm; rw [hu]; decide) | (have q1 := hit; have q2 : k = it := by assumption; subst q2; exact absurd (by assumption) (Int32.not_lt.mpr q1))
      · rw [if_neg c_8, hcl] at hu
        refine g_aload_n X dX7_isUnder_11 0 rfl ?_
        refine g_getfield X fl_X7_9 dX7_isUnder_12 (mLm D) rfl ?_
        refine g_iload_n X dX7_isUnder_15 3 rfl ?_
        refine g_iaload X dX7_isUnder_16 (mLa D 2 rfl) (by rw [ej]; exact vp_in_nI hj12 (by decide)) ?_
        refine g_eqi (y := Ar 2 j) (congrArg (Ar 2) hcl) ?_
        refine g_istore_n X dX7_isUnder_17 (Nat.le_of_ble_eq_true rfl) [(3, _), (0, _), (1, _), (2, _)] rfl ?_
        refine g_goto X 2 dX7_isUnder_18 (by decide) ?_
        refine g_L [1, 2, 3, 0] (L' := [(0, _), (1, _), (2, _), (3, _)]) rfl ?_
        refine ih _ hA1.2 (Int32.lt_trans hA1.1 (by rw [← ej]; exact hk2)) ?_ hu
        have h1 := hA1.1
        have h2 := hA1.2
        rw [i32_lt, nI_toInt hj] at h1
        rw [i32_le] at h2
        have h3 : (-1 : Int32).toInt = -1 := rfl
        rw [ej, nI_toInt hj] at hf
        omega
theorem c_X7_isUnder (D : md ix m ad) (it c : Int32) (hA : abvP I Ar) (hI : okN (I 11) 12) (hit : 0 ≤ it) (hc1 : -1 ≤ c) (hc2 : c < I 11) : Ct G l 0 0 0 M_X7_isUnder [.ref m, .int c, .int it] (mH G ix ad I Ar h0) (rX (some (.int (b2 (undF Ar it 13 c = true)))) (mH G ix ad I Ar h0)) := by
  refine Ct.of (by decide +kernel) (Nat.le_of_ble_eq_true rfl) (fun E hE X F => ?_)
  have X : Gc G E "ComplaintDeskModel" cX7_isUnder 4 0 0 0 := X
  show GW G E _ 4 0 [(0, _), (1, _), (2, _)] [] _ 0 0
  refine g_iload_n X dX7_isUnder_0 1 rfl ?_
  refine g_istore_n X dX7_isUnder_1 (Nat.le_of_ble_eq_true rfl) [(3, _), (0, _), (1, _), (2, _)] rfl ?_
  refine g_L [1, 2, 3, 0] (L' := [(0, _), (1, _), (2, _), (3, _)]) rfl ?_
  refine lp_X7_isUnder_2 X F D it c hA hI hit 13 c hc1 hc2 ?_ rfl
  have hI2 := hI.eq
  rw [i32_lt, hI2.1, nI_toInt (by omega)] at hc2
  rw [i32_le] at hc1
  have h3 : (-1 : Int32).toInt = -1 := rfl
  omega
/-- the counts of one cause: p points of letter a come to F -/
def cdP (Ar : Nat → Nat → Int32) (it : Int32) (a : Nat) (F : Nat → Int32) : Nat → Nat → Int32
  | 0 => F
  | p + 1 => upd (cdP Ar it a F p) (cl (Ar 14 a)) (cdP Ar it a F p (cl (Ar 14 a)) + b2 (undF Ar it 13 (Ar 22 (6 * a + p)) = true))
termination_by n => n
theorem cdP_0 {Ar : Nat → Nat → Int32} {it : Int32} {a : Nat} {F : Nat → Int32} : cdP Ar it a F 0 = F := by rw [cdP]
theorem cdP_s {Ar : Nat → Nat → Int32} {it : Int32} {a p : Nat} {F : Nat → Int32} : cdP Ar it a F (p + 1) = upd (cdP Ar it a F p) (cl (Ar 14 a)) (cdP Ar it a F p (cl (Ar 14 a)) + b2 (undF Ar it 13 (Ar 22 (6 * a + p)) = true)) := by rw [cdP]
/-- F with 0 up to n -/
def zeroN (F : Nat → Int32) (n : Nat) : Nat → Int32 := fun j => if j < n then 0 else F j
theorem zeroN_s {F : Nat → Int32} {n : Nat} : upd (zeroN F n) n 0 = zeroN F (n + 1) := by
  funext j
  simp only [upd, zeroN]
  by_cases h : j = n
  · subst h; simp
  · rw [if_neg h]
    by_cases h2 : j < n
    · rw [if_pos h2, if_pos (by omega)]
    · rw [if_neg h2, if_neg (by omega)]
theorem zeroN_0 {F : Nat → Int32} : zeroN F 0 = F := by funext j; simp [zeroN]
def cdL (Ar : Nat → Nat → Int32) (it : Int32) (F : Nat → Int32) : Nat → Nat → Int32
  | 0 => F
  | a + 1 => cdP Ar it a (cdL Ar it F a) (cl (Ar 15 a))
termination_by n => n
theorem cdL_0 {Ar : Nat → Nat → Int32} {it : Int32} {F : Nat → Int32} : cdL Ar it F 0 = F := by rw [cdL]
theorem cdL_s {Ar : Nat → Nat → Int32} {it : Int32} {F : Nat → Int32} {a : Nat} : cdL Ar it F (a + 1) = cdP Ar it a (cdL Ar it F a) (cl (Ar 15 a)) := by rw [cdL]
/-- the counts of a cause on all days -/
abbrev cdA (I : Nat → Int32) (Ar : Nat → Nat → Int32) (it : Int32) : Nat → Int32 := cdL Ar it (zeroN (Ar 34) 401) (cl (I 21))
theorem lp_X7_counted_2 {E : gE} (X : Gc G E "ComplaintDeskModel" cX7_counted 4 1 0 0) {Q : State → Prop} (D : md ix m ad) (it : Int32) (K : GW G E Q 4 22 [(0, .ref m), (1, .int it)] [] (mH G ix ad I (va_up Ar 34 (zeroN (Ar 34) 401)) h0) 0 0) : ∀ (f : Nat) (d : Nat), d ≤ 401 → 401 - d < f → GW G E Q 4 2 [(0, .ref m), (1, .int it), (2, .int (nI d))] [] (mH G ix ad I (va_up Ar 34 (zeroN (Ar 34) d)) h0) 0 0 := by
  intro f
  induction f with
  | zero => intro d hd hf; exact absurd hf (Nat.not_lt_zero _)
  | succ f ih =>
    intro d hd hf
    refine g_iload_n X dX7_counted_2 2 rfl ?_
    refine g_sipush X (v := 400) dX7_counted_3 ks_400 ?_
    refine g_icmp_gt X 22 dX7_counted_6 (by decide) (fun c_6 => ?_) (fun c_6 => ?_)
    · have hd2 : d = 401 := by have := gt_lit (N := 400) rfl c_6 (by omega); omega
      subst hd2
      refine g_L [0, 1] (L' := [(0, _), (1, _)]) rfl ?_
      exact K
    · have hd2 : d ≤ 400 := le_lit (N := 400) rfl (Int32.not_lt.mp c_6) (by omega)
      refine g_aload_n X dX7_counted_9 0 rfl ?_
      refine g_getfield X fl_X7_88 dX7_counted_10 (mLm D) rfl ?_
      refine g_iload_n X dX7_counted_13 2 rfl ?_
      refine g_iconst X (v := 0) dX7_counted_14 ki_0 ?_
      refine g_iastore X dX7_counted_15 (mLa D 34 rfl) (vp_in_nI (by omega) (by decide)) (g_h (mUa D 34 rfl _) ?_)
      refine g_iinc X (v := nI (d + 1)) dX7_counted_16 2 rfl (nI_1 d) (Nat.le_of_ble_eq_true rfl) [(2, _), (0, _), (1, _)] rfl ?_
      refine g_goto X 2 dX7_counted_19 (by decide) ?_
      refine g_L [1, 2, 0] (L' := [(0, _), (1, _), (2, _)]) rfl ?_
      refine g_h (h' := mH G ix ad I (va_up Ar 34 (zeroN (Ar 34) (d + 1))) h0) ?_ ?_
      · rw [nI_clamp (by omega)]
        congr 1
        funext j
        by_cases hj : j = 34
        · subst hj; simp only [va_up, if_pos]; exact zeroN_s
        · simp only [va_up, if_neg hj]
      exact ih (d + 1) (by omega) (by omega)
theorem lp_X7_counted_34 {E : gE} (X : Gc G E "ComplaintDeskModel" cX7_counted 4 1 0 0) {Q : State → Prop} (D : md ix m ad) (it : Int32) (hA : abvP I Ar) (hI : okN (I 11) 12) (hit : 0 ≤ it) (a : Nat) (ha : a < 80) (hP : okN (Ar 15 a) 6) (hW : okN (Ar 14 a) 400) (hC : ∀ p, p < cl (Ar 15 a) → -1 ≤ Ar 22 (6 * a + p) ∧ Ar 22 (6 * a + p) < I 11) (F0 : Nat → Int32) (K : GW G E Q 4 88 [(0, .ref m), (1, .int it), (2, .int (nI a))] [] (mH G ix ad I (va_up Ar 34 (cdP Ar it a F0 (cl (Ar 15 a)))) h0) 0 0) : ∀ (f : Nat) (p : Nat), p ≤ cl (Ar 15 a) → cl (Ar 15 a) - p < f → GW G E Q 4 34 [(0, .ref m), (1, .int it), (2, .int (nI a)), (3, .int (nI p))] [] (mH G ix ad I (va_up Ar 34 (cdP Ar it a F0 p)) h0) 0 0 := by
  intro f
  induction f with
  | zero => intro p hp hf; exact absurd hf (Nat.not_lt_zero _)
  | succ f ih =>
    intro p hp hf
    have hp6 := hP.le
    have hW1 := hW.eq
    refine g_iload_n X dX7_counted_34 3 rfl ?_
    refine g_aload_n X dX7_counted_35 0 rfl ?_
    refine g_getfield X fl_X7_48 dX7_counted_36 (mLm D) rfl ?_
    refine g_iload_n X dX7_counted_39 2 rfl ?_
    refine g_iaload X dX7_counted_40 (mLa D 15 rfl) (vp_in_nI (by omega) (by decide)) ?_
    refine g_eqi (y := Ar 15 a) (by rw [nI_clamp (by omega)]; rfl) ?_
    refine g_icmp_ge X 88 dX7_counted_41 (by decide) (fun c_41 => ?_) (fun c_41 => ?_)
    · have hq : p = cl (Ar 15 a) := by have := hP.ge c_41 (by omega); omega
      subst hq
      refine g_L [0, 1, 2] (L' := [(0, _), (1, _), (2, _)]) rfl ?_
      exact K
    · have hq : p < cl (Ar 15 a) := hP.lt (Int32.not_le.mp c_41) (by omega)
      refine g_aload_n X dX7_counted_44 0 rfl ?_
      refine g_getfield X fl_X7_88 dX7_counted_45 (mLm D) rfl ?_
      refine g_aload_n X dX7_counted_48 0 rfl ?_
      refine g_getfield X fl_X7_45 dX7_counted_49 (mLm D) rfl ?_
      refine g_iload_n X dX7_counted_52 2 rfl ?_
      refine g_iaload X dX7_counted_53 (mLa D 14 rfl) (vp_in_nI (by omega) (by decide)) ?_
      refine g_eqi (y := Ar 14 a) (by rw [nI_clamp (by omega)]; rfl) ?_
      refine g_dup2 X dX7_counted_54 rfl rfl ?_
      refine g_iaload X dX7_counted_55 (mLa D 34 rfl) (hW.vp (by decide)) ?_
      refine g_aload_n X dX7_counted_56 0 rfl ?_
      refine g_aload_n X dX7_counted_57 0 rfl ?_
      refine g_getfield X fl_X7_66 dX7_counted_58 (mLm D) rfl ?_
      refine g_bipush X (v := 6) dX7_counted_61 kb_6 ?_
      refine g_iload_n X dX7_counted_63 2 rfl ?_
      refine g_imul X dX7_counted_64 ?_
      refine g_iload_n X dX7_counted_65 3 rfl ?_
      refine g_iadd X dX7_counted_66 ?_
      refine g_eqi (y := nI (6 * a + p)) (ix6 a p) ?_
      refine g_iaload X dX7_counted_67 (mLa D 22 rfl) (vp_in_nI (by omega) (by decide)) ?_
      refine g_eqi (y := Ar 22 (6 * a + p)) (by rw [nI_clamp (by omega)]; rfl) ?_
      refine g_iload_n X dX7_counted_68 1 rfl ?_
      refine g_cV X ml_X7_231 (c_X7_isUnder (Ar := va_up Ar 34 (cdP Ar it a F0 p)) D it (Ar 22 (6 * a + p)) hA hI hit (hC p hq).1 (hC p hq).2) ⟨7, _, mLm D, rfl⟩ (Nat.le_of_ble_eq_true rfl) rfl rfl (Nat.le_of_ble_eq_true rfl) (Nat.zero_le _) (Nat.zero_le _) dX7_counted_69 ?_
      refine g_if_eq X 79 dX7_counted_72 (by decide) (fun c_72 => ?_) (fun c_72 => ?_)
      · have e1 : b2 (undF Ar it 13 (Ar 22 (6 * a + p)) = true) = 0 := c_72
        refine g_iconst X (v := 0) dX7_counted_79 ki_0 ?_
        refine g_iadd X dX7_counted_80 ?_
        refine g_iastore X dX7_counted_81 (mLa D 34 rfl) (hW.vp (by decide)) (g_h (mUa D 34 rfl _) ?_)
        refine g_iinc X (v := nI (p + 1)) dX7_counted_82 3 rfl (nI_1 p) (Nat.le_of_ble_eq_true rfl) [(3, _), (0, _), (1, _), (2, _)] rfl ?_
        refine g_goto X 34 dX7_counted_85 (by decide) ?_
        refine g_L [1, 2, 3, 0] (L' := [(0, _), (1, _), (2, _), (3, _)]) rfl ?_
        refine g_h (h' := mH G ix ad I (va_up Ar 34 (cdP Ar it a F0 (p + 1))) h0) ?_ ?_
        · rw [cdP_s, e1]
          congr 1
          funext j
          by_cases hj : j = 34
          · subst hj; simp only [va_up, if_pos]
          · simp only [va_up, if_neg hj]
        exact ih (p + 1) (by omega) (by omega)
      · have e1 : b2 (undF Ar it 13 (Ar 22 (6 * a + p)) = true) = 1 := b2_c.resolve_left c_72
        refine g_iconst X (v := 1) dX7_counted_75 ki_1 ?_
        refine g_goto X 80 dX7_counted_76 (by decide) ?_
        refine g_iadd X dX7_counted_80 ?_
        refine g_iastore X dX7_counted_81 (mLa D 34 rfl) (hW.vp (by decide)) (g_h (mUa D 34 rfl _) ?_)
        refine g_iinc X (v := nI (p + 1)) dX7_counted_82 3 rfl (nI_1 p) (Nat.le_of_ble_eq_true rfl) [(3, _), (0, _), (1, _), (2, _)] rfl ?_
        refine g_goto X 34 dX7_counted_85 (by decide) ?_
        refine g_L [1, 2, 3, 0] (L' := [(0, _), (1, _), (2, _), (3, _)]) rfl ?_
        refine g_h (h' := mH G ix ad I (va_up Ar 34 (cdP Ar it a F0 (p + 1))) h0) ?_ ?_
        · rw [cdP_s, e1]
          congr 1
          funext j
          by_cases hj : j = 34
          · subst hj; simp only [va_up, if_pos]
          · simp only [va_up, if_neg hj]
        exact ih (p + 1) (by omega) (by omega)
theorem lp_X7_counted_24 {E : gE} (X : Gc G E "ComplaintDeskModel" cX7_counted 4 1 0 0) (F : gF E M_X7_counted) (D : md ix m ad) (it : Int32) (hA : abvP I Ar) (hI : okN (I 11) 12) (hL : okN (I 21) 80) (hit : 0 ≤ it) (hP : ∀ a, a < 80 → okN (Ar 15 a) 6) (hW : ∀ a, a < 80 → okN (Ar 14 a) 400) (hC : ∀ a, a < cl (I 21) → ∀ p, p < cl (Ar 15 a) → -1 ≤ Ar 22 (6 * a + p) ∧ Ar 22 (6 * a + p) < I 11) (F0 : Nat → Int32) : ∀ (f : Nat) (a : Nat), a ≤ cl (I 21) → cl (I 21) - a < f → GW G E (gMQ G E 0 0 (rX none (mH G ix ad I (va_up Ar 34 (cdL Ar it F0 (cl (I 21)))) h0))) 4 24 [(0, .ref m), (1, .int it), (2, .int (nI a))] [] (mH G ix ad I (va_up Ar 34 (cdL Ar it F0 a)) h0) 0 0 := by
  intro f
  induction f with
  | zero => intro a haa hf; exact absurd hf (Nat.not_lt_zero _)
  | succ f ih =>
    intro a haa hf
    have hL1 := hL.le
    refine g_iload_n X dX7_counted_24 2 rfl ?_
    refine g_aload_n X dX7_counted_25 0 rfl ?_
    refine g_getfield X fl_X7_101 dX7_counted_26 (mLm D) rfl ?_
    refine g_icmp_ge X 94 dX7_counted_29 (by decide) (fun c_29 => ?_) (fun c_29 => ?_)
    · have hq : a = cl (I 21) := by have := hL.ge c_29 (by omega); omega
      subst hq
      refine g_ret0 X F rfl dX7_counted_94 (Nat.zero_le _) (Nat.zero_le _) ?_
      exact ⟨rfl, rfl⟩
    · have hq : a < cl (I 21) := hL.lt (Int32.not_le.mp c_29) (by omega)
      refine g_iconst X (v := 0) dX7_counted_32 ki_0 ?_
      refine g_istore_n X dX7_counted_33 (Nat.le_of_ble_eq_true rfl) [(3, _), (0, _), (1, _), (2, _)] rfl ?_
      refine g_L [1, 2, 3, 0] (L' := [(0, _), (1, _), (2, _), (3, _)]) rfl ?_
      refine (fun K => ?_ : GW G E (gMQ G E 0 0 (rX none (mH G ix ad I (va_up Ar 34 (cdL Ar it F0 (cl (I 21)))) h0))) 4 88 [(0, .ref m), (1, .int it), (2, .int (nI a))] [] (mH G ix ad I (va_up Ar 34 (cdP Ar it a (cdL Ar it F0 a) (cl (Ar 15 a)))) h0) 0 0 → _) ?_
      · refine g_h (h' := mH G ix ad I (va_up Ar 34 (cdP Ar it a (cdL Ar it F0 a) 0)) h0) (by rw [cdP_0]) ?_
        exact lp_X7_counted_34 X D it hA hI hit a (by omega) (hP a (by omega)) (hW a (by omega)) (hC a hq) (cdL Ar it F0 a) K _ 0 (Nat.zero_le _) (Nat.lt_succ_self _)
      rw [← cdL_s]
      refine g_iinc X (v := nI (a + 1)) dX7_counted_88 2 rfl (nI_1 a) (Nat.le_of_ble_eq_true rfl) [(2, _), (0, _), (1, _)] rfl ?_
      refine g_goto X 24 dX7_counted_91 (by decide) ?_
      refine g_L [1, 2, 0] (L' := [(0, _), (1, _), (2, _)]) rfl ?_
      exact ih (a + 1) (by omega) (by omega)
theorem c_X7_counted (D : md ix m ad) (it : Int32) (hA : abvP I Ar) (hI : okN (I 11) 12) (hL : okN (I 21) 80) (hit : 0 ≤ it) (hP : ∀ a, a < 80 → okN (Ar 15 a) 6) (hW : ∀ a, a < 80 → okN (Ar 14 a) 400) (hC : ∀ a, a < cl (I 21) → ∀ p, p < cl (Ar 15 a) → -1 ≤ Ar 22 (6 * a + p) ∧ Ar 22 (6 * a + p) < I 11)  : Ct G l 1 0 0 M_X7_counted [.ref m, .int it] (mH G ix ad I Ar h0) (rX none (mH G ix ad I (va_up Ar 34 (cdA I Ar it)) h0)) := by
  refine Ct.of (by decide +kernel) (Nat.le_of_ble_eq_true rfl) (fun E hE X F => ?_)
  have X : Gc G E "ComplaintDeskModel" cX7_counted 4 1 0 0 := X
  show GW G E _ 4 0 [(0, _), (1, _)] [] _ 0 0
  refine g_iconst X (v := 0) dX7_counted_0 ki_0 ?_
  refine g_istore_n X dX7_counted_1 (Nat.le_of_ble_eq_true rfl) [(2, _), (0, _), (1, _)] rfl ?_
  refine g_L [1, 2, 0] (L' := [(0, _), (1, _), (2, _)]) rfl ?_
  refine (fun K => ?_ : GW G E (gMQ G E 0 0 (rX none (mH G ix ad I (va_up Ar 34 (cdA I Ar it)) h0))) 4 22 [(0, .ref m), (1, .int it)] [] (mH G ix ad I (va_up Ar 34 (zeroN (Ar 34) 401)) h0) 0 0 → _) ?_
  · refine g_h (h' := mH G ix ad I (va_up Ar 34 (zeroN (Ar 34) 0)) h0) ?_ ?_
    · rw [zeroN_0]; congr 1; funext j; by_cases hj : j = 34; subst hj; simp [va_up]; simp [va_up, hj]
    exact lp_X7_counted_2 X D it K 402 0 (by omega) (by omega)
  refine g_iconst X (v := 0) dX7_counted_22 ki_0 ?_
  refine g_istore_n X dX7_counted_23 (Nat.le_of_ble_eq_true rfl) [(2, _), (0, _), (1, _)] rfl ?_
  refine g_L [1, 2, 0] (L' := [(0, _), (1, _), (2, _)]) rfl ?_
  refine g_h (h' := mH G ix ad I (va_up Ar 34 (cdL Ar it (zeroN (Ar 34) 401) 0)) h0) (by rw [cdL_0]) ?_
  exact lp_X7_counted_24 X F D it hA hI hL hit hP hW hC (zeroN (Ar 34) 401) _ 0 (Nat.zero_le _) (Nat.lt_succ_self _)
end M5
