section M4
variable {G : gG} {l : Launch} {ix : Nat → Nat} {m : Nat} {ad : Nat → Nat} {I : Nat → Int32} {Ar : Nat → Nat → Int32} {h0 h : hW}
/-- one desk's day: n points at most -/
def stepW (I : Nat → Int32) (A : Nat → Nat → Int32) (d : Int32) (N : Nat) : Nat → Nat → Int32 := match bestF I A d N with
  | none => A
  | some j => va_up A 24 (upd (A 24) j (I 1))
def workM (I : Nat → Int32) (d : Int32) (N : Nat) (Ar : Nat → Nat → Int32) : Nat → Nat → Nat → Int32
  | 0 => Ar
  | n + 1 => stepW I (workM I d N Ar n) d N
termination_by n => n
abbrev workN (I : Nat → Int32) (Ar : Nat → Nat → Int32) (d : Int32) (n : Nat) : Nat → Nat → Int32 := workM I d 480 Ar n
theorem workN_0 {I : Nat → Int32} {Ar : Nat → Nat → Int32} {d : Int32} : workN I Ar d 0 = Ar := by unfold workN; rw [workM]
theorem workN_s {I : Nat → Int32} {Ar : Nat → Nat → Int32} {d : Int32} {n : Nat} : workN I Ar d (n + 1) = match bestF I (workN I Ar d n) d 480 with
    | none => workN I Ar d n
    | some j => va_up (workN I Ar d n) 24 (upd (workN I Ar d n 24) j (I 1)) := by unfold workN; rw [workM, stepW]
theorem workN_off {I : Nat → Int32} {Ar : Nat → Nat → Int32} {d : Int32} {n j : Nat} (h : j ≠ 24) : workN I Ar d n j = Ar j := by
  induction n with
  | zero => rw [workN_0]
  | succ n ih =>
    rw [workN_s]
    split
    · exact ih
    · simp only [va_up, if_neg h]; exact ih
def deskN (I : Nat → Int32) (Ar : Nat → Nat → Int32) : Nat → Nat → Nat → Int32
  | 0 => Ar
  | k + 1 => workN I (deskN I Ar k) (nI k) (cl (deskN I Ar k 12 k))
termination_by n => n
theorem deskN_0 {I : Nat → Int32} {Ar : Nat → Nat → Int32} : deskN I Ar 0 = Ar := by rw [deskN]
theorem deskN_s {I : Nat → Int32} {Ar : Nat → Nat → Int32} {k : Nat} : deskN I Ar (k + 1) = workN I (deskN I Ar k) (nI k) (cl (deskN I Ar k 12 k)) := by rw [deskN]
theorem deskN_off {I : Nat → Int32} {Ar : Nat → Nat → Int32} {n j : Nat} (h : j ≠ 24) : deskN I Ar n j = Ar j := by
  induction n with
  | zero => rw [deskN_0]
  | succ n ih => rw [deskN_s]; exact (workN_off h).trans ih
def dayN (I : Nat → Int32) (Ar : Nat → Nat → Int32) : Nat → (Nat → Int32) × (Nat → Nat → Int32)
  | 0 => (I, Ar)
  | n + 1 => (va_up (dayN I Ar n).1 1 ((dayN I Ar n).1 1 + 1), deskN (va_up (dayN I Ar n).1 1 ((dayN I Ar n).1 1 + 1)) (dayN I Ar n).2 4)
termination_by n => n
theorem dayN_0 {I : Nat → Int32} {Ar : Nat → Nat → Int32} : dayN I Ar 0 = (I, Ar) := by rw [dayN]
theorem dayN_s {I : Nat → Int32} {Ar : Nat → Nat → Int32} {n : Nat} : dayN I Ar (n + 1) = (va_up (dayN I Ar n).1 1 ((dayN I Ar n).1 1 + 1), deskN (va_up (dayN I Ar n).1 1 ((dayN I Ar n).1 1 + 1)) (dayN I Ar n).2 4) := by rw [dayN]
theorem dayN_off {I : Nat → Int32} {Ar : Nat → Nat → Int32} {n j : Nat} (h : j ≠ 24) : (dayN I Ar n).2 j = Ar j := by
  induction n with
  | zero => rw [dayN_0]
  | succ n ih => rw [dayN_s]; exact (deskN_off h).trans ih
theorem dayN_offI {I : Nat → Int32} {Ar : Nat → Nat → Int32} {n j : Nat} (h : j ≠ 1) : (dayN I Ar n).1 j = I j := by
  induction n with
  | zero => rw [dayN_0]
  | succ n ih => rw [dayN_s]; simp only [va_up, if_neg h]; exact ih
theorem dayN_1 {I : Nat → Int32} {Ar : Nat → Nat → Int32} {n t : Nat} (h : I 1 = nI t) : (dayN I Ar n).1 1 = nI (t + n) := by
  induction n with
  | zero => rw [dayN_0]; exact h
  | succ n ih => rw [dayN_s]; simp only [va_up, if_pos]; rw [ih, nI_1]; rfl
theorem lp_X7_days_67 {E : gE} (X : Gc G E "ComplaintDeskModel" cX7_days 6 4 0 0) {Q : State → Prop} (D : md ix m ad) (hC : ∀ k, k < 480 → Ar 22 k < 12) (hT : ∀ c, c < 12 → Ar 5 c = 0 ∨ Ar 5 c = 1) (k : Nat) (hk : k < 4) (hh : okN (Ar 12 k) 20) (n0 d0 : Int32) (K : GW G E Q 6 107 [(0, .ref m), (1, .int n0), (2, .int d0), (3, .int (nI k))] [] (mH G ix ad I (workN I Ar (nI k) (cl (Ar 12 k))) h0) 0 0) : ∀ (f : Nat) (j : Nat), j ≤ cl (Ar 12 k) → cl (Ar 12 k) - j < f → GW G E Q 6 67 [(0, .ref m), (1, .int n0), (2, .int d0), (3, .int (nI k)), (4, .int (nI j))] [] (mH G ix ad I (workN I Ar (nI k) j) h0) 0 0 := by
  intro f
  induction f with
  | zero => intro j hj hf; exact absurd hf (Nat.not_lt_zero _)
  | succ f ih =>
    intro j hj hf
    have hh1 := hh.le
    have eh : workN I Ar (nI k) j 12 k = Ar 12 k := by rw [workN_off (by decide)]
    have hC1 : ∀ k1, k1 < 480 → workN I Ar (nI k) j 22 k1 < 12 := fun k1 h1 => by rw [workN_off (by decide)]; exact hC k1 h1
    have hT1 : ∀ c, c < 12 → workN I Ar (nI k) j 5 c = 0 ∨ workN I Ar (nI k) j 5 c = 1 := fun c h1 => by rw [workN_off (by decide)]; exact hT c h1
    refine g_iload X dX7_days_67 4 rfl ?_
    refine g_aload_n X dX7_days_69 0 rfl ?_
    refine g_getfield X fl_X7_39 dX7_days_70 (mLm D) rfl ?_
    refine g_iload_n X dX7_days_73 3 rfl ?_
    refine g_iaload X dX7_days_74 (mLa D 12 rfl) (vp_in_nI (by omega) (by decide)) ?_
    refine g_eqi (y := Ar 12 k) (by rw [nI_clamp (by omega)]; exact eh) ?_
    refine g_icmp_ge X 107 dX7_days_75 (by decide) (fun c_75 => ?_) (fun c_75 => ?_)
    · have hj2 : j = cl (Ar 12 k) := by have := hh.ge c_75 (by omega); omega
      rw [hj2]
      refine g_L [0, 1, 2, 3] (L' := [(0, _), (1, _), (2, _), (3, _)]) rfl ?_
      exact K
    · have hj2 : j < cl (Ar 12 k) := hh.lt (Int32.not_le.mp c_75) (by omega)
      refine g_aload_n X dX7_days_78 0 rfl ?_
      refine g_iload_n X dX7_days_79 3 rfl ?_
      refine g_cV X ml_X7_210 (c_X7_next D (nI k) hC1 hT1) ⟨7, _, mLm D, rfl⟩ (Nat.le_of_ble_eq_true rfl) rfl rfl (Nat.le_of_ble_eq_true rfl) (Nat.zero_le _) (Nat.zero_le _) dX7_days_80 ?_
      refine g_istore X dX7_days_83 (Nat.le_of_ble_eq_true rfl) [(5, _), (0, _), (1, _), (2, _), (3, _), (4, _)] rfl ?_
      refine g_iload X dX7_days_85 0 rfl ?_
      refine g_if_lt X 101 dX7_days_87 (by decide) (fun c_87 => ?_) (fun c_87 => ?_)
      · have e1 : workN I Ar (nI k) (j + 1) = workN I Ar (nI k) j := by rw [workN_s, (enO_nn (fun b q => (bestF_lt q).1)).mp c_87]
        rw [← e1]
        refine g_iinc X (v := nI (j + 1)) dX7_days_101 5 rfl (nI_1 j) (Nat.le_of_ble_eq_true rfl) [(4, _), (5, _), (0, _), (1, _), (2, _), (3, _)] rfl ?_
        refine g_goto X 67 dX7_days_104 (by decide) ?_
        refine g_L [2, 3, 4, 5, 0] (L' := [(0, _), (1, _), (2, _), (3, _), (4, _)]) rfl ?_
        first | exact ih (j + 1) (by omega) (by omega) | (refine g_h (congrArg (fun a => mH G ix ad I a h0) e1) ?_; exact ih (j + 1) (by omega) (by omega))
      · obtain ⟨b, hb⟩ : ∃ b, bestF I (workN I Ar (nI k) j) (nI k) 480 = some b := by cases q : bestF I (workN I Ar (nI k) j) (nI k) 480 with | none => rw [q] at c_87; exact absurd (by decide) c_87 | some b => exact ⟨b, rfl⟩
        have e1 : va_up (workN I Ar (nI k) j) 24 (upd (workN I Ar (nI k) j 24) (cl (enO (bestF I (workN I Ar (nI k) j) (nI k) 480))) (I 1)) = workN I Ar (nI k) (j + 1) := by rw [workN_s, hb]; show va_up _ 24 (upd _ (cl (nI b)) _) = _; rw [show cl (nI b) = b from nI_clamp (by have := (bestF_lt hb).1; omega)]
        refine g_aload_n X dX7_days_90 1 rfl ?_
        refine g_getfield X fl_X7_72 dX7_days_91 (mLm D) rfl ?_
        refine g_iload X dX7_days_94 0 rfl ?_
        refine g_aload_n X dX7_days_96 1 rfl ?_
        refine g_getfield X fl_X7_201 dX7_days_97 (mLm D) rfl ?_
        refine g_iastore X dX7_days_100 (mLa D 24 rfl) (by rw [hb]; exact vp_in_nI (bestF_lt hb).1 (by decide)) (g_h (mUa D 24 rfl _) ?_)
        refine g_iinc X (v := nI (j + 1)) dX7_days_101 5 rfl (nI_1 j) (Nat.le_of_ble_eq_true rfl) [(4, _), (5, _), (0, _), (1, _), (2, _), (3, _)] rfl ?_
        refine g_goto X 67 dX7_days_104 (by decide) ?_
        refine g_L [2, 3, 4, 5, 0] (L' := [(0, _), (1, _), (2, _), (3, _), (4, _)]) rfl ?_
        first | exact ih (j + 1) (by omega) (by omega) | (refine g_h (congrArg (fun a => mH G ix ad I a h0) e1) ?_; exact ih (j + 1) (by omega) (by omega))
theorem lp_X7_days_59 {E : gE} (X : Gc G E "ComplaintDeskModel" cX7_days 6 4 0 0) {Q : State → Prop} (D : md ix m ad) (hC : ∀ k, k < 480 → Ar 22 k < 12) (hT : ∀ c, c < 12 → Ar 5 c = 0 ∨ Ar 5 c = 1) (hh : ∀ k, k < 4 → okN (Ar 12 k) 20) (n0 d0 : Int32) (K : GW G E Q 6 113 [(0, .ref m), (1, .int n0), (2, .int d0)] [] (mH G ix ad I (deskN I Ar 4) h0) 0 0) : ∀ (f : Nat) (k : Nat), k ≤ 4 → 4 - k < f → GW G E Q 6 59 [(0, .ref m), (1, .int n0), (2, .int d0), (3, .int (nI k))] [] (mH G ix ad I (deskN I Ar k) h0) 0 0 := by
  intro f
  induction f with
  | zero => intro k hk hf; exact absurd hf (Nat.not_lt_zero _)
  | succ f ih =>
    intro k hk hf
    refine g_iload_n X dX7_days_59 3 rfl ?_
    refine g_iconst X (v := 4) dX7_days_60 ki_4 ?_
    refine g_icmp_ge X 113 dX7_days_61 (by decide) (fun c_61 => ?_) (fun c_61 => ?_)
    · have hj2 : k = 4 := by have := ge_lit (N := 4) rfl c_61 (by omega); omega
      subst hj2
      refine g_L [0, 1, 2] (L' := [(0, _), (1, _), (2, _)]) rfl ?_
      exact K
    · have hj2 : k < 4 := lt_lit (N := 4) rfl (Int32.not_le.mp c_61) (by omega)
      refine g_iconst X (v := 0) dX7_days_64 ki_0 ?_
      refine g_istore X dX7_days_65 (Nat.le_of_ble_eq_true rfl) [(4, _), (0, _), (1, _), (2, _), (3, _)] rfl ?_
      refine g_L [1, 2, 3, 4, 0] (L' := [(0, _), (1, _), (2, _), (3, _), (4, _)]) rfl ?_
      refine (fun K => ?_ : GW G E Q 6 107 [(0, .ref m), (1, .int n0), (2, .int d0), (3, .int (nI k))] [] (mH G ix ad I (workN I (deskN I Ar k) (nI k) (cl (deskN I Ar k 12 k))) h0) 0 0 → _) ?_
      · refine g_h (h' := mH G ix ad I (workN I (deskN I Ar k) (nI k) 0) h0) (by rw [workN_0]) ?_
        exact lp_X7_days_67 X D (fun k1 h1 => by rw [deskN_off (by decide)]; exact hC k1 h1) (fun c h1 => by rw [deskN_off (by decide)]; exact hT c h1) k hj2 (by rw [deskN_off (by decide)]; exact hh k hj2) n0 d0 K _ 0 (Nat.zero_le _) (Nat.lt_succ_self _)
      rw [← deskN_s]
      refine g_iinc X (v := nI (k + 1)) dX7_days_107 3 rfl (nI_1 k) (Nat.le_of_ble_eq_true rfl) [(3, _), (0, _), (1, _), (2, _)] rfl ?_
      refine g_goto X 59 dX7_days_110 (by decide) ?_
      refine g_L [1, 2, 3, 0] (L' := [(0, _), (1, _), (2, _), (3, _)]) rfl ?_
      exact ih (k + 1) (by omega) (by omega)
theorem lp_X7_days_32 {E : gE} (X : Gc G E "ComplaintDeskModel" cX7_days 6 4 0 0) (F : gF E M_X7_days) (D : md ix m ad) (hC : ∀ k, k < 480 → Ar 22 k < 12) (hT : ∀ c, c < 12 → Ar 5 c = 0 ∨ Ar 5 c = 1) (hh : ∀ k, k < 4 → okN (Ar 12 k) 20) (n t : Nat) (hn : n ≤ 60) (ht : t ≤ 400) (hI : I 1 = nI t) : ∀ (f : Nat) (j : Nat), j ≤ min n (400 - t) → min n (400 - t) - j < f → GW G E (gMQ G E 0 0 (rX (some (.int (nI (t + min n (400 - t))))) (mH G ix ad (dayN (t0 I) Ar (min n (400 - t))).1 (dayN (t0 I) Ar (min n (400 - t))).2 h0))) 6 32 [(0, .ref m), (1, .int (nI n)), (2, .int (nI j))] [] (mH G ix ad (dayN (t0 I) Ar j).1 (dayN (t0 I) Ar j).2 h0) 0 0 := by
  intro f
  induction f with
  | zero => intro j hj hf; exact absurd hf (Nat.not_lt_zero _)
  | succ f ih =>
    intro j hj hf
    have e1 : (dayN (t0 I) Ar j).1 1 = nI (t + j) := dayN_1 hI
    refine g_iload_n X dX7_days_32 2 rfl ?_
    refine g_iload_n X dX7_days_33 1 rfl ?_
    refine g_icmp_ge X 119 dX7_days_34 (by decide) (fun c_34 => ?_) (fun c_34 => ?_)
    · have hj2 : j = min n (400 - t) := by have := (nI_leI (by omega) (by omega)).mp c_34; omega
      rw [← hj2]
      refine g_aload_n X dX7_days_119 0 rfl ?_
      refine g_getfield X fl_X7_201 dX7_days_120 (mLm D) rfl ?_
      refine g_eqi (y := nI (t + j)) (e1) ?_
      refine g_iret X F rfl rfl dX7_days_123 (Nat.zero_le _) (Nat.zero_le _) ?_
      exact ⟨rfl, rfl⟩
    · have hj2 : j < n := by have := (nI_ltI (by omega) (by omega)).mp (Int32.not_le.mp c_34); omega
      refine g_aload_n X dX7_days_37 0 rfl ?_
      refine g_getfield X fl_X7_201 dX7_days_38 (mLm D) rfl ?_
      refine g_eqi (y := nI (t + j)) (e1) ?_
      refine g_sipush X (v := 400) dX7_days_41 ks_400 ?_
      refine g_icmp_ge X 119 dX7_days_44 (by decide) (fun c_44 => ?_) (fun c_44 => ?_)
      · have hj3 : j = min n (400 - t) := by have := ge_lit (N := 400) rfl c_44 (by omega); omega
        rw [← hj3]
        refine g_aload_n X dX7_days_119 0 rfl ?_
        refine g_getfield X fl_X7_201 dX7_days_120 (mLm D) rfl ?_
        refine g_eqi (y := nI (t + j)) (e1) ?_
        refine g_iret X F rfl rfl dX7_days_123 (Nat.zero_le _) (Nat.zero_le _) ?_
        exact ⟨rfl, rfl⟩
      · have hj3 : t + j < 400 := lt_lit (N := 400) rfl (Int32.not_le.mp c_44) (by omega)
        refine g_aload_n X dX7_days_47 0 rfl ?_
        refine g_dup X dX7_days_48 rfl ?_
        refine g_getfield X fl_X7_201 dX7_days_49 (mLm D) rfl ?_
        refine g_iconst X (v := 1) dX7_days_52 ki_1 ?_
        refine g_iadd X dX7_days_53 ?_
        refine m_put X D 1 (by decide) fp_X7_201 dX7_days_54 (mset_1 _ _ _) ?_
        refine g_iconst X (v := 0) dX7_days_57 ki_0 ?_
        refine g_istore_n X dX7_days_58 (Nat.le_of_ble_eq_true rfl) [(3, _), (0, _), (1, _), (2, _)] rfl ?_
        refine g_L [1, 2, 3, 0] (L' := [(0, _), (1, _), (2, _), (3, _)]) rfl ?_
        refine (fun K => ?_ : GW G E (gMQ G E 0 0 (rX (some (.int (nI (t + min n (400 - t))))) (mH G ix ad (dayN (t0 I) Ar (min n (400 - t))).1 (dayN (t0 I) Ar (min n (400 - t))).2 h0))) 6 113 [(0, .ref m), (1, .int (nI n)), (2, .int (nI j))] [] (mH G ix ad (va_up (dayN (t0 I) Ar j).1 1 ((dayN (t0 I) Ar j).1 1 + 1)) (deskN (va_up (dayN (t0 I) Ar j).1 1 ((dayN (t0 I) Ar j).1 1 + 1)) (dayN (t0 I) Ar j).2 4) h0) 0 0 → _) ?_
        · refine g_h (h' := mH G ix ad _ (deskN (va_up (dayN (t0 I) Ar j).1 1 ((dayN (t0 I) Ar j).1 1 + 1)) (dayN (t0 I) Ar j).2 0) h0) (by rw [deskN_0]) ?_
          exact lp_X7_days_59 X D (fun k1 h1 => by rw [dayN_off (by decide)]; exact hC k1 h1) (fun c h1 => by rw [dayN_off (by decide)]; exact hT c h1) (fun k h1 => by rw [dayN_off (by decide)]; exact hh k h1) (nI n) (nI j) K 5 0 (by omega) (by omega)
        rw [show mH G ix ad (va_up (dayN (t0 I) Ar j).1 1 ((dayN (t0 I) Ar j).1 1 + 1)) (deskN (va_up (dayN (t0 I) Ar j).1 1 ((dayN (t0 I) Ar j).1 1 + 1)) (dayN (t0 I) Ar j).2 4) h0 = mH G ix ad (dayN (t0 I) Ar (j + 1)).1 (dayN (t0 I) Ar (j + 1)).2 h0 by rw [dayN_s]]
        refine g_iinc X (v := nI (j + 1)) dX7_days_113 2 rfl (nI_1 j) (Nat.le_of_ble_eq_true rfl) [(2, _), (0, _), (1, _)] rfl ?_
        refine g_goto X 32 dX7_days_116 (by decide) ?_
        refine g_L [1, 2, 0] (L' := [(0, _), (1, _), (2, _)]) rfl ?_
        exact ih (j + 1) (by omega) (by omega)
theorem c_X7_days_e1 (D : md ix m ad) (n : Int32) (hd : ¬ inR n 0 60) : Ct G l 4 0 0 M_X7_days [.ref m, .int n] (mH G ix ad I Ar h0) (rX (some (.int 0)) (mH G ix ad (va_up (t0 I) 0 1) Ar h0)) := by
  refine Ct.of (by decide +kernel) (Nat.le_of_ble_eq_true rfl) (fun E hE X F => ?_)
  have X : Gc G E "ComplaintDeskModel" cX7_days 6 4 0 0 := X
  show GW G E _ 6 0 [(0, _), (1, _)] [] _ 0 0
  refine g_aload_n X dX7_days_0 0 rfl ?_
  refine g_iconst X (v := 0) dX7_days_1 ki_0 ?_
  refine m_put X D 0 (by decide) fp_X7_91 dX7_days_2 (mset_0 _ _ _) ?_
  refine g_aload_n X dX7_days_5 0 rfl ?_
  refine g_iload_n X dX7_days_6 1 rfl ?_
  refine g_iconst X (v := 0) dX7_days_7 ki_0 ?_
  refine g_bipush X (v := 60) dX7_days_8 kb_60 ?_
  refine g_cS X ml_X7_97 (c_X7_in _ _ _) (Nat.le_of_ble_eq_true rfl) rfl rfl (Nat.le_of_ble_eq_true rfl) (Nat.zero_le _) (Nat.zero_le _) dX7_days_10 ?_
  refine g_eqi (y := (0 : Int32)) (b2_f hd) ?_
  refine g_if_ne X 20 dX7_days_13 (by decide) (fun c_13 => absurd rfl c_13) (fun c_13 => ?_)
  refine g_iconst X (v := 1) dX7_days_16 ki_1 ?_
  refine g_goto X 21 dX7_days_17 (by decide) ?_
  refine g_iconst X (v := 1) dX7_days_21 ki_1 ?_
  refine g_cV X ml_X7_179 (c_X7_throwsIf1 D _) ⟨7, _, mLm D, rfl⟩ (Nat.le_of_ble_eq_true rfl) rfl rfl (Nat.le_of_ble_eq_true rfl) (Nat.zero_le _) (Nat.zero_le _) dX7_days_22 ?_
  refine g_if_eq X 30 dX7_days_25 (by decide) (fun c_25 => absurd c_25 (by decide)) (fun c_25 => ?_)
  refine g_iconst X (v := 0) dX7_days_28 ki_0 ?_
  refine g_iret X F rfl rfl dX7_days_29 (Nat.zero_le _) (Nat.zero_le _) ?_
  exact ⟨rfl, rfl⟩
theorem c_X7_days (D : md ix m ad) (hC : ∀ k, k < 480 → Ar 22 k < 12) (hT : ∀ c, c < 12 → Ar 5 c = 0 ∨ Ar 5 c = 1) (hh : ∀ k, k < 4 → okN (Ar 12 k) 20) (n t : Nat) (hn : n ≤ 60) (ht : t ≤ 400) (hI : I 1 = nI t) : Ct G l 4 0 0 M_X7_days [.ref m, .int (nI n)] (mH G ix ad I Ar h0) (rX (some (.int (nI (t + min n (400 - t))))) (mH G ix ad (dayN (t0 I) Ar (min n (400 - t))).1 (dayN (t0 I) Ar (min n (400 - t))).2 h0)) := by
  refine Ct.of (by decide +kernel) (Nat.le_of_ble_eq_true rfl) (fun E hE X F => ?_)
  have X : Gc G E "ComplaintDeskModel" cX7_days 6 4 0 0 := X
  show GW G E _ 6 0 [(0, _), (1, _)] [] _ 0 0
  refine g_aload_n X dX7_days_0 0 rfl ?_
  refine g_iconst X (v := 0) dX7_days_1 ki_0 ?_
  refine m_put X D 0 (by decide) fp_X7_91 dX7_days_2 (mset_0 _ _ _) ?_
  refine g_aload_n X dX7_days_5 0 rfl ?_
  refine g_iload_n X dX7_days_6 1 rfl ?_
  refine g_iconst X (v := 0) dX7_days_7 ki_0 ?_
  refine g_bipush X (v := 60) dX7_days_8 kb_60 ?_
  refine g_cS X ml_X7_97 (c_X7_in _ _ _) (Nat.le_of_ble_eq_true rfl) rfl rfl (Nat.le_of_ble_eq_true rfl) (Nat.zero_le _) (Nat.zero_le _) dX7_days_10 ?_
  refine g_eqi (y := (1 : Int32)) (b2_t ⟨nI_pos (by omega), nI_nlt (b := n) (a := 60) hn (by decide)⟩) ?_
  refine g_if_ne X 20 dX7_days_13 (by decide) (fun c_13 => ?_) (fun c_13 => absurd c_13 (by decide))
  refine g_iconst X (v := 0) dX7_days_20 ki_0 ?_
  refine g_iconst X (v := 1) dX7_days_21 ki_1 ?_
  refine g_cV X ml_X7_179 (c_X7_throwsIf0 D _) ⟨7, _, mLm D, rfl⟩ (Nat.le_of_ble_eq_true rfl) rfl rfl (Nat.le_of_ble_eq_true rfl) (Nat.zero_le _) (Nat.zero_le _) dX7_days_22 ?_
  refine g_if_eq X 30 dX7_days_25 (by decide) (fun c_25 => ?_) (fun c_25 => absurd rfl c_25)
  refine g_iconst X (v := 0) dX7_days_30 ki_0 ?_
  refine g_istore_n X dX7_days_31 (Nat.le_of_ble_eq_true rfl) [(2, _), (0, _), (1, _)] rfl ?_
  refine g_L [1, 2, 0] (L' := [(0, _), (1, _), (2, _)]) rfl ?_
  refine g_h (h' := mH G ix ad (dayN (t0 I) Ar 0).1 (dayN (t0 I) Ar 0).2 h0) (by rw [dayN_0]) ?_
  exact lp_X7_days_32 X F D hC hT hh n t hn ht hI 61 0 (by omega) (by omega)
theorem ball_s {P : Nat → Prop} {n : Nat} : (∀ q, q < n + 1 → P q) ↔ (∀ q, q < n → P q) ∧ P n :=
  ⟨fun h => ⟨fun q hq => h q (by omega), h n (by omega)⟩, fun h q hq => by by_cases e : q = n; exact e ▸ h.2; exact h.1 q (by omega)⟩
abbrev clP (Ar : Nat → Nat → Int32) (a p : Nat) : Prop := ∀ q, q < p → ¬ Ar 24 (6 * a + q) < 0
def sN (f : Nat → Nat) : Nat → Nat
  | 0 => 0
  | n + 1 => sN f n + f n
termination_by n => n
theorem sN_0 {f : Nat → Nat} : sN f 0 = 0 := by rw [sN]
theorem sN_s {f : Nat → Nat} {n : Nat} : sN f (n + 1) = sN f n + f n := by rw [sN]
theorem sN_le {f : Nat → Nat} {c : Nat} (h : ∀ k, f k ≤ c) (n : Nat) : sN f n ≤ n * c := by
  induction n with
  | zero => rw [sN_0]; exact Nat.zero_le _
  | succ n ih => have := h n; rw [sN_s, Nat.add_mul]; omega
theorem lp_X7_isClosed_4 {E : gE} (X : Gc G E "ComplaintDeskModel" cX7_isClosed 4 0 0 0) (F : gF E M_X7_isClosed) (D : md ix m ad) (a : Nat) (ha : a < 80) (hp : okN (Ar 15 a) 6) : ∀ (f : Nat) (p : Nat), p ≤ cl (Ar 15 a) → cl (Ar 15 a) - p < f → GW G E (gMQ G E 0 0 (rX (some (.int (b2 (clP Ar a (cl (Ar 15 a)))))) (mH G ix ad I Ar h0))) 4 4 [(0, .ref m), (1, .int (nI a)), (2, .int (b2 (clP Ar a p))), (3, .int (nI p))] [] (mH G ix ad I Ar h0) 0 0 := by
  intro f
  induction f with
  | zero => intro p hpp hf; exact absurd hf (Nat.not_lt_zero _)
  | succ f ih =>
    intro p hpp hf
    have hp6 := hp.le
    refine g_iload_n X dX7_isClosed_4 3 rfl ?_
    refine g_aload_n X dX7_isClosed_5 0 rfl ?_
    refine g_getfield X fl_X7_48 dX7_isClosed_6 (mLm D) rfl ?_
    refine g_iload_n X dX7_isClosed_9 1 rfl ?_
    refine g_iaload X dX7_isClosed_10 (mLa D 15 rfl) (vp_in_nI (by omega) (by decide)) ?_
    refine g_eqi (y := Ar 15 a) (by rw [nI_clamp (by omega)]) ?_
    refine g_icmp_ge X 44 dX7_isClosed_11 (by decide) (fun c_11 => ?_) (fun c_11 => ?_)
    · have hq : p = cl (Ar 15 a) := by have := hp.ge c_11 (by omega); omega
      rw [hq]
      refine g_iload_n X dX7_isClosed_44 2 rfl ?_
      refine g_iret X F rfl b2_n dX7_isClosed_45 (Nat.zero_le _) (Nat.zero_le _) ?_
      exact ⟨rfl, rfl⟩
    · have hq : p < cl (Ar 15 a) := hp.lt (Int32.not_le.mp c_11) (by omega)
      refine g_iload_n X dX7_isClosed_14 2 rfl ?_
      refine g_if_eq X 36 dX7_isClosed_15 (by decide) (fun c_15 => ?_) (fun c_15 => ?_)
      · have e1 : (0 : Int32) = b2 (clP Ar a (p + 1)) := (b2_f (fun q => b2_0.mp c_15 (ball_s.mp q).1)).symm
        refine g_iconst X (v := 0) dX7_isClosed_36 ki_0 ?_
        refine g_eqi (y := b2 (clP Ar a (p + 1))) e1 ?_
        refine g_istore_n X dX7_isClosed_37 (Nat.le_of_ble_eq_true rfl) [(2, _), (0, _), (1, _), (3, _)] rfl ?_
        refine g_iinc X (v := nI (p + 1)) dX7_isClosed_38 3 rfl (nI_1 p) (Nat.le_of_ble_eq_true rfl) [(3, _), (2, _), (0, _), (1, _)] rfl ?_
        refine g_goto X 4 dX7_isClosed_41 (by decide) ?_
        refine g_L [2, 3, 1, 0] (L' := [(0, _), (1, _), (2, _), (3, _)]) rfl ?_
        exact ih (p + 1) (by omega) (by omega)
      · refine g_aload_n X dX7_isClosed_18 0 rfl ?_
        refine g_getfield X fl_X7_72 dX7_isClosed_19 (mLm D) rfl ?_
        refine g_bipush X (v := 6) dX7_isClosed_22 kb_6 ?_
        refine g_iload_n X dX7_isClosed_24 1 rfl ?_
        refine g_imul X dX7_isClosed_25 ?_
        refine g_iload_n X dX7_isClosed_26 3 rfl ?_
        refine g_iadd X dX7_isClosed_27 ?_
        refine g_eqi (y := nI (6 * a + p)) (ix6 a p) ?_
        refine g_iaload X dX7_isClosed_28 (mLa D 24 rfl) (vp_in_nI (by omega) (by decide)) ?_
        refine g_eqi (y := Ar 24 (6 * a + p)) (by rw [nI_clamp (by omega)]) ?_
        refine g_if_lt X 36 dX7_isClosed_29 (by decide) (fun c_29 => ?_) (fun c_29 => ?_)
        · have e1 : (0 : Int32) = b2 (clP Ar a (p + 1)) := (b2_f (fun q => absurd c_29 (ball_s.mp q).2)).symm
          refine g_iconst X (v := 0) dX7_isClosed_36 ki_0 ?_
          refine g_eqi (y := b2 (clP Ar a (p + 1))) e1 ?_
          refine g_istore_n X dX7_isClosed_37 (Nat.le_of_ble_eq_true rfl) [(2, _), (0, _), (1, _), (3, _)] rfl ?_
          refine g_iinc X (v := nI (p + 1)) dX7_isClosed_38 3 rfl (nI_1 p) (Nat.le_of_ble_eq_true rfl) [(3, _), (2, _), (0, _), (1, _)] rfl ?_
          refine g_goto X 4 dX7_isClosed_41 (by decide) ?_
          refine g_L [2, 3, 1, 0] (L' := [(0, _), (1, _), (2, _), (3, _)]) rfl ?_
          exact ih (p + 1) (by omega) (by omega)
        · have e1 : (1 : Int32) = b2 (clP Ar a (p + 1)) := (b2_t (ball_s.mpr ⟨Decidable.not_not.mp (fun q => c_15 (b2_0.mpr q)), c_29⟩)).symm
          refine g_iconst X (v := 1) dX7_isClosed_32 ki_1 ?_
          refine g_goto X 37 dX7_isClosed_33 (by decide) ?_
          refine g_eqi (y := b2 (clP Ar a (p + 1))) e1 ?_
          refine g_istore_n X dX7_isClosed_37 (Nat.le_of_ble_eq_true rfl) [(2, _), (0, _), (1, _), (3, _)] rfl ?_
          refine g_iinc X (v := nI (p + 1)) dX7_isClosed_38 3 rfl (nI_1 p) (Nat.le_of_ble_eq_true rfl) [(3, _), (2, _), (0, _), (1, _)] rfl ?_
          refine g_goto X 4 dX7_isClosed_41 (by decide) ?_
          refine g_L [2, 3, 1, 0] (L' := [(0, _), (1, _), (2, _), (3, _)]) rfl ?_
          exact ih (p + 1) (by omega) (by omega)
theorem c_X7_isClosed (D : md ix m ad) (a : Nat) (ha : a < 80) (hp : okN (Ar 15 a) 6) : Ct G l 0 0 0 M_X7_isClosed [.ref m, .int (nI a)] (mH G ix ad I Ar h0) (rX (some (.int (b2 (clP Ar a (cl (Ar 15 a)))))) (mH G ix ad I Ar h0)) := by
  refine Ct.of (by decide +kernel) (Nat.le_of_ble_eq_true rfl) (fun E hE X F => ?_)
  have X : Gc G E "ComplaintDeskModel" cX7_isClosed 4 0 0 0 := X
  show GW G E _ 4 0 [(0, _), (1, _)] [] _ 0 0
  refine g_iconst X (v := 1) dX7_isClosed_0 ki_1 ?_
  refine g_eqi (y := b2 (clP Ar a 0)) (b2_t (fun q hq => absurd hq (Nat.not_lt_zero _))).symm ?_
  refine g_istore_n X dX7_isClosed_1 (Nat.le_of_ble_eq_true rfl) [(2, _), (0, _), (1, _)] rfl ?_
  refine g_iconst X (v := 0) dX7_isClosed_2 ki_0 ?_
  refine g_istore_n X dX7_isClosed_3 (Nat.le_of_ble_eq_true rfl) [(3, _), (2, _), (0, _), (1, _)] rfl ?_
  refine g_L [2, 3, 1, 0] (L' := [(0, _), (1, _), (2, _), (3, _)]) rfl ?_
  exact lp_X7_isClosed_4 X F D a ha hp _ 0 (Nat.zero_le _) (Nat.lt_succ_self _)
end M4
