section M9
variable {G : gG} {l : Launch} {ix : Nat → Nat} {m : Nat} {ad : Nat → Nat} {I : Nat → Int32} {Ar : Nat → Nat → Int32} {h0 h : hW}
/-- from i on, past the bytes from lo to hi -/
def skp (lo hi : Int32) (B : Nat → Int32) (N i : Nat) : Nat := if _h : i < N ∧ ¬ B i < lo ∧ ¬ hi < B i then skp lo hi B N (i + 1) else i
termination_by N - i
theorem skp_t {lo hi : Int32} {B : Nat → Int32} {N i : Nat} (h : i < N ∧ ¬ B i < lo ∧ ¬ hi < B i) : skp lo hi B N i = skp lo hi B N (i + 1) := by rw [skp, dif_pos h]
theorem skp_f {lo hi : Int32} {B : Nat → Int32} {N i : Nat} (h : ¬ (i < N ∧ ¬ B i < lo ∧ ¬ hi < B i)) : skp lo hi B N i = i := by rw [skp, dif_neg h]
theorem skp_le {lo hi : Int32} {B : Nat → Int32} {N : Nat} : ∀ (f i : Nat), N - i < f → i ≤ N → i ≤ skp lo hi B N i ∧ skp lo hi B N i ≤ N := by
  intro f
  induction f with
  | zero => intro i h; omega
  | succ f ih =>
    intro i hf hle
    by_cases h : i < N ∧ ¬ B i < lo ∧ ¬ hi < B i
    · rw [skp_t h]
      have := ih (i + 1) (by omega) (by omega)
      omega
    · rw [skp_f h]; omega
theorem skp_ge1 {lo hi : Int32} {B : Nat → Int32} {N i : Nat} (h : i ≤ N) : i ≤ skp lo hi B N i := (skp_le _ i (Nat.lt_succ_self _) h).1
theorem skp_le1 {lo hi : Int32} {B : Nat → Int32} {N i : Nat} (h : i ≤ N) : skp lo hi B N i ≤ N := (skp_le _ i (Nat.lt_succ_self _) h).2
/-- where the next thing begins; where its letters end -/
abbrev bgn (B : Nat → Int32) (N i : Nat) : Nat := skp 32 32 B N i
abbrev fin (B : Nat → Int32) (N i : Nat) : Nat := skp 97 122 B N i
abbrev atP (B : Nat → Int32) (N p : Nat) (lo hi : Int32) : Prop := p < N ∧ ¬ B p < lo ∧ ¬ hi < B p
/-- begin and point are put -/
abbrev wI (I : Nat → Int32) (b p : Nat) : Nat → Int32 := va_up (va_up I 31 (nI b)) 29 (nI p)
theorem up_comm {f : Nat → Int32} {a b : Nat} {x y : Int32} (h : a ≠ b) : va_up (va_up f a x) b y = va_up (va_up f b y) a x := by
  funext j
  by_cases h1 : j = a
  · subst h1; simp [va_up, h]
  · simp [va_up, h1]
theorem wI_wI {I : Nat → Int32} {b p b' p' : Nat} : wI (wI I b p) b' p' = wI I b' p' := by
  funext j
  by_cases h1 : j = 29
  · simp [va_up, h1]
  · by_cases h2 : j = 31
    · simp [va_up, h2]
    · simp [va_up, h1, h2]
theorem c_X7_isAt (D : md ix m ad) (p N : Nat) (hp : I 29 = nI p) (hN : I 30 = nI N) (hpN : p ≤ N) (hN4 : N ≤ 400) (lo hi : Int32) : Ct G l 0 0 0 M_X7_isAt [.ref m, .int lo, .int hi] (mH G ix ad I Ar h0) (rX (some (.int (b2 (atP (Ar 27) N p lo hi)))) (mH G ix ad I Ar h0)) := by
  refine Ct.of (by decide +kernel) (Nat.le_of_ble_eq_true rfl) (fun E hE X F => ?_)
  have X : Gc G E "ComplaintDeskModel" cX7_isAt 3 0 0 0 := X
  show GW G E _ 3 0 [(0, _), (1, _), (2, _)] [] _ 0 0
  refine g_aload_n X dX7_isAt_0 0 rfl ?_
  refine g_getfield X fl_X7_114 dX7_isAt_1 (mLm D) rfl ?_
  refine g_eqi (y := nI p) (hp) ?_
  refine g_aload_n X dX7_isAt_4 0 rfl ?_
  refine g_getfield X fl_X7_111 dX7_isAt_5 (mLm D) rfl ?_
  refine g_eqi (y := nI N) (hN) ?_
  refine g_icmp_ge X 41 dX7_isAt_8 (by decide) (fun c_8 => ?_) (fun c_8 => ?_)
  · have hq : N ≤ p := (nI_leI (by omega) (by omega)).mp c_8
    refine g_iconst X (v := 0) dX7_isAt_41 ki_0 ?_
    refine g_iret X F rfl rfl dX7_isAt_42 (Nat.zero_le _) (Nat.zero_le _) ?_
    refine ⟨congrArg (fun z => some (Value.int z)) ?_, rfl⟩
    first | (refine (b2_t ?_).symm; exact ⟨hq, c_21, c_34⟩) | (refine (b2_f ?_).symm; intro q; exact absurd c_34 q.2.2) | (refine (b2_f ?_).symm; intro q; exact absurd c_21 q.2.1) | (refine (b2_f ?_).symm; intro q; have := q.1; omega)
  · have hq : p < N := (nI_ltI (by omega) (by omega)).mp (Int32.not_le.mp c_8)
    refine g_aload_n X dX7_isAt_11 0 rfl ?_
    refine g_getfield X fl_X7_78 dX7_isAt_12 (mLm D) rfl ?_
    refine g_aload_n X dX7_isAt_15 0 rfl ?_
    refine g_getfield X fl_X7_114 dX7_isAt_16 (mLm D) rfl ?_
    refine g_eqi (y := nI p) (hp) ?_
    refine g_baload X dX7_isAt_19 (mLa D 27 rfl) (vp_in_nI (by omega) (by decide)) ?_
    refine g_eqi (y := Ar 27 p) (by rw [nI_clamp (by omega)]) ?_
    refine g_iload_n X dX7_isAt_20 1 rfl ?_
    refine g_icmp_lt X 41 dX7_isAt_21 (by decide) (fun c_21 => ?_) (fun c_21 => ?_)
    · refine g_iconst X (v := 0) dX7_isAt_41 ki_0 ?_
      refine g_iret X F rfl rfl dX7_isAt_42 (Nat.zero_le _) (Nat.zero_le _) ?_
      refine ⟨congrArg (fun z => some (Value.int z)) ?_, rfl⟩
      first | (refine (b2_t ?_).symm; exact ⟨hq, c_21, c_34⟩) | (refine (b2_f ?_).symm; intro q; exact absurd c_34 q.2.2) | (refine (b2_f ?_).symm; intro q; exact absurd c_21 q.2.1) | (refine (b2_f ?_).symm; intro q; have := q.1; omega)
    · refine g_aload_n X dX7_isAt_24 0 rfl ?_
      refine g_getfield X fl_X7_78 dX7_isAt_25 (mLm D) rfl ?_
      refine g_aload_n X dX7_isAt_28 0 rfl ?_
      refine g_getfield X fl_X7_114 dX7_isAt_29 (mLm D) rfl ?_
      refine g_eqi (y := nI p) (hp) ?_
      refine g_baload X dX7_isAt_32 (mLa D 27 rfl) (vp_in_nI (by omega) (by decide)) ?_
      refine g_eqi (y := Ar 27 p) (by rw [nI_clamp (by omega)]) ?_
      refine g_iload_n X dX7_isAt_33 2 rfl ?_
      refine g_icmp_gt X 41 dX7_isAt_34 (by decide) (fun c_34 => ?_) (fun c_34 => ?_)
      · refine g_iconst X (v := 0) dX7_isAt_41 ki_0 ?_
        refine g_iret X F rfl rfl dX7_isAt_42 (Nat.zero_le _) (Nat.zero_le _) ?_
        refine ⟨congrArg (fun z => some (Value.int z)) ?_, rfl⟩
        first | (refine (b2_t ?_).symm; exact ⟨hq, c_21, c_34⟩) | (refine (b2_f ?_).symm; intro q; exact absurd c_34 q.2.2) | (refine (b2_f ?_).symm; intro q; exact absurd c_21 q.2.1) | (refine (b2_f ?_).symm; intro q; have := q.1; omega)
      · refine g_iconst X (v := 1) dX7_isAt_37 ki_1 ?_
        refine g_goto X 42 dX7_isAt_38 (by decide) ?_
        refine g_iret X F rfl rfl dX7_isAt_42 (Nat.zero_le _) (Nat.zero_le _) ?_
        refine ⟨congrArg (fun z => some (Value.int z)) ?_, rfl⟩
        first | (refine (b2_t ?_).symm; exact ⟨hq, c_21, c_34⟩) | (refine (b2_f ?_).symm; intro q; exact absurd c_34 q.2.2) | (refine (b2_f ?_).symm; intro q; exact absurd c_21 q.2.1) | (refine (b2_f ?_).symm; intro q; have := q.1; omega)
theorem lp_X7_blanks_0 {E : gE} (X : Gc G E "ComplaintDeskModel" cX7_blanks 1 1 0 0) (F : gF E M_X7_blanks) (D : md ix m ad) (N : Nat) (hN : I 30 = nI N) (hN4 : N ≤ 400) (b0 : Nat) : ∀ (f : Nat) (p : Nat), p ≤ N → N - p < f → bgn (Ar 27) N p = b0 → GW G E (gMQ G E 0 0 (rX none (mH G ix ad (wI I b0 b0) Ar h0))) 1 0 [(0, .ref m)] [] (mH G ix ad (va_up I 29 (nI p)) Ar h0) 0 0 := by
  intro f
  induction f with
  | zero => intro p hpN hf hb; exact absurd hf (Nat.not_lt_zero _)
  | succ f ih =>
    intro p hpN hf hb
    refine g_aload_n X dX7_blanks_0 0 rfl ?_
    refine g_bipush X (v := 32) dX7_blanks_1 kb_32 ?_
    refine g_bipush X (v := 32) dX7_blanks_3 kb_32 ?_
    refine g_cV X ml_X7_117 (c_X7_isAt (I := va_up I 29 (nI p)) D p N rfl hN hpN hN4 32 32) ⟨7, _, mLm D, rfl⟩ (Nat.le_of_ble_eq_true rfl) rfl rfl (Nat.le_of_ble_eq_true rfl) (Nat.zero_le _) (Nat.zero_le _) dX7_blanks_5 ?_
    refine g_if_eq X 24 dX7_blanks_8 (by decide) (fun c_8 => ?_) (fun c_8 => ?_)
    · have hc : ¬ atP (Ar 27) N p 32 32 := b2_0.mp c_8
      have hb2 : p = b0 := by rw [← hb]; exact (skp_f hc).symm
      refine g_aload_n X dX7_blanks_24 0 rfl ?_
      refine g_aload_n X dX7_blanks_25 0 rfl ?_
      refine g_getfield X fl_X7_114 dX7_blanks_26 (mLm D) rfl ?_
      refine m_put X D 31 (by decide) fp_X7_121 dX7_blanks_29 (mset_31 _ _ _) ?_
      refine g_ret0 X F rfl dX7_blanks_32 (Nat.zero_le _) (Nat.zero_le _) ?_
      exact ⟨rfl, by rw [hb2, up_comm (by decide)]; rfl⟩
    · have hc : atP (Ar 27) N p 32 32 := Decidable.not_not.mp (fun q => c_8 (b2_0.mpr q))
      refine g_aload_n X dX7_blanks_11 0 rfl ?_
      refine g_dup X dX7_blanks_12 rfl ?_
      refine g_getfield X fl_X7_114 dX7_blanks_13 (mLm D) rfl ?_
      refine g_iconst X (v := 1) dX7_blanks_16 ki_1 ?_
      refine g_iadd X dX7_blanks_17 ?_
      refine g_eqi (y := nI (p + 1)) (nI_1 p) ?_
      refine m_put X D 29 (by decide) fp_X7_114 dX7_blanks_18 (mset_29 _ _ _) ?_
      refine g_goto X 0 dX7_blanks_21 (by decide) ?_
      refine g_L [0] (L' := [(0, _)]) rfl ?_
      refine g_h (h' := mH G ix ad (va_up I 29 (nI (p + 1))) Ar h0) (by rw [bx_uu]) ?_
      exact ih (p + 1) (by have := hc.1; omega) (by have := hc.1; omega) (by rw [← hb]; exact (skp_t hc).symm)
theorem c_X7_blanks (D : md ix m ad) (p N : Nat) (hp : I 29 = nI p) (hN : I 30 = nI N) (hpN : p ≤ N) (hN4 : N ≤ 400)  : Ct G l 1 0 0 M_X7_blanks [.ref m] (mH G ix ad I Ar h0) (rX none (mH G ix ad (wI I (bgn (Ar 27) N p) (bgn (Ar 27) N p)) Ar h0)) := by
  refine Ct.of (by decide +kernel) (Nat.le_of_ble_eq_true rfl) (fun E hE X F => ?_)
  have X : Gc G E "ComplaintDeskModel" cX7_blanks 1 1 0 0 := X
  show GW G E _ 1 0 [(0, _)] [] _ 0 0
  refine g_h (h' := mH G ix ad (va_up I 29 (nI p)) Ar h0) (by congr 1; funext j; by_cases hj : j = 29; subst hj; simp [va_up, hp]; simp [va_up, hj]) ?_
  exact lp_X7_blanks_0 X F D N hN hN4 (bgn (Ar 27) N p) _ p hpN (Nat.lt_succ_self _) rfl
theorem lp_X7_word_4 {E : gE} (X : Gc G E "ComplaintDeskModel" cX7_word 1 2 0 0) (F : gF E M_X7_word) (D : md ix m ad) (N : Nat) (hN : I 30 = nI N) (hN4 : N ≤ 400) (b e0 : Nat) : ∀ (f : Nat) (p : Nat), p ≤ N → N - p < f → fin (Ar 27) N p = e0 → GW G E (gMQ G E 0 0 (rX none (mH G ix ad (wI I b e0) Ar h0))) 1 4 [(0, .ref m)] [] (mH G ix ad (wI I b p) Ar h0) 0 0 := by
  intro f
  induction f with
  | zero => intro p hpN hf hb; exact absurd hf (Nat.not_lt_zero _)
  | succ f ih =>
    intro p hpN hf hb
    refine g_aload_n X dX7_word_4 0 rfl ?_
    refine g_bipush X (v := 97) dX7_word_5 kb_97 ?_
    refine g_bipush X (v := 122) dX7_word_7 kb_122 ?_
    refine g_cV X ml_X7_117 (c_X7_isAt (I := wI I b p) D p N rfl hN hpN hN4 97 122) ⟨7, _, mLm D, rfl⟩ (Nat.le_of_ble_eq_true rfl) rfl rfl (Nat.le_of_ble_eq_true rfl) (Nat.zero_le _) (Nat.zero_le _) dX7_word_9 ?_
    refine g_if_eq X 28 dX7_word_12 (by decide) (fun c_12 => ?_) (fun c_12 => ?_)
    · have hc : ¬ atP (Ar 27) N p 97 122 := b2_0.mp c_12
      have hb2 : p = e0 := by rw [← hb]; exact (skp_f hc).symm
      refine g_ret0 X F rfl dX7_word_28 (Nat.zero_le _) (Nat.zero_le _) ?_
      exact ⟨rfl, by rw [hb2]⟩
    · have hc : atP (Ar 27) N p 97 122 := Decidable.not_not.mp (fun q => c_12 (b2_0.mpr q))
      refine g_aload_n X dX7_word_15 0 rfl ?_
      refine g_dup X dX7_word_16 rfl ?_
      refine g_getfield X fl_X7_114 dX7_word_17 (mLm D) rfl ?_
      refine g_iconst X (v := 1) dX7_word_20 ki_1 ?_
      refine g_iadd X dX7_word_21 ?_
      refine g_eqi (y := nI (p + 1)) (nI_1 p) ?_
      refine m_put X D 29 (by decide) fp_X7_114 dX7_word_22 (mset_29 _ _ _) ?_
      refine g_goto X 4 dX7_word_25 (by decide) ?_
      refine g_L [0] (L' := [(0, _)]) rfl ?_
      refine g_h (h' := mH G ix ad (wI I b (p + 1)) Ar h0) (by rw [bx_uu]) ?_
      exact ih (p + 1) (by have := hc.1; omega) (by have := hc.1; omega) (by rw [← hb]; exact (skp_t hc).symm)
theorem c_X7_word (D : md ix m ad) (p N : Nat) (hp : I 29 = nI p) (hN : I 30 = nI N) (hpN : p ≤ N) (hN4 : N ≤ 400)  : Ct G l 2 0 0 M_X7_word [.ref m] (mH G ix ad I Ar h0) (rX none (mH G ix ad (wI I (bgn (Ar 27) N p) (fin (Ar 27) N (bgn (Ar 27) N p))) Ar h0)) := by
  refine Ct.of (by decide +kernel) (Nat.le_of_ble_eq_true rfl) (fun E hE X F => ?_)
  have X : Gc G E "ComplaintDeskModel" cX7_word 1 2 0 0 := X
  show GW G E _ 1 0 [(0, _)] [] _ 0 0
  refine g_aload_n X dX7_word_0 0 rfl ?_
  refine g_cV0 X ml_X7_124 (c_X7_blanks D p N hp hN hpN hN4) ⟨7, _, mLm D, rfl⟩ (Nat.le_of_ble_eq_true rfl) rfl rfl (Nat.le_of_ble_eq_true rfl) (Nat.zero_le _) (Nat.zero_le _) dX7_word_1 ?_
  refine g_L [0] (L' := [(0, _)]) rfl ?_
  exact lp_X7_word_4 X F D N hN hN4 (bgn (Ar 27) N p) _ _ (bgn (Ar 27) N p) (skp_le1 hpN) (Nat.lt_succ_self _) rfl
/-- the bytes from b to p spell the sign i -/
abbrev isW (B : Nat → Int32) (b p i : Nat) : Prop := p - b = sLn i ∧ ∀ k, k < sLn i → B (b + k) = sCh i k
abbrev isWk (B : Nat → Int32) (b p i k : Nat) : Prop := p - b = sLn i ∧ ∀ q, q < k → B (b + q) = sCh i q
theorem lp_X7_isWord_24 {E : gE} (X : Gc G E "ComplaintDeskModel" cX7_isWord 4 4 0 0) (F : gF E M_X7_isWord) (D : md ix m ad) (b p i : Nat) (hi : i < 3) (hb : I 31 = nI b) (hp : I 29 = nI p) (hbp : b ≤ p) (hp4 : p ≤ 400)  : ∀ (f : Nat) (k : Nat), k ≤ sLn i → sLn i - k < f → GW G E (gMQ G E 0 0 (rX (some (.int (b2 (isW (Ar 27) b p i)))) (mH G ix ad I Ar h0))) 4 24 [(0, .ref m), (1, .ref (G.2.2.2.1 i)), (2, .int (b2 (isWk (Ar 27) b p i k))), (3, .int (nI k))] [] (mH G ix ad I Ar h0) 0 0 := by
  intro f
  induction f with
  | zero => intro k hk hf; exact absurd hf (Nat.not_lt_zero _)
  | succ f ih =>
    intro k hk hf
    have h4 := sLn_lt hi
    have h5 : sLn i < 2 ^ 31 := Nat.lt_of_lt_of_le h4 (by decide)
    refine g_iload_n X dX7_isWord_24 2 rfl ?_
    refine g_if_eq X 67 dX7_isWord_25 (by decide) (fun c_25 => ?_) (fun c_25 => ?_)
    · have e1 : b2 (isWk (Ar 27) b p i k) = b2 (isW (Ar 27) b p i) := by rw [c_25]; exact (b2_f (fun q => b2_0.mp c_25 ⟨q.1, fun z hz => q.2 z (by omega)⟩)).symm
      rw [e1]
      refine g_iload_n X dX7_isWord_67 2 rfl ?_
      refine g_iret X F rfl b2_n dX7_isWord_68 (Nat.zero_le _) (Nat.zero_le _) ?_
      exact ⟨rfl, rfl⟩
    · have hx : isWk (Ar 27) b p i k := Decidable.not_not.mp (fun q => c_25 (b2_0.mpr q))
      refine g_iload_n X dX7_isWord_28 3 rfl ?_
      refine g_aload_n X dX7_isWord_29 1 rfl ?_
      refine g_cVo X ml_X7_127 (c_J0_length_8abf5 i hi) (fun H locs b => vk_recv X.old.str hi b) (Nat.le_of_ble_eq_true rfl) rfl rfl (Nat.le_of_ble_eq_true rfl) (Nat.zero_le _) (Nat.zero_le _) dX7_isWord_30 ?_
      refine g_icmp_ge X 67 dX7_isWord_33 (by decide) (fun c_33 => ?_) (fun c_33 => ?_)
      · have hq : k = sLn i := by have := (nI_leI h5 (by omega)).mp c_33; omega
        rw [hq]
        refine g_iload_n X dX7_isWord_67 2 rfl ?_
        refine g_iret X F rfl b2_n dX7_isWord_68 (Nat.zero_le _) (Nat.zero_le _) ?_
        exact ⟨rfl, rfl⟩
      · have hq : k < sLn i := (nI_ltI (by omega) h5).mp (Int32.not_le.mp c_33)
        refine g_aload_n X dX7_isWord_36 0 rfl ?_
        refine g_getfield X fl_X7_78 dX7_isWord_37 (mLm D) rfl ?_
        refine g_aload_n X dX7_isWord_40 0 rfl ?_
        refine g_getfield X fl_X7_121 dX7_isWord_41 (mLm D) rfl ?_
        refine g_eqi (y := nI b) (hb) ?_
        refine g_iload_n X dX7_isWord_44 3 rfl ?_
        refine g_iadd X dX7_isWord_45 ?_
        refine g_eqi (y := nI (b + k)) (nI_add b k) ?_
        refine g_baload X dX7_isWord_46 (mLa D 27 rfl) (vp_in_nI (by have := hx.1; omega) (by decide)) ?_
        refine g_eqi (y := Ar 27 (b + k)) (by rw [nI_clamp (by have := hx.1; omega)]) ?_
        refine g_aload_n X dX7_isWord_47 1 rfl ?_
        refine g_iload_n X dX7_isWord_48 3 rfl ?_
        refine g_cVo X ml_X7_133 (c_J0_charAt_5068e i hi k hq) (fun H locs b => vk_recv X.old.str hi b) (Nat.le_of_ble_eq_true rfl) rfl rfl (Nat.le_of_ble_eq_true rfl) (Nat.zero_le _) (Nat.zero_le _) dX7_isWord_49 ?_
        refine g_icmp_ne X 59 dX7_isWord_52 (by decide) (fun c_52 => ?_) (fun c_52 => ?_)
        · have e2 : (0 : Int32) = b2 (isWk (Ar 27) b p i (k + 1)) := (b2_f (fun q => c_52 (q.2 k (Nat.lt_succ_self k)))).symm
          refine g_iconst X (v := 0) dX7_isWord_59 ki_0 ?_
          refine g_eqi (y := b2 (isWk (Ar 27) b p i (k + 1))) e2 ?_
          refine g_istore_n X dX7_isWord_60 (Nat.le_of_ble_eq_true rfl) [(2, _), (0, _), (1, _), (3, _)] rfl ?_
          refine g_iinc X (v := nI (k + 1)) dX7_isWord_61 3 rfl (nI_1 k) (Nat.le_of_ble_eq_true rfl) [(3, _), (2, _), (0, _), (1, _)] rfl ?_
          refine g_goto X 24 dX7_isWord_64 (by decide) ?_
          refine g_L [2, 3, 1, 0] (L' := [(0, _), (1, _), (2, _), (3, _)]) rfl ?_
          exact ih (k + 1) (by omega) (by omega)
        · have e2 : (1 : Int32) = b2 (isWk (Ar 27) b p i (k + 1)) := (b2_t ⟨hx.1, fun z hz => by by_cases hz2 : z = k; (subst hz2; exact c_52); exact hx.2 z (by omega)⟩).symm
          refine g_iconst X (v := 1) dX7_isWord_55 ki_1 ?_
          refine g_goto X 60 dX7_isWord_56 (by decide) ?_
          refine g_eqi (y := b2 (isWk (Ar 27) b p i (k + 1))) e2 ?_
          refine g_istore_n X dX7_isWord_60 (Nat.le_of_ble_eq_true rfl) [(2, _), (0, _), (1, _), (3, _)] rfl ?_
          refine g_iinc X (v := nI (k + 1)) dX7_isWord_61 3 rfl (nI_1 k) (Nat.le_of_ble_eq_true rfl) [(3, _), (2, _), (0, _), (1, _)] rfl ?_
          refine g_goto X 24 dX7_isWord_64 (by decide) ?_
          refine g_L [2, 3, 1, 0] (L' := [(0, _), (1, _), (2, _), (3, _)]) rfl ?_
          exact ih (k + 1) (by omega) (by omega)
theorem c_X7_isWord (D : md ix m ad) (b p i : Nat) (hi : i < 3) (hb : I 31 = nI b) (hp : I 29 = nI p) (hbp : b ≤ p) (hp4 : p ≤ 400)  : Ct G l 4 0 0 M_X7_isWord [.ref m, .ref (G.2.2.2.1 i)] (mH G ix ad I Ar h0) (rX (some (.int (b2 (isW (Ar 27) b p i)))) (mH G ix ad I Ar h0)) := by
  refine Ct.of (by decide +kernel) (Nat.le_of_ble_eq_true rfl) (fun E hE X F => ?_)
  have X : Gc G E "ComplaintDeskModel" cX7_isWord 4 4 0 0 := X
  show GW G E _ 4 0 [(0, _), (1, _)] [] _ 0 0
  have h5 : sLn i < 2 ^ 31 := Nat.lt_of_lt_of_le (sLn_lt hi) (by decide)
  refine g_aload_n X dX7_isWord_0 0 rfl ?_
  refine g_getfield X fl_X7_114 dX7_isWord_1 (mLm D) rfl ?_
  refine g_eqi (y := nI p) (hp) ?_
  refine g_aload_n X dX7_isWord_4 0 rfl ?_
  refine g_getfield X fl_X7_121 dX7_isWord_5 (mLm D) rfl ?_
  refine g_eqi (y := nI b) (hb) ?_
  refine g_isub X dX7_isWord_8 ?_
  refine g_eqi (y := nI (p - b)) (pk_sub hbp) ?_
  refine g_aload_n X dX7_isWord_9 1 rfl ?_
  refine g_cVo X ml_X7_127 (c_J0_length_8abf5 i hi) (fun H locs b => vk_recv X.old.str hi b) (Nat.le_of_ble_eq_true rfl) rfl rfl (Nat.le_of_ble_eq_true rfl) (Nat.zero_le _) (Nat.zero_le _) dX7_isWord_10 ?_
  refine g_icmp_ne X 20 dX7_isWord_13 (by decide) (fun c_13 => ?_) (fun c_13 => ?_)
  · have e2 : (0 : Int32) = b2 (isWk (Ar 27) b p i 0) := (b2_f (fun q => c_13 (by rw [q.1]))).symm
    refine g_iconst X (v := 0) dX7_isWord_20 ki_0 ?_
    refine g_eqi (y := b2 (isWk (Ar 27) b p i 0)) e2 ?_
    refine g_istore_n X dX7_isWord_21 (Nat.le_of_ble_eq_true rfl) [(2, _), (0, _), (1, _)] rfl ?_
    refine g_iconst X (v := 0) dX7_isWord_22 ki_0 ?_
    refine g_istore_n X dX7_isWord_23 (Nat.le_of_ble_eq_true rfl) [(3, _), (2, _), (0, _), (1, _)] rfl ?_
    refine g_L [2, 3, 1, 0] (L' := [(0, _), (1, _), (2, _), (3, _)]) rfl ?_
    exact lp_X7_isWord_24 X F D b p i hi hb hp hbp hp4 _ 0 (Nat.zero_le _) (Nat.lt_succ_self _)
  · have e2 : (1 : Int32) = b2 (isWk (Ar 27) b p i 0) := (b2_t ⟨(nI_eq (by omega) h5).mp c_13, fun z hz => absurd hz (Nat.not_lt_zero z)⟩).symm
    refine g_iconst X (v := 1) dX7_isWord_16 ki_1 ?_
    refine g_goto X 21 dX7_isWord_17 (by decide) ?_
    refine g_eqi (y := b2 (isWk (Ar 27) b p i 0)) e2 ?_
    refine g_istore_n X dX7_isWord_21 (Nat.le_of_ble_eq_true rfl) [(2, _), (0, _), (1, _)] rfl ?_
    refine g_iconst X (v := 0) dX7_isWord_22 ki_0 ?_
    refine g_istore_n X dX7_isWord_23 (Nat.le_of_ble_eq_true rfl) [(3, _), (2, _), (0, _), (1, _)] rfl ?_
    refine g_L [2, 3, 1, 0] (L' := [(0, _), (1, _), (2, _), (3, _)]) rfl ?_
    exact lp_X7_isWord_24 X F D b p i hi hb hp hbp hp4 _ 0 (Nat.zero_le _) (Nat.lt_succ_self _)
abbrev sgnP (B : Nat → Int32) (b p : Nat) : Prop := isW B b p 0 ∨ isW B b p 1 ∨ isW B b p 2
theorem Gc.sg {E : gE} {own : String} {cc : ByteArray} {nL lv mc ms : Nat} (X : Gc G E own cc nL lv mc ms) {i : Nat} {q : String × Nat × String} (h : gSgn[i]? = some q) : vk_R q.1 q.2.1 q.2.2 (G.2.2.2.1 i) E.s := X.old.2.2.2.2.1 i q h
theorem c_X7_isSign (D : md ix m ad) (b p : Nat) (hb : I 31 = nI b) (hp : I 29 = nI p) (hbp : b ≤ p) (hp4 : p ≤ 400)  : Ct G l 5 0 0 M_X7_isSign [.ref m] (mH G ix ad I Ar h0) (rX (some (.int (b2 (sgnP (Ar 27) b p)))) (mH G ix ad I Ar h0)) := by
  refine Ct.of (by decide +kernel) (Nat.le_of_ble_eq_true rfl) (fun E hE X F => ?_)
  have X : Gc G E "ComplaintDeskModel" cX7_isSign 1 5 0 0 := X
  show GW G E _ 1 0 [(0, _)] [] _ 0 0
  refine g_aload_n X dX7_isSign_0 0 rfl ?_
  refine g_ldcS X (X.sg (i := 0) (q := ("ComplaintDeskModel", 137, "and")) rfl) dX7_isSign_1 ?_
  refine g_cV X ml_X7_139 (c_X7_isWord D b p 0 (by decide) hb hp hbp hp4) ⟨7, _, mLm D, rfl⟩ (Nat.le_of_ble_eq_true rfl) rfl rfl (Nat.le_of_ble_eq_true rfl) (Nat.zero_le _) (Nat.zero_le _) dX7_isSign_3 ?_
  refine g_if_ne X 27 dX7_isSign_6 (by decide) (fun c_6 => ?_) (fun c_6 => ?_)
  · refine g_iconst X (v := 1) dX7_isSign_27 ki_1 ?_
    refine g_goto X 32 dX7_isSign_28 (by decide) ?_
    refine g_iret X F rfl rfl dX7_isSign_32 (Nat.zero_le _) (Nat.zero_le _) ?_
    refine ⟨congrArg (fun z => some (Value.int z)) ?_, rfl⟩
    first | exact (b2_t (Or.inl (Decidable.not_not.mp (fun q => c_6 (b2_0.mpr q))))).symm | exact (b2_t (Or.inr (Or.inl (Decidable.not_not.mp (fun q => c_15 (b2_0.mpr q)))))).symm | exact (b2_t (Or.inr (Or.inr (Decidable.not_not.mp (fun q => c_24 (b2_0.mpr q)))))).symm | exact (b2_f (fun q => q.elim (b2_0.mp c_6) (fun q => q.elim (b2_0.mp c_15) (b2_0.mp c_24)))).symm
  · refine g_aload_n X dX7_isSign_9 0 rfl ?_
    refine g_ldcS X (X.sg (i := 1) (q := ("ComplaintDeskModel", 143, "or")) rfl) dX7_isSign_10 ?_
    refine g_cV X ml_X7_139 (c_X7_isWord D b p 1 (by decide) hb hp hbp hp4) ⟨7, _, mLm D, rfl⟩ (Nat.le_of_ble_eq_true rfl) rfl rfl (Nat.le_of_ble_eq_true rfl) (Nat.zero_le _) (Nat.zero_le _) dX7_isSign_12 ?_
    refine g_if_ne X 27 dX7_isSign_15 (by decide) (fun c_15 => ?_) (fun c_15 => ?_)
    · refine g_iconst X (v := 1) dX7_isSign_27 ki_1 ?_
      refine g_goto X 32 dX7_isSign_28 (by decide) ?_
      refine g_iret X F rfl rfl dX7_isSign_32 (Nat.zero_le _) (Nat.zero_le _) ?_
      refine ⟨congrArg (fun z => some (Value.int z)) ?_, rfl⟩
      first | exact (b2_t (Or.inl (Decidable.not_not.mp (fun q => c_6 (b2_0.mpr q))))).symm | exact (b2_t (Or.inr (Or.inl (Decidable.not_not.mp (fun q => c_15 (b2_0.mpr q)))))).symm | exact (b2_t (Or.inr (Or.inr (Decidable.not_not.mp (fun q => c_24 (b2_0.mpr q)))))).symm | exact (b2_f (fun q => q.elim (b2_0.mp c_6) (fun q => q.elim (b2_0.mp c_15) (b2_0.mp c_24)))).symm
    · refine g_aload_n X dX7_isSign_18 0 rfl ?_
      refine g_ldcS X (X.sg (i := 2) (q := ("ComplaintDeskModel", 145, "not")) rfl) dX7_isSign_19 ?_
      refine g_cV X ml_X7_139 (c_X7_isWord D b p 2 (by decide) hb hp hbp hp4) ⟨7, _, mLm D, rfl⟩ (Nat.le_of_ble_eq_true rfl) rfl rfl (Nat.le_of_ble_eq_true rfl) (Nat.zero_le _) (Nat.zero_le _) dX7_isSign_21 ?_
      refine g_if_eq X 31 dX7_isSign_24 (by decide) (fun c_24 => ?_) (fun c_24 => ?_)
      · refine g_iconst X (v := 0) dX7_isSign_31 ki_0 ?_
        refine g_iret X F rfl rfl dX7_isSign_32 (Nat.zero_le _) (Nat.zero_le _) ?_
        refine ⟨congrArg (fun z => some (Value.int z)) ?_, rfl⟩
        first | exact (b2_t (Or.inl (Decidable.not_not.mp (fun q => c_6 (b2_0.mpr q))))).symm | exact (b2_t (Or.inr (Or.inl (Decidable.not_not.mp (fun q => c_15 (b2_0.mpr q)))))).symm | exact (b2_t (Or.inr (Or.inr (Decidable.not_not.mp (fun q => c_24 (b2_0.mpr q)))))).symm | exact (b2_f (fun q => q.elim (b2_0.mp c_6) (fun q => q.elim (b2_0.mp c_15) (b2_0.mp c_24)))).symm
      · refine g_iconst X (v := 1) dX7_isSign_27 ki_1 ?_
        refine g_goto X 32 dX7_isSign_28 (by decide) ?_
        refine g_iret X F rfl rfl dX7_isSign_32 (Nat.zero_le _) (Nat.zero_le _) ?_
        refine ⟨congrArg (fun z => some (Value.int z)) ?_, rfl⟩
        first | exact (b2_t (Or.inl (Decidable.not_not.mp (fun q => c_6 (b2_0.mpr q))))).symm | exact (b2_t (Or.inr (Or.inl (Decidable.not_not.mp (fun q => c_15 (b2_0.mpr q)))))).symm | exact (b2_t (Or.inr (Or.inr (Decidable.not_not.mp (fun q => c_24 (b2_0.mpr q)))))).symm | exact (b2_f (fun q => q.elim (b2_0.mp c_6) (fun q => q.elim (b2_0.mp c_15) (b2_0.mp c_24)))).symm
end M9
