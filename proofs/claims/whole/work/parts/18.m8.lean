section M8
variable {G : gG} {l : Launch} {ix : Nat → Nat} {m : Nat} {ad : Nat → Nat} {I : Nat → Int32} {Ar : Nat → Nat → Int32} {h0 h : hW}
abbrev fiveF (F : Nat → Int32) (a b c d e : Int32) : Nat → Int32 := upd (upd (upd (upd (upd F 0 a) 1 b) 2 c) 3 d) 4 e
abbrev btF (F : Nat → Int32) (k : Nat) : Int32 := vp_nar .byte ((F (k / 4) >>> ((24 - 8 * nI (k % 4)) &&& 31)).toInt8.toInt32)
def tpN (F T : Nat → Int32) (tp : Nat) : Nat → Nat → Int32
  | 0 => T
  | k + 1 => upd (tpN F T tp k) (tp + k) (btF F k)
termination_by n => n
theorem tpN_0 {F T : Nat → Int32} {tp : Nat} : tpN F T tp 0 = T := by rw [tpN]
theorem tpN_s {F T : Nat → Int32} {tp k : Nat} : tpN F T tp (k + 1) = upd (tpN F T tp k) (tp + k) (btF F k) := by rw [tpN]
theorem nIdiv4 {k : Nat} (hk : k < 480) : nI k / 4 = nI (k / 4) := pk_div (d := 4) (by omega) (by decide) (by decide)
theorem nIrem4 {k : Nat} (hk : k < 480) : nI k - nI k / 4 * 4 = nI (k % 4) := pk_rem (d := 4) (by omega) (by decide) (by decide)
theorem c_X7_feed_full (D : md ix m ad) (a b c d e : Int32) (tp : Nat) (ht : tp ≤ 400) (hI : I 28 = nI tp) (hf : 400 < tp + 20) : Ct G l 0 0 0 M_X7_feed [.ref m, .int a, .int b, .int c, .int d, .int e] (mH G ix ad I Ar h0) (rX (some (.int (-1))) (mH G ix ad (t0 I) Ar h0)) := by
  refine Ct.of (by decide +kernel) (Nat.le_of_ble_eq_true rfl) (fun E hE X F => ?_)
  have X : Gc G E "ComplaintDeskModel" cX7_feed 7 0 0 0 := X
  show GW G E _ 7 0 [(0, _), (1, _), (2, _), (3, _), (4, _), (5, _)] [] _ 0 0
  refine g_aload_n X dX7_feed_0 0 rfl ?_
  refine g_iconst X (v := 0) dX7_feed_1 ki_0 ?_
  refine m_put X D 0 (by decide) fp_X7_91 dX7_feed_2 (mset_0 _ _ _) ?_
  refine g_aload_n X dX7_feed_5 0 rfl ?_
  refine g_getfield X fl_X7_108 dX7_feed_6 (mLm D) rfl ?_
  refine g_bipush X (v := 20) dX7_feed_9 kb_20 ?_
  refine g_iadd X dX7_feed_11 ?_
  refine g_eqi (y := nI (tp + 20)) (by rw [show va_up I 0 0 28 = nI tp from hI]; exact nI_add tp 20) ?_
  refine g_sipush X (v := 400) dX7_feed_12 ks_400 ?_
  refine g_icmp_le X 20 dX7_feed_15 (by decide) (fun c_15 => absurd (le_lit (N := 400) rfl c_15 (by omega)) (by omega)) (fun c_15 => ?_)
  refine g_iconst X (v := (-1)) dX7_feed_18 ki_m1 ?_
  refine g_iret X F rfl rfl dX7_feed_19 (Nat.zero_le _) (Nat.zero_le _) ?_
  exact ⟨rfl, rfl⟩
theorem le_lit9 {t : Nat} (c : ¬ nI (t + 20) ≤ 400) (ht : t < 1000) (h : t + 20 ≤ 400) : False := c (nI_le (b := 400) h (by decide))
theorem lp_X7_feed_60 {E : gE} (X : Gc G E "ComplaintDeskModel" cX7_feed 7 0 0 0) (F : gF E M_X7_feed) (D : md ix m ad) (a b c d e : Int32) (F5 : Nat → Int32) (tp : Nat) (ht : tp + 20 ≤ 400) (hI : I 28 = nI tp) : ∀ (f : Nat) (k : Nat), k ≤ 20 → 20 - k < f → GW G E (gMQ G E 0 0 (rX (some (.int (nI (tp + 20)))) (mH G ix ad (va_up (t0 I) 28 (nI (tp + 20))) (va_up (va_up Ar 33 F5) 27 (tpN F5 (Ar 27) tp 20)) h0))) 7 60 [(0, .ref m), (1, .int a), (2, .int b), (3, .int c), (4, .int d), (5, .int e), (6, .int (nI k))] [] (mH G ix ad (t0 I) (va_up (va_up Ar 33 F5) 27 (tpN F5 (Ar 27) tp k)) h0) 0 0 := by
  intro f
  induction f with
  | zero => intro k hk hf; exact absurd hf (Nat.not_lt_zero _)
  | succ f ih =>
    intro k hk hf
    refine g_iload X dX7_feed_60 6 rfl ?_
    refine g_bipush X (v := 20) dX7_feed_62 kb_20 ?_
    refine g_icmp_ge X 106 dX7_feed_64 (by decide) (fun c_64 => ?_) (fun c_64 => ?_)
    · have hq : k = 20 := by have := ge_lit (N := 20) rfl c_64 (by omega); omega
      subst hq
      refine g_aload_n X dX7_feed_106 0 rfl ?_
      refine g_dup X dX7_feed_107 rfl ?_
      refine g_getfield X fl_X7_108 dX7_feed_108 (mLm D) rfl ?_
      refine g_eqi (y := nI tp) (hI) ?_
      refine g_bipush X (v := 20) dX7_feed_111 kb_20 ?_
      refine g_iadd X dX7_feed_113 ?_
      refine g_eqi (y := nI (tp + 20)) (nI_add tp 20) ?_
      refine m_put X D 28 (by decide) fp_X7_108 dX7_feed_114 (mset_28 _ _ _) ?_
      refine g_aload_n X dX7_feed_117 0 rfl ?_
      refine g_getfield X fl_X7_108 dX7_feed_118 (mLm D) rfl ?_
      refine g_iret X F rfl rfl dX7_feed_121 (Nat.zero_le _) (Nat.zero_le _) ?_
      exact ⟨rfl, rfl⟩
    · have hq : k < 20 := lt_lit (N := 20) rfl (Int32.not_le.mp c_64) (by omega)
      refine g_aload_n X dX7_feed_67 0 rfl ?_
      refine g_getfield X fl_X7_78 dX7_feed_68 (mLm D) rfl ?_
      refine g_aload_n X dX7_feed_71 0 rfl ?_
      refine g_getfield X fl_X7_108 dX7_feed_72 (mLm D) rfl ?_
      refine g_eqi (y := nI tp) (hI) ?_
      refine g_iload X dX7_feed_75 6 rfl ?_
      refine g_iadd X dX7_feed_77 ?_
      refine g_eqi (y := nI (tp + k)) (nI_add _ _) ?_
      refine g_aload_n X dX7_feed_78 0 rfl ?_
      refine g_getfield X fl_X7_85 dX7_feed_79 (mLm D) rfl ?_
      refine g_iload X dX7_feed_82 6 rfl ?_
      refine g_iconst X (v := 4) dX7_feed_84 ki_4 ?_
      refine g_idiv X dX7_feed_85 (by decide) ?_
      refine g_eqi (y := nI (k / 4)) (nIdiv4 (by omega)) ?_
      refine g_iaload X dX7_feed_86 (mLa D 33 rfl) (vp_in_nI (by omega) (by decide)) ?_
      refine g_eqi (y := F5 (k / 4)) (by rw [nI_clamp (by omega)]; rfl) ?_
      refine g_bipush X (v := 24) dX7_feed_87 kb_24 ?_
      refine g_bipush X (v := 8) dX7_feed_89 kb_8 ?_
      refine g_iload X dX7_feed_91 6 rfl ?_
      refine g_iconst X (v := 4) dX7_feed_93 ki_4 ?_
      refine g_irem X dX7_feed_94 (by decide) ?_
      refine g_eqi (y := nI (k % 4)) (nIrem4 (by omega)) ?_
      refine g_imul X dX7_feed_95 ?_
      refine g_isub X dX7_feed_96 ?_
      refine g_ishr X dX7_feed_97 ?_
      refine g_i2b X dX7_feed_98 ?_
      refine g_bastore X dX7_feed_99 (mLa D 27 rfl) (vp_in_nI (by omega) (by decide)) (g_h (mUa D 27 rfl _) ?_)
      refine g_iinc X (v := nI (k + 1)) dX7_feed_100 6 rfl (nI_1 k) (Nat.le_of_ble_eq_true rfl) [(6, _), (0, _), (1, _), (2, _), (3, _), (4, _), (5, _)] rfl ?_
      refine g_goto X 60 dX7_feed_103 (by decide) ?_
      refine g_L [1, 2, 3, 4, 5, 6, 0] (L' := [(0, _), (1, _), (2, _), (3, _), (4, _), (5, _), (6, _)]) rfl ?_
      refine g_h (h' := mH G ix ad (t0 I) (va_up (va_up Ar 33 F5) 27 (tpN F5 (Ar 27) tp (k + 1))) h0) ?_ ?_
      · rw [nI_clamp (by omega), bx_uu, tpN_s]; rfl
      exact ih (k + 1) (by omega) (by omega)
theorem c_X7_feed (D : md ix m ad) (a b c d e : Int32) (tp : Nat) (ht : tp + 20 ≤ 400) (hI : I 28 = nI tp) : Ct G l 0 0 0 M_X7_feed [.ref m, .int a, .int b, .int c, .int d, .int e] (mH G ix ad I Ar h0) (rX (some (.int (nI (tp + 20)))) (mH G ix ad (va_up (t0 I) 28 (nI (tp + 20))) (va_up (va_up Ar 33 (fiveF (Ar 33) a b c d e)) 27 (tpN (fiveF (Ar 33) a b c d e) (Ar 27) tp 20)) h0)) := by
  refine Ct.of (by decide +kernel) (Nat.le_of_ble_eq_true rfl) (fun E hE X F => ?_)
  have X : Gc G E "ComplaintDeskModel" cX7_feed 7 0 0 0 := X
  show GW G E _ 7 0 [(0, _), (1, _), (2, _), (3, _), (4, _), (5, _)] [] _ 0 0
  refine g_aload_n X dX7_feed_0 0 rfl ?_
  refine g_iconst X (v := 0) dX7_feed_1 ki_0 ?_
  refine m_put X D 0 (by decide) fp_X7_91 dX7_feed_2 (mset_0 _ _ _) ?_
  refine g_aload_n X dX7_feed_5 0 rfl ?_
  refine g_getfield X fl_X7_108 dX7_feed_6 (mLm D) rfl ?_
  refine g_bipush X (v := 20) dX7_feed_9 kb_20 ?_
  refine g_iadd X dX7_feed_11 ?_
  refine g_eqi (y := nI (tp + 20)) (by rw [show va_up I 0 0 28 = nI tp from hI]; exact nI_add tp 20) ?_
  refine g_sipush X (v := 400) dX7_feed_12 ks_400 ?_
  refine g_icmp_le X 20 dX7_feed_15 (by decide) (fun c_15 => ?_) (fun c_15 => absurd (le_lit9 c_15 (by omega) ht) (fun q => q))
  refine g_aload_n X dX7_feed_20 0 rfl ?_
  refine g_getfield X fl_X7_85 dX7_feed_21 (mLm D) rfl ?_
  refine g_iconst X (v := 0) dX7_feed_24 ki_0 ?_
  refine g_iload_n X dX7_feed_25 1 rfl ?_
  refine g_iastore X dX7_feed_26 (mLa D 33 rfl) (by unfold vp_in; decide) (g_h (mUa D 33 rfl _) ?_)
  refine g_aload_n X dX7_feed_27 0 rfl ?_
  refine g_getfield X fl_X7_85 dX7_feed_28 (mLm D) rfl ?_
  refine g_iconst X (v := 1) dX7_feed_31 ki_1 ?_
  refine g_iload_n X dX7_feed_32 2 rfl ?_
  refine g_iastore X dX7_feed_33 (mLa D 33 rfl) (by unfold vp_in; decide) (g_h (mUa D 33 rfl _) ?_)
  refine g_aload_n X dX7_feed_34 0 rfl ?_
  refine g_getfield X fl_X7_85 dX7_feed_35 (mLm D) rfl ?_
  refine g_iconst X (v := 2) dX7_feed_38 ki_2 ?_
  refine g_iload_n X dX7_feed_39 3 rfl ?_
  refine g_iastore X dX7_feed_40 (mLa D 33 rfl) (by unfold vp_in; decide) (g_h (mUa D 33 rfl _) ?_)
  refine g_aload_n X dX7_feed_41 0 rfl ?_
  refine g_getfield X fl_X7_85 dX7_feed_42 (mLm D) rfl ?_
  refine g_iconst X (v := 3) dX7_feed_45 ki_3 ?_
  refine g_iload X dX7_feed_46 4 rfl ?_
  refine g_iastore X dX7_feed_48 (mLa D 33 rfl) (by unfold vp_in; decide) (g_h (mUa D 33 rfl _) ?_)
  refine g_aload_n X dX7_feed_49 0 rfl ?_
  refine g_getfield X fl_X7_85 dX7_feed_50 (mLm D) rfl ?_
  refine g_iconst X (v := 4) dX7_feed_53 ki_4 ?_
  refine g_iload X dX7_feed_54 5 rfl ?_
  refine g_iastore X dX7_feed_56 (mLa D 33 rfl) (by unfold vp_in; decide) (g_h (mUa D 33 rfl _) ?_)
  refine g_h (h' := mH G ix ad (t0 I) (va_up (va_up Ar 33 (fiveF (Ar 33) a b c d e)) 27 (tpN (fiveF (Ar 33) a b c d e) (Ar 27) tp 0)) h0) (by rw [tpN_0]; simp only [bx_uu]; funext z; congr 1; funext j; by_cases hj : j = 27; subst hj; rfl; simp only [va_up, if_neg hj]; rfl) ?_
  refine g_iconst X (v := 0) dX7_feed_57 ki_0 ?_
  refine g_istore X dX7_feed_58 (Nat.le_of_ble_eq_true rfl) [(6, _), (0, _), (1, _), (2, _), (3, _), (4, _), (5, _)] rfl ?_
  refine g_L [1, 2, 3, 4, 5, 6, 0] (L' := [(0, _), (1, _), (2, _), (3, _), (4, _), (5, _), (6, _)]) rfl ?_
  exact lp_X7_feed_60 X F D a b c d e _ tp ht hI 21 0 (by omega) (by omega)
theorem c_X7_look_e1 (D : md ix m ad) (lt w : Int32) (hd : ¬ inR lt 0 (I 21 - 1)) : Ct G l 2 0 0 M_X7_look [.ref m, .int lt, .int w] (mH G ix ad I Ar h0) (rX (some (.int 0)) (mH G ix ad (va_up (t0 I) 0 1) Ar h0)) := by
  refine Ct.of (by decide +kernel) (Nat.le_of_ble_eq_true rfl) (fun E hE X F => ?_)
  have X : Gc G E "ComplaintDeskModel" cX7_look 3 2 0 0 := X
  show GW G E _ 3 0 [(0, _), (1, _), (2, _)] [] _ 0 0
  refine g_aload_n X dX7_look_0 0 rfl ?_
  refine g_iconst X (v := 0) dX7_look_1 ki_0 ?_
  refine m_put X D 0 (by decide) fp_X7_91 dX7_look_2 (mset_0 _ _ _) ?_
  refine g_aload_n X dX7_look_5 0 rfl ?_
  refine g_aload_n X dX7_look_6 0 rfl ?_
  refine g_iload_n X dX7_look_7 1 rfl ?_
  refine g_cV X ml_X7_104 (c_X7_noLetter (I := t0 I) D _) ⟨7, _, mLm D, rfl⟩ (Nat.le_of_ble_eq_true rfl) rfl rfl (Nat.le_of_ble_eq_true rfl) (Nat.zero_le _) (Nat.zero_le _) dX7_look_8 ?_
  refine g_eqi (y := (1 : Int32)) (b2_t hd) ?_
  refine g_iconst X (v := 1) dX7_look_11 ki_1 ?_
  refine g_cV X ml_X7_179 (c_X7_throwsIf1 D _) ⟨7, _, mLm D, rfl⟩ (Nat.le_of_ble_eq_true rfl) rfl rfl (Nat.le_of_ble_eq_true rfl) (Nat.zero_le _) (Nat.zero_le _) dX7_look_12 ?_
  refine g_if_eq X 20 dX7_look_15 (by decide) (fun c_15 => absurd c_15 (by decide)) (fun c_15 => ?_)
  refine g_iconst X (v := 0) dX7_look_18 ki_0 ?_
  refine g_iret X F rfl rfl dX7_look_19 (Nat.zero_le _) (Nat.zero_le _) ?_
  exact ⟨rfl, rfl⟩
theorem c_X7_look_0 (D : md ix m ad) (a : Nat) (ha : a < 80) (hd : inR (nI a) 0 (I 21 - 1))  : Ct G l 2 0 0 M_X7_look [.ref m, .int (nI a), .int 0] (mH G ix ad I Ar h0) (rX (some (.int (Ar 13 a))) (mH G ix ad (t0 I) Ar h0)) := by
  refine Ct.of (by decide +kernel) (Nat.le_of_ble_eq_true rfl) (fun E hE X F => ?_)
  have X : Gc G E "ComplaintDeskModel" cX7_look 3 2 0 0 := X
  show GW G E _ 3 0 [(0, _), (1, _), (2, _)] [] _ 0 0
  refine g_aload_n X dX7_look_0 0 rfl ?_
  refine g_iconst X (v := 0) dX7_look_1 ki_0 ?_
  refine m_put X D 0 (by decide) fp_X7_91 dX7_look_2 (mset_0 _ _ _) ?_
  refine g_aload_n X dX7_look_5 0 rfl ?_
  refine g_aload_n X dX7_look_6 0 rfl ?_
  refine g_iload_n X dX7_look_7 1 rfl ?_
  refine g_cV X ml_X7_104 (c_X7_noLetter (I := t0 I) D _) ⟨7, _, mLm D, rfl⟩ (Nat.le_of_ble_eq_true rfl) rfl rfl (Nat.le_of_ble_eq_true rfl) (Nat.zero_le _) (Nat.zero_le _) dX7_look_8 ?_
  refine g_eqi (y := (0 : Int32)) (b2_f (Decidable.not_not.mpr hd)) ?_
  refine g_iconst X (v := 1) dX7_look_11 ki_1 ?_
  refine g_cV X ml_X7_179 (c_X7_throwsIf0 D _) ⟨7, _, mLm D, rfl⟩ (Nat.le_of_ble_eq_true rfl) rfl rfl (Nat.le_of_ble_eq_true rfl) (Nat.zero_le _) (Nat.zero_le _) dX7_look_12 ?_
  refine g_if_eq X 20 dX7_look_15 (by decide) (fun c_15 => ?_) (fun c_15 => absurd rfl c_15)
  refine g_iload_n X dX7_look_20 2 rfl ?_
  refine g_tswIn X (off := 35) 56 dX7_look_21 (by decide) (by decide) (by decide) (by decide) ?_
  refine g_aload_n X dX7_look_56 0 rfl ?_
  refine g_getfield X fl_X7_42 dX7_look_57 (mLm D) rfl ?_
  refine g_iload_n X dX7_look_60 1 rfl ?_
  refine g_iaload X dX7_look_61 (mLa D 13 rfl) (vp_in_nI (by omega) (by decide)) ?_
  refine g_eqi (y := Ar 13 a) (by rw [nI_clamp (by omega)]) ?_
  refine g_iret X F rfl rfl dX7_look_62 (Nat.zero_le _) (Nat.zero_le _) ?_
  exact ⟨rfl, rfl⟩
theorem c_X7_look_1 (D : md ix m ad) (a : Nat) (ha : a < 80) (hd : inR (nI a) 0 (I 21 - 1))  : Ct G l 2 0 0 M_X7_look [.ref m, .int (nI a), .int 1] (mH G ix ad I Ar h0) (rX (some (.int (Ar 14 a))) (mH G ix ad (t0 I) Ar h0)) := by
  refine Ct.of (by decide +kernel) (Nat.le_of_ble_eq_true rfl) (fun E hE X F => ?_)
  have X : Gc G E "ComplaintDeskModel" cX7_look 3 2 0 0 := X
  show GW G E _ 3 0 [(0, _), (1, _), (2, _)] [] _ 0 0
  refine g_aload_n X dX7_look_0 0 rfl ?_
  refine g_iconst X (v := 0) dX7_look_1 ki_0 ?_
  refine m_put X D 0 (by decide) fp_X7_91 dX7_look_2 (mset_0 _ _ _) ?_
  refine g_aload_n X dX7_look_5 0 rfl ?_
  refine g_aload_n X dX7_look_6 0 rfl ?_
  refine g_iload_n X dX7_look_7 1 rfl ?_
  refine g_cV X ml_X7_104 (c_X7_noLetter (I := t0 I) D _) ⟨7, _, mLm D, rfl⟩ (Nat.le_of_ble_eq_true rfl) rfl rfl (Nat.le_of_ble_eq_true rfl) (Nat.zero_le _) (Nat.zero_le _) dX7_look_8 ?_
  refine g_eqi (y := (0 : Int32)) (b2_f (Decidable.not_not.mpr hd)) ?_
  refine g_iconst X (v := 1) dX7_look_11 ki_1 ?_
  refine g_cV X ml_X7_179 (c_X7_throwsIf0 D _) ⟨7, _, mLm D, rfl⟩ (Nat.le_of_ble_eq_true rfl) rfl rfl (Nat.le_of_ble_eq_true rfl) (Nat.zero_le _) (Nat.zero_le _) dX7_look_12 ?_
  refine g_if_eq X 20 dX7_look_15 (by decide) (fun c_15 => ?_) (fun c_15 => absurd rfl c_15)
  refine g_iload_n X dX7_look_20 2 rfl ?_
  refine g_tswIn X (off := 42) 63 dX7_look_21 (by decide) (by decide) (by decide) (by decide) ?_
  refine g_aload_n X dX7_look_63 0 rfl ?_
  refine g_getfield X fl_X7_45 dX7_look_64 (mLm D) rfl ?_
  refine g_iload_n X dX7_look_67 1 rfl ?_
  refine g_iaload X dX7_look_68 (mLa D 14 rfl) (vp_in_nI (by omega) (by decide)) ?_
  refine g_eqi (y := Ar 14 a) (by rw [nI_clamp (by omega)]) ?_
  refine g_iret X F rfl rfl dX7_look_69 (Nat.zero_le _) (Nat.zero_le _) ?_
  exact ⟨rfl, rfl⟩
theorem c_X7_look_2 (D : md ix m ad) (a : Nat) (ha : a < 80) (hd : inR (nI a) 0 (I 21 - 1))  : Ct G l 2 0 0 M_X7_look [.ref m, .int (nI a), .int 2] (mH G ix ad I Ar h0) (rX (some (.int (Ar 15 a))) (mH G ix ad (t0 I) Ar h0)) := by
  refine Ct.of (by decide +kernel) (Nat.le_of_ble_eq_true rfl) (fun E hE X F => ?_)
  have X : Gc G E "ComplaintDeskModel" cX7_look 3 2 0 0 := X
  show GW G E _ 3 0 [(0, _), (1, _), (2, _)] [] _ 0 0
  refine g_aload_n X dX7_look_0 0 rfl ?_
  refine g_iconst X (v := 0) dX7_look_1 ki_0 ?_
  refine m_put X D 0 (by decide) fp_X7_91 dX7_look_2 (mset_0 _ _ _) ?_
  refine g_aload_n X dX7_look_5 0 rfl ?_
  refine g_aload_n X dX7_look_6 0 rfl ?_
  refine g_iload_n X dX7_look_7 1 rfl ?_
  refine g_cV X ml_X7_104 (c_X7_noLetter (I := t0 I) D _) ⟨7, _, mLm D, rfl⟩ (Nat.le_of_ble_eq_true rfl) rfl rfl (Nat.le_of_ble_eq_true rfl) (Nat.zero_le _) (Nat.zero_le _) dX7_look_8 ?_
  refine g_eqi (y := (0 : Int32)) (b2_f (Decidable.not_not.mpr hd)) ?_
  refine g_iconst X (v := 1) dX7_look_11 ki_1 ?_
  refine g_cV X ml_X7_179 (c_X7_throwsIf0 D _) ⟨7, _, mLm D, rfl⟩ (Nat.le_of_ble_eq_true rfl) rfl rfl (Nat.le_of_ble_eq_true rfl) (Nat.zero_le _) (Nat.zero_le _) dX7_look_12 ?_
  refine g_if_eq X 20 dX7_look_15 (by decide) (fun c_15 => ?_) (fun c_15 => absurd rfl c_15)
  refine g_iload_n X dX7_look_20 2 rfl ?_
  refine g_tswIn X (off := 49) 70 dX7_look_21 (by decide) (by decide) (by decide) (by decide) ?_
  refine g_aload_n X dX7_look_70 0 rfl ?_
  refine g_getfield X fl_X7_48 dX7_look_71 (mLm D) rfl ?_
  refine g_iload_n X dX7_look_74 1 rfl ?_
  refine g_iaload X dX7_look_75 (mLa D 15 rfl) (vp_in_nI (by omega) (by decide)) ?_
  refine g_eqi (y := Ar 15 a) (by rw [nI_clamp (by omega)]) ?_
  refine g_iret X F rfl rfl dX7_look_76 (Nat.zero_le _) (Nat.zero_le _) ?_
  exact ⟨rfl, rfl⟩
theorem c_X7_look_3 (D : md ix m ad) (a : Nat) (ha : a < 80) (hd : inR (nI a) 0 (I 21 - 1)) (hP : okN (Ar 15 a) 6) : Ct G l 2 0 0 M_X7_look [.ref m, .int (nI a), .int 3] (mH G ix ad I Ar h0) (rX (some (.int (b2 (clP Ar a (cl (Ar 15 a)))))) (mH G ix ad (t0 I) Ar h0)) := by
  refine Ct.of (by decide +kernel) (Nat.le_of_ble_eq_true rfl) (fun E hE X F => ?_)
  have X : Gc G E "ComplaintDeskModel" cX7_look 3 2 0 0 := X
  show GW G E _ 3 0 [(0, _), (1, _), (2, _)] [] _ 0 0
  refine g_aload_n X dX7_look_0 0 rfl ?_
  refine g_iconst X (v := 0) dX7_look_1 ki_0 ?_
  refine m_put X D 0 (by decide) fp_X7_91 dX7_look_2 (mset_0 _ _ _) ?_
  refine g_aload_n X dX7_look_5 0 rfl ?_
  refine g_aload_n X dX7_look_6 0 rfl ?_
  refine g_iload_n X dX7_look_7 1 rfl ?_
  refine g_cV X ml_X7_104 (c_X7_noLetter (I := t0 I) D _) ⟨7, _, mLm D, rfl⟩ (Nat.le_of_ble_eq_true rfl) rfl rfl (Nat.le_of_ble_eq_true rfl) (Nat.zero_le _) (Nat.zero_le _) dX7_look_8 ?_
  refine g_eqi (y := (0 : Int32)) (b2_f (Decidable.not_not.mpr hd)) ?_
  refine g_iconst X (v := 1) dX7_look_11 ki_1 ?_
  refine g_cV X ml_X7_179 (c_X7_throwsIf0 D _) ⟨7, _, mLm D, rfl⟩ (Nat.le_of_ble_eq_true rfl) rfl rfl (Nat.le_of_ble_eq_true rfl) (Nat.zero_le _) (Nat.zero_le _) dX7_look_12 ?_
  refine g_if_eq X 20 dX7_look_15 (by decide) (fun c_15 => ?_) (fun c_15 => absurd rfl c_15)
  refine g_iload_n X dX7_look_20 2 rfl ?_
  refine g_tswIn X (off := 56) 77 dX7_look_21 (by decide) (by decide) (by decide) (by decide) ?_
  refine g_aload_n X dX7_look_77 0 rfl ?_
  refine g_iload_n X dX7_look_78 1 rfl ?_
  refine g_cV X ml_X7_225 (c_X7_isClosed D a ha hP) ⟨7, _, mLm D, rfl⟩ (Nat.le_of_ble_eq_true rfl) rfl rfl (Nat.le_of_ble_eq_true rfl) (Nat.zero_le _) (Nat.zero_le _) dX7_look_79 ?_
  refine g_if_eq X 89 dX7_look_82 (by decide) (fun c_82 => ?_) (fun c_82 => ?_)
  · refine g_iconst X (v := 0) dX7_look_89 ki_0 ?_
    refine g_iret X F rfl rfl dX7_look_90 (Nat.zero_le _) (Nat.zero_le _) ?_
    first | exact ⟨by rw [b2_t (Decidable.not_not.mp (fun q => c_82 (b2_0.mpr q)))], rfl⟩ | exact ⟨by rw [c_82], rfl⟩
  · refine g_iconst X (v := 1) dX7_look_85 ki_1 ?_
    refine g_goto X 90 dX7_look_86 (by decide) ?_
    refine g_iret X F rfl rfl dX7_look_90 (Nat.zero_le _) (Nat.zero_le _) ?_
    first | exact ⟨by rw [b2_t (Decidable.not_not.mp (fun q => c_82 (b2_0.mpr q)))], rfl⟩ | exact ⟨by rw [c_82], rfl⟩
theorem c_X7_look_4 (D : md ix m ad) (a : Nat) (ha : a < 80) (hd : inR (nI a) 0 (I 21 - 1)) (nt : Nat) (hnt : nt ≤ 10) (hI : I 26 = nI nt) (hP : okN (Ar 15 a) 6) : Ct G l 2 0 0 M_X7_look [.ref m, .int (nI a), .int 4] (mH G ix ad I Ar h0) (rX (some (.int (ansF Ar nt a))) (mH G ix ad (t0 I) Ar h0)) := by
  refine Ct.of (by decide +kernel) (Nat.le_of_ble_eq_true rfl) (fun E hE X F => ?_)
  have X : Gc G E "ComplaintDeskModel" cX7_look 3 2 0 0 := X
  show GW G E _ 3 0 [(0, _), (1, _), (2, _)] [] _ 0 0
  refine g_aload_n X dX7_look_0 0 rfl ?_
  refine g_iconst X (v := 0) dX7_look_1 ki_0 ?_
  refine m_put X D 0 (by decide) fp_X7_91 dX7_look_2 (mset_0 _ _ _) ?_
  refine g_aload_n X dX7_look_5 0 rfl ?_
  refine g_aload_n X dX7_look_6 0 rfl ?_
  refine g_iload_n X dX7_look_7 1 rfl ?_
  refine g_cV X ml_X7_104 (c_X7_noLetter (I := t0 I) D _) ⟨7, _, mLm D, rfl⟩ (Nat.le_of_ble_eq_true rfl) rfl rfl (Nat.le_of_ble_eq_true rfl) (Nat.zero_le _) (Nat.zero_le _) dX7_look_8 ?_
  refine g_eqi (y := (0 : Int32)) (b2_f (Decidable.not_not.mpr hd)) ?_
  refine g_iconst X (v := 1) dX7_look_11 ki_1 ?_
  refine g_cV X ml_X7_179 (c_X7_throwsIf0 D _) ⟨7, _, mLm D, rfl⟩ (Nat.le_of_ble_eq_true rfl) rfl rfl (Nat.le_of_ble_eq_true rfl) (Nat.zero_le _) (Nat.zero_le _) dX7_look_12 ?_
  refine g_if_eq X 20 dX7_look_15 (by decide) (fun c_15 => ?_) (fun c_15 => absurd rfl c_15)
  refine g_iload_n X dX7_look_20 2 rfl ?_
  refine g_tswIn X (off := 70) 91 dX7_look_21 (by decide) (by decide) (by decide) (by decide) ?_
  refine g_aload_n X dX7_look_91 0 rfl ?_
  refine g_iload_n X dX7_look_92 1 rfl ?_
  refine g_cV X ml_X7_228 (c_X7_theAnswer (I := t0 I) D nt hnt hI a ha hP) ⟨7, _, mLm D, rfl⟩ (Nat.le_of_ble_eq_true rfl) rfl rfl (Nat.le_of_ble_eq_true rfl) (Nat.zero_le _) (Nat.zero_le _) dX7_look_93 ?_
  refine g_iret X F rfl rfl dX7_look_96 (Nat.zero_le _) (Nat.zero_le _) ?_
  exact ⟨rfl, rfl⟩
theorem c_X7_look_e2 (D : md ix m ad) (a : Nat) (ha : a < 80) (hd : inR (nI a) 0 (I 21 - 1)) (w : Int32) (hw : w.toInt < 0 ∨ 4 < w.toInt) : Ct G l 2 0 0 M_X7_look [.ref m, .int (nI a), .int w] (mH G ix ad I Ar h0) (rX (some (.int 0)) (mH G ix ad (va_up (t0 I) 0 2) Ar h0)) := by
  refine Ct.of (by decide +kernel) (Nat.le_of_ble_eq_true rfl) (fun E hE X F => ?_)
  have X : Gc G E "ComplaintDeskModel" cX7_look 3 2 0 0 := X
  show GW G E _ 3 0 [(0, _), (1, _), (2, _)] [] _ 0 0
  refine g_aload_n X dX7_look_0 0 rfl ?_
  refine g_iconst X (v := 0) dX7_look_1 ki_0 ?_
  refine m_put X D 0 (by decide) fp_X7_91 dX7_look_2 (mset_0 _ _ _) ?_
  refine g_aload_n X dX7_look_5 0 rfl ?_
  refine g_aload_n X dX7_look_6 0 rfl ?_
  refine g_iload_n X dX7_look_7 1 rfl ?_
  refine g_cV X ml_X7_104 (c_X7_noLetter (I := t0 I) D _) ⟨7, _, mLm D, rfl⟩ (Nat.le_of_ble_eq_true rfl) rfl rfl (Nat.le_of_ble_eq_true rfl) (Nat.zero_le _) (Nat.zero_le _) dX7_look_8 ?_
  refine g_eqi (y := (0 : Int32)) (b2_f (Decidable.not_not.mpr hd)) ?_
  refine g_iconst X (v := 1) dX7_look_11 ki_1 ?_
  refine g_cV X ml_X7_179 (c_X7_throwsIf0 D _) ⟨7, _, mLm D, rfl⟩ (Nat.le_of_ble_eq_true rfl) rfl rfl (Nat.le_of_ble_eq_true rfl) (Nat.zero_le _) (Nat.zero_le _) dX7_look_12 ?_
  refine g_if_eq X 20 dX7_look_15 (by decide) (fun c_15 => ?_) (fun c_15 => absurd rfl c_15)
  refine g_iload_n X dX7_look_20 2 rfl ?_
  refine g_tswOut X 97 dX7_look_21 hw (by decide) ?_
  refine g_aload_n X dX7_look_97 0 rfl ?_
  refine g_iconst X (v := 2) dX7_look_98 ki_2 ?_
  refine m_put X D 0 (by decide) fp_X7_91 dX7_look_99 (mset_0 _ _ _) ?_
  refine g_iconst X (v := 0) dX7_look_102 ki_0 ?_
  refine g_iret X F rfl rfl dX7_look_103 (Nat.zero_le _) (Nat.zero_le _) ?_
  exact ⟨rfl, by rw [bx_uu]⟩
theorem c_X7_point_e1 (D : md ix m ad) (lt p w : Int32) (hl : inR lt 0 (I 21 - 1) → vp_in lt 81) (hd : noPt I Ar lt p) : Ct G l 3 0 0 M_X7_point [.ref m, .int lt, .int p, .int w] (mH G ix ad I Ar h0) (rX (some (.int 0)) (mH G ix ad (va_up (t0 I) 0 1) Ar h0)) := by
  refine Ct.of (by decide +kernel) (Nat.le_of_ble_eq_true rfl) (fun E hE X F => ?_)
  have X : Gc G E "ComplaintDeskModel" cX7_point 8 3 0 0 := X
  show GW G E _ 8 0 [(0, _), (1, _), (2, _), (3, _)] [] _ 0 0
  refine g_aload_n X dX7_point_0 0 rfl ?_
  refine g_iconst X (v := 0) dX7_point_1 ki_0 ?_
  refine m_put X D 0 (by decide) fp_X7_91 dX7_point_2 (mset_0 _ _ _) ?_
  refine g_aload_n X dX7_point_5 0 rfl ?_
  refine g_aload_n X dX7_point_6 0 rfl ?_
  refine g_iload_n X dX7_point_7 1 rfl ?_
  refine g_iload_n X dX7_point_8 2 rfl ?_
  refine g_cV X ml_X7_214 (c_X7_noPoint (I := t0 I) D _ _ hl) ⟨7, _, mLm D, rfl⟩ (Nat.le_of_ble_eq_true rfl) rfl rfl (Nat.le_of_ble_eq_true rfl) (Nat.zero_le _) (Nat.zero_le _) dX7_point_9 ?_
  refine g_eqi (y := (1 : Int32)) (b2_t hd) ?_
  refine g_iconst X (v := 1) dX7_point_12 ki_1 ?_
  refine g_cV X ml_X7_179 (c_X7_throwsIf1 D _) ⟨7, _, mLm D, rfl⟩ (Nat.le_of_ble_eq_true rfl) rfl rfl (Nat.le_of_ble_eq_true rfl) (Nat.zero_le _) (Nat.zero_le _) dX7_point_13 ?_
  refine g_if_eq X 21 dX7_point_16 (by decide) (fun c_16 => absurd c_16 (by decide)) (fun c_16 => ?_)
  refine g_iconst X (v := 0) dX7_point_19 ki_0 ?_
  refine g_iret X F rfl rfl dX7_point_20 (Nat.zero_le _) (Nat.zero_le _) ?_
  exact ⟨rfl, rfl⟩
theorem c_X7_point_0 (D : md ix m ad) (a b : Nat) (ha : a < 80) (hb : b < 6) (hl : inR (nI a) 0 (I 21 - 1) → vp_in (nI a) 81) (hd : ¬ noPt I Ar (nI a) (nI b))  : Ct G l 3 0 0 M_X7_point [.ref m, .int (nI a), .int (nI b), .int 0] (mH G ix ad I Ar h0) (rX (some (.int (Ar 22 (6 * a + b)))) (mH G ix ad (t0 I) Ar h0)) := by
  refine Ct.of (by decide +kernel) (Nat.le_of_ble_eq_true rfl) (fun E hE X F => ?_)
  have X : Gc G E "ComplaintDeskModel" cX7_point 8 3 0 0 := X
  show GW G E _ 8 0 [(0, _), (1, _), (2, _), (3, _)] [] _ 0 0
  refine g_aload_n X dX7_point_0 0 rfl ?_
  refine g_iconst X (v := 0) dX7_point_1 ki_0 ?_
  refine m_put X D 0 (by decide) fp_X7_91 dX7_point_2 (mset_0 _ _ _) ?_
  refine g_aload_n X dX7_point_5 0 rfl ?_
  refine g_aload_n X dX7_point_6 0 rfl ?_
  refine g_iload_n X dX7_point_7 1 rfl ?_
  refine g_iload_n X dX7_point_8 2 rfl ?_
  refine g_cV X ml_X7_214 (c_X7_noPoint (I := t0 I) D _ _ hl) ⟨7, _, mLm D, rfl⟩ (Nat.le_of_ble_eq_true rfl) rfl rfl (Nat.le_of_ble_eq_true rfl) (Nat.zero_le _) (Nat.zero_le _) dX7_point_9 ?_
  refine g_eqi (y := (0 : Int32)) (b2_f hd) ?_
  refine g_iconst X (v := 1) dX7_point_12 ki_1 ?_
  refine g_cV X ml_X7_179 (c_X7_throwsIf0 D _) ⟨7, _, mLm D, rfl⟩ (Nat.le_of_ble_eq_true rfl) rfl rfl (Nat.le_of_ble_eq_true rfl) (Nat.zero_le _) (Nat.zero_le _) dX7_point_13 ?_
  refine g_if_eq X 21 dX7_point_16 (by decide) (fun c_16 => ?_) (fun c_16 => absurd rfl c_16)
  refine g_bipush X (v := 6) dX7_point_21 kb_6 ?_
  refine g_iload_n X dX7_point_23 1 rfl ?_
  refine g_imul X dX7_point_24 ?_
  refine g_iload_n X dX7_point_25 2 rfl ?_
  refine g_iadd X dX7_point_26 ?_
  refine g_eqi (y := nI (6 * a + b)) (ix6 a b) ?_
  refine g_istore X dX7_point_27 (Nat.le_of_ble_eq_true rfl) [(4, _), (0, _), (1, _), (2, _), (3, _)] rfl ?_
  refine g_iconst X (v := 0) dX7_point_29 ki_0 ?_
  refine g_istore X dX7_point_30 (Nat.le_of_ble_eq_true rfl) [(5, _), (4, _), (0, _), (1, _), (2, _), (3, _)] rfl ?_
  refine g_iload_n X dX7_point_32 5 rfl ?_
  refine g_tswIn X (off := 35) 68 dX7_point_33 (by decide) (by decide) (by decide) (by decide) ?_
  refine g_aload_n X dX7_point_68 2 rfl ?_
  refine g_getfield X fl_X7_66 dX7_point_69 (mLm D) rfl ?_
  refine g_iload X dX7_point_72 1 rfl ?_
  refine g_iaload X dX7_point_74 (mLa D 22 rfl) (vp_in_nI (ix6_480 ha hb) (by decide)) ?_
  refine g_eqi (y := Ar 22 (6 * a + b)) (by rw [nI_clamp (by omega)]) ?_
  refine g_iret X F rfl rfl dX7_point_75 (Nat.zero_le _) (Nat.zero_le _) ?_
  exact ⟨rfl, rfl⟩
theorem c_X7_point_1 (D : md ix m ad) (a b : Nat) (ha : a < 80) (hb : b < 6) (hl : inR (nI a) 0 (I 21 - 1) → vp_in (nI a) 81) (hd : ¬ noPt I Ar (nI a) (nI b))  : Ct G l 3 0 0 M_X7_point [.ref m, .int (nI a), .int (nI b), .int 1] (mH G ix ad I Ar h0) (rX (some (.int (Ar 23 (6 * a + b)))) (mH G ix ad (t0 I) Ar h0)) := by
  refine Ct.of (by decide +kernel) (Nat.le_of_ble_eq_true rfl) (fun E hE X F => ?_)
  have X : Gc G E "ComplaintDeskModel" cX7_point 8 3 0 0 := X
  show GW G E _ 8 0 [(0, _), (1, _), (2, _), (3, _)] [] _ 0 0
  refine g_aload_n X dX7_point_0 0 rfl ?_
  refine g_iconst X (v := 0) dX7_point_1 ki_0 ?_
  refine m_put X D 0 (by decide) fp_X7_91 dX7_point_2 (mset_0 _ _ _) ?_
  refine g_aload_n X dX7_point_5 0 rfl ?_
  refine g_aload_n X dX7_point_6 0 rfl ?_
  refine g_iload_n X dX7_point_7 1 rfl ?_
  refine g_iload_n X dX7_point_8 2 rfl ?_
  refine g_cV X ml_X7_214 (c_X7_noPoint (I := t0 I) D _ _ hl) ⟨7, _, mLm D, rfl⟩ (Nat.le_of_ble_eq_true rfl) rfl rfl (Nat.le_of_ble_eq_true rfl) (Nat.zero_le _) (Nat.zero_le _) dX7_point_9 ?_
  refine g_eqi (y := (0 : Int32)) (b2_f hd) ?_
  refine g_iconst X (v := 1) dX7_point_12 ki_1 ?_
  refine g_cV X ml_X7_179 (c_X7_throwsIf0 D _) ⟨7, _, mLm D, rfl⟩ (Nat.le_of_ble_eq_true rfl) rfl rfl (Nat.le_of_ble_eq_true rfl) (Nat.zero_le _) (Nat.zero_le _) dX7_point_13 ?_
  refine g_if_eq X 21 dX7_point_16 (by decide) (fun c_16 => ?_) (fun c_16 => absurd rfl c_16)
  refine g_bipush X (v := 6) dX7_point_21 kb_6 ?_
  refine g_iload_n X dX7_point_23 1 rfl ?_
  refine g_imul X dX7_point_24 ?_
  refine g_iload_n X dX7_point_25 2 rfl ?_
  refine g_iadd X dX7_point_26 ?_
  refine g_eqi (y := nI (6 * a + b)) (ix6 a b) ?_
  refine g_istore X dX7_point_27 (Nat.le_of_ble_eq_true rfl) [(4, _), (0, _), (1, _), (2, _), (3, _)] rfl ?_
  refine g_iconst X (v := 0) dX7_point_29 ki_0 ?_
  refine g_istore X dX7_point_30 (Nat.le_of_ble_eq_true rfl) [(5, _), (4, _), (0, _), (1, _), (2, _), (3, _)] rfl ?_
  refine g_iload_n X dX7_point_32 5 rfl ?_
  refine g_tswIn X (off := 43) 76 dX7_point_33 (by decide) (by decide) (by decide) (by decide) ?_
  refine g_aload_n X dX7_point_76 2 rfl ?_
  refine g_getfield X fl_X7_69 dX7_point_77 (mLm D) rfl ?_
  refine g_iload X dX7_point_80 1 rfl ?_
  refine g_iaload X dX7_point_82 (mLa D 23 rfl) (vp_in_nI (ix6_480 ha hb) (by decide)) ?_
  refine g_eqi (y := Ar 23 (6 * a + b)) (by rw [nI_clamp (by omega)]) ?_
  refine g_iret X F rfl rfl dX7_point_83 (Nat.zero_le _) (Nat.zero_le _) ?_
  exact ⟨rfl, rfl⟩
theorem c_X7_point_2 (D : md ix m ad) (a b : Nat) (ha : a < 80) (hb : b < 6) (hl : inR (nI a) 0 (I 21 - 1) → vp_in (nI a) 81) (hd : ¬ noPt I Ar (nI a) (nI b))  : Ct G l 3 0 0 M_X7_point [.ref m, .int (nI a), .int (nI b), .int 2] (mH G ix ad I Ar h0) (rX (some (.int (Ar 24 (6 * a + b)))) (mH G ix ad (t0 I) Ar h0)) := by
  refine Ct.of (by decide +kernel) (Nat.le_of_ble_eq_true rfl) (fun E hE X F => ?_)
  have X : Gc G E "ComplaintDeskModel" cX7_point 8 3 0 0 := X
  show GW G E _ 8 0 [(0, _), (1, _), (2, _), (3, _)] [] _ 0 0
  refine g_aload_n X dX7_point_0 0 rfl ?_
  refine g_iconst X (v := 0) dX7_point_1 ki_0 ?_
  refine m_put X D 0 (by decide) fp_X7_91 dX7_point_2 (mset_0 _ _ _) ?_
  refine g_aload_n X dX7_point_5 0 rfl ?_
  refine g_aload_n X dX7_point_6 0 rfl ?_
  refine g_iload_n X dX7_point_7 1 rfl ?_
  refine g_iload_n X dX7_point_8 2 rfl ?_
  refine g_cV X ml_X7_214 (c_X7_noPoint (I := t0 I) D _ _ hl) ⟨7, _, mLm D, rfl⟩ (Nat.le_of_ble_eq_true rfl) rfl rfl (Nat.le_of_ble_eq_true rfl) (Nat.zero_le _) (Nat.zero_le _) dX7_point_9 ?_
  refine g_eqi (y := (0 : Int32)) (b2_f hd) ?_
  refine g_iconst X (v := 1) dX7_point_12 ki_1 ?_
  refine g_cV X ml_X7_179 (c_X7_throwsIf0 D _) ⟨7, _, mLm D, rfl⟩ (Nat.le_of_ble_eq_true rfl) rfl rfl (Nat.le_of_ble_eq_true rfl) (Nat.zero_le _) (Nat.zero_le _) dX7_point_13 ?_
  refine g_if_eq X 21 dX7_point_16 (by decide) (fun c_16 => ?_) (fun c_16 => absurd rfl c_16)
  refine g_bipush X (v := 6) dX7_point_21 kb_6 ?_
  refine g_iload_n X dX7_point_23 1 rfl ?_
  refine g_imul X dX7_point_24 ?_
  refine g_iload_n X dX7_point_25 2 rfl ?_
  refine g_iadd X dX7_point_26 ?_
  refine g_eqi (y := nI (6 * a + b)) (ix6 a b) ?_
  refine g_istore X dX7_point_27 (Nat.le_of_ble_eq_true rfl) [(4, _), (0, _), (1, _), (2, _), (3, _)] rfl ?_
  refine g_iconst X (v := 0) dX7_point_29 ki_0 ?_
  refine g_istore X dX7_point_30 (Nat.le_of_ble_eq_true rfl) [(5, _), (4, _), (0, _), (1, _), (2, _), (3, _)] rfl ?_
  refine g_iload_n X dX7_point_32 5 rfl ?_
  refine g_tswIn X (off := 51) 84 dX7_point_33 (by decide) (by decide) (by decide) (by decide) ?_
  refine g_aload_n X dX7_point_84 2 rfl ?_
  refine g_getfield X fl_X7_72 dX7_point_85 (mLm D) rfl ?_
  refine g_iload X dX7_point_88 1 rfl ?_
  refine g_iaload X dX7_point_90 (mLa D 24 rfl) (vp_in_nI (ix6_480 ha hb) (by decide)) ?_
  refine g_eqi (y := Ar 24 (6 * a + b)) (by rw [nI_clamp (by omega)]) ?_
  refine g_iret X F rfl rfl dX7_point_91 (Nat.zero_le _) (Nat.zero_le _) ?_
  exact ⟨rfl, rfl⟩
/-- of the writer of letter a, in the cause of point k0 -/
abbrev mtP (Ar : Nat → Nat → Int32) (a k0 q p : Nat) : Prop := Ar 13 q = Ar 13 a ∧ Ar 22 (6 * q + p) = Ar 22 k0
abbrev mtN (Ar : Nat → Nat → Int32) (a k0 q : Nat) : Nat := cN (fun p => mtP Ar a k0 q p) (cl (Ar 15 q))
theorem lp_X7_point_107 {E : gE} (X : Gc G E "ComplaintDeskModel" cX7_point 8 3 0 0) {Q : State → Prop} (D : md ix m ad) (a k0 : Nat) (ha : a < 80) (hk0 : k0 < 480) (b0 w : Int32) (q : Nat) (hq : q < 80) (hP : okN (Ar 15 q) 6) (s : Nat) (K : GW G E Q 8 174 [(0, .ref m), (1, .int (nI a)), (2, .int b0), (3, .int w), (4, .int (nI k0)), (5, .int (nI (s + mtN Ar a k0 q))), (6, .int (nI q))] [] (mH G ix ad (t0 I) Ar h0) 0 0) : ∀ (f : Nat) (p : Nat), p ≤ cl (Ar 15 q) → cl (Ar 15 q) - p < f → GW G E Q 8 107 [(0, .ref m), (1, .int (nI a)), (2, .int b0), (3, .int w), (4, .int (nI k0)), (5, .int (nI (s + cN (fun p => mtP Ar a k0 q p) p))), (6, .int (nI q)), (7, .int (nI p))] [] (mH G ix ad (t0 I) Ar h0) 0 0 := by
  intro f
  induction f with
  | zero => intro p hp hf; exact absurd hf (Nat.not_lt_zero _)
  | succ f ih =>
    intro p hp hf
    have hp6 := hP.le
    refine g_iload X dX7_point_107 7 rfl ?_
    refine g_aload_n X dX7_point_109 0 rfl ?_
    refine g_getfield X fl_X7_48 dX7_point_110 (mLm D) rfl ?_
    refine g_iload X dX7_point_113 6 rfl ?_
    refine g_iaload X dX7_point_115 (mLa D 15 rfl) (vp_in_nI (by omega) (by decide)) ?_
    refine g_eqi (y := Ar 15 q) (by rw [nI_clamp (by omega)]) ?_
    refine g_icmp_ge X 174 dX7_point_116 (by decide) (fun c_116 => ?_) (fun c_116 => ?_)
    · have hz : p = cl (Ar 15 q) := by have := hP.ge c_116 (by omega); omega
      subst hz
      refine g_L [0, 1, 2, 3, 4, 5, 6] (L' := [(0, _), (1, _), (2, _), (3, _), (4, _), (5, _), (6, _)]) rfl ?_
      exact K
    · have hz : p < cl (Ar 15 q) := hP.lt (Int32.not_le.mp c_116) (by omega)
      refine g_iload X dX7_point_119 5 rfl ?_
      refine g_aload_n X dX7_point_121 0 rfl ?_
      refine g_getfield X fl_X7_42 dX7_point_122 (mLm D) rfl ?_
      refine g_iload X dX7_point_125 6 rfl ?_
      refine g_iaload X dX7_point_127 (mLa D 13 rfl) (vp_in_nI (by omega) (by decide)) ?_
      refine g_eqi (y := Ar 13 q) (by rw [nI_clamp (by omega)]) ?_
      refine g_aload_n X dX7_point_128 0 rfl ?_
      refine g_getfield X fl_X7_42 dX7_point_129 (mLm D) rfl ?_
      refine g_iload_n X dX7_point_132 1 rfl ?_
      refine g_iaload X dX7_point_133 (mLa D 13 rfl) (vp_in_nI (by omega) (by decide)) ?_
      refine g_eqi (y := Ar 13 a) (by rw [nI_clamp (by omega)]) ?_
      refine g_icmp_ne X 164 dX7_point_134 (by decide) (fun c_134 => ?_) (fun c_134 => ?_)
      · refine g_iconst X (v := 0) dX7_point_164 ki_0 ?_
        refine g_iadd X dX7_point_165 ?_
        refine g_eqi (y := nI (s + cN (fun p => mtP Ar a k0 q p) (p + 1))) (by first | (rw [cN_s, if_pos ⟨c_134, c_157⟩]; exact nI_1 _) | (rw [cN_s, if_neg (fun z => c_157 z.2)]; exact nI_add _ 0) | (rw [cN_s, if_neg (fun z => c_134 z.1)]; exact nI_add _ 0)) ?_
        refine g_istore X dX7_point_166 (Nat.le_of_ble_eq_true rfl) [(5, _), (0, _), (1, _), (2, _), (3, _), (4, _), (6, _), (7, _)] rfl ?_
        refine g_iinc X (v := nI (p + 1)) dX7_point_168 7 rfl (nI_1 p) (Nat.le_of_ble_eq_true rfl) [(7, _), (5, _), (0, _), (1, _), (2, _), (3, _), (4, _), (6, _)] rfl ?_
        refine g_goto X 107 dX7_point_171 (by decide) ?_
        refine g_L [2, 3, 4, 5, 6, 1, 7, 0] (L' := [(0, _), (1, _), (2, _), (3, _), (4, _), (5, _), (6, _), (7, _)]) rfl ?_
        exact ih (p + 1) (by omega) (by omega)
      · refine g_aload_n X dX7_point_137 0 rfl ?_
        refine g_getfield X fl_X7_66 dX7_point_138 (mLm D) rfl ?_
        refine g_bipush X (v := 6) dX7_point_141 kb_6 ?_
        refine g_iload X dX7_point_143 6 rfl ?_
        refine g_imul X dX7_point_145 ?_
        refine g_iload X dX7_point_146 7 rfl ?_
        refine g_iadd X dX7_point_148 ?_
        refine g_eqi (y := nI (6 * q + p)) (ix6 q p) ?_
        refine g_iaload X dX7_point_149 (mLa D 22 rfl) (vp_in_nI (by omega) (by decide)) ?_
        refine g_eqi (y := Ar 22 (6 * q + p)) (by rw [nI_clamp (by omega)]) ?_
        refine g_aload_n X dX7_point_150 0 rfl ?_
        refine g_getfield X fl_X7_66 dX7_point_151 (mLm D) rfl ?_
        refine g_iload X dX7_point_154 4 rfl ?_
        refine g_iaload X dX7_point_156 (mLa D 22 rfl) (vp_in_nI (by omega) (by decide)) ?_
        refine g_eqi (y := Ar 22 k0) (by rw [nI_clamp (by omega)]) ?_
        refine g_icmp_ne X 164 dX7_point_157 (by decide) (fun c_157 => ?_) (fun c_157 => ?_)
        · refine g_iconst X (v := 0) dX7_point_164 ki_0 ?_
          refine g_iadd X dX7_point_165 ?_
          refine g_eqi (y := nI (s + cN (fun p => mtP Ar a k0 q p) (p + 1))) (by first | (rw [cN_s, if_pos ⟨c_134, c_157⟩]; exact nI_1 _) | (rw [cN_s, if_neg (fun z => c_157 z.2)]; exact nI_add _ 0) | (rw [cN_s, if_neg (fun z => c_134 z.1)]; exact nI_add _ 0)) ?_
          refine g_istore X dX7_point_166 (Nat.le_of_ble_eq_true rfl) [(5, _), (0, _), (1, _), (2, _), (3, _), (4, _), (6, _), (7, _)] rfl ?_
          refine g_iinc X (v := nI (p + 1)) dX7_point_168 7 rfl (nI_1 p) (Nat.le_of_ble_eq_true rfl) [(7, _), (5, _), (0, _), (1, _), (2, _), (3, _), (4, _), (6, _)] rfl ?_
          refine g_goto X 107 dX7_point_171 (by decide) ?_
          refine g_L [2, 3, 4, 5, 6, 1, 7, 0] (L' := [(0, _), (1, _), (2, _), (3, _), (4, _), (5, _), (6, _), (7, _)]) rfl ?_
          exact ih (p + 1) (by omega) (by omega)
        · refine g_iconst X (v := 1) dX7_point_160 ki_1 ?_
          refine g_goto X 165 dX7_point_161 (by decide) ?_
          refine g_iadd X dX7_point_165 ?_
          refine g_eqi (y := nI (s + cN (fun p => mtP Ar a k0 q p) (p + 1))) (by first | (rw [cN_s, if_pos ⟨c_134, c_157⟩]; exact nI_1 _) | (rw [cN_s, if_neg (fun z => c_157 z.2)]; exact nI_add _ 0) | (rw [cN_s, if_neg (fun z => c_134 z.1)]; exact nI_add _ 0)) ?_
          refine g_istore X dX7_point_166 (Nat.le_of_ble_eq_true rfl) [(5, _), (0, _), (1, _), (2, _), (3, _), (4, _), (6, _), (7, _)] rfl ?_
          refine g_iinc X (v := nI (p + 1)) dX7_point_168 7 rfl (nI_1 p) (Nat.le_of_ble_eq_true rfl) [(7, _), (5, _), (0, _), (1, _), (2, _), (3, _), (4, _), (6, _)] rfl ?_
          refine g_goto X 107 dX7_point_171 (by decide) ?_
          refine g_L [2, 3, 4, 5, 6, 1, 7, 0] (L' := [(0, _), (1, _), (2, _), (3, _), (4, _), (5, _), (6, _), (7, _)]) rfl ?_
          exact ih (p + 1) (by omega) (by omega)
theorem lp_X7_point_95 {E : gE} (X : Gc G E "ComplaintDeskModel" cX7_point 8 3 0 0) (F : gF E M_X7_point) (D : md ix m ad) (a k0 : Nat) (ha : a < 80) (hk0 : k0 < 480) (b0 w : Int32) (hL : okN (I 21) 80) (hP : ∀ a, a < 80 → okN (Ar 15 a) 6) : ∀ (f : Nat) (q : Nat), q ≤ cl (I 21) → cl (I 21) - q < f → GW G E (gMQ G E 0 0 (rX (some (.int (if Ar 22 k0 < 0 then 0 else nI (sN (mtN Ar a k0) (cl (I 21)))))) (mH G ix ad (t0 I) Ar h0))) 8 95 [(0, .ref m), (1, .int (nI a)), (2, .int b0), (3, .int w), (4, .int (nI k0)), (5, .int (nI (sN (mtN Ar a k0) q))), (6, .int (nI q))] [] (mH G ix ad (t0 I) Ar h0) 0 0 := by
  intro f
  induction f with
  | zero => intro q hq hf; exact absurd hf (Nat.not_lt_zero _)
  | succ f ih =>
    intro q hq hf
    have hL1 := hL.le
    refine g_iload X dX7_point_95 6 rfl ?_
    refine g_aload_n X dX7_point_97 0 rfl ?_
    refine g_getfield X fl_X7_101 dX7_point_98 (mLm D) rfl ?_
    refine g_icmp_ge X 180 dX7_point_101 (by decide) (fun c_101 => ?_) (fun c_101 => ?_)
    · have hz : q = cl (I 21) := by have := hL.ge c_101 (by omega); omega
      subst hz
      refine g_aload_n X dX7_point_180 0 rfl ?_
      refine g_getfield X fl_X7_66 dX7_point_181 (mLm D) rfl ?_
      refine g_iload X dX7_point_184 4 rfl ?_
      refine g_iaload X dX7_point_186 (mLa D 22 rfl) (vp_in_nI hk0 (by decide)) ?_
      refine g_eqi (y := Ar 22 k0) (by rw [nI_clamp (by omega)]) ?_
      refine g_if_ge X 194 dX7_point_187 (by decide) (fun c_187 => ?_) (fun c_187 => ?_)
      · refine g_iload X dX7_point_194 5 rfl ?_
        refine g_iret X F rfl rfl dX7_point_196 (Nat.zero_le _) (Nat.zero_le _) ?_
        first | exact ⟨by rw [if_neg (Int32.not_lt.mpr c_187)], rfl⟩ | exact ⟨by rw [if_pos (Int32.not_le.mp c_187)], rfl⟩
      · refine g_iconst X (v := 0) dX7_point_190 ki_0 ?_
        refine g_goto X 196 dX7_point_191 (by decide) ?_
        refine g_iret X F rfl rfl dX7_point_196 (Nat.zero_le _) (Nat.zero_le _) ?_
        first | exact ⟨by rw [if_neg (Int32.not_lt.mpr c_187)], rfl⟩ | exact ⟨by rw [if_pos (Int32.not_le.mp c_187)], rfl⟩
    · have hz : q < cl (I 21) := hL.lt (Int32.not_le.mp c_101) (by omega)
      refine g_iconst X (v := 0) dX7_point_104 ki_0 ?_
      refine g_istore X dX7_point_105 (Nat.le_of_ble_eq_true rfl) [(7, _), (0, _), (1, _), (2, _), (3, _), (4, _), (5, _), (6, _)] rfl ?_
      refine g_L [1, 2, 3, 4, 5, 6, 7, 0] (L' := [(0, _), (1, _), (2, _), (3, _), (4, _), (5, _), (6, _), (7, _)]) rfl ?_
      refine g_L [0, 1, 2, 3, 4, 5, 6, 7] (L' := [(0, _), (1, _), (2, _), (3, _), (4, _), (5, .int (nI (sN (mtN Ar a k0) q + cN (fun p => mtP Ar a k0 q p) 0))), (6, _), (7, _)]) (by rw [cN_0]; rfl) ?_
      refine lp_X7_point_107 X D a k0 ha hk0 b0 w q (by omega) (hP q (by omega)) (sN (mtN Ar a k0) q) ?_ _ 0 (Nat.zero_le _) (Nat.lt_succ_self _)
      rw [← sN_s]
      refine g_iinc X (v := nI (q + 1)) dX7_point_174 6 rfl (nI_1 q) (Nat.le_of_ble_eq_true rfl) [(6, _), (0, _), (1, _), (2, _), (3, _), (4, _), (5, _)] rfl ?_
      refine g_goto X 95 dX7_point_177 (by decide) ?_
      refine g_L [1, 2, 3, 4, 5, 6, 0] (L' := [(0, _), (1, _), (2, _), (3, _), (4, _), (5, _), (6, _)]) rfl ?_
      exact ih (q + 1) (by omega) (by omega)
theorem c_X7_point_3 (D : md ix m ad) (a b : Nat) (ha : a < 80) (hb : b < 6) (hl : inR (nI a) 0 (I 21 - 1) → vp_in (nI a) 81) (hd : ¬ noPt I Ar (nI a) (nI b)) (hL : okN (I 21) 80) (hP : ∀ a, a < 80 → okN (Ar 15 a) 6) : Ct G l 3 0 0 M_X7_point [.ref m, .int (nI a), .int (nI b), .int 3] (mH G ix ad I Ar h0) (rX (some (.int (if Ar 22 (6 * a + b) < 0 then 0 else nI (sN (mtN Ar a (6 * a + b)) (cl (I 21)))))) (mH G ix ad (t0 I) Ar h0)) := by
  refine Ct.of (by decide +kernel) (Nat.le_of_ble_eq_true rfl) (fun E hE X F => ?_)
  have X : Gc G E "ComplaintDeskModel" cX7_point 8 3 0 0 := X
  show GW G E _ 8 0 [(0, _), (1, _), (2, _), (3, _)] [] _ 0 0
  refine g_aload_n X dX7_point_0 0 rfl ?_
  refine g_iconst X (v := 0) dX7_point_1 ki_0 ?_
  refine m_put X D 0 (by decide) fp_X7_91 dX7_point_2 (mset_0 _ _ _) ?_
  refine g_aload_n X dX7_point_5 0 rfl ?_
  refine g_aload_n X dX7_point_6 0 rfl ?_
  refine g_iload_n X dX7_point_7 1 rfl ?_
  refine g_iload_n X dX7_point_8 2 rfl ?_
  refine g_cV X ml_X7_214 (c_X7_noPoint (I := t0 I) D _ _ hl) ⟨7, _, mLm D, rfl⟩ (Nat.le_of_ble_eq_true rfl) rfl rfl (Nat.le_of_ble_eq_true rfl) (Nat.zero_le _) (Nat.zero_le _) dX7_point_9 ?_
  refine g_eqi (y := (0 : Int32)) (b2_f hd) ?_
  refine g_iconst X (v := 1) dX7_point_12 ki_1 ?_
  refine g_cV X ml_X7_179 (c_X7_throwsIf0 D _) ⟨7, _, mLm D, rfl⟩ (Nat.le_of_ble_eq_true rfl) rfl rfl (Nat.le_of_ble_eq_true rfl) (Nat.zero_le _) (Nat.zero_le _) dX7_point_13 ?_
  refine g_if_eq X 21 dX7_point_16 (by decide) (fun c_16 => ?_) (fun c_16 => absurd rfl c_16)
  refine g_bipush X (v := 6) dX7_point_21 kb_6 ?_
  refine g_iload_n X dX7_point_23 1 rfl ?_
  refine g_imul X dX7_point_24 ?_
  refine g_iload_n X dX7_point_25 2 rfl ?_
  refine g_iadd X dX7_point_26 ?_
  refine g_eqi (y := nI (6 * a + b)) (ix6 a b) ?_
  refine g_istore X dX7_point_27 (Nat.le_of_ble_eq_true rfl) [(4, _), (0, _), (1, _), (2, _), (3, _)] rfl ?_
  refine g_iconst X (v := 0) dX7_point_29 ki_0 ?_
  refine g_istore X dX7_point_30 (Nat.le_of_ble_eq_true rfl) [(5, _), (4, _), (0, _), (1, _), (2, _), (3, _)] rfl ?_
  refine g_iload_n X dX7_point_32 5 rfl ?_
  refine g_tswIn X (off := 59) 92 dX7_point_33 (by decide) (by decide) (by decide) (by decide) ?_
  refine g_iconst X (v := 0) dX7_point_92 ki_0 ?_
  refine g_istore X dX7_point_93 (Nat.le_of_ble_eq_true rfl) [(6, _), (5, _), (4, _), (0, _), (1, _), (2, _), (3, _)] rfl ?_
  refine g_L [3, 4, 5, 6, 2, 1, 0] (L' := [(0, _), (1, _), (2, _), (3, _), (4, _), (5, _), (6, _)]) rfl ?_
  refine g_L [0, 1, 2, 3, 4, 5, 6] (L' := [(0, _), (1, _), (2, _), (3, _), (4, _), (5, .int (nI (sN (mtN Ar a (6 * a + b)) 0))), (6, _)]) (by rw [sN_0]; rfl) ?_
  exact lp_X7_point_95 X F D a (6 * a + b) ha (ix6_480 ha hb) _ _ hL hP _ 0 (Nat.zero_le _) (Nat.lt_succ_self _)
theorem lp_X7_point_200 {E : gE} (X : Gc G E "ComplaintDeskModel" cX7_point 8 3 0 0) (F : gF E M_X7_point) (D : md ix m ad) (a b : Nat) (ha : a < 80) (w k0 : Int32) (hW : okN (Ar 16 a) 60) : ∀ (f : Nat) (v : Nat), v ≤ cl (Ar 16 a) → cl (Ar 16 a) - v < f → GW G E (gMQ G E 0 0 (rX (some (.int (nI (cN (fun v => Ar 20 (60 * a + v) = nI b) (cl (Ar 16 a)))))) (mH G ix ad (t0 I) Ar h0))) 8 200 [(0, .ref m), (1, .int (nI a)), (2, .int (nI b)), (3, .int w), (4, .int k0), (5, .int (nI (cN (fun v => Ar 20 (60 * a + v) = nI b) v))), (6, .int (nI v))] [] (mH G ix ad (t0 I) Ar h0) 0 0 := by
  intro f
  induction f with
  | zero => intro v hv hf; exact absurd hf (Nat.not_lt_zero _)
  | succ f ih =>
    intro v hv hf
    have hW1 := hW.le
    refine g_iload X dX7_point_200 6 rfl ?_
    refine g_aload_n X dX7_point_202 0 rfl ?_
    refine g_getfield X fl_X7_51 dX7_point_203 (mLm D) rfl ?_
    refine g_iload_n X dX7_point_206 1 rfl ?_
    refine g_iaload X dX7_point_207 (mLa D 16 rfl) (vp_in_nI (by omega) (by decide)) ?_
    refine g_eqi (y := Ar 16 a) (by rw [nI_clamp (by omega)]) ?_
    refine g_icmp_ge X 243 dX7_point_208 (by decide) (fun c_208 => ?_) (fun c_208 => ?_)
    · have hz : v = cl (Ar 16 a) := by have := hW.ge c_208 (by omega); omega
      subst hz
      refine g_iload X dX7_point_243 5 rfl ?_
      refine g_iret X F rfl rfl dX7_point_245 (Nat.zero_le _) (Nat.zero_le _) ?_
      exact ⟨rfl, rfl⟩
    · have hz : v < cl (Ar 16 a) := hW.lt (Int32.not_le.mp c_208) (by omega)
      refine g_iload X dX7_point_211 5 rfl ?_
      refine g_aload_n X dX7_point_213 0 rfl ?_
      refine g_getfield X fl_X7_63 dX7_point_214 (mLm D) rfl ?_
      refine g_bipush X (v := 60) dX7_point_217 kb_60 ?_
      refine g_iload_n X dX7_point_219 1 rfl ?_
      refine g_imul X dX7_point_220 ?_
      refine g_iload X dX7_point_221 6 rfl ?_
      refine g_iadd X dX7_point_223 ?_
      refine g_eqi (y := nI (60 * a + v)) (ix60 a v) ?_
      refine g_iaload X dX7_point_224 (mLa D 20 rfl) (vp_in_nI (by omega) (by decide)) ?_
      refine g_eqi (y := Ar 20 (60 * a + v)) (by rw [nI_clamp (by omega)]) ?_
      refine g_iload_n X dX7_point_225 2 rfl ?_
      refine g_icmp_ne X 233 dX7_point_226 (by decide) (fun c_226 => ?_) (fun c_226 => ?_)
      · refine g_iconst X (v := 0) dX7_point_233 ki_0 ?_
        refine g_iadd X dX7_point_234 ?_
        refine g_eqi (y := nI (cN (fun v => Ar 20 (60 * a + v) = nI b) (v + 1))) (by first | exact cN_t (P := (fun v => Ar 20 (60 * a + v) = nI b)) c_226 | exact cN_f (P := (fun v => Ar 20 (60 * a + v) = nI b)) c_226) ?_
        refine g_istore X dX7_point_235 (Nat.le_of_ble_eq_true rfl) [(5, _), (0, _), (1, _), (2, _), (3, _), (4, _), (6, _)] rfl ?_
        refine g_iinc X (v := nI (v + 1)) dX7_point_237 6 rfl (nI_1 v) (Nat.le_of_ble_eq_true rfl) [(6, _), (5, _), (0, _), (1, _), (2, _), (3, _), (4, _)] rfl ?_
        refine g_goto X 200 dX7_point_240 (by decide) ?_
        refine g_L [2, 3, 4, 5, 6, 1, 0] (L' := [(0, _), (1, _), (2, _), (3, _), (4, _), (5, _), (6, _)]) rfl ?_
        exact ih (v + 1) (by omega) (by omega)
      · refine g_iconst X (v := 1) dX7_point_229 ki_1 ?_
        refine g_goto X 234 dX7_point_230 (by decide) ?_
        refine g_iadd X dX7_point_234 ?_
        refine g_eqi (y := nI (cN (fun v => Ar 20 (60 * a + v) = nI b) (v + 1))) (by first | exact cN_t (P := (fun v => Ar 20 (60 * a + v) = nI b)) c_226 | exact cN_f (P := (fun v => Ar 20 (60 * a + v) = nI b)) c_226) ?_
        refine g_istore X dX7_point_235 (Nat.le_of_ble_eq_true rfl) [(5, _), (0, _), (1, _), (2, _), (3, _), (4, _), (6, _)] rfl ?_
        refine g_iinc X (v := nI (v + 1)) dX7_point_237 6 rfl (nI_1 v) (Nat.le_of_ble_eq_true rfl) [(6, _), (5, _), (0, _), (1, _), (2, _), (3, _), (4, _)] rfl ?_
        refine g_goto X 200 dX7_point_240 (by decide) ?_
        refine g_L [2, 3, 4, 5, 6, 1, 0] (L' := [(0, _), (1, _), (2, _), (3, _), (4, _), (5, _), (6, _)]) rfl ?_
        exact ih (v + 1) (by omega) (by omega)
theorem c_X7_point_4 (D : md ix m ad) (a b : Nat) (ha : a < 80) (hb : b < 6) (hl : inR (nI a) 0 (I 21 - 1) → vp_in (nI a) 81) (hd : ¬ noPt I Ar (nI a) (nI b)) (hW : okN (Ar 16 a) 60) : Ct G l 3 0 0 M_X7_point [.ref m, .int (nI a), .int (nI b), .int 4] (mH G ix ad I Ar h0) (rX (some (.int (nI (cN (fun v => Ar 20 (60 * a + v) = nI b) (cl (Ar 16 a)))))) (mH G ix ad (t0 I) Ar h0)) := by
  refine Ct.of (by decide +kernel) (Nat.le_of_ble_eq_true rfl) (fun E hE X F => ?_)
  have X : Gc G E "ComplaintDeskModel" cX7_point 8 3 0 0 := X
  show GW G E _ 8 0 [(0, _), (1, _), (2, _), (3, _)] [] _ 0 0
  refine g_aload_n X dX7_point_0 0 rfl ?_
  refine g_iconst X (v := 0) dX7_point_1 ki_0 ?_
  refine m_put X D 0 (by decide) fp_X7_91 dX7_point_2 (mset_0 _ _ _) ?_
  refine g_aload_n X dX7_point_5 0 rfl ?_
  refine g_aload_n X dX7_point_6 0 rfl ?_
  refine g_iload_n X dX7_point_7 1 rfl ?_
  refine g_iload_n X dX7_point_8 2 rfl ?_
  refine g_cV X ml_X7_214 (c_X7_noPoint (I := t0 I) D _ _ hl) ⟨7, _, mLm D, rfl⟩ (Nat.le_of_ble_eq_true rfl) rfl rfl (Nat.le_of_ble_eq_true rfl) (Nat.zero_le _) (Nat.zero_le _) dX7_point_9 ?_
  refine g_eqi (y := (0 : Int32)) (b2_f hd) ?_
  refine g_iconst X (v := 1) dX7_point_12 ki_1 ?_
  refine g_cV X ml_X7_179 (c_X7_throwsIf0 D _) ⟨7, _, mLm D, rfl⟩ (Nat.le_of_ble_eq_true rfl) rfl rfl (Nat.le_of_ble_eq_true rfl) (Nat.zero_le _) (Nat.zero_le _) dX7_point_13 ?_
  refine g_if_eq X 21 dX7_point_16 (by decide) (fun c_16 => ?_) (fun c_16 => absurd rfl c_16)
  refine g_bipush X (v := 6) dX7_point_21 kb_6 ?_
  refine g_iload_n X dX7_point_23 1 rfl ?_
  refine g_imul X dX7_point_24 ?_
  refine g_iload_n X dX7_point_25 2 rfl ?_
  refine g_iadd X dX7_point_26 ?_
  refine g_eqi (y := nI (6 * a + b)) (ix6 a b) ?_
  refine g_istore X dX7_point_27 (Nat.le_of_ble_eq_true rfl) [(4, _), (0, _), (1, _), (2, _), (3, _)] rfl ?_
  refine g_iconst X (v := 0) dX7_point_29 ki_0 ?_
  refine g_istore X dX7_point_30 (Nat.le_of_ble_eq_true rfl) [(5, _), (4, _), (0, _), (1, _), (2, _), (3, _)] rfl ?_
  refine g_iload_n X dX7_point_32 5 rfl ?_
  refine g_tswIn X (off := 164) 197 dX7_point_33 (by decide) (by decide) (by decide) (by decide) ?_
  refine g_iconst X (v := 0) dX7_point_197 ki_0 ?_
  refine g_istore X dX7_point_198 (Nat.le_of_ble_eq_true rfl) [(6, _), (5, _), (4, _), (0, _), (1, _), (2, _), (3, _)] rfl ?_
  refine g_L [3, 4, 5, 6, 2, 1, 0] (L' := [(0, _), (1, _), (2, _), (3, _), (4, _), (5, _), (6, _)]) rfl ?_
  refine g_L [0, 1, 2, 3, 4, 5, 6] (L' := [(0, _), (1, _), (2, _), (3, _), (4, _), (5, .int (nI (cN (fun v => Ar 20 (60 * a + v) = nI b) 0))), (6, _)]) (by rw [cN_0]; rfl) ?_
  exact lp_X7_point_200 X F D a b ha _ _ hW _ 0 (Nat.zero_le _) (Nat.lt_succ_self _)
theorem c_X7_point_e2 (D : md ix m ad) (a b : Nat) (ha : a < 80) (hb : b < 6) (hl : inR (nI a) 0 (I 21 - 1) → vp_in (nI a) 81) (hd : ¬ noPt I Ar (nI a) (nI b)) (w : Int32) (hw : w.toInt < 0 ∨ 4 < w.toInt) : Ct G l 3 0 0 M_X7_point [.ref m, .int (nI a), .int (nI b), .int w] (mH G ix ad I Ar h0) (rX (some (.int 0)) (mH G ix ad (va_up (t0 I) 0 2) Ar h0)) := by
  refine Ct.of (by decide +kernel) (Nat.le_of_ble_eq_true rfl) (fun E hE X F => ?_)
  have X : Gc G E "ComplaintDeskModel" cX7_point 8 3 0 0 := X
  show GW G E _ 8 0 [(0, _), (1, _), (2, _), (3, _)] [] _ 0 0
  refine g_aload_n X dX7_point_0 0 rfl ?_
  refine g_iconst X (v := 0) dX7_point_1 ki_0 ?_
  refine m_put X D 0 (by decide) fp_X7_91 dX7_point_2 (mset_0 _ _ _) ?_
  refine g_aload_n X dX7_point_5 0 rfl ?_
  refine g_aload_n X dX7_point_6 0 rfl ?_
  refine g_iload_n X dX7_point_7 1 rfl ?_
  refine g_iload_n X dX7_point_8 2 rfl ?_
  refine g_cV X ml_X7_214 (c_X7_noPoint (I := t0 I) D _ _ hl) ⟨7, _, mLm D, rfl⟩ (Nat.le_of_ble_eq_true rfl) rfl rfl (Nat.le_of_ble_eq_true rfl) (Nat.zero_le _) (Nat.zero_le _) dX7_point_9 ?_
  refine g_eqi (y := (0 : Int32)) (b2_f hd) ?_
  refine g_iconst X (v := 1) dX7_point_12 ki_1 ?_
  refine g_cV X ml_X7_179 (c_X7_throwsIf0 D _) ⟨7, _, mLm D, rfl⟩ (Nat.le_of_ble_eq_true rfl) rfl rfl (Nat.le_of_ble_eq_true rfl) (Nat.zero_le _) (Nat.zero_le _) dX7_point_13 ?_
  refine g_if_eq X 21 dX7_point_16 (by decide) (fun c_16 => ?_) (fun c_16 => absurd rfl c_16)
  refine g_bipush X (v := 6) dX7_point_21 kb_6 ?_
  refine g_iload_n X dX7_point_23 1 rfl ?_
  refine g_imul X dX7_point_24 ?_
  refine g_iload_n X dX7_point_25 2 rfl ?_
  refine g_iadd X dX7_point_26 ?_
  refine g_eqi (y := nI (6 * a + b)) (ix6 a b) ?_
  refine g_istore X dX7_point_27 (Nat.le_of_ble_eq_true rfl) [(4, _), (0, _), (1, _), (2, _), (3, _)] rfl ?_
  refine g_iconst X (v := 0) dX7_point_29 ki_0 ?_
  refine g_istore X dX7_point_30 (Nat.le_of_ble_eq_true rfl) [(5, _), (4, _), (0, _), (1, _), (2, _), (3, _)] rfl ?_
  refine g_iload_n X dX7_point_32 5 rfl ?_
  refine g_tswOut X 246 dX7_point_33 hw (by decide) ?_
  refine g_aload_n X dX7_point_246 2 rfl ?_
  refine g_iconst X (v := 2) dX7_point_247 ki_2 ?_
  refine m_put X D 0 (by decide) fp_X7_91 dX7_point_248 (mset_0 _ _ _) ?_
  refine g_iconst X (v := 0) dX7_point_251 ki_0 ?_
  refine g_iret X F rfl rfl dX7_point_252 (Nat.zero_le _) (Nat.zero_le _) ?_
  exact ⟨rfl, by rw [bx_uu]⟩
end M8
