section M14
variable {G : gG} {l : Launch} {ix : Nat → Nat} {m : Nat} {ad : Nat → Nat} {I : Nat → Int32} {Ar : Nat → Nat → Int32} {h0 h : hW}
/-- a word of a letter: from, to, its point -/
abbrev lW : Type := Nat × Nat × Nat
abbrev lP1 (c : Nat) (fr : Int32) : Nat := if fr = 0 then c else c + 1
/-- a letter's text from i on: the first wrong byte, if any; the points; the words -/
def lP (B : Nat → Int32) (N : Nat) : Nat → Nat → Nat → Int32 → List lW → Option Nat × Nat × List lW
  | 0, _, c, _, L => (some 0, c, L)
  | f + 1, i, c, fr, L =>
    if fin B N (bgn B N i) = bgn B N i then
      if fin B N (bgn B N i) = N then ((if L.length = 0 then some (bgn B N i) else none), c, L)
      else if ¬ fr = 0 ∨ ¬ atP B N (bgn B N i) 46 46 then (some (bgn B N i), c, L)
      else lP B N f (bgn B N i + 1) c 1 L
    else if (¬ fr = 0 ∧ c = 6) ∨ L.length = 60 then (some (bgn B N i), c, L)
    else lP B N f (fin B N (bgn B N i)) (lP1 c fr) 0 (L ++ [(bgn B N i, fin B N (bgn B N i), lP1 c fr - 1)])
termination_by f => f
theorem lP_s {B : Nat → Int32} {N f i c : Nat} {fr : Int32} {L : List lW} : lP B N (f + 1) i c fr L =
    if fin B N (bgn B N i) = bgn B N i then
      if fin B N (bgn B N i) = N then ((if L.length = 0 then some (bgn B N i) else none), c, L)
      else if ¬ fr = 0 ∨ ¬ atP B N (bgn B N i) 46 46 then (some (bgn B N i), c, L)
      else lP B N f (bgn B N i + 1) c 1 L
    else if (¬ fr = 0 ∧ c = 6) ∨ L.length = 60 then (some (bgn B N i), c, L)
    else lP B N f (fin B N (bgn B N i)) (lP1 c fr) 0 (L ++ [(bgn B N i, fin B N (bgn B N i), lP1 c fr - 1)]) := by rw [lP]
def rlW (A : Nat → Nat → Int32) (L : List lW) : Prop := ∀ (i : Nat) (w : lW), L[i]? = some w → A 18 (4800 + i) = nI w.1 ∧ A 19 (4800 + i) = nI w.2.1 ∧ A 20 (4800 + i) = nI w.2.2
/-- but for the last row of the letters nothing differs -/
def AGl (A A' : Nat → Nat → Int32) : Prop := (∀ j, j ≠ 15 → j ≠ 16 → j ≠ 18 → j ≠ 19 → j ≠ 20 → A' j = A j) ∧ (∀ k, k < 80 → A' 15 k = A 15 k ∧ A' 16 k = A 16 k) ∧ ∀ k, k < 4800 → A' 18 k = A 18 k ∧ A' 19 k = A 19 k ∧ A' 20 k = A 20 k
theorem AGl.rf {A : Nat → Nat → Int32} : AGl A A := ⟨fun _ _ _ _ _ _ => rfl, fun _ _ => ⟨rfl, rfl⟩, fun _ _ => ⟨rfl, rfl, rfl⟩⟩
theorem AGl.tr {A B C : Nat → Nat → Int32} (h : AGl A B) (k : AGl B C) : AGl A C :=
  ⟨fun j a b c d e => (k.1 j a b c d e).trans (h.1 j a b c d e), fun j a => ⟨(k.2.1 j a).1.trans (h.2.1 j a).1, (k.2.1 j a).2.trans (h.2.1 j a).2⟩, fun j a => ⟨(k.2.2 j a).1.trans (h.2.2 j a).1, (k.2.2 j a).2.1.trans (h.2.2 j a).2.1, (k.2.2 j a).2.2.trans (h.2.2 j a).2.2⟩⟩
abbrev slA (A : Nat → Nat → Int32) (n b e p : Nat) : Nat → Nat → Int32 := va_up (va_up (va_up A 18 (upd (A 18) (4800 + n) (nI b))) 19 (upd (A 19) (4800 + n) (nI e))) 20 (upd (A 20) (4800 + n) (nI p))
theorem AGl.sl {A : Nat → Nat → Int32} {n b e p : Nat} : AGl A (slA A n b e p) := by
  refine ⟨fun j a b c d e => by simp [va_up, c, d, e], fun k a => ⟨rfl, rfl⟩, fun k a => ?_⟩
  have h : k ≠ 4800 + n := by omega
  exact ⟨pk_un h, pk_un h, pk_un h⟩
theorem rlW.sl {A : Nat → Nat → Int32} {L : List lW} {b e p : Nat} (h : rlW A L) : rlW (slA A L.length b e p) (L ++ [(b, e, p)]) := by
  intro i w hw
  by_cases hi : i < L.length
  · rw [List.getElem?_append_left hi] at hw
    obtain ⟨h1, h2, h3⟩ := h i w hw
    have hne : 4800 + i ≠ 4800 + L.length := by omega
    exact ⟨(pk_un hne).trans h1, (pk_un hne).trans h2, (pk_un hne).trans h3⟩
  · rw [List.getElem?_append_right (by omega)] at hw
    have hz : i - L.length < 1 := (List.getElem?_eq_some_iff.mp hw).1
    have hz2 : i = L.length := by omega
    subst hz2
    rw [Nat.sub_self] at hw
    cases hw
    exact ⟨pk_us, pk_us, pk_us⟩
/-- the end's marks -/
abbrev elA (A : Nat → Nat → Int32) (c n : Nat) : Nat → Nat → Int32 := va_up (va_up A 15 (upd (A 15) 80 (nI c))) 16 (upd (A 16) 80 (nI n))
theorem AGl.el {A : Nat → Nat → Int32} {c n : Nat} : AGl A (elA A c n) := by
  refine ⟨fun j a b c d e => by simp [va_up, a, b], fun k a => ?_, fun k a => ⟨rfl, rfl, rfl⟩⟩
  have h : k ≠ 80 := by omega
  exact ⟨pk_un h, pk_un h⟩
abbrev rlQ (G : gG) (ix : Nat → Nat) (ad : Nat → Nat) (I : Nat → Int32) (Ar : Nat → Nat → Int32) (h0 : hW) (R : Option Nat × Nat × List lW) : Option Value → hW → Prop := fun v h' => ∃ (b' p' : Nat) (A' : Nat → Nat → Int32), h' = mH G ix ad (wI I b' p') A' h0 ∧ AGl Ar A' ∧ v = some (.int (b2 (R.1 = none))) ∧ (∀ z, R.1 = some z → b' = z) ∧ (R.1 = none → rlW A' R.2.2 ∧ A' 15 80 = nI R.2.1 ∧ A' 16 80 = nI R.2.2.length)
theorem i4800 (n : Nat) : (4800 : Int32) + nI n = nI (4800 + n) := nI_add 4800 n
theorem lp_X7_readLetter_6 {E : gE} (X : Gc G E "ComplaintDeskModel" cX7_readLetter 4 4 0 0) (F : gF E M_X7_readLetter) (D : md ix m ad) (N p0 : Nat) (hN : I 30 = nI N) (hN4 : N ≤ 400) : ∀ (f b0 p c : Nat) (fr : Int32) (L : List lW) (A : Nat → Nat → Int32), N - p < f → p ≤ N → c ≤ 6 → L.length ≤ 60 → (fr = 0 ∨ fr = 1) → (fr = 0 → 1 ≤ c) → rlW A L → AGl Ar A → (lP (Ar 27) N 401 p0 0 1 []) = lP (A 27) N f p c fr L → GW G E (gMQ G E 0 0 (rlQ G ix ad I Ar h0 (lP (Ar 27) N 401 p0 0 1 []))) 4 6 [(0, .ref m), (1, .int (nI L.length)), (2, .int (nI c)), (3, .int fr)] [] (mH G ix ad (wI I b0 p) A h0) 0 0 := by
  intro f
  induction f with
  | zero => intro b0 p c fr L A hf; exact absurd hf (Nat.not_lt_zero _)
  | succ f ih =>
    intro b0 p c fr L A hf hpN hc6 hl6 hfr hcf hrl hag hr
    refine g_aload_n X dX7_readLetter_6 0 rfl ?_
    refine g_cV0 X ml_X7_147 (c_X7_word (I := wI I b0 p) (Ar := A) D p N rfl hN hpN hN4) ⟨7, _, mLm D, rfl⟩ (Nat.le_of_ble_eq_true rfl) rfl rfl (Nat.le_of_ble_eq_true rfl) (Nat.zero_le _) (Nat.zero_le _) dX7_readLetter_7 ?_
    rw [wI_wI]
    refine g_aload_n X dX7_readLetter_10 0 rfl ?_
    refine g_getfield X fl_X7_114 dX7_readLetter_11 (mLm D) rfl ?_
    refine g_eqi (y := nI (fin (A 27) N (bgn (A 27) N p))) (rfl) ?_
    refine g_aload_n X dX7_readLetter_14 0 rfl ?_
    refine g_getfield X fl_X7_121 dX7_readLetter_15 (mLm D) rfl ?_
    refine g_eqi (y := nI (bgn (A 27) N p)) (rfl) ?_
    refine g_icmp_ne X 35 dX7_readLetter_18 (by decide) (fun c_18 => ?_) (fun c_18 => ?_)
    · have qn1 : ¬ (fin (A 27) N (bgn (A 27) N p)) = (bgn (A 27) N p) := fun q => c_18 (by rw [q])
      refine g_aload_n X dX7_readLetter_35 0 rfl ?_
      refine g_getfield X fl_X7_114 dX7_readLetter_36 (mLm D) rfl ?_
      refine g_eqi (y := nI (fin (A 27) N (bgn (A 27) N p))) (rfl) ?_
      refine g_aload_n X dX7_readLetter_39 0 rfl ?_
      refine g_getfield X fl_X7_121 dX7_readLetter_40 (mLm D) rfl ?_
      refine g_eqi (y := nI (bgn (A 27) N p)) (rfl) ?_
      refine g_icmp_ne X 78 dX7_readLetter_43 (by decide) (fun c_43 => ?_) (fun c_43 => absurd c_43 c_18)
      refine g_iload_n X dX7_readLetter_78 3 rfl ?_
      refine g_if_eq X 88 dX7_readLetter_79 (by decide) (fun c_79 => ?_) (fun c_79 => ?_)
      · refine g_iload_n X dX7_readLetter_88 1 rfl ?_
        refine g_bipush X (v := 60) dX7_readLetter_89 kb_60 ?_
        refine g_icmp_ne X 96 dX7_readLetter_91 (by decide) (fun c_91 => ?_) (fun c_91 => ?_)
        · have hl5 : L.length < 60 := by have : ¬ L.length = 60 := fun q => c_91 (by rw [q]; rfl)
                                         omega
          refine g_iload_n X dX7_readLetter_96 2 rfl ?_
          refine g_iload_n X dX7_readLetter_97 3 rfl ?_
          refine g_if_eq X 105 dX7_readLetter_98 (by decide) (fun c_98 => ?_) (fun c_98 => ?_)
          · have ec : nI c + 0 = nI (lP1 c fr) := by rw [show lP1 c fr = c from if_pos c_98]; exact nI_add c 0
            have hc1 : 1 ≤ lP1 c fr ∧ lP1 c fr ≤ 6 := by rw [show lP1 c fr = c from if_pos c_98]; exact ⟨hcf c_98, hc6⟩
            refine g_iconst X (v := 0) dX7_readLetter_105 ki_0 ?_
            refine g_iadd X dX7_readLetter_106 ?_
            refine g_eqi (y := nI (lP1 c fr)) (ec) ?_
            refine g_istore_n X dX7_readLetter_107 (Nat.le_of_ble_eq_true rfl) [(2, _), (0, _), (1, _), (3, _)] rfl ?_
            refine g_iconst X (v := 0) dX7_readLetter_108 ki_0 ?_
            refine g_istore_n X dX7_readLetter_109 (Nat.le_of_ble_eq_true rfl) [(3, _), (2, _), (0, _), (1, _)] rfl ?_
            refine g_aload_n X dX7_readLetter_110 2 rfl ?_
            refine g_getfield X fl_X7_57 dX7_readLetter_111 (mLm D) rfl ?_
            refine g_sipush X (v := 4800) dX7_readLetter_114 ks_4800 ?_
            refine g_iload_n X dX7_readLetter_117 3 rfl ?_
            refine g_iadd X dX7_readLetter_118 ?_
            refine g_eqi (y := nI (4800 + L.length)) (i4800 _) ?_
            refine g_aload_n X dX7_readLetter_119 2 rfl ?_
            refine g_getfield X fl_X7_121 dX7_readLetter_120 (mLm D) rfl ?_
            refine g_eqi (y := nI (bgn (A 27) N p)) (rfl) ?_
            refine g_iastore X dX7_readLetter_123 (mLa D 18 rfl) (vp_in_nI (by omega) (by decide)) (g_h (mUa D 18 rfl _) ?_)
            refine g_aload_n X dX7_readLetter_124 2 rfl ?_
            refine g_getfield X fl_X7_60 dX7_readLetter_125 (mLm D) rfl ?_
            refine g_sipush X (v := 4800) dX7_readLetter_128 ks_4800 ?_
            refine g_iload_n X dX7_readLetter_131 3 rfl ?_
            refine g_iadd X dX7_readLetter_132 ?_
            refine g_eqi (y := nI (4800 + L.length)) (i4800 _) ?_
            refine g_aload_n X dX7_readLetter_133 2 rfl ?_
            refine g_getfield X fl_X7_114 dX7_readLetter_134 (mLm D) rfl ?_
            refine g_eqi (y := nI (fin (A 27) N (bgn (A 27) N p))) (rfl) ?_
            refine g_iastore X dX7_readLetter_137 (mLa D 19 rfl) (vp_in_nI (by omega) (by decide)) (g_h (mUa D 19 rfl _) ?_)
            refine g_aload_n X dX7_readLetter_138 2 rfl ?_
            refine g_getfield X fl_X7_63 dX7_readLetter_139 (mLm D) rfl ?_
            refine g_sipush X (v := 4800) dX7_readLetter_142 ks_4800 ?_
            refine g_iload_n X dX7_readLetter_145 3 rfl ?_
            refine g_iadd X dX7_readLetter_146 ?_
            refine g_eqi (y := nI (4800 + L.length)) (i4800 _) ?_
            refine g_iload_n X dX7_readLetter_147 1 rfl ?_
            refine g_iconst X (v := 1) dX7_readLetter_148 ki_1 ?_
            refine g_isub X dX7_readLetter_149 ?_
            refine g_eqi (y := nI (lP1 c fr - 1)) (pk_sub (a := lP1 c fr) (b := 1) hc1.1) ?_
            refine g_iastore X dX7_readLetter_150 (mLa D 20 rfl) (vp_in_nI (by omega) (by decide)) (g_h (mUa D 20 rfl _) ?_)
            refine g_iinc X (v := nI (L.length + 1)) dX7_readLetter_151 3 rfl (nI_1 _) (Nat.le_of_ble_eq_true rfl) [(1, _), (3, _), (2, _), (0, _)] rfl ?_
            refine g_goto X 6 dX7_readLetter_154 (by decide) ?_
            refine g_L [3, 0, 2, 1] (L' := [(0, _), (1, _), (2, _), (3, _)]) rfl ?_
            have hx : ¬ ((¬ fr = 0 ∧ c = 6) ∨ L.length = 60) := fun q => q.elim (fun z => z.1 c_79) (fun z => by omega)
            have hR : (lP (Ar 27) N 401 p0 0 1 []) = lP (A 27) N f (fin (A 27) N (bgn (A 27) N p)) (lP1 c fr) 0 (L ++ [((bgn (A 27) N p), (fin (A 27) N (bgn (A 27) N p)), lP1 c fr - 1)]) := by rw [hr, lP_s, if_neg qn1, if_neg hx]
            have hl1 : (L ++ [((bgn (A 27) N p), (fin (A 27) N (bgn (A 27) N p)), lP1 c fr - 1)]).length = L.length + 1 := by simp
            refine g_L [0, 1, 2, 3] (L' := [(0, _), (1, .int (nI (L ++ [((bgn (A 27) N p), (fin (A 27) N (bgn (A 27) N p)), lP1 c fr - 1)]).length)), (2, _), (3, _)]) (by rw [hl1]; rfl) ?_
            refine g_h (h' := mH G ix ad (wI I (bgn (A 27) N p) (fin (A 27) N (bgn (A 27) N p))) (slA A L.length (bgn (A 27) N p) (fin (A 27) N (bgn (A 27) N p)) (lP1 c fr - 1)) h0) (by simp only [nI_clamp (show 4800 + L.length < 2 ^ 31 by omega)]; rfl) ?_
            have h1 : (bgn (A 27) N p) ≤ (fin (A 27) N (bgn (A 27) N p)) := skp_ge1 (skp_le1 hpN)
            have h2 : p ≤ (bgn (A 27) N p) := skp_ge1 hpN
            have h3 : (fin (A 27) N (bgn (A 27) N p)) ≤ N := skp_le1 (skp_le1 hpN)
            exact ih (bgn (A 27) N p) (fin (A 27) N (bgn (A 27) N p)) (lP1 c fr) 0 _ _ (by omega) h3 hc1.2 (by omega) (Or.inl rfl) (fun _ => hc1.1) hrl.sl (hag.tr AGl.sl) hR
          · have ec : nI c + 1 = nI (lP1 c fr) := by rw [show lP1 c fr = c + 1 from if_neg c_98]; exact nI_1 c
            have hc1 : 1 ≤ lP1 c fr ∧ lP1 c fr ≤ 6 := by rw [show lP1 c fr = c + 1 from if_neg c_98]; exact ⟨by omega, by first | exact absurd c_79 c_98 | (have : ¬ c = 6 := fun q => c_85 (by rw [q]; rfl); omega)⟩
            refine g_iconst X (v := 1) dX7_readLetter_101 ki_1 ?_
            refine g_goto X 106 dX7_readLetter_102 (by decide) ?_
            refine g_iadd X dX7_readLetter_106 ?_
            refine g_eqi (y := nI (lP1 c fr)) (ec) ?_
            refine g_istore_n X dX7_readLetter_107 (Nat.le_of_ble_eq_true rfl) [(2, _), (0, _), (1, _), (3, _)] rfl ?_
            refine g_iconst X (v := 0) dX7_readLetter_108 ki_0 ?_
            refine g_istore_n X dX7_readLetter_109 (Nat.le_of_ble_eq_true rfl) [(3, _), (2, _), (0, _), (1, _)] rfl ?_
            refine g_aload_n X dX7_readLetter_110 2 rfl ?_
            refine g_getfield X fl_X7_57 dX7_readLetter_111 (mLm D) rfl ?_
            refine g_sipush X (v := 4800) dX7_readLetter_114 ks_4800 ?_
            refine g_iload_n X dX7_readLetter_117 3 rfl ?_
            refine g_iadd X dX7_readLetter_118 ?_
            refine g_eqi (y := nI (4800 + L.length)) (i4800 _) ?_
            refine g_aload_n X dX7_readLetter_119 2 rfl ?_
            refine g_getfield X fl_X7_121 dX7_readLetter_120 (mLm D) rfl ?_
            refine g_eqi (y := nI (bgn (A 27) N p)) (rfl) ?_
            refine g_iastore X dX7_readLetter_123 (mLa D 18 rfl) (vp_in_nI (by omega) (by decide)) (g_h (mUa D 18 rfl _) ?_)
            refine g_aload_n X dX7_readLetter_124 2 rfl ?_
            refine g_getfield X fl_X7_60 dX7_readLetter_125 (mLm D) rfl ?_
            refine g_sipush X (v := 4800) dX7_readLetter_128 ks_4800 ?_
            refine g_iload_n X dX7_readLetter_131 3 rfl ?_
            refine g_iadd X dX7_readLetter_132 ?_
            refine g_eqi (y := nI (4800 + L.length)) (i4800 _) ?_
            refine g_aload_n X dX7_readLetter_133 2 rfl ?_
            refine g_getfield X fl_X7_114 dX7_readLetter_134 (mLm D) rfl ?_
            refine g_eqi (y := nI (fin (A 27) N (bgn (A 27) N p))) (rfl) ?_
            refine g_iastore X dX7_readLetter_137 (mLa D 19 rfl) (vp_in_nI (by omega) (by decide)) (g_h (mUa D 19 rfl _) ?_)
            refine g_aload_n X dX7_readLetter_138 2 rfl ?_
            refine g_getfield X fl_X7_63 dX7_readLetter_139 (mLm D) rfl ?_
            refine g_sipush X (v := 4800) dX7_readLetter_142 ks_4800 ?_
            refine g_iload_n X dX7_readLetter_145 3 rfl ?_
            refine g_iadd X dX7_readLetter_146 ?_
            refine g_eqi (y := nI (4800 + L.length)) (i4800 _) ?_
            refine g_iload_n X dX7_readLetter_147 1 rfl ?_
            refine g_iconst X (v := 1) dX7_readLetter_148 ki_1 ?_
            refine g_isub X dX7_readLetter_149 ?_
            refine g_eqi (y := nI (lP1 c fr - 1)) (pk_sub (a := lP1 c fr) (b := 1) hc1.1) ?_
            refine g_iastore X dX7_readLetter_150 (mLa D 20 rfl) (vp_in_nI (by omega) (by decide)) (g_h (mUa D 20 rfl _) ?_)
            refine g_iinc X (v := nI (L.length + 1)) dX7_readLetter_151 3 rfl (nI_1 _) (Nat.le_of_ble_eq_true rfl) [(1, _), (3, _), (2, _), (0, _)] rfl ?_
            refine g_goto X 6 dX7_readLetter_154 (by decide) ?_
            refine g_L [3, 0, 2, 1] (L' := [(0, _), (1, _), (2, _), (3, _)]) rfl ?_
            have hx : ¬ ((¬ fr = 0 ∧ c = 6) ∨ L.length = 60) := fun q => q.elim (fun z => z.1 c_79) (fun z => by omega)
            have hR : (lP (Ar 27) N 401 p0 0 1 []) = lP (A 27) N f (fin (A 27) N (bgn (A 27) N p)) (lP1 c fr) 0 (L ++ [((bgn (A 27) N p), (fin (A 27) N (bgn (A 27) N p)), lP1 c fr - 1)]) := by rw [hr, lP_s, if_neg qn1, if_neg hx]
            have hl1 : (L ++ [((bgn (A 27) N p), (fin (A 27) N (bgn (A 27) N p)), lP1 c fr - 1)]).length = L.length + 1 := by simp
            refine g_L [0, 1, 2, 3] (L' := [(0, _), (1, .int (nI (L ++ [((bgn (A 27) N p), (fin (A 27) N (bgn (A 27) N p)), lP1 c fr - 1)]).length)), (2, _), (3, _)]) (by rw [hl1]; rfl) ?_
            refine g_h (h' := mH G ix ad (wI I (bgn (A 27) N p) (fin (A 27) N (bgn (A 27) N p))) (slA A L.length (bgn (A 27) N p) (fin (A 27) N (bgn (A 27) N p)) (lP1 c fr - 1)) h0) (by simp only [nI_clamp (show 4800 + L.length < 2 ^ 31 by omega)]; rfl) ?_
            have h1 : (bgn (A 27) N p) ≤ (fin (A 27) N (bgn (A 27) N p)) := skp_ge1 (skp_le1 hpN)
            have h2 : p ≤ (bgn (A 27) N p) := skp_ge1 hpN
            have h3 : (fin (A 27) N (bgn (A 27) N p)) ≤ N := skp_le1 (skp_le1 hpN)
            exact ih (bgn (A 27) N p) (fin (A 27) N (bgn (A 27) N p)) (lP1 c fr) 0 _ _ (by omega) h3 hc1.2 (by omega) (Or.inl rfl) (fun _ => hc1.1) hrl.sl (hag.tr AGl.sl) hR
        · refine g_iconst X (v := 0) dX7_readLetter_94 ki_0 ?_
          refine g_iret X F rfl rfl dX7_readLetter_95 (Nat.zero_le _) (Nat.zero_le _) ?_
          first
            | (exact absurd qy1 qn1)
            | (have hx : (¬ fr = 0 ∧ c = 6) ∨ L.length = 60 := Or.inl ⟨c_79, (nI_eq (b := 6) (by omega) (by decide)).mp c_85⟩
               have hR : (lP (Ar 27) N 401 p0 0 1 []) = (some (bgn (A 27) N p), c, L) := by rw [hr, lP_s]; rw [if_neg qn1, if_pos hx]
               rw [hR]
               exact ⟨_, _, A, rfl, hag, by rw [b2_f (by simp)], (fun z hz => by cases hz; rfl), (fun hz => by cases hz)⟩)
            | (have hx : (¬ fr = 0 ∧ c = 6) ∨ L.length = 60 := Or.inr ((nI_eq (b := 60) (by omega) (by decide)).mp c_91)
               have hR : (lP (Ar 27) N 401 p0 0 1 []) = (some (bgn (A 27) N p), c, L) := by rw [hr, lP_s]; rw [if_neg qn1, if_pos hx]
               rw [hR]
               exact ⟨_, _, A, rfl, hag, by rw [b2_f (by simp)], (fun z hz => by cases hz; rfl), (fun hz => by cases hz)⟩)
      · refine g_iload_n X dX7_readLetter_82 2 rfl ?_
        refine g_bipush X (v := 6) dX7_readLetter_83 kb_6 ?_
        refine g_icmp_eq X 94 dX7_readLetter_85 (by decide) (fun c_85 => ?_) (fun c_85 => ?_)
        · refine g_iconst X (v := 0) dX7_readLetter_94 ki_0 ?_
          refine g_iret X F rfl rfl dX7_readLetter_95 (Nat.zero_le _) (Nat.zero_le _) ?_
          first
            | (exact absurd qy1 qn1)
            | (have hx : (¬ fr = 0 ∧ c = 6) ∨ L.length = 60 := Or.inl ⟨c_79, (nI_eq (b := 6) (by omega) (by decide)).mp c_85⟩
               have hR : (lP (Ar 27) N 401 p0 0 1 []) = (some (bgn (A 27) N p), c, L) := by rw [hr, lP_s]; rw [if_neg qn1, if_pos hx]
               rw [hR]
               exact ⟨_, _, A, rfl, hag, by rw [b2_f (by simp)], (fun z hz => by cases hz; rfl), (fun hz => by cases hz)⟩)
            | (have hx : (¬ fr = 0 ∧ c = 6) ∨ L.length = 60 := Or.inr ((nI_eq (b := 60) (by omega) (by decide)).mp c_91)
               have hR : (lP (Ar 27) N 401 p0 0 1 []) = (some (bgn (A 27) N p), c, L) := by rw [hr, lP_s]; rw [if_neg qn1, if_pos hx]
               rw [hR]
               exact ⟨_, _, A, rfl, hag, by rw [b2_f (by simp)], (fun z hz => by cases hz; rfl), (fun hz => by cases hz)⟩)
        · refine g_iload_n X dX7_readLetter_88 1 rfl ?_
          refine g_bipush X (v := 60) dX7_readLetter_89 kb_60 ?_
          refine g_icmp_ne X 96 dX7_readLetter_91 (by decide) (fun c_91 => ?_) (fun c_91 => ?_)
          · have hl5 : L.length < 60 := by have : ¬ L.length = 60 := fun q => c_91 (by rw [q]; rfl)
                                           omega
            refine g_iload_n X dX7_readLetter_96 2 rfl ?_
            refine g_iload_n X dX7_readLetter_97 3 rfl ?_
            refine g_if_eq X 105 dX7_readLetter_98 (by decide) (fun c_98 => ?_) (fun c_98 => ?_)
            · have ec : nI c + 0 = nI (lP1 c fr) := by rw [show lP1 c fr = c from if_pos c_98]; exact nI_add c 0
              have hc1 : 1 ≤ lP1 c fr ∧ lP1 c fr ≤ 6 := by rw [show lP1 c fr = c from if_pos c_98]; exact ⟨hcf c_98, hc6⟩
              refine g_iconst X (v := 0) dX7_readLetter_105 ki_0 ?_
              refine g_iadd X dX7_readLetter_106 ?_
              refine g_eqi (y := nI (lP1 c fr)) (ec) ?_
              refine g_istore_n X dX7_readLetter_107 (Nat.le_of_ble_eq_true rfl) [(2, _), (0, _), (1, _), (3, _)] rfl ?_
              refine g_iconst X (v := 0) dX7_readLetter_108 ki_0 ?_
              refine g_istore_n X dX7_readLetter_109 (Nat.le_of_ble_eq_true rfl) [(3, _), (2, _), (0, _), (1, _)] rfl ?_
              refine g_aload_n X dX7_readLetter_110 2 rfl ?_
              refine g_getfield X fl_X7_57 dX7_readLetter_111 (mLm D) rfl ?_
              refine g_sipush X (v := 4800) dX7_readLetter_114 ks_4800 ?_
              refine g_iload_n X dX7_readLetter_117 3 rfl ?_
              refine g_iadd X dX7_readLetter_118 ?_
              refine g_eqi (y := nI (4800 + L.length)) (i4800 _) ?_
              refine g_aload_n X dX7_readLetter_119 2 rfl ?_
              refine g_getfield X fl_X7_121 dX7_readLetter_120 (mLm D) rfl ?_
              refine g_eqi (y := nI (bgn (A 27) N p)) (rfl) ?_
              refine g_iastore X dX7_readLetter_123 (mLa D 18 rfl) (vp_in_nI (by omega) (by decide)) (g_h (mUa D 18 rfl _) ?_)
              refine g_aload_n X dX7_readLetter_124 2 rfl ?_
              refine g_getfield X fl_X7_60 dX7_readLetter_125 (mLm D) rfl ?_
              refine g_sipush X (v := 4800) dX7_readLetter_128 ks_4800 ?_
              refine g_iload_n X dX7_readLetter_131 3 rfl ?_
              refine g_iadd X dX7_readLetter_132 ?_
              refine g_eqi (y := nI (4800 + L.length)) (i4800 _) ?_
              refine g_aload_n X dX7_readLetter_133 2 rfl ?_
              refine g_getfield X fl_X7_114 dX7_readLetter_134 (mLm D) rfl ?_
              refine g_eqi (y := nI (fin (A 27) N (bgn (A 27) N p))) (rfl) ?_
              refine g_iastore X dX7_readLetter_137 (mLa D 19 rfl) (vp_in_nI (by omega) (by decide)) (g_h (mUa D 19 rfl _) ?_)
              refine g_aload_n X dX7_readLetter_138 2 rfl ?_
              refine g_getfield X fl_X7_63 dX7_readLetter_139 (mLm D) rfl ?_
              refine g_sipush X (v := 4800) dX7_readLetter_142 ks_4800 ?_
              refine g_iload_n X dX7_readLetter_145 3 rfl ?_
              refine g_iadd X dX7_readLetter_146 ?_
              refine g_eqi (y := nI (4800 + L.length)) (i4800 _) ?_
              refine g_iload_n X dX7_readLetter_147 1 rfl ?_
              refine g_iconst X (v := 1) dX7_readLetter_148 ki_1 ?_
              refine g_isub X dX7_readLetter_149 ?_
              refine g_eqi (y := nI (lP1 c fr - 1)) (pk_sub (a := lP1 c fr) (b := 1) hc1.1) ?_
              refine g_iastore X dX7_readLetter_150 (mLa D 20 rfl) (vp_in_nI (by omega) (by decide)) (g_h (mUa D 20 rfl _) ?_)
              refine g_iinc X (v := nI (L.length + 1)) dX7_readLetter_151 3 rfl (nI_1 _) (Nat.le_of_ble_eq_true rfl) [(1, _), (3, _), (2, _), (0, _)] rfl ?_
              refine g_goto X 6 dX7_readLetter_154 (by decide) ?_
              refine g_L [3, 0, 2, 1] (L' := [(0, _), (1, _), (2, _), (3, _)]) rfl ?_
              have hx : ¬ ((¬ fr = 0 ∧ c = 6) ∨ L.length = 60) := fun q => q.elim (fun z => c_85 (by rw [z.2]; rfl)) (fun z => by omega)
              have hR : (lP (Ar 27) N 401 p0 0 1 []) = lP (A 27) N f (fin (A 27) N (bgn (A 27) N p)) (lP1 c fr) 0 (L ++ [((bgn (A 27) N p), (fin (A 27) N (bgn (A 27) N p)), lP1 c fr - 1)]) := by rw [hr, lP_s, if_neg qn1, if_neg hx]
              have hl1 : (L ++ [((bgn (A 27) N p), (fin (A 27) N (bgn (A 27) N p)), lP1 c fr - 1)]).length = L.length + 1 := by simp
              refine g_L [0, 1, 2, 3] (L' := [(0, _), (1, .int (nI (L ++ [((bgn (A 27) N p), (fin (A 27) N (bgn (A 27) N p)), lP1 c fr - 1)]).length)), (2, _), (3, _)]) (by rw [hl1]; rfl) ?_
              refine g_h (h' := mH G ix ad (wI I (bgn (A 27) N p) (fin (A 27) N (bgn (A 27) N p))) (slA A L.length (bgn (A 27) N p) (fin (A 27) N (bgn (A 27) N p)) (lP1 c fr - 1)) h0) (by simp only [nI_clamp (show 4800 + L.length < 2 ^ 31 by omega)]; rfl) ?_
              have h1 : (bgn (A 27) N p) ≤ (fin (A 27) N (bgn (A 27) N p)) := skp_ge1 (skp_le1 hpN)
              have h2 : p ≤ (bgn (A 27) N p) := skp_ge1 hpN
              have h3 : (fin (A 27) N (bgn (A 27) N p)) ≤ N := skp_le1 (skp_le1 hpN)
              exact ih (bgn (A 27) N p) (fin (A 27) N (bgn (A 27) N p)) (lP1 c fr) 0 _ _ (by omega) h3 hc1.2 (by omega) (Or.inl rfl) (fun _ => hc1.1) hrl.sl (hag.tr AGl.sl) hR
            · have ec : nI c + 1 = nI (lP1 c fr) := by rw [show lP1 c fr = c + 1 from if_neg c_98]; exact nI_1 c
              have hc1 : 1 ≤ lP1 c fr ∧ lP1 c fr ≤ 6 := by rw [show lP1 c fr = c + 1 from if_neg c_98]; exact ⟨by omega, by first | exact absurd c_79 c_98 | (have : ¬ c = 6 := fun q => c_85 (by rw [q]; rfl); omega)⟩
              refine g_iconst X (v := 1) dX7_readLetter_101 ki_1 ?_
              refine g_goto X 106 dX7_readLetter_102 (by decide) ?_
              refine g_iadd X dX7_readLetter_106 ?_
              refine g_eqi (y := nI (lP1 c fr)) (ec) ?_
              refine g_istore_n X dX7_readLetter_107 (Nat.le_of_ble_eq_true rfl) [(2, _), (0, _), (1, _), (3, _)] rfl ?_
              refine g_iconst X (v := 0) dX7_readLetter_108 ki_0 ?_
              refine g_istore_n X dX7_readLetter_109 (Nat.le_of_ble_eq_true rfl) [(3, _), (2, _), (0, _), (1, _)] rfl ?_
              refine g_aload_n X dX7_readLetter_110 2 rfl ?_
              refine g_getfield X fl_X7_57 dX7_readLetter_111 (mLm D) rfl ?_
              refine g_sipush X (v := 4800) dX7_readLetter_114 ks_4800 ?_
              refine g_iload_n X dX7_readLetter_117 3 rfl ?_
              refine g_iadd X dX7_readLetter_118 ?_
              refine g_eqi (y := nI (4800 + L.length)) (i4800 _) ?_
              refine g_aload_n X dX7_readLetter_119 2 rfl ?_
              refine g_getfield X fl_X7_121 dX7_readLetter_120 (mLm D) rfl ?_
              refine g_eqi (y := nI (bgn (A 27) N p)) (rfl) ?_
              refine g_iastore X dX7_readLetter_123 (mLa D 18 rfl) (vp_in_nI (by omega) (by decide)) (g_h (mUa D 18 rfl _) ?_)
              refine g_aload_n X dX7_readLetter_124 2 rfl ?_
              refine g_getfield X fl_X7_60 dX7_readLetter_125 (mLm D) rfl ?_
              refine g_sipush X (v := 4800) dX7_readLetter_128 ks_4800 ?_
              refine g_iload_n X dX7_readLetter_131 3 rfl ?_
              refine g_iadd X dX7_readLetter_132 ?_
              refine g_eqi (y := nI (4800 + L.length)) (i4800 _) ?_
              refine g_aload_n X dX7_readLetter_133 2 rfl ?_
              refine g_getfield X fl_X7_114 dX7_readLetter_134 (mLm D) rfl ?_
              refine g_eqi (y := nI (fin (A 27) N (bgn (A 27) N p))) (rfl) ?_
              refine g_iastore X dX7_readLetter_137 (mLa D 19 rfl) (vp_in_nI (by omega) (by decide)) (g_h (mUa D 19 rfl _) ?_)
              refine g_aload_n X dX7_readLetter_138 2 rfl ?_
              refine g_getfield X fl_X7_63 dX7_readLetter_139 (mLm D) rfl ?_
              refine g_sipush X (v := 4800) dX7_readLetter_142 ks_4800 ?_
              refine g_iload_n X dX7_readLetter_145 3 rfl ?_
              refine g_iadd X dX7_readLetter_146 ?_
              refine g_eqi (y := nI (4800 + L.length)) (i4800 _) ?_
              refine g_iload_n X dX7_readLetter_147 1 rfl ?_
              refine g_iconst X (v := 1) dX7_readLetter_148 ki_1 ?_
              refine g_isub X dX7_readLetter_149 ?_
              refine g_eqi (y := nI (lP1 c fr - 1)) (pk_sub (a := lP1 c fr) (b := 1) hc1.1) ?_
              refine g_iastore X dX7_readLetter_150 (mLa D 20 rfl) (vp_in_nI (by omega) (by decide)) (g_h (mUa D 20 rfl _) ?_)
              refine g_iinc X (v := nI (L.length + 1)) dX7_readLetter_151 3 rfl (nI_1 _) (Nat.le_of_ble_eq_true rfl) [(1, _), (3, _), (2, _), (0, _)] rfl ?_
              refine g_goto X 6 dX7_readLetter_154 (by decide) ?_
              refine g_L [3, 0, 2, 1] (L' := [(0, _), (1, _), (2, _), (3, _)]) rfl ?_
              have hx : ¬ ((¬ fr = 0 ∧ c = 6) ∨ L.length = 60) := fun q => q.elim (fun z => c_85 (by rw [z.2]; rfl)) (fun z => by omega)
              have hR : (lP (Ar 27) N 401 p0 0 1 []) = lP (A 27) N f (fin (A 27) N (bgn (A 27) N p)) (lP1 c fr) 0 (L ++ [((bgn (A 27) N p), (fin (A 27) N (bgn (A 27) N p)), lP1 c fr - 1)]) := by rw [hr, lP_s, if_neg qn1, if_neg hx]
              have hl1 : (L ++ [((bgn (A 27) N p), (fin (A 27) N (bgn (A 27) N p)), lP1 c fr - 1)]).length = L.length + 1 := by simp
              refine g_L [0, 1, 2, 3] (L' := [(0, _), (1, .int (nI (L ++ [((bgn (A 27) N p), (fin (A 27) N (bgn (A 27) N p)), lP1 c fr - 1)]).length)), (2, _), (3, _)]) (by rw [hl1]; rfl) ?_
              refine g_h (h' := mH G ix ad (wI I (bgn (A 27) N p) (fin (A 27) N (bgn (A 27) N p))) (slA A L.length (bgn (A 27) N p) (fin (A 27) N (bgn (A 27) N p)) (lP1 c fr - 1)) h0) (by simp only [nI_clamp (show 4800 + L.length < 2 ^ 31 by omega)]; rfl) ?_
              have h1 : (bgn (A 27) N p) ≤ (fin (A 27) N (bgn (A 27) N p)) := skp_ge1 (skp_le1 hpN)
              have h2 : p ≤ (bgn (A 27) N p) := skp_ge1 hpN
              have h3 : (fin (A 27) N (bgn (A 27) N p)) ≤ N := skp_le1 (skp_le1 hpN)
              exact ih (bgn (A 27) N p) (fin (A 27) N (bgn (A 27) N p)) (lP1 c fr) 0 _ _ (by omega) h3 hc1.2 (by omega) (Or.inl rfl) (fun _ => hc1.1) hrl.sl (hag.tr AGl.sl) hR
          · refine g_iconst X (v := 0) dX7_readLetter_94 ki_0 ?_
            refine g_iret X F rfl rfl dX7_readLetter_95 (Nat.zero_le _) (Nat.zero_le _) ?_
            first
              | (exact absurd qy1 qn1)
              | (have hx : (¬ fr = 0 ∧ c = 6) ∨ L.length = 60 := Or.inl ⟨c_79, (nI_eq (b := 6) (by omega) (by decide)).mp c_85⟩
                 have hR : (lP (Ar 27) N 401 p0 0 1 []) = (some (bgn (A 27) N p), c, L) := by rw [hr, lP_s]; rw [if_neg qn1, if_pos hx]
                 rw [hR]
                 exact ⟨_, _, A, rfl, hag, by rw [b2_f (by simp)], (fun z hz => by cases hz; rfl), (fun hz => by cases hz)⟩)
              | (have hx : (¬ fr = 0 ∧ c = 6) ∨ L.length = 60 := Or.inr ((nI_eq (b := 60) (by omega) (by decide)).mp c_91)
                 have hR : (lP (Ar 27) N 401 p0 0 1 []) = (some (bgn (A 27) N p), c, L) := by rw [hr, lP_s]; rw [if_neg qn1, if_pos hx]
                 rw [hR]
                 exact ⟨_, _, A, rfl, hag, by rw [b2_f (by simp)], (fun z hz => by cases hz; rfl), (fun hz => by cases hz)⟩)
    · have qy1 : (fin (A 27) N (bgn (A 27) N p)) = (bgn (A 27) N p) := (nI_eq (Nat.lt_of_le_of_lt (Nat.le_trans (skp_le1 (skp_le1 hpN)) hN4) (by decide)) (Nat.lt_of_le_of_lt (Nat.le_trans (skp_le1 hpN) hN4) (by decide))).mp c_18
      refine g_aload_n X dX7_readLetter_21 0 rfl ?_
      refine g_getfield X fl_X7_114 dX7_readLetter_22 (mLm D) rfl ?_
      refine g_eqi (y := nI (fin (A 27) N (bgn (A 27) N p))) (rfl) ?_
      refine g_aload_n X dX7_readLetter_25 0 rfl ?_
      refine g_getfield X fl_X7_111 dX7_readLetter_26 (mLm D) rfl ?_
      refine g_eqi (y := nI N) (hN) ?_
      refine g_icmp_ne X 35 dX7_readLetter_29 (by decide) (fun c_29 => ?_) (fun c_29 => ?_)
      · have qn2 : ¬ (fin (A 27) N (bgn (A 27) N p)) = N := fun q => c_29 (by rw [q])
        refine g_aload_n X dX7_readLetter_35 0 rfl ?_
        refine g_getfield X fl_X7_114 dX7_readLetter_36 (mLm D) rfl ?_
        refine g_eqi (y := nI (fin (A 27) N (bgn (A 27) N p))) (rfl) ?_
        refine g_aload_n X dX7_readLetter_39 0 rfl ?_
        refine g_getfield X fl_X7_121 dX7_readLetter_40 (mLm D) rfl ?_
        refine g_eqi (y := nI (bgn (A 27) N p)) (rfl) ?_
        refine g_icmp_ne X 78 dX7_readLetter_43 (by decide) (fun c_43 => absurd c_18 c_43) (fun c_43 => ?_)
        refine g_iload_n X dX7_readLetter_46 3 rfl ?_
        refine g_if_ne X 61 dX7_readLetter_47 (by decide) (fun c_47 => ?_) (fun c_47 => ?_)
        · refine g_iconst X (v := 0) dX7_readLetter_61 ki_0 ?_
          refine g_iret X F rfl rfl dX7_readLetter_62 (Nat.zero_le _) (Nat.zero_le _) ?_
          first
            | (exact absurd qy1 qn1)
            | (have hx : ¬ fr = 0 ∨ ¬ atP (A 27) N (bgn (A 27) N p) 46 46 := by first | exact Or.inl c_47 | exact Or.inr hdot
               have hy : ¬ (fin (A 27) N (bgn (A 27) N p)) = N := qn2
               have hR : (lP (Ar 27) N 401 p0 0 1 []) = (some (bgn (A 27) N p), c, L) := by rw [hr, lP_s]; rw [if_pos qy1, if_neg hy, if_pos hx]
               rw [hR]
               exact ⟨_, _, A, rfl, hag, by rw [b2_f (by simp)], (fun z hz => by cases hz; rfl), (fun hz => by cases hz)⟩)
        · refine g_aload_n X dX7_readLetter_50 0 rfl ?_
          refine g_bipush X (v := 46) dX7_readLetter_51 kb_46 ?_
          refine g_bipush X (v := 46) dX7_readLetter_53 kb_46 ?_
          refine g_cV X ml_X7_117 (c_X7_isAt (I := wI I (bgn (A 27) N p) (fin (A 27) N (bgn (A 27) N p))) (Ar := A) D (fin (A 27) N (bgn (A 27) N p)) N rfl hN (skp_le1 (skp_le1 hpN)) hN4 46 46) ⟨7, _, mLm D, rfl⟩ (Nat.le_of_ble_eq_true rfl) rfl rfl (Nat.le_of_ble_eq_true rfl) (Nat.zero_le _) (Nat.zero_le _) dX7_readLetter_55 ?_
          refine g_if_ne X 63 dX7_readLetter_58 (by decide) (fun c_58 => ?_) (fun c_58 => ?_)
          · have hd0 : atP (A 27) N (fin (A 27) N (bgn (A 27) N p)) 46 46 := Decidable.not_not.mp (fun q => c_58 (b2_0.mpr q))
            have hdot : atP (A 27) N (bgn (A 27) N p) 46 46 := by rw [qy1] at hd0; exact hd0
            refine g_aload_n X dX7_readLetter_63 0 rfl ?_
            refine g_dup X dX7_readLetter_64 rfl ?_
            refine g_getfield X fl_X7_114 dX7_readLetter_65 (mLm D) rfl ?_
            refine g_eqi (y := nI (fin (A 27) N (bgn (A 27) N p))) (rfl) ?_
            refine g_iconst X (v := 1) dX7_readLetter_68 ki_1 ?_
            refine g_iadd X dX7_readLetter_69 ?_
            refine g_eqi (y := nI ((fin (A 27) N (bgn (A 27) N p)) + 1)) (nI_1 _) ?_
            refine m_put X D 29 (by decide) fp_X7_114 dX7_readLetter_70 (mset_29 _ _ _) ?_
            refine g_iconst X (v := 1) dX7_readLetter_73 ki_1 ?_
            refine g_istore_n X dX7_readLetter_74 (Nat.le_of_ble_eq_true rfl) [(3, _), (0, _), (1, _), (2, _)] rfl ?_
            refine g_goto X 6 dX7_readLetter_75 (by decide) ?_
            refine g_L [1, 2, 3, 0] (L' := [(0, _), (1, _), (2, _), (3, _)]) rfl ?_
            have hR : (lP (Ar 27) N 401 p0 0 1 []) = lP (A 27) N f ((fin (A 27) N (bgn (A 27) N p)) + 1) c 1 L := by rw [hr, lP_s, if_pos qy1, if_neg qn2, if_neg (fun q => q.elim (fun z => z c_47) (fun z => z hdot)), qy1]
            have hgt : p ≤ (bgn (A 27) N p) := skp_ge1 hpN
            refine g_h (h' := mH G ix ad (wI I (bgn (A 27) N p) ((fin (A 27) N (bgn (A 27) N p)) + 1)) A h0) (by rw [bx_uu]) ?_
            exact ih (bgn (A 27) N p) ((fin (A 27) N (bgn (A 27) N p)) + 1) c 1 L A (by have := hdot.1; omega) (by have := hdot.1; omega) hc6 hl6 (Or.inr rfl) (fun q => absurd q (by decide)) hrl hag hR
          · have hd0 : ¬ atP (A 27) N (fin (A 27) N (bgn (A 27) N p)) 46 46 := b2_0.mp (by first | exact c_58 | exact Decidable.not_not.mp c_58)
            have hdot : ¬ atP (A 27) N (bgn (A 27) N p) 46 46 := by rw [qy1] at hd0; exact hd0
            refine g_iconst X (v := 0) dX7_readLetter_61 ki_0 ?_
            refine g_iret X F rfl rfl dX7_readLetter_62 (Nat.zero_le _) (Nat.zero_le _) ?_
            first
              | (exact absurd qy1 qn1)
              | (have hx : ¬ fr = 0 ∨ ¬ atP (A 27) N (bgn (A 27) N p) 46 46 := by first | exact Or.inl c_47 | exact Or.inr hdot
                 have hy : ¬ (fin (A 27) N (bgn (A 27) N p)) = N := qn2
                 have hR : (lP (Ar 27) N 401 p0 0 1 []) = (some (bgn (A 27) N p), c, L) := by rw [hr, lP_s]; rw [if_pos qy1, if_neg hy, if_pos hx]
                 rw [hR]
                 exact ⟨_, _, A, rfl, hag, by rw [b2_f (by simp)], (fun z hz => by cases hz; rfl), (fun hz => by cases hz)⟩)
      · have qy2 : (fin (A 27) N (bgn (A 27) N p)) = N := (nI_eq (Nat.lt_of_le_of_lt (Nat.le_trans (skp_le1 (skp_le1 hpN)) hN4) (by decide)) (by omega)).mp c_29
        refine g_goto X 157 dX7_readLetter_32 (by decide) ?_
        refine g_aload_n X dX7_readLetter_157 0 rfl ?_
        refine g_getfield X fl_X7_48 dX7_readLetter_158 (mLm D) rfl ?_
        refine g_bipush X (v := 80) dX7_readLetter_161 kb_80 ?_
        refine g_iload_n X dX7_readLetter_163 2 rfl ?_
        refine g_iastore X dX7_readLetter_164 (mLa D 15 rfl) (by unfold vp_in; decide) (g_h (mUa D 15 rfl _) ?_)
        refine g_aload_n X dX7_readLetter_165 0 rfl ?_
        refine g_getfield X fl_X7_51 dX7_readLetter_166 (mLm D) rfl ?_
        refine g_bipush X (v := 80) dX7_readLetter_169 kb_80 ?_
        refine g_iload_n X dX7_readLetter_171 1 rfl ?_
        refine g_iastore X dX7_readLetter_172 (mLa D 16 rfl) (by unfold vp_in; decide) (g_h (mUa D 16 rfl _) ?_)
        refine g_iload_n X dX7_readLetter_173 1 rfl ?_
        refine g_if_le X 181 dX7_readLetter_174 (by decide) (fun c_174 => ?_) (fun c_174 => ?_)
        · refine g_iconst X (v := 0) dX7_readLetter_181 ki_0 ?_
          refine g_iret X F rfl rfl dX7_readLetter_182 (Nat.zero_le _) (Nat.zero_le _) ?_
          first
            | (have hl0 : L.length = 0 := by have := (nI_leI (by omega) (b := 0) (by decide)).mp c_174; omega
               have hR : (lP (Ar 27) N 401 p0 0 1 []) = ((if L.length = 0 then some (bgn (A 27) N p) else none), c, L) := by rw [hr, lP_s, if_pos qy1, if_pos qy2]
               rw [hR]
               rw [if_pos hl0]
               exact ⟨_, _, elA A c L.length, by first | rfl | skip, hag.tr AGl.el, by rw [b2_f (by simp)], (fun z hz => by cases hz; rfl), (fun hz => by cases hz)⟩)
            | (have hl0 : ¬ L.length = 0 := fun q => c_174 (by rw [q]; decide)
               have hR : (lP (Ar 27) N 401 p0 0 1 []) = ((if L.length = 0 then some (bgn (A 27) N p) else none), c, L) := by rw [hr, lP_s, if_pos qy1, if_pos qy2]
               rw [hR]
               rw [if_neg hl0]
               exact ⟨_, _, elA A c L.length, by first | rfl | skip, hag.tr AGl.el, by rw [b2_t rfl], (fun z hz => by cases hz), fun _ => ⟨fun i w hw => hrl i w hw, by simp [va_up, upd], by simp [va_up, upd]⟩⟩)
        · refine g_iconst X (v := 1) dX7_readLetter_177 ki_1 ?_
          refine g_goto X 182 dX7_readLetter_178 (by decide) ?_
          refine g_iret X F rfl rfl dX7_readLetter_182 (Nat.zero_le _) (Nat.zero_le _) ?_
          first
            | (have hl0 : L.length = 0 := by have := (nI_leI (by omega) (b := 0) (by decide)).mp c_174; omega
               have hR : (lP (Ar 27) N 401 p0 0 1 []) = ((if L.length = 0 then some (bgn (A 27) N p) else none), c, L) := by rw [hr, lP_s, if_pos qy1, if_pos qy2]
               rw [hR]
               rw [if_pos hl0]
               exact ⟨_, _, elA A c L.length, by first | rfl | skip, hag.tr AGl.el, by rw [b2_f (by simp)], (fun z hz => by cases hz; rfl), (fun hz => by cases hz)⟩)
            | (have hl0 : ¬ L.length = 0 := fun q => c_174 (by rw [q]; decide)
               have hR : (lP (Ar 27) N 401 p0 0 1 []) = ((if L.length = 0 then some (bgn (A 27) N p) else none), c, L) := by rw [hr, lP_s, if_pos qy1, if_pos qy2]
               rw [hR]
               rw [if_neg hl0]
               exact ⟨_, _, elA A c L.length, by first | rfl | skip, hag.tr AGl.el, by rw [b2_t rfl], (fun z hz => by cases hz), fun _ => ⟨fun i w hw => hrl i w hw, by simp [va_up, upd], by simp [va_up, upd]⟩⟩)
theorem c_X7_readLetter (D : md ix m ad) (N p0 b0 : Nat) (hN : I 30 = nI N) (hN4 : N ≤ 400) (hp0 : I 29 = nI p0) (hb0 : I 31 = nI b0) (hpN : p0 ≤ N)  : Ct G l 4 0 0 M_X7_readLetter [.ref m] (mH G ix ad I Ar h0) (rlQ G ix ad I Ar h0 (lP (Ar 27) N 401 p0 0 1 [])) := by
  refine Ct.of (by decide +kernel) (Nat.le_of_ble_eq_true rfl) (fun E hE X F => ?_)
  have X : Gc G E "ComplaintDeskModel" cX7_readLetter 4 4 0 0 := X
  show GW G E _ 4 0 [(0, _)] [] _ 0 0
  refine g_iconst X (v := 0) dX7_readLetter_0 ki_0 ?_
  refine g_istore_n X dX7_readLetter_1 (Nat.le_of_ble_eq_true rfl) [(1, _), (0, _)] rfl ?_
  refine g_iconst X (v := 0) dX7_readLetter_2 ki_0 ?_
  refine g_istore_n X dX7_readLetter_3 (Nat.le_of_ble_eq_true rfl) [(2, _), (1, _), (0, _)] rfl ?_
  refine g_iconst X (v := 1) dX7_readLetter_4 ki_1 ?_
  refine g_istore_n X dX7_readLetter_5 (Nat.le_of_ble_eq_true rfl) [(3, _), (2, _), (1, _), (0, _)] rfl ?_
  refine g_L [3, 2, 1, 0] (L' := [(0, _), (1, _), (2, _), (3, _)]) rfl ?_
  refine g_h (h' := mH G ix ad (wI I b0 p0) Ar h0) (by rw [wI_self hb0 hp0]) ?_
  exact lp_X7_readLetter_6 X F D N p0 hN hN4 401 b0 p0 0 1 [] Ar (by omega) hpN (by decide) (by decide) (Or.inr rfl) (fun q => absurd q (by decide)) (fun i w h => by simp at h) AGl.rf rfl
end M14
