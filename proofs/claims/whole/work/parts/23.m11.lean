section M11
variable {G : gG} {l : Launch} {ix : Nat → Nat} {m : Nat} {ad : Nat → Nat} {I : Nat → Int32} {Ar : Nat → Nat → Int32} {h0 h : hW}
/-- a word of a pattern: begin, length, not, or -/
abbrev pW : Type := Nat × Nat × Int32 × Int32
abbrev wnt (B : Nat → Int32) (N i : Nat) : Prop := isW B (bgn B N i) (fin B N (bgn B N i)) 2
def wb (B : Nat → Int32) (N i : Nat) : Nat := if wnt B N i then bgn B N (fin B N (bgn B N i)) else bgn B N i
abbrev wp (B : Nat → Int32) (N i : Nat) : Nat := fin B N (wb B N i)
/-- behind a word: the next thing -/
abbrev nb (B : Nat → Int32) (N i : Nat) : Nat := bgn B N (wp B N i)
abbrev np (B : Nat → Int32) (N i : Nat) : Nat := fin B N (nb B N i)
abbrev wW (B : Nat → Int32) (N i : Nat) (o : Int32) : pW := (wb B N i, wp B N i - wb B N i, b2 (wnt B N i), o)
/-- a pattern's text from i on: the first wrong byte, if any; the words -/
def pP (B : Nat → Int32) (N : Nat) : Nat → Nat → Int32 → List pW → Option Nat × List pW
  | 0, _, _, L => (some 0, L)
  | f + 1, i, o, L =>
    if badW B (wb B N i) (wp B N i) L.length then (some (wb B N i), L)
    else if np B N i = nb B N i ∧ np B N i = N then (none, L ++ [wW B N i o])
    else if isW B (nb B N i) (np B N i) 1 ∨ isW B (nb B N i) (np B N i) 0 then pP B N f (np B N i) (b2 (isW B (nb B N i) (np B N i) 1)) (L ++ [wW B N i o])
    else (some (nb B N i), L ++ [wW B N i o])
termination_by f => f
theorem pP_s {B : Nat → Int32} {N f i : Nat} {o : Int32} {L : List pW} : pP B N (f + 1) i o L =
    if badW B (wb B N i) (wp B N i) L.length then (some (wb B N i), L)
    else if np B N i = nb B N i ∧ np B N i = N then (none, L ++ [wW B N i o])
    else if isW B (nb B N i) (np B N i) 1 ∨ isW B (nb B N i) (np B N i) 0 then pP B N f (np B N i) (b2 (isW B (nb B N i) (np B N i) 1)) (L ++ [wW B N i o])
    else (some (nb B N i), L ++ [wW B N i o]) := by rw [pP]
/-- the words lie in the last row -/
def RW (A : Nat → Nat → Int32) (L : List pW) : Prop := ∀ (i : Nat) (w : pW), L[i]? = some w → A 8 (144 + i) = nI w.2.1 ∧ w.2.1 ≤ 12 ∧ A 9 (144 + i) = w.2.2.1 ∧ A 10 (144 + i) = w.2.2.2 ∧ ∀ k, k < w.2.1 → A 7 (12 * (144 + i) + k) = A 27 (w.1 + k)
/-- but for the last row of the patterns nothing differs -/
def AGp (A A' : Nat → Nat → Int32) : Prop := (∀ j, j ≠ 6 → j ≠ 7 → j ≠ 8 → j ≠ 9 → j ≠ 10 → A' j = A j) ∧ (∀ k, k ≠ 12 → A' 6 k = A 6 k) ∧ (∀ k, k < 144 → A' 8 k = A 8 k ∧ A' 9 k = A 9 k ∧ A' 10 k = A 10 k) ∧ ∀ k, k < 1728 → A' 7 k = A 7 k
theorem AGp.rf {A : Nat → Nat → Int32} : AGp A A := ⟨fun _ _ _ _ _ _ => rfl, fun _ _ => rfl, fun _ _ => ⟨rfl, rfl, rfl⟩, fun _ _ => rfl⟩
theorem AGp.tr {A B C : Nat → Nat → Int32} (h : AGp A B) (k : AGp B C) : AGp A C :=
  ⟨fun j a b c d e => (k.1 j a b c d e).trans (h.1 j a b c d e), fun j a => (k.2.1 j a).trans (h.2.1 j a), fun j a => ⟨(k.2.2.1 j a).1.trans (h.2.2.1 j a).1, (k.2.2.1 j a).2.1.trans (h.2.2.1 j a).2.1, (k.2.2.1 j a).2.2.trans (h.2.2.1 j a).2.2⟩, fun j a => (k.2.2.2 j a).trans (h.2.2.2 j a)⟩
theorem AGp.st {A : Nat → Nat → Int32} {n b len : Nat} {nt o : Int32} : AGp A (stA A n b len nt o) := by
  refine ⟨fun j a b c d e => by simp [va_up, a, b, c, d, e], fun k a => by simp [va_up, upd, a], fun k a => ?_, fun k a => ?_⟩
  · have h : k ≠ 144 + n := by omega
    simp [va_up, upd, h]
  · show cpN (A 7) (A 27) (12 * (144 + n)) b len k = A 7 k
    rw [cpN_at, if_neg (by omega)]
theorem RW.st {A : Nat → Nat → Int32} {L : List pW} {b len : Nat} {nt o : Int32} (h : RW A L) (hnt : nt = 0 ∨ nt = 1) (ho : o = 0 ∨ o = 1) (hl : len ≤ 12) (hby : ∀ i, vp_nar .byte (A 27 i) = A 27 i) : RW (stA A L.length b len nt o) (L ++ [(b, len, nt, o)]) := by
  intro i w hw
  by_cases hi : i < L.length
  · rw [List.getElem?_append_left hi] at hw
    obtain ⟨h1, h2, h3, h4, h5⟩ := h i w hw
    have hne : i ≠ L.length := by omega
    refine ⟨by simp [va_up, upd, hne, h1], h2, by simp [va_up, upd, hne, h3], by simp [va_up, upd, hne, h4], fun k hk => ?_⟩
    show cpN (A 7) (A 27) (12 * (144 + L.length)) b len (12 * (144 + i) + k) = A 27 (w.1 + k)
    rw [cpN_at, if_neg (by omega)]
    exact h5 k hk
  · rw [List.getElem?_append_right (by omega)] at hw
    have hz : i - L.length < 1 := (List.getElem?_eq_some_iff.mp hw).1
    have hz2 : i = L.length := by omega
    subst hz2
    rw [Nat.sub_self] at hw
    cases hw
    refine ⟨by simp [va_up, upd], hl, by simp [va_up, upd, bool_nar hnt], by simp [va_up, upd, bool_nar ho], fun k hk => ?_⟩
    show cpN (A 7) (A 27) (12 * (144 + L.length)) b len (12 * (144 + L.length) + k) = A 27 (b + k)
    rw [cpN_at, if_pos (by have : k < len := hk; omega), Nat.add_sub_cancel_left, hby]
theorem wI_self {b p : Nat} (hb : I 31 = nI b) (hp : I 29 = nI p) : wI I b p = I := by
  funext j
  by_cases h1 : j = 29
  · subst h1; simp [va_up, hp]
  · by_cases h2 : j = 31
    · subst h2; simp [va_up, hb]
    · simp [va_up, h1, h2]
theorem wb_le {B : Nat → Int32} {N i : Nat} (h : i ≤ N) : wb B N i ≤ N := by
  unfold wb
  split
  · exact skp_le1 (skp_le1 (skp_le1 h))
  · exact skp_le1 h
/-- what readPattern has done -/
abbrev rpQ (G : gG) (ix : Nat → Nat) (ad : Nat → Nat) (I : Nat → Int32) (Ar : Nat → Nat → Int32) (h0 : hW) (R : Option Nat × List pW) : Option Value → hW → Prop := fun v h' => ∃ (b' p' : Nat) (A' : Nat → Nat → Int32), h' = mH G ix ad (wI I b' p') A' h0 ∧ AGp Ar A' ∧ v = some (.int (b2 (R.1 = none))) ∧ (∀ z, R.1 = some z → b' = z) ∧ (R.1 = none → RW A' R.2 ∧ A' 6 12 = nI R.2.length)
theorem lp_X7_readPattern_4 {E : gE} (X : Gc G E "ComplaintDeskModel" cX7_readPattern 6 6 0 0) (F : gF E M_X7_readPattern) (D : md ix m ad) (N p0 : Nat) (hN : I 30 = nI N) (hN4 : N ≤ 400) (hby : ∀ i, vp_nar .byte (Ar 27 i) = Ar 27 i) : ∀ (f : Nat) (L : List pW) (o : Int32) (b p : Nat) (A : Nat → Nat → Int32), L.length + f = 13 → L.length ≤ 12 → RW A L → AGp Ar A → (o = 0 ∨ o = 1) → p ≤ N → (pP (Ar 27) N 13 p0 0 []) = pP (A 27) N f p o L → GW G E (gMQ G E 0 0 (rpQ G ix ad I Ar h0 (pP (Ar 27) N 13 p0 0 []))) 6 4 [(0, .ref m), (1, .int (nI L.length)), (2, .int o)] [] (mH G ix ad (wI I b p) A h0) 0 0 := by
  intro f
  induction f with
  | zero => intro L o b p A h1 h2; exact absurd h1 (by omega)
  | succ f ih =>
    intro L o b p A hLf hL12 hrw hag ho hpN hr
    refine g_aload_n X dX7_readPattern_4 0 rfl ?_
    refine g_cV0 X ml_X7_147 (c_X7_word (I := wI I b p) (Ar := A) D p N rfl hN hpN hN4) ⟨7, _, mLm D, rfl⟩ (Nat.le_of_ble_eq_true rfl) rfl rfl (Nat.le_of_ble_eq_true rfl) (Nat.zero_le _) (Nat.zero_le _) dX7_readPattern_5 ?_
    rw [wI_wI]
    refine g_aload_n X dX7_readPattern_8 0 rfl ?_
    refine g_ldcS X (X.sg (i := 2) (q := ("ComplaintDeskModel", 145, "not")) rfl) dX7_readPattern_9 ?_
    refine g_cV X ml_X7_139 (c_X7_isWord (I := wI I (bgn (A 27) N p) (fin (A 27) N (bgn (A 27) N p))) (Ar := A) D _ _ 2 (by decide) rfl rfl (skp_ge1 (skp_le1 hpN)) (Nat.le_trans (skp_le1 (skp_le1 hpN)) hN4)) ⟨7, _, mLm D, rfl⟩ (Nat.le_of_ble_eq_true rfl) rfl rfl (Nat.le_of_ble_eq_true rfl) (Nat.zero_le _) (Nat.zero_le _) dX7_readPattern_11 ?_
    refine g_istore_n X dX7_readPattern_14 (Nat.le_of_ble_eq_true rfl) [(3, _), (0, _), (1, _), (2, _)] rfl ?_
    refine g_iload_n X dX7_readPattern_15 0 rfl ?_
    refine g_if_eq X 23 dX7_readPattern_16 (by decide) (fun c_16 => ?_) (fun c_16 => ?_)
    · have hnt : ¬ wnt (A 27) N p := b2_0.mp c_16
      have ewb : wb (A 27) N p = bgn (A 27) N p := if_neg hnt
      refine g_h (h' := mH G ix ad (wI I (wb (A 27) N p) (wp (A 27) N p)) A h0) (by show _ = mH G ix ad (wI I (wb (A 27) N p) (fin (A 27) N (wb (A 27) N p))) A h0; rw [ewb]) ?_
      refine g_L [1, 2, 3, 0] (L' := [(0, _), (1, _), (2, _), (3, _)]) rfl ?_
      first | rw [wI_wI] | skip
      refine g_L [0, 1, 2, 3] (L' := [(0, _), (1, _), (2, _), (3, .int (b2 (wnt (A 27) N p)))]) rfl ?_
      refine g_h (h' := mH G ix ad (wI I (wb (A 27) N p) (wp (A 27) N p)) A h0) (by first | rfl | (show _ = mH G ix ad (wI I (wb (A 27) N p) (fin (A 27) N (wb (A 27) N p))) A h0; rw [ewb])) ?_
      have hA27 : A 27 = Ar 27 := hag.1 27 (by decide) (by decide) (by decide) (by decide) (by decide)
      have hby2 : ∀ i, vp_nar .byte (A 27 i) = A 27 i := fun i => by rw [hA27]; exact hby i
      have hle : wb (A 27) N p ≤ N := wb_le hpN
      refine lp_X7_readPattern_23 X F (I := wI I (wb (A 27) N p) (wp (A 27) N p)) (Ar := A) D N (wb (A 27) N p) (wp (A 27) N p) L.length (b2 (wnt (A 27) N p)) o b2_c ho hN hN4 rfl rfl (skp_ge1 hle) (skp_le1 hle) hL12 (fun hb1 => ?_) (fun hg e1 e2 => ?_) (fun hg e1 e2 e3 => ?_) (fun hg e1 e2 => ?_)
      · have hR : (pP (Ar 27) N 13 p0 0 []) = (some (wb (A 27) N p), L) := by rw [hr, pP_s, if_pos hb1]
        rw [hR]
        exact ⟨_, _, A, rfl, hag, by rw [b2_f (by simp)], (fun z hz => by cases hz; rfl), (fun hz => by cases hz)⟩
      · have hR : (pP (Ar 27) N 13 p0 0 []) = (none, L ++ [wW (A 27) N p o]) := by rw [hr, pP_s, if_neg hg, if_pos ⟨e1, e2⟩]
        rw [hR, wI_wI]
        exact ⟨_, _, _, rfl, hag.tr AGp.st, by rw [b2_t rfl], (fun z hz => by cases hz), fun _ => ⟨hrw.st b2_c ho (Nat.not_lt.mp (fun q => hg (Or.inr (Or.inr (Or.inr q))))) hby2, by simp [va_up, upd]⟩⟩
      · have hR : (pP (Ar 27) N 13 p0 0 []) = (some (nb (A 27) N p), L ++ [wW (A 27) N p o]) := by rw [hr, pP_s, if_neg hg, if_neg e1, if_neg (fun q => q.elim e2 e3)]
        rw [hR, wI_wI]
        exact ⟨_, _, _, rfl, hag.tr AGp.st, by rw [b2_f (by simp)], (fun z hz => by cases hz; rfl), (fun hz => by cases hz)⟩
      · have hR : (pP (Ar 27) N 13 p0 0 []) = pP (A 27) N f (np (A 27) N p) (b2 (isW (A 27) (nb (A 27) N p) (np (A 27) N p) 1)) (L ++ [wW (A 27) N p o]) := by rw [hr, pP_s, if_neg hg, if_neg e1, if_pos e2]
        rw [wI_wI]
        have hl1 : (L ++ [wW (A 27) N p o]).length = L.length + 1 := by simp
        refine g_L [0, 1, 2] (L' := [(0, _), (1, .int (nI (L ++ [wW (A 27) N p o]).length)), (2, _)]) (by rw [hl1]; rfl) ?_
        refine ih (L ++ [wW (A 27) N p o]) (b2 (isW (A 27) (nb (A 27) N p) (np (A 27) N p) 1)) (nb (A 27) N p) (np (A 27) N p) (stA A L.length (wb (A 27) N p) (wp (A 27) N p - wb (A 27) N p) (b2 (wnt (A 27) N p)) o) (by rw [hl1]; omega) ?_ (hrw.st b2_c ho (Nat.not_lt.mp (fun q => hg (Or.inr (Or.inr (Or.inr q))))) hby2) (hag.tr AGp.st) b2_c (skp_le1 (skp_le1 (skp_le1 hle))) hR
        rw [hl1]
        have : ¬ L.length = 12 := fun q => hg (Or.inr (Or.inr (Or.inl q)))
        omega
    · have hnt : wnt (A 27) N p := Decidable.not_not.mp (fun q => c_16 (b2_0.mpr q))
      have ewb : wb (A 27) N p = bgn (A 27) N (fin (A 27) N (bgn (A 27) N p)) := if_pos hnt
      refine g_aload_n X dX7_readPattern_19 1 rfl ?_
      refine g_cV0 X ml_X7_147 (c_X7_word (I := wI I (bgn (A 27) N p) (fin (A 27) N (bgn (A 27) N p))) (Ar := A) D (fin (A 27) N (bgn (A 27) N p)) N rfl hN (skp_le1 (skp_le1 hpN)) hN4) ⟨7, _, mLm D, rfl⟩ (Nat.le_of_ble_eq_true rfl) rfl rfl (Nat.le_of_ble_eq_true rfl) (Nat.zero_le _) (Nat.zero_le _) dX7_readPattern_20 ?_
      refine g_L [1, 2, 3, 0] (L' := [(0, _), (1, _), (2, _), (3, _)]) rfl ?_
      first | rw [wI_wI] | skip
      refine g_L [0, 1, 2, 3] (L' := [(0, _), (1, _), (2, _), (3, .int (b2 (wnt (A 27) N p)))]) rfl ?_
      refine g_h (h' := mH G ix ad (wI I (wb (A 27) N p) (wp (A 27) N p)) A h0) (by first | rfl | (show _ = mH G ix ad (wI I (wb (A 27) N p) (fin (A 27) N (wb (A 27) N p))) A h0; rw [ewb])) ?_
      have hA27 : A 27 = Ar 27 := hag.1 27 (by decide) (by decide) (by decide) (by decide) (by decide)
      have hby2 : ∀ i, vp_nar .byte (A 27 i) = A 27 i := fun i => by rw [hA27]; exact hby i
      have hle : wb (A 27) N p ≤ N := wb_le hpN
      refine lp_X7_readPattern_23 X F (I := wI I (wb (A 27) N p) (wp (A 27) N p)) (Ar := A) D N (wb (A 27) N p) (wp (A 27) N p) L.length (b2 (wnt (A 27) N p)) o b2_c ho hN hN4 rfl rfl (skp_ge1 hle) (skp_le1 hle) hL12 (fun hb1 => ?_) (fun hg e1 e2 => ?_) (fun hg e1 e2 e3 => ?_) (fun hg e1 e2 => ?_)
      · have hR : (pP (Ar 27) N 13 p0 0 []) = (some (wb (A 27) N p), L) := by rw [hr, pP_s, if_pos hb1]
        rw [hR]
        exact ⟨_, _, A, rfl, hag, by rw [b2_f (by simp)], (fun z hz => by cases hz; rfl), (fun hz => by cases hz)⟩
      · have hR : (pP (Ar 27) N 13 p0 0 []) = (none, L ++ [wW (A 27) N p o]) := by rw [hr, pP_s, if_neg hg, if_pos ⟨e1, e2⟩]
        rw [hR, wI_wI]
        exact ⟨_, _, _, rfl, hag.tr AGp.st, by rw [b2_t rfl], (fun z hz => by cases hz), fun _ => ⟨hrw.st b2_c ho (Nat.not_lt.mp (fun q => hg (Or.inr (Or.inr (Or.inr q))))) hby2, by simp [va_up, upd]⟩⟩
      · have hR : (pP (Ar 27) N 13 p0 0 []) = (some (nb (A 27) N p), L ++ [wW (A 27) N p o]) := by rw [hr, pP_s, if_neg hg, if_neg e1, if_neg (fun q => q.elim e2 e3)]
        rw [hR, wI_wI]
        exact ⟨_, _, _, rfl, hag.tr AGp.st, by rw [b2_f (by simp)], (fun z hz => by cases hz; rfl), (fun hz => by cases hz)⟩
      · have hR : (pP (Ar 27) N 13 p0 0 []) = pP (A 27) N f (np (A 27) N p) (b2 (isW (A 27) (nb (A 27) N p) (np (A 27) N p) 1)) (L ++ [wW (A 27) N p o]) := by rw [hr, pP_s, if_neg hg, if_neg e1, if_pos e2]
        rw [wI_wI]
        have hl1 : (L ++ [wW (A 27) N p o]).length = L.length + 1 := by simp
        refine g_L [0, 1, 2] (L' := [(0, _), (1, .int (nI (L ++ [wW (A 27) N p o]).length)), (2, _)]) (by rw [hl1]; rfl) ?_
        refine ih (L ++ [wW (A 27) N p o]) (b2 (isW (A 27) (nb (A 27) N p) (np (A 27) N p) 1)) (nb (A 27) N p) (np (A 27) N p) (stA A L.length (wb (A 27) N p) (wp (A 27) N p - wb (A 27) N p) (b2 (wnt (A 27) N p)) o) (by rw [hl1]; omega) ?_ (hrw.st b2_c ho (Nat.not_lt.mp (fun q => hg (Or.inr (Or.inr (Or.inr q))))) hby2) (hag.tr AGp.st) b2_c (skp_le1 (skp_le1 (skp_le1 hle))) hR
        rw [hl1]
        have : ¬ L.length = 12 := fun q => hg (Or.inr (Or.inr (Or.inl q)))
        omega
theorem c_X7_readPattern (D : md ix m ad) (N p0 b0 : Nat) (hN : I 30 = nI N) (hN4 : N ≤ 400) (hp0 : I 29 = nI p0) (hb0 : I 31 = nI b0) (hpN : p0 ≤ N) (hby : ∀ i, vp_nar .byte (Ar 27 i) = Ar 27 i)  : Ct G l 6 0 0 M_X7_readPattern [.ref m] (mH G ix ad I Ar h0) (rpQ G ix ad I Ar h0 (pP (Ar 27) N 13 p0 0 [])) := by
  refine Ct.of (by decide +kernel) (Nat.le_of_ble_eq_true rfl) (fun E hE X F => ?_)
  have X : Gc G E "ComplaintDeskModel" cX7_readPattern 6 6 0 0 := X
  show GW G E _ 6 0 [(0, _)] [] _ 0 0
  refine g_iconst X (v := 0) dX7_readPattern_0 ki_0 ?_
  refine g_istore_n X dX7_readPattern_1 (Nat.le_of_ble_eq_true rfl) [(1, _), (0, _)] rfl ?_
  refine g_iconst X (v := 0) dX7_readPattern_2 ki_0 ?_
  refine g_istore_n X dX7_readPattern_3 (Nat.le_of_ble_eq_true rfl) [(2, _), (1, _), (0, _)] rfl ?_
  refine g_L [2, 1, 0] (L' := [(0, _), (1, _), (2, _)]) rfl ?_
  refine g_h (h' := mH G ix ad (wI I b0 p0) Ar h0) (by rw [wI_self hb0 hp0]) ?_
  exact lp_X7_readPattern_4 X F D N p0 hN hN4 hby 13 [] 0 b0 p0 Ar rfl (by decide) (fun i w h => by simp at h) AGp.rf (Or.inl rfl) hpN rfl
abbrev rsQ (G : gG) (ix : Nat → Nat) (ad : Nat → Nat) (I : Nat → Int32) (Ar : Nat → Nat → Int32) (h0 : hW) (R : Option Nat × List pW) : Option Value → hW → Prop := fun v h' => ∃ (b' p' : Nat) (A' : Nat → Nat → Int32), h' = mH G ix ad (va_up (wI I b' p') 32 (enO R.1)) A' h0 ∧ AGp Ar A' ∧ v = some (.int (b2 (R.1 = none))) ∧ (R.1 = none → RW A' R.2 ∧ A' 6 12 = nI R.2.length)
theorem c_X7_readsPattern (D : md ix m ad) (N p0 b0 : Nat) (hN : I 30 = nI N) (hN4 : N ≤ 400) (hp0 : I 29 = nI p0) (hb0 : I 31 = nI b0) (hpN : p0 ≤ N) (hby : ∀ i, vp_nar .byte (Ar 27 i) = Ar 27 i)  : Ct G l 7 0 0 M_X7_readsPattern [.ref m] (mH G ix ad I Ar h0) (rsQ G ix ad I Ar h0 (pP (Ar 27) N 13 p0 0 [])) := by
  refine Ct.of (by decide +kernel) (Nat.le_of_ble_eq_true rfl) (fun E hE X F => ?_)
  have X : Gc G E "ComplaintDeskModel" cX7_readsPattern 2 7 0 0 := X
  show GW G E _ 2 0 [(0, _)] [] _ 0 0
  refine g_aload_n X dX7_readsPattern_0 0 rfl ?_
  refine g_cVx X ml_X7_154 (c_X7_readPattern D N p0 b0 hN hN4 hp0 hb0 hpN hby) ⟨7, _, mLm D, rfl⟩ (Nat.le_of_ble_eq_true rfl) rfl rfl (Nat.le_of_ble_eq_true rfl) (Nat.zero_le _) (Nat.zero_le _) dX7_readsPattern_1 ?_
  rintro v h1 ⟨b1, p1, A1, rfl, hag, rfl, hz, hok⟩
  generalize (pP (Ar 27) N 13 p0 0 []) = R at hz hok ⊢
  refine g_st (st' := [.int (b2 (R.1 = none))]) rfl ?_
  refine g_istore_n X dX7_readsPattern_4 (Nat.le_of_ble_eq_true rfl) [(1, _), (0, _)] rfl ?_
  refine g_aload_n X dX7_readsPattern_5 1 rfl ?_
  refine g_iload_n X dX7_readsPattern_6 0 rfl ?_
  refine g_if_eq X 14 dX7_readsPattern_7 (by decide) (fun c_7 => ?_) (fun c_7 => ?_)
  · have hR : ¬ R.1 = none := b2_0.mp c_7
    obtain ⟨z, hz1⟩ : ∃ z, R.1 = some z := by cases q : R.1 with | none => exact absurd q hR | some z => exact ⟨z, rfl⟩
    have e1 : nI b1 = enO R.1 := by rw [hz1, hz z hz1]; rfl
    refine g_aload_n X dX7_readsPattern_14 1 rfl ?_
    refine g_getfield X fl_X7_121 dX7_readsPattern_15 (mLm D) rfl ?_
    refine g_eqi (y := enO R.1) e1 ?_
    refine m_put X D 32 (by decide) fp_X7_81 dX7_readsPattern_18 (mset_32 _ _ _) ?_
    refine g_iload_n X dX7_readsPattern_21 0 rfl ?_
    refine g_iret X F rfl b2_n dX7_readsPattern_22 (Nat.zero_le _) (Nat.zero_le _) ?_
    exact ⟨_, _, _, rfl, hag, rfl, hok⟩
  · have hR : R.1 = none := Decidable.not_not.mp (fun q => c_7 (b2_0.mpr q))
    have e1 : (-1 : Int32) = enO R.1 := by rw [hR]; rfl
    refine g_iconst X (v := (-1)) dX7_readsPattern_10 ki_m1 ?_
    refine g_goto X 18 dX7_readsPattern_11 (by decide) ?_
    refine g_eqi (y := enO R.1) e1 ?_
    refine m_put X D 32 (by decide) fp_X7_81 dX7_readsPattern_18 (mset_32 _ _ _) ?_
    refine g_iload_n X dX7_readsPattern_21 0 rfl ?_
    refine g_iret X F rfl b2_n dX7_readsPattern_22 (Nat.zero_le _) (Nat.zero_le _) ?_
    exact ⟨_, _, _, rfl, hag, rfl, hok⟩
end M11
