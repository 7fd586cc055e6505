section K23
variable {G : gG} {l : Launch} {h h0 : hW} {Z : kZ} {I : Nat → Int32} {Ar : Nat → Nat → Int32} {T : Nat → Int32} {A : Nat → Nat → Int32} {Lg : Nat → Nat → Int64}
/-- a pattern's text, thing by thing: a word must come; a not stands before it; the word begins a new part -/
def tP (B : Nat → Int32) (N : Nat) : Nat → Nat → Int32 → Int32 → Int32 → List pW → Option Nat × List pW
  | 0, _, _, _, _, L => (some 0, L)
  | f + 1, i, w, bn, o, L =>
    if ¬ bgn B N i < N then ((if w = 0 then none else some N), L)
    else if w = 0 then
      if isW B (bgn B N i) (fin B N (bgn B N i)) 1 ∨ isW B (bgn B N i) (fin B N (bgn B N i)) 0 then tP B N f (fin B N (bgn B N i)) 1 0 (b2 (isW B (bgn B N i) (fin B N (bgn B N i)) 1)) L
      else (some (bgn B N i), L)
    else if isW B (bgn B N i) (fin B N (bgn B N i)) 2 ∧ bn = 0 then tP B N f (fin B N (bgn B N i)) 1 1 o L
    else if badW B (bgn B N i) (fin B N (bgn B N i)) L.length then (some (bgn B N i), L)
    else tP B N f (fin B N (bgn B N i)) 0 0 0 (L ++ [(bgn B N i, fin B N (bgn B N i) - bgn B N i, bn, o)])
termination_by f => f
theorem tP_s {B : Nat → Int32} {N f i : Nat} {w bn o : Int32} {L : List pW} : tP B N (f + 1) i w bn o L =
    if ¬ bgn B N i < N then ((if w = 0 then none else some N), L)
    else if w = 0 then
      if isW B (bgn B N i) (fin B N (bgn B N i)) 1 ∨ isW B (bgn B N i) (fin B N (bgn B N i)) 0 then tP B N f (fin B N (bgn B N i)) 1 0 (b2 (isW B (bgn B N i) (fin B N (bgn B N i)) 1)) L
      else (some (bgn B N i), L)
    else if isW B (bgn B N i) (fin B N (bgn B N i)) 2 ∧ bn = 0 then tP B N f (fin B N (bgn B N i)) 1 1 o L
    else if badW B (bgn B N i) (fin B N (bgn B N i)) L.length then (some (bgn B N i), L)
    else tP B N f (fin B N (bgn B N i)) 0 0 0 (L ++ [(bgn B N i, fin B N (bgn B N i) - bgn B N i, bn, o)]) := by rw [tP]
theorem isW_len {B : Nat → Int32} {b p i : Nat} (h : isW B b p i) (hi : i < 3) : b < p := by
  have := (sgL i hi).2.1
  have := h.1
  omega
theorem fin_N {B : Nat → Int32} {N : Nat} : fin B N N = N := skp_f (fun q => absurd q.1 (Nat.lt_irrefl _))
theorem bgn_N {B : Nat → Int32} {N : Nat} : bgn B N N = N := skp_f (fun q => absurd q.1 (Nat.lt_irrefl _))
/-- behind a word: what comes next, in both readings -/
theorem tP_w {B : Nat → Int32} {N fu f i0 : Nat} {L : List pW} (hi : i0 ≤ N) (hfu : N - i0 < fu)
    (ih : ∀ (fv i : Nat) (o : Int32), i ≤ N → N - i < fv → tP B N fv i 1 0 o L = pP B N f i o L) :
    tP B N fu i0 0 0 0 L = (if fin B N (bgn B N i0) = bgn B N i0 ∧ fin B N (bgn B N i0) = N then (none, L)
      else if isW B (bgn B N i0) (fin B N (bgn B N i0)) 1 ∨ isW B (bgn B N i0) (fin B N (bgn B N i0)) 0 then pP B N f (fin B N (bgn B N i0)) (b2 (isW B (bgn B N i0) (fin B N (bgn B N i0)) 1)) L
      else (some (bgn B N i0), L)) := by
  have hb1 : bgn B N i0 ≤ N := skp_le1 hi
  have hb0 : i0 ≤ bgn B N i0 := skp_ge1 hi
  have hp1 : fin B N (bgn B N i0) ≤ N := skp_le1 hb1
  have hp0 : bgn B N i0 ≤ fin B N (bgn B N i0) := skp_ge1 hb1
  obtain ⟨fv, rfl⟩ : ∃ fv, fu = fv + 1 := ⟨fu - 1, by omega⟩
  rw [tP_s]
  by_cases h1 : bgn B N i0 < N
  · have hR : ¬ (fin B N (bgn B N i0) = bgn B N i0 ∧ fin B N (bgn B N i0) = N) := fun q => Nat.lt_irrefl N (by rw [← q.1, q.2] at h1; exact h1)
    rw [if_neg (fun q => q h1), if_pos rfl]
    by_cases h2 : isW B (bgn B N i0) (fin B N (bgn B N i0)) 1 ∨ isW B (bgn B N i0) (fin B N (bgn B N i0)) 0
    · rw [if_pos h2, if_neg hR, if_pos h2]
      have h3 : bgn B N i0 < fin B N (bgn B N i0) := h2.elim (fun q => isW_len q (by decide)) (fun q => isW_len q (by decide))
      exact ih fv _ _ hp1 (by omega)
    · rw [if_neg h2, if_neg hR, if_neg h2]
  · have e : bgn B N i0 = N := by omega
    rw [if_pos h1, if_pos rfl, if_pos ⟨by rw [e, fin_N], by rw [e, fin_N]⟩]
theorem bad_stop {B : Nat → Int32} {N : Nat} : badW B N N 0 ∨ True := Or.inr trivial
/-- both readings are one -/
theorem tP_pP {B : Nat → Int32} {N : Nat} : ∀ (f fu i : Nat) (o : Int32) (L : List pW), i ≤ N → N - i < fu → 12 - L.length < f → L.length ≤ 12 → tP B N fu i 1 0 o L = pP B N f i o L := by
  intro f
  induction f with
  | zero => intro fu i o L _ _ h; exact absurd h (Nat.not_lt_zero _)
  | succ f ih =>
    intro fu i o L hi hfu hf hL
    have ih2 : ∀ (w9 : pW), ¬ L.length = 12 → ∀ (fv i : Nat) (o : Int32), i ≤ N → N - i < fv → tP B N fv i 1 0 o (L ++ [w9]) = pP B N f i o (L ++ [w9]) := fun w9 hne fv i o h1 h2 =>
      ih fv i o (L ++ [w9]) h1 h2 (by rw [List.length_append]; simp only [List.length_cons, List.length_nil]; omega) (by rw [List.length_append]; simp only [List.length_cons, List.length_nil]; omega)
    have hb1 : bgn B N i ≤ N := skp_le1 hi
    have hb0 : i ≤ bgn B N i := skp_ge1 hi
    have hp1 : fin B N (bgn B N i) ≤ N := skp_le1 hb1
    have hp0 : bgn B N i ≤ fin B N (bgn B N i) := skp_ge1 hb1
    obtain ⟨fv, rfl⟩ : ∃ fv, fu = fv + 1 := ⟨fu - 1, by omega⟩
    rw [tP_s, pP_s]
    by_cases h1 : bgn B N i < N
    · rw [if_neg (fun q => q h1), if_neg (by decide)]
      by_cases h2 : isW B (bgn B N i) (fin B N (bgn B N i)) 2
      · have ewn : wnt B N i := h2
        have ewb : wb B N i = bgn B N (fin B N (bgn B N i)) := if_pos ewn
        have h3 := isW_len h2 (by decide)
        rw [if_pos ⟨h2, rfl⟩]
        have hc1 : bgn B N (fin B N (bgn B N i)) ≤ N := skp_le1 hp1
        have hc0 : fin B N (bgn B N i) ≤ bgn B N (fin B N (bgn B N i)) := skp_ge1 hp1
        have hd1 : fin B N (bgn B N (fin B N (bgn B N i))) ≤ N := skp_le1 hc1
        have hd0 : bgn B N (fin B N (bgn B N i)) ≤ fin B N (bgn B N (fin B N (bgn B N i))) := skp_ge1 hc1
        obtain ⟨fx, rfl⟩ : ∃ fx, fv = fx + 1 := ⟨fv - 1, by omega⟩
        rw [tP_s]
        simp only [wW, np, nb, wp, ewb]
        by_cases h4 : bgn B N (fin B N (bgn B N i)) < N
        · rw [if_neg (fun q => q h4), if_neg (by decide), if_neg (fun q => absurd q.2 (by decide))]
          by_cases h5 : badW B (bgn B N (fin B N (bgn B N i))) (fin B N (bgn B N (fin B N (bgn B N i)))) L.length
          · rw [if_pos h5, if_pos h5]
          · rw [if_neg h5, if_neg h5, b2_t ewn]
            have hne : ¬ L.length = 12 := fun q => h5 (Or.inr (Or.inr (Or.inl q)))
            have hlt : ¬ fin B N (bgn B N (fin B N (bgn B N i))) = bgn B N (fin B N (bgn B N i)) := fun q => h5 (Or.inl q)
            refine tP_w hd1 ?_ (ih2 _ hne)
            omega
        · have e : bgn B N (fin B N (bgn B N i)) = N := by omega
          rw [if_pos h4, if_neg (by decide), e, fin_N, if_pos (Or.inl rfl)]
      · have ewn : ¬ wnt B N i := h2
        have ewb : wb B N i = bgn B N i := if_neg ewn
        rw [if_neg (fun q => h2 q.1)]
        simp only [wW, np, nb, wp, ewb]
        by_cases h5 : badW B (bgn B N i) (fin B N (bgn B N i)) L.length
        · rw [if_pos h5, if_pos h5]
        · rw [if_neg h5, if_neg h5, b2_f ewn]
          have hne : ¬ L.length = 12 := fun q => h5 (Or.inr (Or.inr (Or.inl q)))
          have hlt : ¬ fin B N (bgn B N i) = bgn B N i := fun q => h5 (Or.inl q)
          refine tP_w hp1 ?_ (ih2 _ hne)
          omega
    · have e : bgn B N i = N := by omega
      have ewn : ¬ wnt B N i := fun q => by
        have h9 : isW B (bgn B N i) (fin B N (bgn B N i)) 2 := q
        have := isW_len h9 (by decide)
        rw [e, fin_N] at this
        exact absurd this (Nat.lt_irrefl _)
      have ewb : wb B N i = bgn B N i := if_neg ewn
      rw [if_pos h1, if_neg (by decide)]
      unfold wp
      rw [ewb, e, fin_N, if_pos (Or.inl rfl)]
theorem pR_t {N : Nat} {fu : Nat} (hfu : N < fu) : tP (Ar 27) N fu 0 1 0 0 [] = pR Ar N := tP_pP 13 fu 0 0 [] (Nat.zero_le _) (by omega) (by decide) (by decide)
end K23
