section K36
variable {G : gG} {l : Launch} {h h0 : hW} {Z : kZ} {I : Nat → Int32} {Ar : Nat → Nat → Int32} {T : Nat → Int32} {A : Nat → Nat → Int32} {Lg : Nat → Nat → Int64}
/-- parts of words in a row, not falling: one part is one run -/
theorem skw_run {f : Nat → Int32} {n : Nat} {x : Int32} : ∀ (fu i : Nat), n - i < fu → i ≤ n → ∀ j, i ≤ j → j < skw (fun z => f z = x) n i → f j = x := by
  intro fu
  induction fu with
  | zero => intro i h; omega
  | succ fu ih =>
    intro i hf hi j h1 h2
    by_cases h : i < n ∧ f i = x
    · by_cases e : j = i
      · rw [e]; exact h.2
      · rw [skw_t (C := fun z => f z = x) h] at h2
        exact ih (i + 1) (by omega) (by omega) j (by omega) h2
    · rw [skw_f (C := fun z => f z = x) h] at h2; omega
theorem skw_pre {f : Nat → Int32} {n : Nat} {x : Int32} : ∀ (fu i : Nat), n - i < fu → i ≤ n → ∀ j, i ≤ j → j < skw (fun z => ¬ f z = x) n i → ¬ f j = x := by
  intro fu
  induction fu with
  | zero => intro i h; omega
  | succ fu ih =>
    intro i hf hi j h1 h2
    by_cases h : i < n ∧ ¬ f i = x
    · by_cases e : j = i
      · rw [e]; exact h.2
      · rw [skw_t (C := fun z => ¬ f z = x) h] at h2
        exact ih (i + 1) (by omega) (by omega) j (by omega) h2
    · rw [skw_f (C := fun z => ¬ f z = x) h] at h2; omega
theorem skw_end {C : Nat → Prop} [DecidablePred C] {n : Nat} : ∀ (fu i : Nat), n - i < fu → i ≤ n → skw C n i < n → ¬ C (skw C n i) := by
  intro fu
  induction fu with
  | zero => intro i h; omega
  | succ fu ih =>
    intro i hf hi h1
    by_cases h : i < n ∧ C i
    · rw [skw_t h] at h1 ⊢
      exact ih (i + 1) (by omega) (by omega) h1
    · rw [skw_f h] at h1 ⊢
      exact fun q => h ⟨h1, q⟩
abbrev frW (f : Nat → Int32) (n : Nat) (x : Int32) : Nat := skw (fun j => ¬ f j = x) n 0
abbrev toW (f : Nat → Int32) (n : Nat) (x : Int32) : Nat := skw (fun j => f j = x) n (frW f n x)
theorem run_iff {f : Nat → Int32} {n : Nat} {p : Nat} {g : Nat → Nat} (hp : p < 1000) (hg : ∀ i, i < n → f i = nI (g i) ∧ g i < 1000) (hs : ∀ i j, i ≤ j → j < n → g i ≤ g j) (i : Nat) (hi : i < n) : (frW f n (nI p) ≤ i ∧ i < toW f n (nI p)) ↔ f i = nI p := by
  have hf1 : frW f n (nI p) ≤ n := skw_le1 (Nat.zero_le _)
  have hf2 : frW f n (nI p) ≤ toW f n (nI p) := skw_ge1 hf1
  have hf3 : toW f n (nI p) ≤ n := skw_le1 hf1
  constructor
  · rintro ⟨h1, h2⟩
    exact skw_run _ _ (Nat.lt_succ_self _) hf1 i h1 h2
  · intro h
    have h1 : frW f n (nI p) ≤ i := by
      apply Classical.byContradiction
      intro q
      have q2 : i < frW f n (nI p) := by omega
      exact skw_pre _ _ (Nat.lt_succ_self _) (Nat.zero_le n) i (Nat.zero_le _) q2 h
    refine ⟨h1, ?_⟩
    apply Classical.byContradiction
    intro q
    have h2 : toW f n (nI p) < n := by omega
    have h3 : ¬ f (toW f n (nI p)) = nI p := skw_end (C := fun j => f j = nI p) _ _ (Nat.lt_succ_self _) hf1 h2
    have h4 : f (frW f n (nI p)) = nI p := by
      have := skw_end (C := fun j => ¬ f j = nI p) _ _ (Nat.lt_succ_self _) (Nat.zero_le n) (show frW f n (nI p) < n by omega)
      exact Classical.not_not.mp this
    obtain ⟨a1, a2⟩ := hg _ h2
    obtain ⟨b1, b2'⟩ := hg (frW f n (nI p)) (by omega)
    obtain ⟨c1, c2⟩ := hg i hi
    have e1 : g (frW f n (nI p)) = p := (nI_eq (by omega) (by omega)).mp (b1.symm.trans h4)
    have e2 : g i = p := (nI_eq (by omega) (by omega)).mp (c1.symm.trans h)
    have e3 : ¬ g (toW f n (nI p)) = p := fun z => h3 (by rw [a1, z])
    have s1 := hs _ _ hf2 h2
    have s2 := hs (toW f n (nI p)) i (by omega) hi
    omega
theorem cN_iv {P9 : Nat → Prop} [DecidablePred P9] {lo hi : Nat} (hlh : lo ≤ hi) : ∀ n, hi ≤ n → (∀ i, i < n → (P9 i ↔ lo ≤ i ∧ i < hi)) → cN P9 n = hi - lo := by
  have low : ∀ n, n ≤ lo → (∀ i, i < n → ¬ P9 i) → cN P9 n = 0 := by
    intro n
    induction n with
    | zero => intro _ _; exact cN_0
    | succ n ih => intro h1 h2; rw [cN_s, ih (by omega) (fun i hi => h2 i (by omega)), if_neg (h2 n (by omega))]
  have mid : ∀ k, lo + k ≤ hi → (∀ i, i < lo + k → (P9 i ↔ lo ≤ i ∧ i < hi)) → cN P9 (lo + k) = k := by
    intro k
    induction k with
    | zero => intro h1 h2; exact low lo (Nat.le_refl _) (fun i hi z => by have := (h2 i hi).mp z; omega)
    | succ k ih =>
      intro h1 h2
      rw [show lo + (k + 1) = lo + k + 1 from rfl, cN_s, ih (by omega) (fun i hi => h2 i (by omega)), if_pos ((h2 (lo + k) (by omega)).mpr ⟨by omega, by omega⟩)]
  intro n
  induction n with
  | zero => intro h1 h2; have := low 0 (by omega) (fun i hi => absurd hi (Nat.not_lt_zero _)); rw [this]; omega
  | succ n ih =>
    intro h1 h2
    by_cases e : hi = n + 1
    · have := mid (hi - lo) (by omega) (fun i hz => h2 i (by omega))
      rw [show lo + (hi - lo) = n + 1 by omega] at this
      exact this
    · rw [cN_s, ih (by omega) (fun i hz => h2 i (by omega)), if_neg (fun z => by have := (h2 n (by omega)).mp z; omega)]; rfl
/-- the parts of a letter's words don't fall -/
theorem lP_mono {B : Nat → Int32} {N : Nat} : ∀ (f i c : Nat) (fr : Int32) (L0 : List lW), (fr = 0 → 1 ≤ c) → (∀ w ∈ L0, w.2.2 ≤ lP1 c fr - 1 ∧ w.2.2 < c) → L0.Pairwise (fun a b => a.2.2 ≤ b.2.2) → (lP B N f i c fr L0).2.2.Pairwise (fun a b => a.2.2 ≤ b.2.2)
  | 0, i, c, fr, L0, _, _, h => by rw [lP]; exact h
  | f + 1, i, c, fr, L0, hz0, hw, h => by
    rw [lP_s]
    split
    · split
      · exact h
      · split
        · exact h
        · refine lP_mono f _ c 1 L0 (fun q => absurd q (by decide)) (fun w hz => ⟨?_, (hw w hz).2⟩) h
          have := (hw w hz).2
          show w.2.2 ≤ (if (1 : Int32) = 0 then c else c + 1) - 1
          rw [if_neg (by decide)]; omega
    · split
      · exact h
      · have h1 : 1 ≤ lP1 c fr := by
          by_cases hq : fr = 0
          · rw [show lP1 c fr = c from if_pos hq]; exact hz0 hq
          · rw [show lP1 c fr = c + 1 from if_neg hq]; omega
        refine lP_mono f _ _ 0 _ (fun _ => h1) (fun w hz => ?_) ?_
        · have e : lP1 (lP1 c fr) 0 = lP1 c fr := if_pos rfl
          rw [e]
          have hc : lP1 c fr = c ∨ lP1 c fr = c + 1 := by unfold lP1; split <;> simp
          rcases List.mem_append.mp hz with hz | hz
          · have := hw w hz; omega
          · rw [List.mem_singleton] at hz; subst hz
            refine ⟨Nat.le_refl _, ?_⟩
            show lP1 c fr - 1 < lP1 c fr
            omega
        · rw [List.pairwise_append]
          refine ⟨h, List.pairwise_singleton _ _, fun a ha b hb => ?_⟩
          rw [List.mem_singleton] at hb; subst hb
          exact (hw a ha).1
theorem lR_mono {N : Nat} : (lR Ar N).2.2.Pairwise (fun a b => a.2.2 ≤ b.2.2) := lP_mono 401 0 0 1 [] (fun q => absurd q (by decide)) (fun w hw => by cases hw) List.Pairwise.nil
end K36
