section Q9
variable {G : gG} {l : Launch} {h h0 h1 : hW} {Z : kZ} {I : Nat → Int32} {Ar : Nat → Nat → Int32} {T : Nat → Int32} {A : Nat → Nat → Int32} {Lg : Nat → Nat → Int64} {ix ad : Nat → Nat} {x m o : Nat} {fo : Nat → Int64}
variable {I1 I' : Nat → Int32} {Ar1 Ar' : Nat → Nat → Int32} {T1 : Nat → Int32} {A1 : Nat → Nat → Int32} {Lg1 : Nat → Nat → Int64}
theorem noI_or (z : Int32) (N : Nat) (hN : N ≤ 1000) : noI z N ∨ ∃ a, a < N ∧ z = nI a := by
  by_cases h1 : z < 0
  · exact Or.inl (Or.inl h1)
  · obtain ⟨j, h2, rfl⟩ := nI_of h1
    by_cases h3 : j < N
    · exact Or.inr ⟨j, h3, rfl⟩
    · exact Or.inl (Or.inr ((nI_leI (by omega) h2).mpr (by omega)))
theorem nI_sub1 {N : Nat} (hN : N ≤ 1000) : (nI N - 1).toInt = (N : Int) - 1 := by
  cases N with
  | zero => decide +kernel
  | succ n => rw [nI_pred, nI_toInt (by omega)]; omega
theorem noI.inR {z : Int32} {N : Nat} (hN : N ≤ 1000) (q : noI z N) : ¬ inR z 0 (nI N - 1) := by
  rintro ⟨q1, q2⟩
  have e := nI_sub1 hN
  rcases q with q | q
  · exact q1 q
  · rw [Int32.le_iff_toInt_le, nI_toInt (by omega)] at q
    rw [Int32.lt_iff_toInt_lt, e] at q2
    omega
theorem inR.of {a N : Nat} (hN : N ≤ 1000) (ha : a < N) : inR (nI a) 0 (nI N - 1) := by
  refine ⟨nI_pos (by omega), fun q => ?_⟩
  rw [Int32.lt_iff_toInt_lt, nI_sub1 hN, nI_toInt (by omega)] at q
  omega
theorem jJ.V (J : jJ Z I Ar T A Lg) : kV Z I Ar := J.1
theorem jJ.R (J : jJ Z I Ar T A Lg) : jR I Ar := J.2.2.2.2
theorem jJ.hC (J : jJ Z I Ar T A Lg) : ∀ k, k < 480 → Ar 22 k < 12 := J.R.2.1.2.2.1
theorem jJ.hT (J : jJ Z I Ar T A Lg) : ∀ c, c < 12 → Ar 5 c = 0 ∨ Ar 5 c = 1 := J.R.2.1.2.2.2
theorem jJ.h12 (J : jJ Z I Ar T A Lg) : ∀ k, k < 4 → okN (Ar 12 k) 20 := J.R.2.1.1
theorem jJ.by27 (J : jJ Z I Ar T A Lg) : ∀ i, vp_nar .byte (Ar 27 i) = Ar 27 i := J.R.2.1.2.1
theorem jJ.h15 (J : jJ Z I Ar T A Lg) : ∀ a, a < 80 → okN (Ar 15 a) 6 := fun a ha => (J.R.2.2.2 a ha).2.1
theorem jJ.h14 (J : jJ Z I Ar T A Lg) : ∀ a, a < 80 → okN (Ar 14 a) 400 := fun a ha => (J.R.2.2.2 a ha).2.2
theorem jJ.hLV (J : jJ Z I Ar T A Lg) : ∀ a, a < 80 → LV Ar a := fun a ha => (J.R.2.2.2 a ha).1
theorem jJ.hPV (J : jJ Z I Ar T A Lg) : PV Ar := J.R.2.2.1
theorem jJ.i1 (J : jJ Z I Ar T A Lg) : ∃ t : Nat, t ≤ 400 ∧ I 1 = nI t := J.R.1.1
theorem jJ.i28 (J : jJ Z I Ar T A Lg) : ∃ t : Nat, t ≤ 400 ∧ I 28 = nI t := J.R.1.2.1
theorem jJ.i31 (J : jJ Z I Ar T A Lg) : ∃ t : Nat, I 31 = nI t := J.R.1.2.2.1
theorem jJ.i26 (J : jJ Z I Ar T A Lg) : ∃ t : Nat, t ≤ 10 ∧ I 26 = nI t := J.R.1.2.2.2
theorem jJ.i21 (J : jJ Z I Ar T A Lg) (D : kW G Z) : okN (I 21) 80 := ⟨Z.nL, Nat.le_trans D.lx D.l80, J.V.1.2.1⟩
theorem jJ.i11 (J : jJ Z I Ar T A Lg) (D : kW G Z) : okN (I 11) 12 := ⟨Z.nC, D.c12, J.V.1.2.2⟩
theorem jJ.l80 (J : jJ Z I Ar T A Lg) (D : kW G Z) : Z.nL ≤ 80 := Nat.le_trans D.lx D.l80
theorem jJ.abv (J : jJ Z I Ar T A Lg) (D : kW G Z) : abvP I Ar := by
  intro c hc hc2
  rw [J.V.1.2.2] at hc
  have h12 := D.c12
  have hc3 := (nI_ltI (by omega) (by omega)).mp hc
  rcases J.V.k2 c hc3 with q | ⟨u, hu, q⟩
  · rw [q]
    refine ⟨?_, by decide +kernel⟩
    rw [Int32.lt_iff_toInt_lt, nI_toInt (by omega)]
    exact Int.lt_of_lt_of_le (by decide +kernel) (Int.natCast_nonneg c)
  · rw [q]
    refine ⟨nI_lt hu (by omega), ?_⟩
    rw [Int32.le_iff_toInt_le, nI_toInt (by omega)]
    exact Int.le_trans (by decide +kernel) (Int.natCast_nonneg u)
theorem jJ.c22 (J : jJ Z I Ar T A Lg) (D : kW G Z) : ∀ a, a < cl (I 21) → ∀ p, p < cl (Ar 15 a) → -1 ≤ Ar 22 (6 * a + p) ∧ Ar 22 (6 * a + p) < I 11 := by
  intro a ha p hp
  rw [kV.n21 D J.V] at ha
  have hx : a < Z.nX := Nat.lt_of_lt_of_le ha D.lx
  rw [kV.n15 D J.V ha] at hp
  have h12 := D.c12
  rw [J.V.1.2.2]
  rcases J.V.k22 a hx p hp with q | ⟨c, hc, q⟩
  · rw [q]
    refine ⟨by decide +kernel, ?_⟩
    rw [Int32.lt_iff_toInt_lt, nI_toInt (by omega)]
    exact Int.lt_of_lt_of_le (by decide +kernel) (Int.natCast_nonneg _)
  · rw [q]
    refine ⟨?_, nI_lt hc (by omega)⟩
    rw [Int32.le_iff_toInt_le, nI_toInt (by omega)]
    exact Int.le_trans (by decide +kernel) (Int.natCast_nonneg c)
theorem jJ.pt (J : jJ Z I Ar T A Lg) (D : kW G Z) {a p : Nat} (ha : a < Z.nL) (hp : p < Z.np a) : a < 80 ∧ p < 6 ∧ ¬ noPt I Ar (nI a) (nI p) := by
  have h80 := J.l80 D
  have h6 := D.p6 a
  refine ⟨by omega, by omega, fun q => ?_⟩
  rcases q with q | q
  · rw [J.V.1.2.1] at q; exact q (inR.of (by omega) ha)
  · rw [nI_clamp (by omega), J.V.2.1 a (Nat.lt_of_lt_of_le ha D.lx)] at q; exact q (inR.of (by omega) hp)
theorem jJ.nopt (J : jJ Z I Ar T A Lg) (D : kW G Z) {z q : Int32} (h : noI z Z.nL ∨ ∃ a, a < Z.nL ∧ z = nI a ∧ noI q (Z.np a)) : noPt I Ar z q := by
  have h80 := J.l80 D
  rcases h with h | ⟨a, ha, rfl, h⟩
  · left; rw [J.V.1.2.1]; exact h.inR (by omega)
  · right
    have h6 := D.p6 a
    rw [nI_clamp (by omega), J.V.2.1 a (Nat.lt_of_lt_of_le ha D.lx)]; exact h.inR (by omega)
theorem jJ.in81 (J : jJ Z I Ar T A Lg) (D : kW G Z) {z : Int32} : inR z 0 (I 21 - 1) → vp_in z 81 := by
  intro q
  have h80 := J.l80 D
  rcases noI_or z Z.nL (by omega) with q2 | ⟨a, ha, rfl⟩
  · rw [J.V.1.2.1] at q; exact absurd q (q2.inR (by omega))
  · exact nI_in (by omega) (by decide)
/-- other numbers, the ones that are looked at being the same -/
theorem jJ.cI (J : jJ Z I Ar T A Lg) (h : I' 1 = I 1 ∧ I' 11 = I 11 ∧ I' 21 = I 21) (h28 : ∃ N : Nat, N ≤ 400 ∧ I' 28 = nI N) (h31 : ∃ b9 : Nat, I' 31 = nI b9) (h26 : ∃ nt : Nat, nt ≤ 10 ∧ I' 26 = nI nt) : jJ Z I' Ar T A Lg := by
  obtain ⟨⟨⟨a1, a2, a3⟩, a4⟩, b, c, d, ⟨e1, -⟩, e3⟩ := J
  obtain ⟨g1, g2, g3⟩ := h
  refine ⟨⟨⟨a1, g3.trans a2, g2.trans a3⟩, a4⟩, ?_, c, ?_, ⟨?_, h28, h31, h26⟩, e3⟩
  · intro a ha p hp; rw [g1]; exact b a ha p hp
  · intro a ha; rw [g1]; exact d a ha
  · rw [g1]; exact e1
theorem jJ.c0 (J : jJ Z I Ar T A Lg) {k : Int32} : jJ Z (va_up I 0 k) Ar T A Lg := J.cI ⟨rfl, rfl, rfl⟩ J.i28 J.i31 J.i26
theorem jJ.c00 (J : jJ Z I Ar T A Lg) {k k' : Int32} : jJ Z (va_up (va_up I 0 k) 0 k') Ar T A Lg := J.c0.c0
end Q9
