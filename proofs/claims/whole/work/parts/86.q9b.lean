section Q9b
variable {G : gG} {l : Launch} {h h0 h1 : hW} {Z : kZ} {I : Nat → Int32} {Ar : Nat → Nat → Int32} {T : Nat → Int32} {A : Nat → Nat → Int32} {Lg : Nat → Nat → Int64} {ix ad : Nat → Nat} {x m o : Nat} {fo : Nat → Int64}
variable {I1 I' : Nat → Int32} {Ar1 Ar' : Nat → Nat → Int32} {T1 : Nat → Int32} {A1 : Nat → Nat → Int32} {Lg1 : Nat → Nat → Int64}
/-- other rows -/
theorem jJ.cA (J : jJ Z I Ar T A Lg) (e : ∀ j, j ≠ 3 → j ≠ 11 → j ≠ 12 → j ≠ 13 → j ≠ 24 → j ≠ 25 → j ≠ 27 → j ≠ 33 → j ≠ 34 → Ar' j = Ar j) (h24 : ∀ a, a < Z.nX → ∀ q, q < Z.np a → Ar' 24 (6 * a + q) < 0 → Ar' 24 (6 * a + q) = -1) (h12 : ∀ k, k < 4 → okN (Ar' 12 k) 20) (h27 : ∀ i, vp_nar .byte (Ar' 27 i) = Ar' 27 i) : jJ Z I Ar' T A Lg := by
  obtain ⟨⟨a1, a2, a3, a4⟩, b, c, d, e1, ⟨-, -, e4, e5⟩, e6, e7⟩ := J
  have e2 : Ar' 2 = Ar 2 := e 2 (by decide) (by decide) (by decide) (by decide) (by decide) (by decide) (by decide) (by decide) (by decide)
  have e40 : Ar' 4 = Ar 4 := e 4 (by decide) (by decide) (by decide) (by decide) (by decide) (by decide) (by decide) (by decide) (by decide)
  have e50 : Ar' 5 = Ar 5 := e 5 (by decide) (by decide) (by decide) (by decide) (by decide) (by decide) (by decide) (by decide) (by decide)
  have e60 : Ar' 6 = Ar 6 := e 6 (by decide) (by decide) (by decide) (by decide) (by decide) (by decide) (by decide) (by decide) (by decide)
  have e70 : Ar' 7 = Ar 7 := e 7 (by decide) (by decide) (by decide) (by decide) (by decide) (by decide) (by decide) (by decide) (by decide)
  have e80 : Ar' 8 = Ar 8 := e 8 (by decide) (by decide) (by decide) (by decide) (by decide) (by decide) (by decide) (by decide) (by decide)
  have e90 : Ar' 9 = Ar 9 := e 9 (by decide) (by decide) (by decide) (by decide) (by decide) (by decide) (by decide) (by decide) (by decide)
  have e10 : Ar' 10 = Ar 10 := e 10 (by decide) (by decide) (by decide) (by decide) (by decide) (by decide) (by decide) (by decide) (by decide)
  have e14 : Ar' 14 = Ar 14 := e 14 (by decide) (by decide) (by decide) (by decide) (by decide) (by decide) (by decide) (by decide) (by decide)
  have e15 : Ar' 15 = Ar 15 := e 15 (by decide) (by decide) (by decide) (by decide) (by decide) (by decide) (by decide) (by decide) (by decide)
  have e16 : Ar' 16 = Ar 16 := e 16 (by decide) (by decide) (by decide) (by decide) (by decide) (by decide) (by decide) (by decide) (by decide)
  have e17 : Ar' 17 = Ar 17 := e 17 (by decide) (by decide) (by decide) (by decide) (by decide) (by decide) (by decide) (by decide) (by decide)
  have e18 : Ar' 18 = Ar 18 := e 18 (by decide) (by decide) (by decide) (by decide) (by decide) (by decide) (by decide) (by decide) (by decide)
  have e19 : Ar' 19 = Ar 19 := e 19 (by decide) (by decide) (by decide) (by decide) (by decide) (by decide) (by decide) (by decide) (by decide)
  have e20 : Ar' 20 = Ar 20 := e 20 (by decide) (by decide) (by decide) (by decide) (by decide) (by decide) (by decide) (by decide) (by decide)
  have e22 : Ar' 22 = Ar 22 := e 22 (by decide) (by decide) (by decide) (by decide) (by decide) (by decide) (by decide) (by decide) (by decide)
  have e23 : Ar' 23 = Ar 23 := e 23 (by decide) (by decide) (by decide) (by decide) (by decide) (by decide) (by decide) (by decide) (by decide)
  refine ⟨⟨a1, ?_, ?_, ?_⟩, ?_, ?_, ?_, e1, ⟨h12, h27, ?_, ?_⟩, ?_, ?_⟩
  · rw [e15]; exact a2
  · intro a ha q hq; rw [e22]; exact ⟨(a3 a ha q hq).1, h24 a ha q hq⟩
  · rw [e2, e50]; exact a4
  · unfold jQ; rw [e22, e23]; exact b
  · intro c2 hc2
    obtain ⟨⟨q1, q2, q3⟩, q4⟩ := c c2 hc2
    refine ⟨⟨?_, ?_, ?_⟩, ?_⟩
    · rw [e60]; exact q1
    · unfold kRP; rw [e10, e90]; exact q2
    · unfold jK; rw [e70, e80]; exact q3
    · rw [e40]; exact q4
  · intro a ha
    obtain ⟨⟨B, Lw, q1, q2⟩, q3⟩ := d a ha
    refine ⟨⟨B, Lw, ?_, q2⟩, ?_⟩
    · unfold jT; rw [e16, e17, e18, e19, e20]; exact q1
    · rw [e14]; exact q3
  · rw [e22]; exact e4
  · rw [e50]; exact e5
  · unfold PV at *; rw [e60, e80]; exact e6
  · intro a ha
    unfold LV
    rw [e14, e15, e16, e18, e19]; exact e7 a ha
theorem jJ.u24 (J : jJ Z I Ar T A Lg) {j : Nat} {z : Int32} (hz : ¬ z < 0) : jJ Z I (va_up Ar 24 (upd (Ar 24) j z)) T A Lg :=
  J.cA (fun j _ _ _ _ a _ _ _ _ => va_up_ne _ _ a) (fun a ha q hq => (kV.up24 J.V hz).k24 a ha q hq) J.h12 J.by27
/-- other working numbers of the desk -/
theorem jJ.cT (J : jJ Z I Ar T A Lg) (hT : ∀ c, T1 (200 + c) = T (200 + c)) (hA : ∀ c, A1 (400 + c) = A (400 + c)) (hL : ∀ j, 300 ≤ j → Lg1 j = Lg j) : jJ Z I Ar T1 A1 Lg1 := by
  obtain ⟨a, b, c, d, e⟩ := J
  refine ⟨a, b, fun c2 hc2 => ?_, fun a2 ha2 => ?_, e⟩
  · obtain ⟨⟨q1, q2, q3⟩, q4⟩ := c c2 hc2
    refine ⟨⟨q1, ?_, ?_⟩, q4⟩
    · unfold kRP; rw [hT, hA]; exact q2
    · rw [hL _ (by omega)]; exact q3
  · obtain ⟨⟨B, Lw, q1, q2⟩, q3⟩ := d a2 ha2
    refine ⟨⟨B, Lw, q1, ?_⟩, q3⟩
    intro p hp
    obtain ⟨q4, q5⟩ := q2 p hp
    refine ⟨q4, fun x => ?_⟩
    unfold hwJ
    rw [hL _ (by omega)]; exact q5 x
theorem jJ.cA1 (J : jJ Z I Ar T A Lg) {k : Nat} {f : Nat → Int32} (hk : k < 400) : jJ Z I Ar T (va_up A k f) Lg := J.cT (fun _ => rfl) (fun c => va_up_ne _ _ (by omega)) (fun _ _ => rfl)
end Q9b
