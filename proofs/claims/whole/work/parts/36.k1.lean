section K1
variable {G : gG} {l : Launch} {h h0 : hW}
/-- an overlay by codes: jx tells of an address its code (0: none) -/
def oH (jx : Nat → Nat) (cn : Nat → va_E) (h0 : hW) : hW := fun b => if jx b = 0 then h0 b else some (cn (jx b))
theorem oH_at {jx : Nat → Nat} {cn : Nat → va_E} {k a : Nat} (e : jx a = k) (hk : k ≠ 0) : oH jx cn h0 a = some (cn k) := by
  unfold oH; rw [e, if_neg hk]
theorem oH_up {jx : Nat → Nat} {cn cn' : Nat → va_E} {k a : Nat} {x : va_E} (hj : ∀ b, jx b = k ↔ b = a) (hk : k ≠ 0) (hc : ∀ j, cn' j = if j = k then x else cn j) : hup (oH jx cn h0) a x = oH jx cn' h0 := by
  funext b
  unfold hup
  by_cases hb : b = a
  · rw [if_pos hb, hb, oH_at ((hj a).mpr rfl) hk, hc, if_pos rfl]
  · rw [if_neg hb]
    unfold oH
    by_cases h1 : jx b = 0
    · rw [if_pos h1, if_pos h1]
    · rw [if_neg h1, if_neg h1, hc, if_neg (fun q => hb ((hj b).mp q))]
/-- the cells that are, in numbers: jx, da, how many causes, letters in the list, letters that are, points of a letter, lengths of the arrays, the arrays of objects -/
abbrev kZ : Type := (Nat → Nat) × (Nat → Nat) × (Nat × Nat × Nat) × (Nat → Nat) × (Nat → Nat) × (Nat → Nat → Option Nat)
def kZ.jx (Z : kZ) : Nat → Nat := Z.1
def kZ.da (Z : kZ) : Nat → Nat := Z.2.1
def kZ.nC (Z : kZ) : Nat := Z.2.2.1.1
def kZ.nL (Z : kZ) : Nat := Z.2.2.1.2.1
def kZ.nX (Z : kZ) : Nat := Z.2.2.1.2.2
def kZ.np (Z : kZ) : Nat → Nat := Z.2.2.2.1
def kZ.Sz (Z : kZ) : Nat → Nat := Z.2.2.2.2.1
def kZ.Fo (Z : kZ) : Nat → Nat → Option Nat := Z.2.2.2.2.2
def cz (Z : kZ) (x : Int32) : Option Nat := if x = -1 then none else some (Z.da (100 + cl x))
def kE0 (G : gG) (Z : kZ) (I : Nat → Int32) (Ar : Nat → Nat → Int32) (T : Nat → Int32) (A : Nat → Nat → Int32) (Lg : Nat → Nat → Int64) : Nat → va_E
  | 1 => ob 6 [.ref (Z.da 2), .ref (Z.da 3), .int (I 32), .int (I 1), .ref (Z.da 4), .ref (Z.da 6), .ref (Z.da 8), .ref (Z.da 9), .int (I 26), .ref (Z.da 10), .ref (Z.da 11)]
  | 2 => ob 4 [.ref (Z.da 12), .int (I 28), .int (T 0), .int (T 1), .int (T 2)]
  | 3 => ob 5 [.ref (Z.da 13), .ref (Z.da 14), .int (T 3), .int (T 4), .int (T 5)]
  | 4 => ob 8 [.int (T 6), .ref (Z.da 5), .int (nI Z.nC)]
  | 5 => aO G (Z.Sz 5) (Z.Fo 5)
  | 6 => ob 8 [.int (T 7), .ref (Z.da 7), .int (nI Z.nL)]
  | 7 => aO G (Z.Sz 7) (Z.Fo 7)
  | 8 => aI G 4 (Ar 12)
  | 9 => aI G 10 (Ar 25)
  | 10 => aI G 401 (A 10)
  | 11 => aI G 61 (A 11)
  | 12 => aB G 400 (Ar 27)
  | 13 => aJ G 60 (Lg 13)
  | 14 => aI G 60 (A 14)
  | _ => ob 0 []
def kE1 (G : gG) (Z : kZ) (Ar : Nat → Nat → Int32) (T : Nat → Int32) (A : Nat → Nat → Int32) (Lg : Nat → Nat → Int64) (k : Nat) : va_E :=
  if k < 200 then ob 0 [.int (nI (k - 100)), va_rf (cz Z (Ar 2 (k - 100))), .int (Ar 3 (k - 100)), .int (Ar 4 (k - 100)), .int (Ar 5 (k - 100)), .ref (Z.da (k + 100))]
  else if k < 300 then ob 2 [.ref (Z.da (k + 100)), .ref (Z.da (k + 200)), .int (T k)]
  else if k < 400 then aJ G (Z.Sz k) (Lg k)
  else if k < 500 then aI G (Z.Sz (k - 100)) (A k)
  else if k < 1100 then ob 1 [.int (Ar 13 (k - 1000)), .int (Ar 14 (k - 1000)), .ref (Z.da (k + 100))]
  else if k < 1200 then ob 8 [.int (T k), .ref (Z.da (k + 100)), .int (nI (Z.np (k - 1100)))]
  else if k < 2000 then aO G (Z.Sz k) (Z.Fo k)
  else if k < 3000 then ob 3 [.ref (Z.da (k + 1000)), va_rf (cz Z (Ar 22 (k - 2000))), .int (Ar 23 (k - 2000)), .int (Ar 24 (k - 2000))]
  else aJ G (Z.Sz k) (Lg k)
def kE (G : gG) (Z : kZ) (I : Nat → Int32) (Ar : Nat → Nat → Int32) (T : Nat → Int32) (A : Nat → Nat → Int32) (Lg : Nat → Nat → Int64) (k : Nat) : va_E := if k < 15 then kE0 G Z I Ar T A Lg k else kE1 G Z Ar T A Lg k
/-- the desk's heap -/
def kH (G : gG) (Z : kZ) (I : Nat → Int32) (Ar : Nat → Nat → Int32) (T : Nat → Int32) (A : Nat → Nat → Int32) (Lg : Nat → Nat → Int64) (h0 : hW) : hW := oH Z.jx (kE G Z I Ar T A Lg) h0
/-- the codes in use -/
def kU (Z : kZ) (k : Nat) : Prop := (1 ≤ k ∧ k < 15 ∧ (k = 5 → 0 < Z.nC) ∧ (k = 7 → 0 < Z.nL)) ∨ (∃ c, c < Z.nC ∧ (k = 100 + c ∨ k = 200 + c ∨ k = 300 + c ∨ k = 400 + c)) ∨ (∃ a, a < Z.nX ∧ (k = 1000 + a ∨ k = 1100 + a ∨ (k = 1200 + a ∧ 0 < Z.np a) ∨ ∃ p, p < Z.np a ∧ (k = 2000 + (6 * a + p) ∨ k = 3000 + (6 * a + p))))
/-- a list of N objects: the array of code k, the objects of codes g -/
def kLs (G : gG) (Z : kZ) (k N : Nat) (g : Nat → Nat) : Prop := (N = 0 → Z.da k = G.2.2.2.1 3) ∧ (0 < N → Z.Sz k ∈ alC ∧ N ≤ Z.Sz k ∧ ∀ i, i < N → Z.Fo k i = some (Z.da (g i)))
def kW (G : gG) (Z : kZ) : Prop := (∀ k, kU Z k → ∀ b, Z.jx b = k ↔ b = Z.da k) ∧ (∀ b, Z.jx b ≠ 0 → kU Z (Z.jx b)) ∧ (Z.nC ≤ 12 ∧ Z.nL ≤ Z.nX ∧ Z.nX ≤ 80 ∧ ∀ a, Z.np a ≤ 6) ∧ (kLs G Z 5 Z.nC (fun c => 100 + c) ∧ kLs G Z 7 Z.nL (fun a => 1000 + a) ∧ ∀ a, a < Z.nX → kLs G Z (1200 + a) (Z.np a) (fun p => 2000 + (6 * a + p))) ∧ (∀ c, c < Z.nC → Z.Sz (300 + c) ≤ 12) ∧ ∀ m, Z.Sz (3000 + m) ≤ 60
section KR
variable {Z : kZ} {I : Nat → Int32} {Ar : Nat → Nat → Int32} {T : Nat → Int32} {A : Nat → Nat → Int32} {Lg : Nat → Nat → Int64}
theorem kW.c12 (D : kW G Z) : Z.nC ≤ 12 := D.2.2.1.1
theorem kW.lx (D : kW G Z) : Z.nL ≤ Z.nX := D.2.2.1.2.1
theorem kW.l80 (D : kW G Z) : Z.nX ≤ 80 := D.2.2.1.2.2.1
theorem kW.p6 (D : kW G Z) (a : Nat) : Z.np a ≤ 6 := D.2.2.1.2.2.2 a
theorem kU.lo {k : Nat} (h1 : 1 ≤ k) (h2 : k < 15) (h5 : k ≠ 5) (h7 : k ≠ 7) : kU Z k := Or.inl ⟨h1, h2, fun q => absurd q h5, fun q => absurd q h7⟩
theorem kU.C {c : Nat} (hc : c < Z.nC) : kU Z (100 + c) := Or.inr (Or.inl ⟨c, hc, Or.inl rfl⟩)
theorem kU.P {c : Nat} (hc : c < Z.nC) : kU Z (200 + c) := Or.inr (Or.inl ⟨c, hc, Or.inr (Or.inl rfl)⟩)
theorem kU.PJ {c : Nat} (hc : c < Z.nC) : kU Z (300 + c) := Or.inr (Or.inl ⟨c, hc, Or.inr (Or.inr (Or.inl rfl))⟩)
theorem kU.PI {c : Nat} (hc : c < Z.nC) : kU Z (400 + c) := Or.inr (Or.inl ⟨c, hc, Or.inr (Or.inr (Or.inr rfl))⟩)
theorem kU.L {a : Nat} (ha : a < Z.nX) : kU Z (1000 + a) := Or.inr (Or.inr ⟨a, ha, Or.inl rfl⟩)
theorem kU.LL {a : Nat} (ha : a < Z.nX) : kU Z (1100 + a) := Or.inr (Or.inr ⟨a, ha, Or.inr (Or.inl rfl)⟩)
theorem kU.LA {a : Nat} (ha : a < Z.nX) (hp : 0 < Z.np a) : kU Z (1200 + a) := Or.inr (Or.inr ⟨a, ha, Or.inr (Or.inr (Or.inl ⟨rfl, hp⟩))⟩)
theorem kU.Q {a p : Nat} (ha : a < Z.nX) (hp : p < Z.np a) : kU Z (2000 + (6 * a + p)) := Or.inr (Or.inr ⟨a, ha, Or.inr (Or.inr (Or.inr ⟨p, hp, Or.inl rfl⟩))⟩)
theorem kU.QJ {a p : Nat} (ha : a < Z.nX) (hp : p < Z.np a) : kU Z (3000 + (6 * a + p)) := Or.inr (Or.inr ⟨a, ha, Or.inr (Or.inr (Or.inr ⟨p, hp, Or.inr rfl⟩))⟩)
theorem kU.n0 {k : Nat} (h : kU Z k) : k ≠ 0 := by
  rcases h with ⟨h1, -⟩ | ⟨c, -, h1⟩ | ⟨a, -, h1 | h1 | ⟨h1, -⟩ | ⟨p, -, h1⟩⟩ <;> omega
theorem kH_at (D : kW G Z) {k : Nat} (u : kU Z k) : kH G Z I Ar T A Lg h0 (Z.da k) = some (kE G Z I Ar T A Lg k) := oH_at ((D.1 k u _).mpr rfl) u.n0
theorem kH_up (D : kW G Z) {k : Nat} (u : kU Z k) {x : va_E} {I' : Nat → Int32} {Ar' : Nat → Nat → Int32} {T' : Nat → Int32} {A' : Nat → Nat → Int32} {Lg' : Nat → Nat → Int64} (hc : ∀ j, kE G Z I' Ar' T' A' Lg' j = if j = k then x else kE G Z I Ar T A Lg j) :
    hup (kH G Z I Ar T A Lg h0) (Z.da k) x = kH G Z I' Ar' T' A' Lg' h0 := oH_up (D.1 k u) u.n0 hc
/-- the cells' contents -/
theorem kL (D : kW G Z) {k : Nat} (h1 : 1 ≤ k) (h2 : k < 15) (h5 : k ≠ 5) (h7 : k ≠ 7) : kH G Z I Ar T A Lg h0 (Z.da k) = some (kE0 G Z I Ar T A Lg k) := by
  rw [kH_at D (kU.lo h1 h2 h5 h7)]; unfold kE; rw [if_pos h2]
theorem kL1 (D : kW G Z) : kH G Z I Ar T A Lg h0 (Z.da 1) = some (ob 6 [.ref (Z.da 2), .ref (Z.da 3), .int (I 32), .int (I 1), .ref (Z.da 4), .ref (Z.da 6), .ref (Z.da 8), .ref (Z.da 9), .int (I 26), .ref (Z.da 10), .ref (Z.da 11)]) := kL D (by decide) (by decide) (by decide) (by decide)
theorem kL2 (D : kW G Z) : kH G Z I Ar T A Lg h0 (Z.da 2) = some (ob 4 [.ref (Z.da 12), .int (I 28), .int (T 0), .int (T 1), .int (T 2)]) := kL D (by decide) (by decide) (by decide) (by decide)
theorem kL3 (D : kW G Z) : kH G Z I Ar T A Lg h0 (Z.da 3) = some (ob 5 [.ref (Z.da 13), .ref (Z.da 14), .int (T 3), .int (T 4), .int (T 5)]) := kL D (by decide) (by decide) (by decide) (by decide)
theorem kL4 (D : kW G Z) : kH G Z I Ar T A Lg h0 (Z.da 4) = some (ob 8 [.int (T 6), .ref (Z.da 5), .int (nI Z.nC)]) := kL D (by decide) (by decide) (by decide) (by decide)
theorem kL6 (D : kW G Z) : kH G Z I Ar T A Lg h0 (Z.da 6) = some (ob 8 [.int (T 7), .ref (Z.da 7), .int (nI Z.nL)]) := kL D (by decide) (by decide) (by decide) (by decide)
theorem kL8 (D : kW G Z) : kH G Z I Ar T A Lg h0 (Z.da 8) = some (aI G 4 (Ar 12)) := kL D (by decide) (by decide) (by decide) (by decide)
theorem kL9 (D : kW G Z) : kH G Z I Ar T A Lg h0 (Z.da 9) = some (aI G 10 (Ar 25)) := kL D (by decide) (by decide) (by decide) (by decide)
theorem kL10 (D : kW G Z) : kH G Z I Ar T A Lg h0 (Z.da 10) = some (aI G 401 (A 10)) := kL D (by decide) (by decide) (by decide) (by decide)
theorem kL11 (D : kW G Z) : kH G Z I Ar T A Lg h0 (Z.da 11) = some (aI G 61 (A 11)) := kL D (by decide) (by decide) (by decide) (by decide)
theorem kL12 (D : kW G Z) : kH G Z I Ar T A Lg h0 (Z.da 12) = some (aB G 400 (Ar 27)) := kL D (by decide) (by decide) (by decide) (by decide)
theorem kL13 (D : kW G Z) : kH G Z I Ar T A Lg h0 (Z.da 13) = some (aJ G 60 (Lg 13)) := kL D (by decide) (by decide) (by decide) (by decide)
theorem kL14 (D : kW G Z) : kH G Z I Ar T A Lg h0 (Z.da 14) = some (aI G 60 (A 14)) := kL D (by decide) (by decide) (by decide) (by decide)
theorem kL5 (D : kW G Z) (hc : 0 < Z.nC) : kH G Z I Ar T A Lg h0 (Z.da 5) = some (aO G (Z.Sz 5) (Z.Fo 5)) := by
  rw [kH_at D (Or.inl ⟨by decide, by decide, fun _ => hc, fun q => absurd q (by decide)⟩)]; rfl
theorem kL7 (D : kW G Z) (hc : 0 < Z.nL) : kH G Z I Ar T A Lg h0 (Z.da 7) = some (aO G (Z.Sz 7) (Z.Fo 7)) := by
  rw [kH_at D (Or.inl ⟨by decide, by decide, fun q => absurd q (by decide), fun _ => hc⟩)]; rfl
theorem kLC (D : kW G Z) {c : Nat} (hc : c < Z.nC) : kH G Z I Ar T A Lg h0 (Z.da (100 + c)) = some (ob 0 [.int (nI c), va_rf (cz Z (Ar 2 c)), .int (Ar 3 c), .int (Ar 4 c), .int (Ar 5 c), .ref (Z.da (200 + c))]) := by
  have := D.c12
  rw [kH_at D (kU.C hc)]; unfold kE kE1; rw [if_neg (by omega), if_pos (by omega), show 100 + c - 100 = c by omega, show 100 + c + 100 = 200 + c by omega]
theorem kLP (D : kW G Z) {c : Nat} (hc : c < Z.nC) : kH G Z I Ar T A Lg h0 (Z.da (200 + c)) = some (ob 2 [.ref (Z.da (300 + c)), .ref (Z.da (400 + c)), .int (T (200 + c))]) := by
  have := D.c12
  rw [kH_at D (kU.P hc)]; unfold kE kE1; rw [if_neg (by omega), if_neg (by omega), if_pos (by omega), show 200 + c + 200 = 400 + c by omega, show 200 + c + 100 = 300 + c by omega]
theorem kLPJ (D : kW G Z) {c : Nat} (hc : c < Z.nC) : kH G Z I Ar T A Lg h0 (Z.da (300 + c)) = some (aJ G (Z.Sz (300 + c)) (Lg (300 + c))) := by
  have := D.c12
  rw [kH_at D (kU.PJ hc)]; unfold kE kE1; rw [if_neg (by omega), if_neg (by omega), if_neg (by omega), if_pos (by omega)]
theorem kLPI (D : kW G Z) {c : Nat} (hc : c < Z.nC) : kH G Z I Ar T A Lg h0 (Z.da (400 + c)) = some (aI G (Z.Sz (300 + c)) (A (400 + c))) := by
  have := D.c12
  rw [kH_at D (kU.PI hc)]; unfold kE kE1; rw [if_neg (by omega), if_neg (by omega), if_neg (by omega), if_neg (by omega), if_pos (by omega), show 400 + c - 100 = 300 + c by omega]
theorem kLL (D : kW G Z) {a : Nat} (ha : a < Z.nX) : kH G Z I Ar T A Lg h0 (Z.da (1000 + a)) = some (ob 1 [.int (Ar 13 a), .int (Ar 14 a), .ref (Z.da (1100 + a))]) := by
  have := D.l80
  rw [kH_at D (kU.L ha)]; unfold kE kE1; rw [if_neg (by omega), if_neg (by omega), if_neg (by omega), if_neg (by omega), if_neg (by omega), if_pos (by omega), show 1000 + a - 1000 = a by omega, show 1000 + a + 100 = 1100 + a by omega]
theorem kLLL (D : kW G Z) {a : Nat} (ha : a < Z.nX) : kH G Z I Ar T A Lg h0 (Z.da (1100 + a)) = some (ob 8 [.int (T (1100 + a)), .ref (Z.da (1200 + a)), .int (nI (Z.np a))]) := by
  have := D.l80
  rw [kH_at D (kU.LL ha)]; unfold kE kE1; rw [if_neg (by omega), if_neg (by omega), if_neg (by omega), if_neg (by omega), if_neg (by omega), if_neg (by omega), if_pos (by omega), show 1100 + a - 1100 = a by omega, show 1100 + a + 100 = 1200 + a by omega]
theorem kLLA (D : kW G Z) {a : Nat} (ha : a < Z.nX) (hp : 0 < Z.np a) : kH G Z I Ar T A Lg h0 (Z.da (1200 + a)) = some (aO G (Z.Sz (1200 + a)) (Z.Fo (1200 + a))) := by
  have := D.l80
  rw [kH_at D (kU.LA ha hp)]; unfold kE kE1; rw [if_neg (by omega), if_neg (by omega), if_neg (by omega), if_neg (by omega), if_neg (by omega), if_neg (by omega), if_neg (by omega), if_pos (by omega)]
theorem kLQ (D : kW G Z) {a p : Nat} (ha : a < Z.nX) (hp : p < Z.np a) : kH G Z I Ar T A Lg h0 (Z.da (2000 + (6 * a + p))) = some (ob 3 [.ref (Z.da (3000 + (6 * a + p))), va_rf (cz Z (Ar 22 (6 * a + p))), .int (Ar 23 (6 * a + p)), .int (Ar 24 (6 * a + p))]) := by
  have := D.l80
  have := D.p6 a
  rw [kH_at D (kU.Q ha hp)]; unfold kE kE1; rw [if_neg (by omega), if_neg (by omega), if_neg (by omega), if_neg (by omega), if_neg (by omega), if_neg (by omega), if_neg (by omega), if_neg (by omega), if_pos (by omega), show 2000 + (6 * a + p) - 2000 = 6 * a + p by omega, show 2000 + (6 * a + p) + 1000 = 3000 + (6 * a + p) by omega]
theorem kLQJ (D : kW G Z) {a p : Nat} (ha : a < Z.nX) (hp : p < Z.np a) : kH G Z I Ar T A Lg h0 (Z.da (3000 + (6 * a + p))) = some (aJ G (Z.Sz (3000 + (6 * a + p))) (Lg (3000 + (6 * a + p)))) := by
  have := D.l80
  have := D.p6 a
  rw [kH_at D (kU.QJ ha hp)]; unfold kE kE1; rw [if_neg (by omega), if_neg (by omega), if_neg (by omega), if_neg (by omega), if_neg (by omega), if_neg (by omega), if_neg (by omega), if_neg (by omega), if_neg (by omega)]
/-- a cause by its number -/
theorem cz_n : cz Z (-1) = none := if_pos rfl
theorem nI_ne1 {c : Nat} (hc : c < 2 ^ 31) : ¬ nI c = -1 := fun q => by
  have := congrArg Int32.toInt q
  rw [nI_toInt hc] at this
  have h2 : (-1 : Int32).toInt = -1 := by decide
  omega
theorem cz_s {c : Nat} (hc : c < 2 ^ 31) : cz Z (nI c) = some (Z.da (100 + c)) := by
  unfold cz; rw [if_neg (nI_ne1 hc), show cl (nI c) = c from nI_clamp hc]
/-- a number of a cause, or none -/
def kN (n : Nat) (x : Int32) : Prop := x = -1 ∨ ∃ c, c < n ∧ x = nI c
theorem kLz (D : kW G Z) {x : Int32} {y : Nat} (hx : kN Z.nC x) (e : cz Z x = some y) : y = Z.da (100 + cl x) ∧ cl x < Z.nC ∧ x = nI (cl x) ∧ x ≠ -1 ∧ kH G Z I Ar T A Lg h0 y = some (ob 0 [.int x, va_rf (cz Z (Ar 2 (cl x))), .int (Ar 3 (cl x)), .int (Ar 4 (cl x)), .int (Ar 5 (cl x)), .ref (Z.da (200 + cl x))]) := by
  rcases hx with rfl | ⟨c, hc, rfl⟩
  · rw [cz_n] at e; cases e
  · have h12 := D.c12
    rw [cz_s (by omega)] at e
    cases e
    rw [show cl (nI c) = c from nI_clamp (by omega)]
    exact ⟨rfl, hc, rfl, nI_ne1 (by omega), kLC D hc⟩
theorem kLn {x : Int32} (hx : kN Z.nC x) (e : cz Z x = none) : x = -1 := by
  unfold cz at e
  split at e
  · assumption
  · cases e
/-- two addresses of causes are one just when the numbers are -/
theorem cz_inj (D : kW G Z) {x y : Int32} (hx : kN Z.nC x) (hy : kN Z.nC y) : cz Z x = cz Z y ↔ x = y := by
  have h12 := D.c12
  constructor
  · intro e
    rcases hx with rfl | ⟨c, hc, rfl⟩ <;> rcases hy with rfl | ⟨u, hu, rfl⟩
    · rfl
    · rw [cz_n, cz_s (by omega)] at e; cases e
    · rw [cz_n, cz_s (by omega)] at e; cases e
    · rw [cz_s (by omega), cz_s (by omega)] at e
      have e2 := Option.some.inj e
      have h1 := (D.1 _ (kU.C hc) (Z.da (100 + c))).mpr rfl
      have h2 := (D.1 _ (kU.C hu) (Z.da (100 + c))).mpr e2
      have : c = u := by omega
      rw [this]
  · rintro rfl; rfl
/-- the lists -/
theorem kA4 (D : kW G Z) : alE G (kH G Z I Ar T A Lg h0) (Z.da 4) (Z.da 5) Z.nC (Z.Fo 5) := by
  refine ⟨⟨T 6, kL4 D⟩, ?_⟩
  by_cases hc : Z.nC = 0
  · exact Or.inl ⟨hc, D.2.2.2.1.1.1 hc⟩
  · obtain ⟨h1, h2, -⟩ := D.2.2.2.1.1.2 (by omega)
    exact Or.inr ⟨_, h1, kL5 D (by omega), h2⟩
theorem kA6 (D : kW G Z) : alE G (kH G Z I Ar T A Lg h0) (Z.da 6) (Z.da 7) Z.nL (Z.Fo 7) := by
  refine ⟨⟨T 7, kL6 D⟩, ?_⟩
  by_cases hc : Z.nL = 0
  · exact Or.inl ⟨hc, D.2.2.2.1.2.1.1 hc⟩
  · obtain ⟨h1, h2, -⟩ := D.2.2.2.1.2.1.2 (by omega)
    exact Or.inr ⟨_, h1, kL7 D (by omega), h2⟩
theorem kAL (D : kW G Z) {a : Nat} (ha : a < Z.nX) : alE G (kH G Z I Ar T A Lg h0) (Z.da (1100 + a)) (Z.da (1200 + a)) (Z.np a) (Z.Fo (1200 + a)) := by
  refine ⟨⟨T (1100 + a), kLLL D ha⟩, ?_⟩
  by_cases hc : Z.np a = 0
  · exact Or.inl ⟨hc, (D.2.2.2.1.2.2 a ha).1 hc⟩
  · obtain ⟨h1, h2, -⟩ := (D.2.2.2.1.2.2 a ha).2 (by omega)
    exact Or.inr ⟨_, h1, kLLA D ha (by omega), h2⟩
theorem alC_lt {C : Nat} (h : C ∈ alC) : C < 2 ^ 31 := by simp only [List.mem_cons, List.not_mem_nil, or_false] at h; omega
/-- getting: causes, letters, points -/
theorem k_getC (D : kW G Z) {c : Nat} (hc : c < Z.nC) : Ct G l 2 0 0 M_Jx4a65c_get_915e3 [.ref (Z.da 4), .int (nI c)] (kH G Z I Ar T A Lg h0) (rX (some (.ref (Z.da (100 + c)))) (kH G Z I Ar T A Lg h0)) := by
  obtain ⟨h1, h2, h3⟩ := D.2.2.2.1.1.2 (by omega)
  exact c_Jx4a65c_get_915e3 _ _ Z.nC (Z.Sz 5) c _ (Z.Fo 5) (T 6) (kL4 D) (kL5 D (by omega)) hc h2 (alC_lt h1) (h3 c hc)
theorem k_getL (D : kW G Z) {a : Nat} (ha : a < Z.nL) : Ct G l 2 0 0 M_Jx4a65c_get_915e3 [.ref (Z.da 6), .int (nI a)] (kH G Z I Ar T A Lg h0) (rX (some (.ref (Z.da (1000 + a)))) (kH G Z I Ar T A Lg h0)) := by
  obtain ⟨h1, h2, h3⟩ := D.2.2.2.1.2.1.2 (by omega)
  exact c_Jx4a65c_get_915e3 _ _ Z.nL (Z.Sz 7) a _ (Z.Fo 7) (T 7) (kL6 D) (kL7 D (by omega)) ha h2 (alC_lt h1) (h3 a ha)
theorem k_getQ (D : kW G Z) {a p : Nat} (ha : a < Z.nX) (hp : p < Z.np a) : Ct G l 2 0 0 M_Jx4a65c_get_915e3 [.ref (Z.da (1100 + a)), .int (nI p)] (kH G Z I Ar T A Lg h0) (rX (some (.ref (Z.da (2000 + (6 * a + p))))) (kH G Z I Ar T A Lg h0)) := by
  obtain ⟨h1, h2, h3⟩ := (D.2.2.2.1.2.2 a ha).2 (by omega)
  exact c_Jx4a65c_get_915e3 _ _ (Z.np a) (Z.Sz (1200 + a)) p _ (Z.Fo (1200 + a)) (T (1100 + a)) (kLLL D ha) (kLLA D ha (by omega)) hp h2 (alC_lt h1) (h3 p hp)
theorem k_szC (D : kW G Z) : Ct G l 0 0 0 M_Jx4a65c_size_8abf5 [.ref (Z.da 4)] (kH G Z I Ar T A Lg h0) (rX (some (.int (nI Z.nC))) (kH G Z I Ar T A Lg h0)) := c_Jx4a65c_size_8abf5 _ _ _ _ (kL4 D)
theorem k_szL (D : kW G Z) : Ct G l 0 0 0 M_Jx4a65c_size_8abf5 [.ref (Z.da 6)] (kH G Z I Ar T A Lg h0) (rX (some (.int (nI Z.nL))) (kH G Z I Ar T A Lg h0)) := c_Jx4a65c_size_8abf5 _ _ _ _ (kL6 D)
theorem k_szQ (D : kW G Z) {a : Nat} (ha : a < Z.nX) : Ct G l 0 0 0 M_Jx4a65c_size_8abf5 [.ref (Z.da (1100 + a))] (kH G Z I Ar T A Lg h0) (rX (some (.int (nI (Z.np a)))) (kH G Z I Ar T A Lg h0)) := c_Jx4a65c_size_8abf5 _ _ _ _ (kLLL D ha)
end KR
/-- a cast that holds -/
theorem g_castO {E : gE} {own : String} {cc : ByteArray} {nL lv mc ms pc k n : Nat} {Q : State → Prop} {L : List (Nat × Value)} {st : List Value} (X : Gc G E own cc nL lv mc ms) {idx a ci : Nat} {nm : String} {fs : List Value} (hl : Cond.classLink own idx nm ∈ uw) (ha : h a = some (ob ci fs)) (hc : (vwCl[ci]?).map (·.1) = some nm) (d : decode cc pc = .ok (.checkcast idx, 3)) (K : GW G E Q nL (pc + 3) L (.ref a :: st) h k n) : GW G E Q nL pc L (.ref a :: st) h k n := by
  intro H locs ls w b c
  have hc : ∃ q : vw_C, vwCl[ci]? = some q ∧ q.1 = nm := by
    cases hq : vwCl[ci]? with
    | none => rw [hq] at hc; cases hc
    | some q => rw [hq] at hc; exact ⟨q, rfl, Option.some.inj hc⟩
  obtain ⟨q, hq1, hq2⟩ := hc
  have hrec := va_recv X.2.2.2.2.2.1.2.1 (w.one ha) hq1 (q0 := 0) rfl
  rw [hq2] at hrec
  exact va_castE X.1 X.2.1 X.2.2.2.1 (X.2.2.2.2.1 _ hl) hrec d (K H locs ls w b c)
end K1
