section K2
variable {G : gG} {l : Launch} {h h0 : hW} {Z : kZ} {I : Nat → Int32} {Ar : Nat → Nat → Int32} {T : Nat → Int32} {A : Nat → Nat → Int32} {Lg : Nat → Nat → Int64}
theorem updn {f : Nat → Int32} {i j : Nat} {x : Int32} (hz : j ≠ i) : upd f i x j = f j := by simp [upd, hz]
theorem kE1_lo {Ar' : Nat → Nat → Int32} {T' : Nat → Int32} {A' : Nat → Nat → Int32} {Lg' : Nat → Nat → Int64} {k : Nat} (hA : Ar' 2 = Ar 2 ∧ Ar' 3 = Ar 3 ∧ Ar' 4 = Ar 4 ∧ Ar' 5 = Ar 5 ∧ Ar' 13 = Ar 13 ∧ Ar' 14 = Ar 14) (hQ : ¬ (2000 ≤ k ∧ k < 3000) ∨ (Ar' 22 (k - 2000) = Ar 22 (k - 2000) ∧ Ar' 23 (k - 2000) = Ar 23 (k - 2000) ∧ Ar' 24 (k - 2000) = Ar 24 (k - 2000))) (hT : T' k = T k) (hI : A' k = A k) (hL : Lg' k = Lg k) : kE1 G Z Ar' T' A' Lg' k = kE1 G Z Ar T A Lg k := by
  obtain ⟨a1, a2, a3, a4, a5, a6⟩ := hA
  unfold kE1
  rw [a1, a2, a3, a4, a5, a6, hT, hI, hL]
  by_cases hq : 2000 ≤ k ∧ k < 3000
  · rcases hQ with q | ⟨b1, b2, b3⟩
    · exact absurd hq q
    · rw [b1, b2, b3]
  · by_cases h2 : k < 2000
    · by_cases z1 : k < 200
      · rw [if_pos z1, if_pos z1]
      rw [if_neg z1, if_neg z1]
      by_cases z2 : k < 300
      · rw [if_pos z2, if_pos z2]
      rw [if_neg z2, if_neg z2]
      by_cases z3 : k < 400
      · rw [if_pos z3, if_pos z3]
      rw [if_neg z3, if_neg z3]
      by_cases z4 : k < 500
      · rw [if_pos z4, if_pos z4]
      rw [if_neg z4, if_neg z4]
      by_cases z5 : k < 1100
      · rw [if_pos z5, if_pos z5]
      rw [if_neg z5, if_neg z5]
      by_cases z6 : k < 1200
      · rw [if_pos z6, if_pos z6]
      rw [if_neg z6, if_neg z6, if_pos h2, if_pos h2]
    · have h3 : ¬ k < 3000 := by omega
      rw [if_neg (by omega), if_neg (by omega), if_neg (by omega), if_neg (by omega), if_neg (by omega), if_neg (by omega), if_neg h2, if_neg h3, if_neg (by omega), if_neg (by omega), if_neg (by omega), if_neg (by omega), if_neg (by omega), if_neg (by omega), if_neg h2, if_neg h3]
theorem kE_lo {I' : Nat → Int32} {Ar' : Nat → Nat → Int32} {T' : Nat → Int32} {A' : Nat → Nat → Int32} {Lg' : Nat → Nat → Int64} {kc : Nat} {x : va_E} (hkc : kc < 15) (h0 : ∀ j, j < 15 → kE0 G Z I' Ar' T' A' Lg' j = if j = kc then x else kE0 G Z I Ar T A Lg j) (h1 : ∀ j, 15 ≤ j → kE1 G Z Ar' T' A' Lg' j = kE1 G Z Ar T A Lg j) (j : Nat) : kE G Z I' Ar' T' A' Lg' j = if j = kc then x else kE G Z I Ar T A Lg j := by
  unfold kE
  by_cases hj : j < 15
  · rw [if_pos hj, if_pos hj]; exact h0 j hj
  · rw [if_neg hj, if_neg hj, if_neg (by omega)]; exact h1 j (by omega)
theorem kE_Q {Ar' : Nat → Nat → Int32} {m : Nat} {x : va_E} (hm : m < 1000) (hx : kE1 G Z Ar' T A Lg (2000 + m) = x) (h0 : ∀ j, j < 15 → kE0 G Z I Ar' T A Lg j = kE0 G Z I Ar T A Lg j) (h1 : ∀ j, 15 ≤ j → j ≠ 2000 + m → kE1 G Z Ar' T A Lg j = kE1 G Z Ar T A Lg j) (j : Nat) : kE G Z I Ar' T A Lg j = if j = 2000 + m then x else kE G Z I Ar T A Lg j := by
  unfold kE
  by_cases hj : j < 15
  · rw [if_pos hj, if_pos hj, if_neg (by omega)]; exact h0 j hj
  · rw [if_neg hj, if_neg hj]
    by_cases h2 : j = 2000 + m
    · rw [if_pos h2, h2]; exact hx
    · rw [if_neg h2]; exact h1 j (by omega) h2
theorem kE1_Q {m : Nat} (hm : m < 1000) : kE1 G Z Ar T A Lg (2000 + m) = ob 3 [.ref (Z.da (3000 + m)), va_rf (cz Z (Ar 22 m)), .int (Ar 23 m), .int (Ar 24 m)] := by
  unfold kE1
  rw [if_neg (by omega), if_neg (by omega), if_neg (by omega), if_neg (by omega), if_neg (by omega), if_neg (by omega), if_neg (by omega), if_pos (by omega), show 2000 + m - 2000 = m by omega, show 2000 + m + 1000 = 3000 + m by omega]
theorem kuI32 (D : kW G Z) {x : Int32} : hup (kH G Z I Ar T A Lg h0) (Z.da 1) (ob 6 [.ref (Z.da 2), .ref (Z.da 3), .int x, .int (I 1), .ref (Z.da 4), .ref (Z.da 6), .ref (Z.da 8), .ref (Z.da 9), .int (I 26), .ref (Z.da 10), .ref (Z.da 11)]) = kH G Z (va_up I 32 x) Ar T A Lg h0 :=
  kH_up D (kU.lo (by decide) (by decide) (by decide) (by decide)) (kE_lo (by decide) (fun j hj => by
    match j, hj with
    | 0, _ => rfl | 1, _ => rfl | 2, _ => rfl | 3, _ => rfl | 4, _ => rfl | 5, _ => rfl | 6, _ => rfl | 7, _ => rfl | 8, _ => rfl | 9, _ => rfl | 10, _ => rfl | 11, _ => rfl | 12, _ => rfl | 13, _ => rfl | 14, _ => rfl
    | n + 15, hj => omega) (fun j hj => kE1_lo ⟨rfl, rfl, rfl, rfl, rfl, rfl⟩ (Or.inr ⟨rfl, rfl, rfl⟩) (rfl) (rfl) (rfl)))
theorem kuI1 (D : kW G Z) {x : Int32} : hup (kH G Z I Ar T A Lg h0) (Z.da 1) (ob 6 [.ref (Z.da 2), .ref (Z.da 3), .int (I 32), .int x, .ref (Z.da 4), .ref (Z.da 6), .ref (Z.da 8), .ref (Z.da 9), .int (I 26), .ref (Z.da 10), .ref (Z.da 11)]) = kH G Z (va_up I 1 x) Ar T A Lg h0 :=
  kH_up D (kU.lo (by decide) (by decide) (by decide) (by decide)) (kE_lo (by decide) (fun j hj => by
    match j, hj with
    | 0, _ => rfl | 1, _ => rfl | 2, _ => rfl | 3, _ => rfl | 4, _ => rfl | 5, _ => rfl | 6, _ => rfl | 7, _ => rfl | 8, _ => rfl | 9, _ => rfl | 10, _ => rfl | 11, _ => rfl | 12, _ => rfl | 13, _ => rfl | 14, _ => rfl
    | n + 15, hj => omega) (fun j hj => kE1_lo ⟨rfl, rfl, rfl, rfl, rfl, rfl⟩ (Or.inr ⟨rfl, rfl, rfl⟩) (rfl) (rfl) (rfl)))
theorem kuI26 (D : kW G Z) {x : Int32} : hup (kH G Z I Ar T A Lg h0) (Z.da 1) (ob 6 [.ref (Z.da 2), .ref (Z.da 3), .int (I 32), .int (I 1), .ref (Z.da 4), .ref (Z.da 6), .ref (Z.da 8), .ref (Z.da 9), .int x, .ref (Z.da 10), .ref (Z.da 11)]) = kH G Z (va_up I 26 x) Ar T A Lg h0 :=
  kH_up D (kU.lo (by decide) (by decide) (by decide) (by decide)) (kE_lo (by decide) (fun j hj => by
    match j, hj with
    | 0, _ => rfl | 1, _ => rfl | 2, _ => rfl | 3, _ => rfl | 4, _ => rfl | 5, _ => rfl | 6, _ => rfl | 7, _ => rfl | 8, _ => rfl | 9, _ => rfl | 10, _ => rfl | 11, _ => rfl | 12, _ => rfl | 13, _ => rfl | 14, _ => rfl
    | n + 15, hj => omega) (fun j hj => kE1_lo ⟨rfl, rfl, rfl, rfl, rfl, rfl⟩ (Or.inr ⟨rfl, rfl, rfl⟩) (rfl) (rfl) (rfl)))
theorem kuI28 (D : kW G Z) {x : Int32} : hup (kH G Z I Ar T A Lg h0) (Z.da 2) (ob 4 [.ref (Z.da 12), .int x, .int (T 0), .int (T 1), .int (T 2)]) = kH G Z (va_up I 28 x) Ar T A Lg h0 :=
  kH_up D (kU.lo (by decide) (by decide) (by decide) (by decide)) (kE_lo (by decide) (fun j hj => by
    match j, hj with
    | 0, _ => rfl | 1, _ => rfl | 2, _ => rfl | 3, _ => rfl | 4, _ => rfl | 5, _ => rfl | 6, _ => rfl | 7, _ => rfl | 8, _ => rfl | 9, _ => rfl | 10, _ => rfl | 11, _ => rfl | 12, _ => rfl | 13, _ => rfl | 14, _ => rfl
    | n + 15, hj => omega) (fun j hj => kE1_lo ⟨rfl, rfl, rfl, rfl, rfl, rfl⟩ (Or.inr ⟨rfl, rfl, rfl⟩) (rfl) (rfl) (rfl)))
theorem kuT0 (D : kW G Z) {x : Int32} : hup (kH G Z I Ar T A Lg h0) (Z.da 2) (ob 4 [.ref (Z.da 12), .int (I 28), .int x, .int (T 1), .int (T 2)]) = kH G Z I Ar (va_up T 0 x) A Lg h0 :=
  kH_up D (kU.lo (by decide) (by decide) (by decide) (by decide)) (kE_lo (by decide) (fun j hj => by
    match j, hj with
    | 0, _ => rfl | 1, _ => rfl | 2, _ => rfl | 3, _ => rfl | 4, _ => rfl | 5, _ => rfl | 6, _ => rfl | 7, _ => rfl | 8, _ => rfl | 9, _ => rfl | 10, _ => rfl | 11, _ => rfl | 12, _ => rfl | 13, _ => rfl | 14, _ => rfl
    | n + 15, hj => omega) (fun j hj => kE1_lo ⟨rfl, rfl, rfl, rfl, rfl, rfl⟩ (Or.inr ⟨rfl, rfl, rfl⟩) (if_neg (by omega)) (rfl) (rfl)))
theorem kuT1 (D : kW G Z) {x : Int32} : hup (kH G Z I Ar T A Lg h0) (Z.da 2) (ob 4 [.ref (Z.da 12), .int (I 28), .int (T 0), .int x, .int (T 2)]) = kH G Z I Ar (va_up T 1 x) A Lg h0 :=
  kH_up D (kU.lo (by decide) (by decide) (by decide) (by decide)) (kE_lo (by decide) (fun j hj => by
    match j, hj with
    | 0, _ => rfl | 1, _ => rfl | 2, _ => rfl | 3, _ => rfl | 4, _ => rfl | 5, _ => rfl | 6, _ => rfl | 7, _ => rfl | 8, _ => rfl | 9, _ => rfl | 10, _ => rfl | 11, _ => rfl | 12, _ => rfl | 13, _ => rfl | 14, _ => rfl
    | n + 15, hj => omega) (fun j hj => kE1_lo ⟨rfl, rfl, rfl, rfl, rfl, rfl⟩ (Or.inr ⟨rfl, rfl, rfl⟩) (if_neg (by omega)) (rfl) (rfl)))
theorem kuT2 (D : kW G Z) {x : Int32} : hup (kH G Z I Ar T A Lg h0) (Z.da 2) (ob 4 [.ref (Z.da 12), .int (I 28), .int (T 0), .int (T 1), .int x]) = kH G Z I Ar (va_up T 2 x) A Lg h0 :=
  kH_up D (kU.lo (by decide) (by decide) (by decide) (by decide)) (kE_lo (by decide) (fun j hj => by
    match j, hj with
    | 0, _ => rfl | 1, _ => rfl | 2, _ => rfl | 3, _ => rfl | 4, _ => rfl | 5, _ => rfl | 6, _ => rfl | 7, _ => rfl | 8, _ => rfl | 9, _ => rfl | 10, _ => rfl | 11, _ => rfl | 12, _ => rfl | 13, _ => rfl | 14, _ => rfl
    | n + 15, hj => omega) (fun j hj => kE1_lo ⟨rfl, rfl, rfl, rfl, rfl, rfl⟩ (Or.inr ⟨rfl, rfl, rfl⟩) (if_neg (by omega)) (rfl) (rfl)))
theorem kuT3 (D : kW G Z) {x : Int32} : hup (kH G Z I Ar T A Lg h0) (Z.da 3) (ob 5 [.ref (Z.da 13), .ref (Z.da 14), .int x, .int (T 4), .int (T 5)]) = kH G Z I Ar (va_up T 3 x) A Lg h0 :=
  kH_up D (kU.lo (by decide) (by decide) (by decide) (by decide)) (kE_lo (by decide) (fun j hj => by
    match j, hj with
    | 0, _ => rfl | 1, _ => rfl | 2, _ => rfl | 3, _ => rfl | 4, _ => rfl | 5, _ => rfl | 6, _ => rfl | 7, _ => rfl | 8, _ => rfl | 9, _ => rfl | 10, _ => rfl | 11, _ => rfl | 12, _ => rfl | 13, _ => rfl | 14, _ => rfl
    | n + 15, hj => omega) (fun j hj => kE1_lo ⟨rfl, rfl, rfl, rfl, rfl, rfl⟩ (Or.inr ⟨rfl, rfl, rfl⟩) (if_neg (by omega)) (rfl) (rfl)))
theorem kuT4 (D : kW G Z) {x : Int32} : hup (kH G Z I Ar T A Lg h0) (Z.da 3) (ob 5 [.ref (Z.da 13), .ref (Z.da 14), .int (T 3), .int x, .int (T 5)]) = kH G Z I Ar (va_up T 4 x) A Lg h0 :=
  kH_up D (kU.lo (by decide) (by decide) (by decide) (by decide)) (kE_lo (by decide) (fun j hj => by
    match j, hj with
    | 0, _ => rfl | 1, _ => rfl | 2, _ => rfl | 3, _ => rfl | 4, _ => rfl | 5, _ => rfl | 6, _ => rfl | 7, _ => rfl | 8, _ => rfl | 9, _ => rfl | 10, _ => rfl | 11, _ => rfl | 12, _ => rfl | 13, _ => rfl | 14, _ => rfl
    | n + 15, hj => omega) (fun j hj => kE1_lo ⟨rfl, rfl, rfl, rfl, rfl, rfl⟩ (Or.inr ⟨rfl, rfl, rfl⟩) (if_neg (by omega)) (rfl) (rfl)))
theorem kuT5 (D : kW G Z) {x : Int32} : hup (kH G Z I Ar T A Lg h0) (Z.da 3) (ob 5 [.ref (Z.da 13), .ref (Z.da 14), .int (T 3), .int (T 4), .int x]) = kH G Z I Ar (va_up T 5 x) A Lg h0 :=
  kH_up D (kU.lo (by decide) (by decide) (by decide) (by decide)) (kE_lo (by decide) (fun j hj => by
    match j, hj with
    | 0, _ => rfl | 1, _ => rfl | 2, _ => rfl | 3, _ => rfl | 4, _ => rfl | 5, _ => rfl | 6, _ => rfl | 7, _ => rfl | 8, _ => rfl | 9, _ => rfl | 10, _ => rfl | 11, _ => rfl | 12, _ => rfl | 13, _ => rfl | 14, _ => rfl
    | n + 15, hj => omega) (fun j hj => kE1_lo ⟨rfl, rfl, rfl, rfl, rfl, rfl⟩ (Or.inr ⟨rfl, rfl, rfl⟩) (if_neg (by omega)) (rfl) (rfl)))
theorem kuA12 (D : kW G Z) {x : Nat → Int32} : hup (kH G Z I Ar T A Lg h0) (Z.da 8) (aI G 4 x) = kH G Z I (va_up Ar 12 x) T A Lg h0 :=
  kH_up D (kU.lo (by decide) (by decide) (by decide) (by decide)) (kE_lo (by decide) (fun j hj => by
    match j, hj with
    | 0, _ => rfl | 1, _ => rfl | 2, _ => rfl | 3, _ => rfl | 4, _ => rfl | 5, _ => rfl | 6, _ => rfl | 7, _ => rfl | 8, _ => rfl | 9, _ => rfl | 10, _ => rfl | 11, _ => rfl | 12, _ => rfl | 13, _ => rfl | 14, _ => rfl
    | n + 15, hj => omega) (fun j hj => kE1_lo ⟨rfl, rfl, rfl, rfl, rfl, rfl⟩ (Or.inr ⟨rfl, rfl, rfl⟩) (rfl) (rfl) (rfl)))
theorem kuA25 (D : kW G Z) {x : Nat → Int32} : hup (kH G Z I Ar T A Lg h0) (Z.da 9) (aI G 10 x) = kH G Z I (va_up Ar 25 x) T A Lg h0 :=
  kH_up D (kU.lo (by decide) (by decide) (by decide) (by decide)) (kE_lo (by decide) (fun j hj => by
    match j, hj with
    | 0, _ => rfl | 1, _ => rfl | 2, _ => rfl | 3, _ => rfl | 4, _ => rfl | 5, _ => rfl | 6, _ => rfl | 7, _ => rfl | 8, _ => rfl | 9, _ => rfl | 10, _ => rfl | 11, _ => rfl | 12, _ => rfl | 13, _ => rfl | 14, _ => rfl
    | n + 15, hj => omega) (fun j hj => kE1_lo ⟨rfl, rfl, rfl, rfl, rfl, rfl⟩ (Or.inr ⟨rfl, rfl, rfl⟩) (rfl) (rfl) (rfl)))
theorem kuA27 (D : kW G Z) {x : Nat → Int32} : hup (kH G Z I Ar T A Lg h0) (Z.da 12) (aB G 400 x) = kH G Z I (va_up Ar 27 x) T A Lg h0 :=
  kH_up D (kU.lo (by decide) (by decide) (by decide) (by decide)) (kE_lo (by decide) (fun j hj => by
    match j, hj with
    | 0, _ => rfl | 1, _ => rfl | 2, _ => rfl | 3, _ => rfl | 4, _ => rfl | 5, _ => rfl | 6, _ => rfl | 7, _ => rfl | 8, _ => rfl | 9, _ => rfl | 10, _ => rfl | 11, _ => rfl | 12, _ => rfl | 13, _ => rfl | 14, _ => rfl
    | n + 15, hj => omega) (fun j hj => kE1_lo ⟨rfl, rfl, rfl, rfl, rfl, rfl⟩ (Or.inr ⟨rfl, rfl, rfl⟩) (rfl) (rfl) (rfl)))
theorem kuB10 (D : kW G Z) {x : Nat → Int32} : hup (kH G Z I Ar T A Lg h0) (Z.da 10) (aI G 401 x) = kH G Z I Ar T (va_up A 10 x) Lg h0 :=
  kH_up D (kU.lo (by decide) (by decide) (by decide) (by decide)) (kE_lo (by decide) (fun j hj => by
    match j, hj with
    | 0, _ => rfl | 1, _ => rfl | 2, _ => rfl | 3, _ => rfl | 4, _ => rfl | 5, _ => rfl | 6, _ => rfl | 7, _ => rfl | 8, _ => rfl | 9, _ => rfl | 10, _ => rfl | 11, _ => rfl | 12, _ => rfl | 13, _ => rfl | 14, _ => rfl
    | n + 15, hj => omega) (fun j hj => kE1_lo ⟨rfl, rfl, rfl, rfl, rfl, rfl⟩ (Or.inr ⟨rfl, rfl, rfl⟩) (rfl) (if_neg (by omega)) (rfl)))
theorem kuB11 (D : kW G Z) {x : Nat → Int32} : hup (kH G Z I Ar T A Lg h0) (Z.da 11) (aI G 61 x) = kH G Z I Ar T (va_up A 11 x) Lg h0 :=
  kH_up D (kU.lo (by decide) (by decide) (by decide) (by decide)) (kE_lo (by decide) (fun j hj => by
    match j, hj with
    | 0, _ => rfl | 1, _ => rfl | 2, _ => rfl | 3, _ => rfl | 4, _ => rfl | 5, _ => rfl | 6, _ => rfl | 7, _ => rfl | 8, _ => rfl | 9, _ => rfl | 10, _ => rfl | 11, _ => rfl | 12, _ => rfl | 13, _ => rfl | 14, _ => rfl
    | n + 15, hj => omega) (fun j hj => kE1_lo ⟨rfl, rfl, rfl, rfl, rfl, rfl⟩ (Or.inr ⟨rfl, rfl, rfl⟩) (rfl) (if_neg (by omega)) (rfl)))
theorem kuB14 (D : kW G Z) {x : Nat → Int32} : hup (kH G Z I Ar T A Lg h0) (Z.da 14) (aI G 60 x) = kH G Z I Ar T (va_up A 14 x) Lg h0 :=
  kH_up D (kU.lo (by decide) (by decide) (by decide) (by decide)) (kE_lo (by decide) (fun j hj => by
    match j, hj with
    | 0, _ => rfl | 1, _ => rfl | 2, _ => rfl | 3, _ => rfl | 4, _ => rfl | 5, _ => rfl | 6, _ => rfl | 7, _ => rfl | 8, _ => rfl | 9, _ => rfl | 10, _ => rfl | 11, _ => rfl | 12, _ => rfl | 13, _ => rfl | 14, _ => rfl
    | n + 15, hj => omega) (fun j hj => kE1_lo ⟨rfl, rfl, rfl, rfl, rfl, rfl⟩ (Or.inr ⟨rfl, rfl, rfl⟩) (rfl) (if_neg (by omega)) (rfl)))
theorem kuL13 (D : kW G Z) {x : Nat → Int64} : hup (kH G Z I Ar T A Lg h0) (Z.da 13) (aJ G 60 x) = kH G Z I Ar T A (va_up Lg 13 x) h0 :=
  kH_up D (kU.lo (by decide) (by decide) (by decide) (by decide)) (kE_lo (by decide) (fun j hj => by
    match j, hj with
    | 0, _ => rfl | 1, _ => rfl | 2, _ => rfl | 3, _ => rfl | 4, _ => rfl | 5, _ => rfl | 6, _ => rfl | 7, _ => rfl | 8, _ => rfl | 9, _ => rfl | 10, _ => rfl | 11, _ => rfl | 12, _ => rfl | 13, _ => rfl | 14, _ => rfl
    | n + 15, hj => omega) (fun j hj => kE1_lo ⟨rfl, rfl, rfl, rfl, rfl, rfl⟩ (Or.inr ⟨rfl, rfl, rfl⟩) (rfl) (rfl) (if_neg (by omega))))
theorem kuQ22 (D : kW G Z) {a p : Nat} (ha : a < Z.nX) (hp : p < Z.np a) {x : Int32} : hup (kH G Z I Ar T A Lg h0) (Z.da (2000 + (6 * a + p))) (ob 3 [.ref (Z.da (3000 + (6 * a + p))), va_rf (cz Z x), .int (Ar 23 (6 * a + p)), .int (Ar 24 (6 * a + p))]) = kH G Z I (va_up Ar 22 (upd (Ar 22) (6 * a + p) x)) T A Lg h0 := by
  have h80 := D.l80
  have h6 := D.p6 a
  refine kH_up D (kU.Q ha hp) (kE_Q (by omega) ?_ (fun j hj => ?_) (fun j hj hne => kE1_lo ⟨rfl, rfl, rfl, rfl, rfl, rfl⟩ ?_ rfl rfl rfl))
  · rw [kE1_Q (by omega)]
    simp [va_up, upd]
  · match j, hj with
    | 0, _ => rfl | 1, _ => rfl | 2, _ => rfl | 3, _ => rfl | 4, _ => rfl | 5, _ => rfl | 6, _ => rfl | 7, _ => rfl | 8, _ => rfl | 9, _ => rfl | 10, _ => rfl | 11, _ => rfl | 12, _ => rfl | 13, _ => rfl | 14, _ => rfl
    | n + 15, hj => omega
  · by_cases hq : 2000 ≤ j ∧ j < 3000
    · exact Or.inr ⟨by rw [va_up_self]; exact updn (by omega), rfl, rfl⟩
    · exact Or.inl hq
theorem kuQ23 (D : kW G Z) {a p : Nat} (ha : a < Z.nX) (hp : p < Z.np a) {x : Int32} : hup (kH G Z I Ar T A Lg h0) (Z.da (2000 + (6 * a + p))) (ob 3 [.ref (Z.da (3000 + (6 * a + p))), va_rf (cz Z (Ar 22 (6 * a + p))), .int x, .int (Ar 24 (6 * a + p))]) = kH G Z I (va_up Ar 23 (upd (Ar 23) (6 * a + p) x)) T A Lg h0 := by
  have h80 := D.l80
  have h6 := D.p6 a
  refine kH_up D (kU.Q ha hp) (kE_Q (by omega) ?_ (fun j hj => ?_) (fun j hj hne => kE1_lo ⟨rfl, rfl, rfl, rfl, rfl, rfl⟩ ?_ rfl rfl rfl))
  · rw [kE1_Q (by omega)]
    simp [va_up, upd]
  · match j, hj with
    | 0, _ => rfl | 1, _ => rfl | 2, _ => rfl | 3, _ => rfl | 4, _ => rfl | 5, _ => rfl | 6, _ => rfl | 7, _ => rfl | 8, _ => rfl | 9, _ => rfl | 10, _ => rfl | 11, _ => rfl | 12, _ => rfl | 13, _ => rfl | 14, _ => rfl
    | n + 15, hj => omega
  · by_cases hq : 2000 ≤ j ∧ j < 3000
    · exact Or.inr ⟨rfl, by rw [va_up_self]; exact updn (by omega), rfl⟩
    · exact Or.inl hq
theorem kuQ24 (D : kW G Z) {a p : Nat} (ha : a < Z.nX) (hp : p < Z.np a) {x : Int32} : hup (kH G Z I Ar T A Lg h0) (Z.da (2000 + (6 * a + p))) (ob 3 [.ref (Z.da (3000 + (6 * a + p))), va_rf (cz Z (Ar 22 (6 * a + p))), .int (Ar 23 (6 * a + p)), .int x]) = kH G Z I (va_up Ar 24 (upd (Ar 24) (6 * a + p) x)) T A Lg h0 := by
  have h80 := D.l80
  have h6 := D.p6 a
  refine kH_up D (kU.Q ha hp) (kE_Q (by omega) ?_ (fun j hj => ?_) (fun j hj hne => kE1_lo ⟨rfl, rfl, rfl, rfl, rfl, rfl⟩ ?_ rfl rfl rfl))
  · rw [kE1_Q (by omega)]
    simp [va_up, upd]
  · match j, hj with
    | 0, _ => rfl | 1, _ => rfl | 2, _ => rfl | 3, _ => rfl | 4, _ => rfl | 5, _ => rfl | 6, _ => rfl | 7, _ => rfl | 8, _ => rfl | 9, _ => rfl | 10, _ => rfl | 11, _ => rfl | 12, _ => rfl | 13, _ => rfl | 14, _ => rfl
    | n + 15, hj => omega
  · by_cases hq : 2000 ≤ j ∧ j < 3000
    · exact Or.inr ⟨rfl, rfl, by rw [va_up_self]; exact updn (by omega)⟩
    · exact Or.inl hq
end K2
