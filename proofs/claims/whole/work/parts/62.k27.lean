section K27
variable {G : gG} {l : Launch} {h h0 : hW} {Z : kZ} {I : Nat → Int32} {Ar : Nat → Nat → Int32} {T : Nat → Int32} {A : Nat → Nat → Int32} {Lg : Nat → Nat → Int64}
/-- cells and codes: a heap, an inverse, addresses, the codes in use -/
def kJ (h : hW) (jx da : Nat → Nat) (us : Nat → Prop) : Prop := (∀ k, us k → k ≠ 0 ∧ (∀ b, jx b = k ↔ b = da k) ∧ h (da k) ≠ none) ∧ ∀ b, jx b ≠ 0 → us (jx b)
section KJ
variable {h' : hW} {jx da : Nat → Nat} {us : Nat → Prop}
theorem kJ.j0 (J : kJ h jx da us) {q : Nat} (hq : h q = none) : jx q = 0 := by
  apply Classical.byContradiction
  intro n
  obtain ⟨_, h2, h3⟩ := J.1 _ (J.2 q n)
  have := (h2 q).mp rfl
  rw [← this] at h3
  exact h3 hq
theorem kJ.gen (J : kJ h jx da us) (hh : ∀ b, h b ≠ none → h' b ≠ none) : kJ h' jx da us := ⟨fun k hk => ⟨(J.1 k hk).1, (J.1 k hk).2.1, hh _ (J.1 k hk).2.2⟩, J.2⟩
theorem kJ.new (J : kJ h jx da us) {q k : Nat} (hq : h q = none) (hk : ¬ us k) (h0 : k ≠ 0) (hh : ∀ b, h b ≠ none → h' b ≠ none) (hq' : h' q ≠ none) : kJ h' (va_up jx q k) (va_up da k q) (fun j => us j ∨ j = k) := by
  have hj0 := J.j0 hq
  refine ⟨fun j hj => ?_, fun b hb => ?_⟩
  · by_cases e : j = k
    · subst e
      refine ⟨h0, fun b => ?_, by rw [va_up_self]; exact hq'⟩
      rw [va_up_self]
      by_cases eb : b = q
      · rw [eb, va_up_self]; exact ⟨fun _ => rfl, fun _ => rfl⟩
      · rw [va_up_ne _ _ eb]
        exact ⟨fun z => absurd (z ▸ J.2 b (by rw [z]; exact h0)) hk, fun z => absurd z eb⟩
    · have hu := hj.resolve_right e
      obtain ⟨j1, j2, j3⟩ := J.1 j hu
      refine ⟨j1, fun b => ?_, by rw [va_up_ne _ _ e]; exact hh _ j3⟩
      rw [va_up_ne _ _ e]
      by_cases eb : b = q
      · rw [eb, va_up_self]
        exact ⟨fun z => absurd z.symm e, fun z => absurd hq (by rw [z]; exact j3)⟩
      · rw [va_up_ne _ _ eb]; exact j2 b
  · by_cases eb : b = q
    · rw [eb, va_up_self]; exact Or.inr rfl
    · rw [va_up_ne _ _ eb] at hb ⊢; exact Or.inl (J.2 b hb)
abbrev mvJ (jx : Nat → Nat) (q k : Nat) : Nat → Nat := fun b => if b = q then k else if jx b = k then 0 else jx b
theorem kJ.move (J : kJ h jx da us) {q k : Nat} (hq : h q = none) (hk : us k) (hh : ∀ b, h b ≠ none → h' b ≠ none) (hq' : h' q ≠ none) : kJ h' (mvJ jx q k) (va_up da k q) us := by
  have hj0 := J.j0 hq
  obtain ⟨k0, k2, k3⟩ := J.1 k hk
  refine ⟨fun j hj => ?_, fun b hb => ?_⟩
  · by_cases e : j = k
    · subst e
      refine ⟨k0, fun b => ?_, by rw [va_up_self]; exact hq'⟩
      rw [va_up_self]
      unfold mvJ
      by_cases eb : b = q
      · rw [if_pos eb]; exact ⟨fun _ => eb, fun _ => rfl⟩
      · rw [if_neg eb]
        by_cases ek : jx b = j
        · rw [if_pos ek]; exact ⟨fun z => absurd z.symm k0, fun z => absurd z eb⟩
        · rw [if_neg ek]; exact ⟨fun z => absurd z ek, fun z => absurd z eb⟩
    · obtain ⟨j1, j2, j3⟩ := J.1 j hj
      refine ⟨j1, fun b => ?_, by rw [va_up_ne _ _ e]; exact hh _ j3⟩
      rw [va_up_ne _ _ e]
      unfold mvJ
      by_cases eb : b = q
      · rw [if_pos eb]
        exact ⟨fun z => absurd z.symm e, fun z => absurd hq (by rw [← eb, z]; exact j3)⟩
      · rw [if_neg eb]
        by_cases ek : jx b = k
        · rw [if_pos ek]
          exact ⟨fun z => absurd z.symm j1, fun z => absurd (((j2 b).mpr z).symm.trans ek) e⟩
        · rw [if_neg ek]; exact j2 b
  · unfold mvJ at hb ⊢
    by_cases eb : b = q
    · rw [if_pos eb]; exact hk
    · rw [if_neg eb] at hb ⊢
      by_cases ek : jx b = k
      · rw [if_pos ek] at hb; exact absurd rfl hb
      · rw [if_neg ek] at hb ⊢; exact J.2 b hb
theorem kJ.cg (J : kJ h jx da us) {us' : Nat → Prop} (hu : ∀ k, us' k ↔ us k) : kJ h jx da us' := ⟨fun k hk => J.1 k ((hu k).mp hk), fun b hb => (hu _).mpr (J.2 b hb)⟩
end KJ
/-- the desk stands in this heap -/
def kD (G : gG) (Z : kZ) (I : Nat → Int32) (Ar : Nat → Nat → Int32) (T : Nat → Int32) (A : Nat → Nat → Int32) (Lg : Nat → Nat → Int64) (h : hW) : Prop := kW G Z ∧ ∀ k, kU Z k → h (Z.da k) = some (kE G Z I Ar T A Lg k)
theorem kD.J (K : kD G Z I Ar T A Lg h) : kJ h Z.jx Z.da (kU Z) := ⟨fun k hk => ⟨hk.n0, K.1.1 k hk, by rw [K.2 k hk]; simp⟩, K.1.2.1⟩
theorem kD.self (K : kD G Z I Ar T A Lg h) : h = kH G Z I Ar T A Lg h := by
  funext b
  unfold kH oH
  by_cases hb : Z.jx b = 0
  · rw [if_pos hb]
  · rw [if_neg hb]
    have hu := K.1.2.1 b hb
    have e := (K.1.1 _ hu b).mp rfl
    rw [← K.2 _ hu, ← e]
theorem kD.of (D : kW G Z) : kD G Z I Ar T A Lg (kH G Z I Ar T A Lg h0) := ⟨D, fun k hk => kH_at D hk⟩
theorem kE_l {k : Nat} (h : k < 15) : kE G Z I Ar T A Lg k = kE0 G Z I Ar T A Lg k := by unfold kE; rw [if_pos h]
theorem kE_C {c : Nat} (h : c < 100) : kE G Z I Ar T A Lg (100 + c) = ob 0 [.int (nI c), va_rf (cz Z (Ar 2 c)), .int (Ar 3 c), .int (Ar 4 c), .int (Ar 5 c), .ref (Z.da (200 + c))] := by
  unfold kE kE1; rw [if_neg (by omega), if_pos (by omega), show 100 + c - 100 = c by omega, show 100 + c + 100 = 200 + c by omega]
theorem kE_P {c : Nat} (h : c < 100) : kE G Z I Ar T A Lg (200 + c) = ob 2 [.ref (Z.da (300 + c)), .ref (Z.da (400 + c)), .int (T (200 + c))] := by
  unfold kE kE1; rw [if_neg (by omega), if_neg (by omega), if_pos (by omega), show 200 + c + 200 = 400 + c by omega, show 200 + c + 100 = 300 + c by omega]
theorem kE_PJ {c : Nat} (h : c < 100) : kE G Z I Ar T A Lg (300 + c) = aJ G (Z.Sz (300 + c)) (Lg (300 + c)) := by
  unfold kE kE1; rw [if_neg (by omega), if_neg (by omega), if_neg (by omega), if_pos (by omega)]
theorem kE_PI {c : Nat} (h : c < 100) : kE G Z I Ar T A Lg (400 + c) = aI G (Z.Sz (300 + c)) (A (400 + c)) := by
  unfold kE kE1; rw [if_neg (by omega), if_neg (by omega), if_neg (by omega), if_neg (by omega), if_pos (by omega), show 400 + c - 100 = 300 + c by omega]
theorem kE_L {a : Nat} (h : a < 100) : kE G Z I Ar T A Lg (1000 + a) = ob 1 [.int (Ar 13 a), .int (Ar 14 a), .ref (Z.da (1100 + a))] := by
  unfold kE kE1; rw [if_neg (by omega), if_neg (by omega), if_neg (by omega), if_neg (by omega), if_neg (by omega), if_pos (by omega), show 1000 + a - 1000 = a by omega, show 1000 + a + 100 = 1100 + a by omega]
theorem kE_LL {a : Nat} (h : a < 100) : kE G Z I Ar T A Lg (1100 + a) = ob 8 [.int (T (1100 + a)), .ref (Z.da (1200 + a)), .int (nI (Z.np a))] := by
  unfold kE kE1; rw [if_neg (by omega), if_neg (by omega), if_neg (by omega), if_neg (by omega), if_neg (by omega), if_neg (by omega), if_pos (by omega), show 1100 + a - 1100 = a by omega, show 1100 + a + 100 = 1200 + a by omega]
theorem kE_LA {a : Nat} (h : a < 100) : kE G Z I Ar T A Lg (1200 + a) = aO G (Z.Sz (1200 + a)) (Z.Fo (1200 + a)) := by
  unfold kE kE1; rw [if_neg (by omega), if_neg (by omega), if_neg (by omega), if_neg (by omega), if_neg (by omega), if_neg (by omega), if_neg (by omega), if_pos (by omega)]
theorem kE_q {m : Nat} (h : m < 1000) : kE G Z I Ar T A Lg (2000 + m) = ob 3 [.ref (Z.da (3000 + m)), va_rf (cz Z (Ar 22 m)), .int (Ar 23 m), .int (Ar 24 m)] := by
  unfold kE; rw [if_neg (by omega), kE1_Q h]
theorem kE_QJ {m : Nat} : kE G Z I Ar T A Lg (3000 + m) = aJ G (Z.Sz (3000 + m)) (Lg (3000 + m)) := by
  unfold kE kE1; rw [if_neg (by omega), if_neg (by omega), if_neg (by omega), if_neg (by omega), if_neg (by omega), if_neg (by omega), if_neg (by omega), if_neg (by omega), if_neg (by omega)]
/-- numbers that are causes keep their addresses -/
theorem cz_cg {Z' : kZ} {n : Nat} {x : Int32} (hx : kN n x) (hn : n ≤ 12) (hd : ∀ c, c < n → Z'.da (100 + c) = Z.da (100 + c)) : cz Z' x = cz Z x := by
  rcases hx with rfl | ⟨c, hc, rfl⟩
  · rw [cz_n, cz_n]
  · rw [cz_s (by omega), cz_s (by omega), hd c hc]
/-- cells that a change keeps -/
theorem kE_cg {Z' : kZ} {I' : Nat → Int32} {Ar' : Nat → Nat → Int32} {T' : Nat → Int32} {A' : Nat → Nat → Int32} {Lg' : Nat → Nat → Int64} (D : kW G Z) (kp mv : Nat → Prop) (hd : ∀ j, ¬ mv j → Z'.da j = Z.da j) (hm : ∀ j, j < 100 → mv j → j = 5 ∨ j = 7)
    (hz : (∀ c, c < Z.nC → ¬ mv (100 + c)) ∧ (∀ c, c < Z.nC → kN Z.nC (Ar 2 c)) ∧ ∀ a, a < Z.nX → ∀ p, p < Z.np a → kN Z.nC (Ar 22 (6 * a + p)))
    (hlo : (I' 32 = I 32 ∧ I' 1 = I 1 ∧ I' 26 = I 26 ∧ I' 28 = I 28) ∧ (∀ j, j < 6 → T' j = T j) ∧ (Ar' 12 = Ar 12 ∧ Ar' 25 = Ar 25 ∧ Ar' 27 = Ar 27) ∧ (A' 10 = A 10 ∧ A' 11 = A 11 ∧ A' 14 = A 14) ∧ Lg' 13 = Lg 13)
    (h4 : kp 4 → ¬ mv 5 ∧ T' 6 = T 6 ∧ Z'.nC = Z.nC) (h5 : kp 5 → Z'.Sz 5 = Z.Sz 5 ∧ Z'.Fo 5 = Z.Fo 5) (h6 : kp 6 → ¬ mv 7 ∧ T' 7 = T 7 ∧ Z'.nL = Z.nL) (h7 : kp 7 → Z'.Sz 7 = Z.Sz 7 ∧ Z'.Fo 7 = Z.Fo 7)
    (hC : ∀ c, c < Z.nC → kp (100 + c) → (Ar' 2 c = Ar 2 c ∧ Ar' 3 c = Ar 3 c ∧ Ar' 4 c = Ar 4 c ∧ Ar' 5 c = Ar 5 c) ∧ ¬ mv (200 + c))
    (hP : ∀ c, c < Z.nC → kp (200 + c) → ¬ mv (300 + c) ∧ ¬ mv (400 + c) ∧ T' (200 + c) = T (200 + c))
    (hPJ : ∀ c, c < Z.nC → kp (300 + c) → Z'.Sz (300 + c) = Z.Sz (300 + c) ∧ Lg' (300 + c) = Lg (300 + c))
    (hPI : ∀ c, c < Z.nC → kp (400 + c) → Z'.Sz (300 + c) = Z.Sz (300 + c) ∧ A' (400 + c) = A (400 + c))
    (hL : ∀ a, a < Z.nX → kp (1000 + a) → (Ar' 13 a = Ar 13 a ∧ Ar' 14 a = Ar 14 a) ∧ ¬ mv (1100 + a))
    (hLL : ∀ a, a < Z.nX → kp (1100 + a) → ¬ mv (1200 + a) ∧ T' (1100 + a) = T (1100 + a) ∧ Z'.np a = Z.np a)
    (hLA : ∀ a, a < Z.nX → kp (1200 + a) → Z'.Sz (1200 + a) = Z.Sz (1200 + a) ∧ Z'.Fo (1200 + a) = Z.Fo (1200 + a))
    (hQ : ∀ a, a < Z.nX → ∀ p, p < Z.np a → kp (2000 + (6 * a + p)) → ¬ mv (3000 + (6 * a + p)) ∧ Ar' 22 (6 * a + p) = Ar 22 (6 * a + p) ∧ Ar' 23 (6 * a + p) = Ar 23 (6 * a + p) ∧ Ar' 24 (6 * a + p) = Ar 24 (6 * a + p))
    (hQJ : ∀ a, a < Z.nX → ∀ p, p < Z.np a → kp (3000 + (6 * a + p)) → Z'.Sz (3000 + (6 * a + p)) = Z.Sz (3000 + (6 * a + p)) ∧ Lg' (3000 + (6 * a + p)) = Lg (3000 + (6 * a + p))) :
    ∀ k, kU Z k → kp k → kE G Z' I' Ar' T' A' Lg' k = kE G Z I Ar T A Lg k := by
  have h12 := D.c12
  have h80 := D.l80
  have hcz : ∀ x, kN Z.nC x → cz Z' x = cz Z x := fun x hx => cz_cg hx h12 (fun c hc => hd _ (hz.1 c hc))
  have hl : ∀ j, j < 100 → j ≠ 5 → j ≠ 7 → Z'.da j = Z.da j := fun j h1 h2 h3 => hd j (fun q => (hm j h1 q).elim h2 h3)
  obtain ⟨⟨i1, i2, i3, i4⟩, hT, ⟨r1, r2, r3⟩, ⟨a1, a2, a3⟩, l1⟩ := hlo
  rintro k (⟨k1, k2, k5, k7⟩ | ⟨c, hc, rfl | rfl | rfl | rfl⟩ | ⟨a, ha, rfl | rfl | ⟨rfl, hp⟩ | ⟨p, hp, rfl | rfl⟩⟩) hk
  · rw [kE_l k2, kE_l k2]
    match k, k1, k2, hk with
    | 1, _, _, _ => show ob 6 _ = ob 6 _; rw [hl 2 (by decide) (by decide) (by decide), hl 3 (by decide) (by decide) (by decide), hl 4 (by decide) (by decide) (by decide), hl 6 (by decide) (by decide) (by decide), hl 8 (by decide) (by decide) (by decide), hl 9 (by decide) (by decide) (by decide), hl 10 (by decide) (by decide) (by decide), hl 11 (by decide) (by decide) (by decide), i1, i2, i3]
    | 2, _, _, _ => show ob 4 _ = ob 4 _; rw [hl 12 (by decide) (by decide) (by decide), i4, hT 0 (by decide), hT 1 (by decide), hT 2 (by decide)]
    | 3, _, _, _ => show ob 5 _ = ob 5 _; rw [hl 13 (by decide) (by decide) (by decide), hl 14 (by decide) (by decide) (by decide), hT 3 (by decide), hT 4 (by decide), hT 5 (by decide)]
    | 4, _, _, hk => obtain ⟨z1, z2, z3⟩ := h4 hk; show ob 8 _ = ob 8 _; rw [hd 5 z1, z2, z3]
    | 5, _, _, hk => obtain ⟨z1, z2⟩ := h5 hk; show aO G _ _ = aO G _ _; rw [z1, z2]
    | 6, _, _, hk => obtain ⟨z1, z2, z3⟩ := h6 hk; show ob 8 _ = ob 8 _; rw [hd 7 z1, z2, z3]
    | 7, _, _, hk => obtain ⟨z1, z2⟩ := h7 hk; show aO G _ _ = aO G _ _; rw [z1, z2]
    | 8, _, _, _ => show aI G 4 _ = aI G 4 _; rw [r1]
    | 9, _, _, _ => show aI G 10 _ = aI G 10 _; rw [r2]
    | 10, _, _, _ => show aI G 401 _ = aI G 401 _; rw [a1]
    | 11, _, _, _ => show aI G 61 _ = aI G 61 _; rw [a2]
    | 12, _, _, _ => show aB G 400 _ = aB G 400 _; rw [r3]
    | 13, _, _, _ => show aJ G 60 _ = aJ G 60 _; rw [l1]
    | 14, _, _, _ => show aI G 60 _ = aI G 60 _; rw [a3]
    | z + 15, _, h, _ => omega
  · obtain ⟨⟨z1, z2, z3, z4⟩, z5⟩ := hC c hc hk
    rw [kE_C (by omega), kE_C (by omega), z1, z2, z3, z4, hd _ z5, hcz _ (hz.2.1 c hc)]
  · obtain ⟨z1, z2, z3⟩ := hP c hc hk
    rw [kE_P (by omega), kE_P (by omega), hd _ z1, hd _ z2, z3]
  · obtain ⟨z1, z2⟩ := hPJ c hc hk
    rw [kE_PJ (by omega), kE_PJ (by omega), z1, z2]
  · obtain ⟨z1, z2⟩ := hPI c hc hk
    rw [kE_PI (by omega), kE_PI (by omega), z1, z2]
  · obtain ⟨⟨z1, z2⟩, z3⟩ := hL a ha hk
    rw [kE_L (by omega), kE_L (by omega), z1, z2, hd _ z3]
  · obtain ⟨z1, z2, z3⟩ := hLL a ha hk
    rw [kE_LL (by omega), kE_LL (by omega), hd _ z1, z2, z3]
  · obtain ⟨z1, z2⟩ := hLA a ha hk
    rw [kE_LA (by omega), kE_LA (by omega), z1, z2]
  · obtain ⟨z1, z2, z3, z4⟩ := hQ a ha p hp hk
    have h6' := D.p6 a
    rw [kE_q (by omega), kE_q (by omega), hd _ z1, z2, z3, z4, hcz _ (hz.2.2 a ha p hp)]
  · obtain ⟨z1, z2⟩ := hQJ a ha p hp hk
    rw [kE_QJ, kE_QJ, z1, z2]
end K27
