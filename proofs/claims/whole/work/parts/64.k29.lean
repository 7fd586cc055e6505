section K29
variable {G : gG} {l : Launch} {h h0 : hW} {Z : kZ} {I : Nat → Int32} {Ar : Nat → Nat → Int32} {T : Nat → Int32} {A : Nat → Nat → Int32} {Lg : Nat → Nat → Int64}
set_option maxHeartbeats 4000000 in
/-- a cause's pattern is put anew -/
theorem tr_pattern (K : kD G Z I Ar T A Lg h) (HQ : kQ Z Ar) {c : Nat} (hc : c < Z.nC) {h' : hW} {q qj qi n : Nat} {tn : Int32} {gJ : Nat → Int64} {gI : Nat → Int32}
    (h_q : h q = none) (h_qj : h qj = none) (h_qi : h qi = none) (n_qj_q : qj ≠ q) (n_qi_q : qi ≠ q) (n_qi_qj : qi ≠ qj) (hn : n ≤ 12)
    (eP : h' q = some (ob 2 [.ref qj, .ref qi, .int tn])) (ePJ : h' qj = some (aJ G n gJ)) (ePI : h' qi = some (aI G n gI))
    (eC : h' (Z.da (100 + c)) = some (ob 0 [.int (nI c), va_rf (cz Z (Ar 2 c)), .int (Ar 3 c), .int (Ar 4 c), .int (Ar 5 c), .ref q]))
    (hfr : ∀ b, b ≠ Z.da (100 + c) → b ≠ q → b ≠ qj → b ≠ qi → h' b = h b) :
    ∃ Z', kD G Z' I Ar (va_up T (200 + c) tn) (va_up A (400 + c) gI) (va_up Lg (300 + c) gJ) h' ∧ (Z'.nC = Z.nC ∧ Z'.nL = Z.nL ∧ Z'.nX = Z.nX ∧ Z'.np = Z.np) ∧ (∀ j, j ≠ 300 + c → Z'.Sz j = Z.Sz j) ∧ Z'.Sz (300 + c) = n ∧ kF Z Z' h h' ∧ Z'.da 1 = Z.da 1 := by
  have h12 := K.1.c12
  have h80 := K.1.l80
  have J0 := K.X
  obtain ⟨jx1, J1, hj1⟩ := J0.put (q := q) (k := 200 + c) (by omega) (Or.inr (K.j0 h_q))
  obtain ⟨jx2, J2, hj2⟩ := J1.put (q := qj) (k := 300 + c) (by omega) (Or.inr (hj1 qj n_qj_q (K.j0 h_qj)))
  obtain ⟨jx3, J3, hj3⟩ := J2.put (q := qi) (k := 400 + c) (by omega) (Or.inr (hj2 qi n_qi_qj (hj1 qi n_qi_q (K.j0 h_qi))))
  let Z' : kZ := (jx3, (va_up (va_up (va_up Z.da (200 + c) q) (300 + c) qj) (400 + c) qi), (Z.nC, Z.nL, Z.nX), Z.np, va_up Z.Sz (300 + c) n, Z.Fo)
  have hd : ∀ j, ¬ (j = 200 + c ∨ j = 300 + c ∨ j = 400 + c) → Z'.da j = Z.da j := fun j hj => by
    show (va_up (va_up (va_up Z.da (200 + c) q) (300 + c) qj) (400 + c) qi) j = _
    rw [va_up_ne _ _ (fun z => hj (by omega)), va_up_ne _ _ (fun z => hj (by omega)), va_up_ne _ _ (fun z => hj (by omega))]
  have a_0 : Z'.da (200 + c) = q := by
    show (va_up (va_up (va_up Z.da (200 + c) q) (300 + c) qj) (400 + c) qi) (200 + c) = _
    rw [va_up_ne _ _ (by omega), va_up_ne _ _ (by omega), va_up_self]
  have a_1 : Z'.da (300 + c) = qj := by
    show (va_up (va_up (va_up Z.da (200 + c) q) (300 + c) qj) (400 + c) qi) (300 + c) = _
    rw [va_up_ne _ _ (by omega), va_up_self]
  have a_2 : Z'.da (400 + c) = qi := by
    show (va_up (va_up (va_up Z.da (200 + c) q) (300 + c) qj) (400 + c) qi) (400 + c) = _
    rw [va_up_self]
  have hus : ∀ k, kU Z' k ↔ (((kU Z k ∨ k = 200 + c) ∨ k = 300 + c) ∨ k = 400 + c) := fun k =>
    ⟨fun z => Or.inl (Or.inl (Or.inl z)), fun z => z.elim (fun z => z.elim (fun z => z.elim id (fun e => by rw [e]; exact kU.P (Z := Z) hc)) (fun e => by rw [e]; exact kU.PJ (Z := Z) hc)) (fun e => by rw [e]; exact kU.PI (Z := Z) hc)⟩
  have JZ : kX Z'.jx Z'.da (kU Z') := J3.cg hus
  have hW : kW G Z' := by
    refine ⟨fun k hk => (JZ.1 k hk).2, JZ.2, K.1.2.2.1, ⟨⟨fun z => ?_, fun z => ?_⟩, ⟨fun z => ?_, fun z => ?_⟩, fun a ha => ⟨fun z => ?_, fun z => ?_⟩⟩, fun c2 hc2 => ?_, fun m => ?_⟩
    · rw [hd 5 (by omega)]; exact K.1.2.2.2.1.1.1 z
    · obtain ⟨z1, z2, z3⟩ := K.1.2.2.2.1.1.2 z
      have e1 : Z'.Sz 5 = Z.Sz 5 := by show (va_up Z.Sz (300 + c) n) 5 = _; rw [va_up_ne _ _ (by omega)]
      rw [e1]
      exact ⟨z1, z2, fun i hi => by have hi : i < Z.nC := hi; show Z'.Fo 5 i = some (Z'.da (100 + i)); rw [hd _ (by omega)]; exact z3 i hi⟩
    · rw [hd 7 (by omega)]; exact K.1.2.2.2.1.2.1.1 z
    · obtain ⟨z1, z2, z3⟩ := K.1.2.2.2.1.2.1.2 z
      have e1 : Z'.Sz 7 = Z.Sz 7 := by show (va_up Z.Sz (300 + c) n) 7 = _; rw [va_up_ne _ _ (by omega)]
      rw [e1]
      exact ⟨z1, z2, fun i hi => by show Z'.Fo 7 i = some (Z'.da (1000 + i)); rw [hd _ (by omega)]; exact z3 i hi⟩
    · have ha : a < Z.nX := ha
      rw [hd _ (by omega)]; exact (K.1.2.2.2.1.2.2 a ha).1 z
    · have ha : a < Z.nX := ha
      obtain ⟨z1, z2, z3⟩ := (K.1.2.2.2.1.2.2 a ha).2 z
      have e1 : Z'.Sz (1200 + a) = Z.Sz (1200 + a) := by show (va_up Z.Sz (300 + c) n) (1200 + a) = _; rw [va_up_ne _ _ (by omega)]
      rw [e1]
      exact ⟨z1, z2, fun i hi => by show Z'.Fo (1200 + a) i = some (Z'.da (2000 + (6 * a + i))); rw [hd _ (by omega)]; exact z3 i hi⟩
    · show (va_up Z.Sz (300 + c) n) (300 + c2) ≤ 12
      by_cases e : c2 = c
      · rw [e, va_up_self]; exact hn
      · rw [va_up_ne _ _ (by omega)]; exact K.1.s12 hc2
    · show (va_up Z.Sz (300 + c) n) (3000 + m) ≤ 60
      rw [va_up_ne _ _ (by omega)]; exact K.1.s60 m
  have hkeep := kE_cg (Z' := Z') (I := I) (I' := I) (Ar := Ar) (Ar' := Ar) (T := T) (T' := va_up T (200 + c) tn) (A := A) (A' := va_up A (400 + c) gI) (Lg := Lg) (Lg' := va_up Lg (300 + c) gJ) K.1 (fun k => k ≠ 100 + c ∧ k ≠ 200 + c ∧ k ≠ 300 + c ∧ k ≠ 400 + c) (fun j => j = 200 + c ∨ j = 300 + c ∨ j = 400 + c) hd (fun j h1 h2 => by omega)
    ⟨fun c2 hc2 => by omega, HQ.1, HQ.2⟩ ⟨⟨rfl, rfl, rfl, rfl⟩, fun j hj => by rw [va_up_ne _ _ (by omega)], ⟨rfl, rfl, rfl⟩, ⟨va_up_ne _ _ (by omega), va_up_ne _ _ (by omega), va_up_ne _ _ (by omega)⟩, va_up_ne _ _ (by omega)⟩
    (fun _ => ⟨by omega, by rw [va_up_ne _ _ (by omega)], rfl⟩) (fun _ => ⟨by show (va_up Z.Sz (300 + c) n) 5 = _; rw [va_up_ne _ _ (by omega)], rfl⟩) (fun _ => ⟨by omega, by rw [va_up_ne _ _ (by omega)], rfl⟩) (fun _ => ⟨by show (va_up Z.Sz (300 + c) n) 7 = _; rw [va_up_ne _ _ (by omega)], rfl⟩)
    (fun c2 hc2 z => ⟨⟨rfl, rfl, rfl, rfl⟩, by omega⟩)
    (fun c2 hc2 z => ⟨by omega, by omega, by rw [va_up_ne _ _ (by omega)]⟩)
    (fun c2 hc2 z => ⟨by show (va_up Z.Sz (300 + c) n) (300 + c2) = _; rw [va_up_ne _ _ (by omega)], va_up_ne _ _ (by omega)⟩)
    (fun c2 hc2 z => ⟨by show (va_up Z.Sz (300 + c) n) (300 + c2) = _; rw [va_up_ne _ _ (by omega)], va_up_ne _ _ (by omega)⟩)
    (fun a ha _ => ⟨⟨rfl, rfl⟩, by omega⟩)
    (fun a ha _ => ⟨by omega, by rw [va_up_ne _ _ (by omega)], rfl⟩)
    (fun a ha _ => ⟨by show (va_up Z.Sz (300 + c) n) (1200 + a) = _; rw [va_up_ne _ _ (by omega)], rfl⟩)
    (fun a ha p hp _ => ⟨by omega, rfl, rfl, rfl⟩)
    (fun a ha p hp _ => ⟨by show (va_up Z.Sz (300 + c) n) (3000 + (6 * a + p)) = _; rw [va_up_ne _ _ (by omega)], va_up_ne _ _ (by omega)⟩)
  have huC : kU Z (100 + c) := kU.C hc
  have hold : ∀ k, kU Z k → k ≠ 100 + c → h' (Z.da k) = h (Z.da k) := fun k hk k4 => hfr _ (fun e => k4 (K.inj hk huC e)) (K.ne h_q hk) (K.ne h_qj hk) (K.ne h_qi hk)
  refine ⟨Z', ⟨hW, fun k hk => ?_⟩, ⟨rfl, rfl, rfl, rfl⟩, fun j hj1 => va_up_ne _ _ hj1, va_up_self _ _ _, fun b hb hj => ?_, hd 1 (by omega)⟩
  · have hk : kU Z k := hk
    by_cases k1 : k = 100 + c
    · subst k1
      rw [hd _ (by omega), eC, kE_C (by omega), a_0, cz_cg (Z := Z) (Z' := Z') (HQ.1 c hc) (by omega) (fun c2 hc2 => hd _ (by omega))]
    · by_cases k2 : k = 200 + c
      · subst k2
        rw [a_0, eP, kE_P (by omega), a_1, a_2, va_up_self]
      · by_cases k3 : k = 300 + c
        · subst k3
          rw [a_1, ePJ, kE_PJ (by omega), va_up_self]
          show _ = some (aJ G ((va_up Z.Sz (300 + c) n) (300 + c)) _)
          rw [va_up_self]
        · by_cases k4 : k = 400 + c
          · subst k4
            rw [a_2, ePI, kE_PI (by omega), va_up_self]
            show _ = some (aI G ((va_up Z.Sz (300 + c) n) (300 + c)) _)
            rw [va_up_self]
          · rw [hd k (fun z => by omega), hold k hk k1, K.2 k hk, hkeep k hk ⟨k1, k2, k3, k4⟩]
  · have nq : ∀ {z}, h z = none → b ≠ z := fun hz e => hb (e ▸ hz)
    refine ⟨hfr b (fun e => ?_) (nq h_q) (nq h_qj) (nq h_qi), hj3 b (nq h_qi) (hj2 b (nq h_qj) (hj1 b (nq h_q) hj))⟩
    have := (K.1.1 _ huC b).mpr e
    rw [hj] at this; omega
set_option maxHeartbeats 4000000 in
/-- a letter comes, without points, in no list -/
theorem tr_letter (K : kD G Z I Ar T A Lg h) (HQ : kQ Z Ar) (hX : Z.nX < 80) {h' : hW} {q qk : Nat} {x0 yb td : Int32}
    (h_q : h q = none) (h_qk : h qk = none) (n_qk_q : qk ≠ q)
    (eL : h' q = some (ob 1 [.int yb, .int td, .ref qk])) (eK : h' qk = some (ob 8 [.int x0, .ref (G.2.2.2.1 3), .int 0]))
    (hfr : ∀ b, b ≠ q → b ≠ qk → h' b = h b) :
    ∃ Z', kD G Z' I (va_up (va_up Ar 13 (upd (Ar 13) Z.nX yb)) 14 (upd (Ar 14) Z.nX td)) (va_up T (1100 + Z.nX) x0) A Lg h' ∧ (Z'.nC = Z.nC ∧ Z'.nL = Z.nL ∧ Z'.nX = Z.nX + 1 ∧ Z'.np = va_up Z.np Z.nX 0) ∧ Z'.Sz = Z.Sz ∧ kF Z Z' h h' ∧ Z'.da 1 = Z.da 1 ∧ Z'.da (1000 + Z.nX) = q ∧ Z'.da (1100 + Z.nX) = qk := by
  have h12 := K.1.c12
  have hlx := K.1.lx
  have J0 := K.X
  obtain ⟨jx1, J1, hj1⟩ := J0.put (q := q) (k := 1000 + Z.nX) (by omega) (Or.inr (K.j0 h_q))
  obtain ⟨jx2, J2, hj2⟩ := J1.put (q := qk) (k := 1100 + Z.nX) (by omega) (Or.inr (hj1 qk n_qk_q (K.j0 h_qk)))
  let Z' : kZ := (jx2, (va_up (va_up (va_up Z.da (1000 + Z.nX) q) (1100 + Z.nX) qk) (1200 + Z.nX) (G.2.2.2.1 3)), (Z.nC, Z.nL, Z.nX + 1), va_up Z.np Z.nX 0, Z.Sz, Z.Fo)
  have hd : ∀ j, ¬ (j = 1000 + Z.nX ∨ j = 1100 + Z.nX ∨ j = 1200 + Z.nX) → Z'.da j = Z.da j := fun j hj => by
    show (va_up (va_up (va_up Z.da (1000 + Z.nX) q) (1100 + Z.nX) qk) (1200 + Z.nX) (G.2.2.2.1 3)) j = _
    rw [va_up_ne _ _ (fun z => hj (by omega)), va_up_ne _ _ (fun z => hj (by omega)), va_up_ne _ _ (fun z => hj (by omega))]
  have a_0 : Z'.da (1000 + Z.nX) = q := by
    show (va_up (va_up (va_up Z.da (1000 + Z.nX) q) (1100 + Z.nX) qk) (1200 + Z.nX) (G.2.2.2.1 3)) (1000 + Z.nX) = _
    rw [va_up_ne _ _ (by omega), va_up_ne _ _ (by omega), va_up_self]
  have a_1 : Z'.da (1100 + Z.nX) = qk := by
    show (va_up (va_up (va_up Z.da (1000 + Z.nX) q) (1100 + Z.nX) qk) (1200 + Z.nX) (G.2.2.2.1 3)) (1100 + Z.nX) = _
    rw [va_up_ne _ _ (by omega), va_up_self]
  have a_2 : Z'.da (1200 + Z.nX) = (G.2.2.2.1 3) := by
    show (va_up (va_up (va_up Z.da (1000 + Z.nX) q) (1100 + Z.nX) qk) (1200 + Z.nX) (G.2.2.2.1 3)) (1200 + Z.nX) = _
    rw [va_up_self]
  have npo : ∀ a, a < Z.nX → Z'.np a = Z.np a := fun a ha => va_up_ne _ _ (by omega)
  have npn : Z'.np Z.nX = 0 := va_up_self _ _ _
  have hus : ∀ k, kU Z' k ↔ ((kU Z k ∨ k = 1000 + Z.nX) ∨ k = 1100 + Z.nX) := by
    intro k
    constructor
    · rintro (z | z | ⟨a, ha, z⟩)
      · exact Or.inl (Or.inl (Or.inl z))
      · exact Or.inl (Or.inl (Or.inr (Or.inl z)))
      · have ha : a < Z.nX + 1 := ha
        by_cases e : a = Z.nX
        · subst e
          rw [npn] at z
          rcases z with z | z | ⟨-, z⟩ | ⟨p, hp, -⟩
          · exact Or.inl (Or.inr z)
          · exact Or.inr z
          · exact absurd z (Nat.lt_irrefl _)
          · exact absurd hp (Nat.not_lt_zero _)
        · rw [npo a (by omega)] at z
          exact Or.inl (Or.inl (Or.inr (Or.inr ⟨a, by omega, z⟩)))
    · have hxn : Z.nX < Z'.nX := Nat.lt_succ_self _
      rintro ((z | z) | z)
      · rcases z with z | z | ⟨a, ha, z⟩
        · exact Or.inl z
        · exact Or.inr (Or.inl z)
        · refine Or.inr (Or.inr ⟨a, Nat.lt_trans ha hxn, ?_⟩)
          rw [npo a ha]; exact z
      · exact Or.inr (Or.inr ⟨_, hxn, Or.inl z⟩)
      · exact Or.inr (Or.inr ⟨_, hxn, Or.inr (Or.inl z)⟩)
  have nu : ∀ j, (j = 1000 + Z.nX ∨ j = 1100 + Z.nX ∨ j = 1200 + Z.nX) → ¬ kU Z j := by
    rintro j hj (⟨k1, k2, -⟩ | ⟨c, hc, z | z | z | z⟩ | ⟨a, ha, z | z | ⟨z, -⟩ | ⟨p, -, z | z⟩⟩) <;> omega
  have JZ : kX Z'.jx Z'.da (kU Z') := by
    have J2' := J2.cg hus
    refine ⟨fun k hk => ⟨(J2'.1 k hk).1, fun b => ?_⟩, J2'.2⟩
    have hne : k ≠ 1200 + Z.nX := fun e => by
      rcases (hus k).mp hk with (z | z) | z
      · exact nu k (by omega) z
      · omega
      · omega
    show jx2 b = k ↔ b = (va_up (va_up (va_up Z.da (1000 + Z.nX) q) (1100 + Z.nX) qk) (1200 + Z.nX) (G.2.2.2.1 3)) k
    rw [va_up_ne _ _ hne]
    exact (J2'.1 k hk).2 b
  have hW : kW G Z' := by
    refine ⟨fun k hk => (JZ.1 k hk).2, JZ.2, ⟨K.1.c12, by show Z.nL ≤ Z.nX + 1; omega, by show Z.nX + 1 ≤ 80; omega, fun a => ?_⟩, ⟨⟨fun z => ?_, fun z => ?_⟩, ⟨fun z => ?_, fun z => ?_⟩, fun a ha => ⟨fun z => ?_, fun z => ?_⟩⟩, K.1.2.2.2.2.1, K.1.2.2.2.2.2⟩
    · show (va_up Z.np Z.nX 0) a ≤ 6
      by_cases e : a = Z.nX
      · rw [e, va_up_self]; omega
      · rw [va_up_ne _ _ e]; exact K.1.p6 a
    · rw [hd 5 (by omega)]; exact K.1.2.2.2.1.1.1 z
    · obtain ⟨z1, z2, z3⟩ := K.1.2.2.2.1.1.2 z
      exact ⟨z1, z2, fun i hi => by have hi : i < Z.nC := hi; show Z'.Fo 5 i = some (Z'.da (100 + i)); rw [hd _ (by omega)]; exact z3 i hi⟩
    · rw [hd 7 (by omega)]; exact K.1.2.2.2.1.2.1.1 z
    · obtain ⟨z1, z2, z3⟩ := K.1.2.2.2.1.2.1.2 z
      exact ⟨z1, z2, fun i hi => by have hi : i < Z.nL := hi; show Z'.Fo 7 i = some (Z'.da (1000 + i)); rw [hd _ (by omega)]; exact z3 i hi⟩
    · have ha : a < Z.nX + 1 := ha
      by_cases e : a = Z.nX
      · rw [e, a_2]
      · rw [npo a (by omega)] at z
        rw [hd _ (by omega)]; exact (K.1.2.2.2.1.2.2 a (by omega)).1 z
    · have ha : a < Z.nX + 1 := ha
      by_cases e : a = Z.nX
      · rw [e, npn] at z; exact absurd z (Nat.lt_irrefl _)
      · rw [npo a (by omega)] at z ⊢
        obtain ⟨z1, z2, z3⟩ := (K.1.2.2.2.1.2.2 a (by omega)).2 z
        have hp6 := K.1.p6 a
        exact ⟨z1, z2, fun i hi => by show Z'.Fo (1200 + a) i = some (Z'.da (2000 + (6 * a + i))); rw [hd _ (by omega)]; exact z3 i hi⟩
  have hkeep := kE_cg (Z' := Z') (I := I) (I' := I) (Ar := Ar) (Ar' := va_up (va_up Ar 13 (upd (Ar 13) Z.nX yb)) 14 (upd (Ar 14) Z.nX td)) (T := T) (T' := va_up T (1100 + Z.nX) x0) (A := A) (A' := A) (Lg := Lg) (Lg' := Lg) K.1 (fun _ => True) (fun j => j = 1000 + Z.nX ∨ j = 1100 + Z.nX ∨ j = 1200 + Z.nX) hd (fun j h1 h2 => by omega)
    ⟨fun c2 hc2 => by omega, HQ.1, HQ.2⟩ ⟨⟨rfl, rfl, rfl, rfl⟩, fun j hj => by rw [va_up_ne _ _ (by omega)], ⟨rfl, rfl, rfl⟩, ⟨rfl, rfl, rfl⟩, rfl⟩
    (fun _ => ⟨by omega, by rw [va_up_ne _ _ (by omega)], rfl⟩) (fun _ => ⟨rfl, rfl⟩) (fun _ => ⟨by omega, by rw [va_up_ne _ _ (by omega)], rfl⟩) (fun _ => ⟨rfl, rfl⟩)
    (fun c2 hc2 z => ⟨⟨rfl, rfl, rfl, rfl⟩, by omega⟩)
    (fun c2 hc2 z => ⟨by omega, by omega, by rw [va_up_ne _ _ (by omega)]⟩)
    (fun c2 hc2 z => ⟨rfl, rfl⟩) (fun c2 hc2 z => ⟨rfl, rfl⟩)
    (fun a ha _ => ⟨⟨(pk_un (by omega) : upd (Ar 13) Z.nX yb a = Ar 13 a), (pk_un (by omega) : upd (Ar 14) Z.nX td a = Ar 14 a)⟩, by omega⟩)
    (fun a ha _ => ⟨by omega, by rw [va_up_ne _ _ (by omega)], npo a ha⟩)
    (fun a ha _ => ⟨rfl, rfl⟩)
    (fun a ha p hp _ => ⟨by have := K.1.p6 a; omega, rfl, rfl, rfl⟩)
    (fun a ha p hp _ => ⟨rfl, rfl⟩)
  have hold : ∀ k, kU Z k → h' (Z.da k) = h (Z.da k) := fun k hk => hfr _ (K.ne h_q hk) (K.ne h_qk hk)
  refine ⟨Z', ⟨hW, fun k hk => ?_⟩, ⟨rfl, rfl, rfl, rfl⟩, rfl, fun b hb hj => ?_, hd 1 (by omega), a_0, a_1⟩
  · rcases (hus k).mp hk with (hz | rfl) | rfl
    · rw [hd k (fun z => by rcases z with z | z | z <;> exact nu k (by omega) hz), hold k hz, K.2 k hz, hkeep k hz trivial]
    · rw [a_0, eL, kE_L (by omega), a_1]
      have z2 : (va_up (va_up Ar 13 (upd (Ar 13) Z.nX yb)) 14 (upd (Ar 14) Z.nX td)) 13 Z.nX = yb := pk_us
      have z3 : (va_up (va_up Ar 13 (upd (Ar 13) Z.nX yb)) 14 (upd (Ar 14) Z.nX td)) 14 Z.nX = td := pk_us
      rw [z2, z3]
    · rw [a_1, eK, kE_LL (by omega), a_2, va_up_self, npn]
      rfl
  · have nq : ∀ {z}, h z = none → b ≠ z := fun hz e => hb (e ▸ hz)
    exact ⟨hfr b (nq h_q) (nq h_qk), hj2 b (nq h_qk) (hj1 b (nq h_q) hj)⟩
end K29
