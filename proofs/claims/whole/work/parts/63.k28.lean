section K28
variable {G : gG} {l : Launch} {h h0 : hW} {Z : kZ} {I : Nat → Int32} {Ar : Nat → Nat → Int32} {T : Nat → Int32} {A : Nat → Nat → Int32} {Lg : Nat → Nat → Int64}
/-- an inverse, addresses, the codes in use -/
def kX (jx da : Nat → Nat) (us : Nat → Prop) : Prop := (∀ k, us k → k ≠ 0 ∧ ∀ b, jx b = k ↔ b = da k) ∧ ∀ b, jx b ≠ 0 → us (jx b)
section KX
variable {jx da : Nat → Nat} {us : Nat → Prop}
theorem kX.new (J : kX jx da us) {q k : Nat} (hq : jx q = 0) (hk : ¬ us k) (h0 : k ≠ 0) : kX (va_up jx q k) (va_up da k q) (fun j => us j ∨ j = k) := by
  refine ⟨fun j hj => ?_, fun b hb => ?_⟩
  · by_cases e : j = k
    · subst e
      refine ⟨h0, fun b => ?_⟩
      rw [va_up_self]
      by_cases eb : b = q
      · rw [eb, va_up_self]; exact ⟨fun _ => rfl, fun _ => rfl⟩
      · rw [va_up_ne _ _ eb]
        exact ⟨fun z => absurd (z ▸ J.2 b (by rw [z]; exact h0)) hk, fun z => absurd z eb⟩
    · have hu := hj.resolve_right e
      obtain ⟨j1, j2⟩ := J.1 j hu
      refine ⟨j1, fun b => ?_⟩
      rw [va_up_ne _ _ e]
      by_cases eb : b = q
      · rw [eb, va_up_self]
        exact ⟨fun z => absurd z.symm e, fun z => absurd (((j2 q).mpr z).symm.trans hq) j1⟩
      · rw [va_up_ne _ _ eb]; exact j2 b
  · by_cases eb : b = q
    · rw [eb, va_up_self]; exact Or.inr rfl
    · rw [va_up_ne _ _ eb] at hb ⊢; exact Or.inl (J.2 b hb)
theorem kX.move (J : kX jx da us) {q k : Nat} (hq : jx q = 0) (hk : us k) : kX (mvJ jx q k) (va_up da k q) us := by
  obtain ⟨k0, k2⟩ := J.1 k hk
  refine ⟨fun j hj => ?_, fun b hb => ?_⟩
  · by_cases e : j = k
    · subst e
      refine ⟨k0, fun b => ?_⟩
      rw [va_up_self]
      unfold mvJ
      by_cases eb : b = q
      · rw [if_pos eb]; exact ⟨fun _ => eb, fun _ => rfl⟩
      · rw [if_neg eb]
        by_cases ek : jx b = j
        · rw [if_pos ek]; exact ⟨fun z => absurd z.symm k0, fun z => absurd z eb⟩
        · rw [if_neg ek]; exact ⟨fun z => absurd z ek, fun z => absurd z eb⟩
    · obtain ⟨j1, j2⟩ := J.1 j hj
      refine ⟨j1, fun b => ?_⟩
      rw [va_up_ne _ _ e]
      unfold mvJ
      by_cases eb : b = q
      · rw [if_pos eb]
        exact ⟨fun z => absurd z.symm e, fun z => absurd (((j2 q).mpr (eb ▸ z)).symm.trans hq) j1⟩
      · rw [if_neg eb]
        by_cases ek : jx b = k
        · rw [if_pos ek]
          exact ⟨fun z => absurd z.symm j1, fun z => absurd (((j2 b).mpr z).symm.trans ek) e⟩
        · rw [if_neg ek]; exact j2 b
  · unfold mvJ at hb ⊢
    by_cases eb : b = q
    · rw [if_pos eb]; exact hk
    · rw [if_neg eb] at hb ⊢
      by_cases ek : jx b = k
      · rw [if_pos ek] at hb; exact absurd rfl hb
      · rw [if_neg ek] at hb ⊢; exact J.2 b hb
theorem kX.cg (J : kX jx da us) {us' : Nat → Prop} (hu : ∀ k, us' k ↔ us k) : kX jx da us' := ⟨fun k hk => J.1 k ((hu k).mp hk), fun b hb => (hu _).mpr (J.2 b hb)⟩
/-- a cell of code k comes, moves or stays -/
theorem kX.put (J : kX jx da us) {q k : Nat} (h0 : k ≠ 0) (hq : (us k ∧ q = da k) ∨ jx q = 0) : ∃ jx', kX jx' (va_up da k q) (fun j => us j ∨ j = k) ∧ (∀ b, b ≠ q → jx b = 0 → jx' b = 0) := by
  by_cases hk : us k
  · rcases hq with ⟨-, rfl⟩ | hq
    · refine ⟨jx, ?_, fun b _ hb => hb⟩
      rw [va_up_id]
      exact J.cg (fun j => ⟨fun z => z.elim id (fun e => e ▸ hk), Or.inl⟩)
    · refine ⟨mvJ jx q k, (J.move hq hk).cg (fun j => ⟨fun z => z.elim id (fun e => e ▸ hk), Or.inl⟩), fun b hbq hb => ?_⟩
      unfold mvJ
      rw [if_neg hbq, if_neg (fun z => h0 (z.symm.trans hb)), hb]
  · have hq := hq.resolve_left (fun z => hk z.1)
    refine ⟨va_up jx q k, J.new hq hk h0, fun b hbq hb => ?_⟩
    rw [va_up_ne _ _ hbq]; exact hb
end KX
theorem kD.X (K : kD G Z I Ar T A Lg h) : kX Z.jx Z.da (kU Z) := ⟨fun k hk => ⟨hk.n0, K.1.1 k hk⟩, K.1.2.1⟩
theorem kD.j0 (K : kD G Z I Ar T A Lg h) {q : Nat} (hq : h q = none) : Z.jx q = 0 := K.J.j0 hq
theorem kD.ne (K : kD G Z I Ar T A Lg h) {q k : Nat} (hq : h q = none) (hk : kU Z k) : Z.da k ≠ q := fun e => by
  have := K.2 k hk
  rw [e, hq] at this; cases this
theorem kD.inj (K : kD G Z I Ar T A Lg h) {j k : Nat} (hj : kU Z j) (hk : kU Z k) (e : Z.da j = Z.da k) : j = k := ((K.1.1 j hj _).mpr rfl).symm.trans ((K.1.1 k hk _).mpr e)
/-- what a call keeps beside the desk -/
def kF (Z Z' : kZ) (h h' : hW) : Prop := ∀ b, h b ≠ none → Z.jx b = 0 → h' b = h b ∧ Z'.jx b = 0
theorem kF.rf {Z : kZ} {h : hW} : kF Z Z h h := fun b _ hj => ⟨rfl, hj⟩
theorem kF.tr {Z Z1 Z2 : kZ} {h h1 h2 : hW} (a : kF Z Z1 h h1) (b : kF Z1 Z2 h1 h2) : kF Z Z2 h h2 := fun x hx hj => by
  obtain ⟨a1, a2⟩ := a x hx hj
  obtain ⟨b1, b2⟩ := b x (by rw [a1]; exact hx) a2
  exact ⟨b1.trans a1, b2⟩
theorem kF.H {Z : kZ} : kF Z Z h (kH G Z I Ar T A Lg h) := fun b _ hj => ⟨by unfold kH oH; rw [if_pos hj], hj⟩
abbrev caC (Ar : Nat → Nat → Int32) (n : Nat) (ab dk dd th : Int32) : Nat → Nat → Int32 := va_up (va_up (va_up (va_up Ar 2 (upd (Ar 2) n ab)) 3 (upd (Ar 3) n dk)) 4 (upd (Ar 4) n dd)) 5 (upd (Ar 5) n th)
/-- causes and letters' numbers are causes -/
def kQ (Z : kZ) (Ar : Nat → Nat → Int32) : Prop := (∀ c, c < Z.nC → kN Z.nC (Ar 2 c)) ∧ ∀ a, a < Z.nX → ∀ p, p < Z.np a → kN Z.nC (Ar 22 (6 * a + p))
set_option maxHeartbeats 4000000 in
/-- a cause comes -/
theorem tr_cause (K : kD G Z I Ar T A Lg h) (HQ : kQ Z Ar) (h12 : Z.nC < 12) {h' : hW} {q qj qi qc e' n C : Nat} {f' : Nat → Option Nat} {x0 tn ab dk dd th : Int32} {gJ : Nat → Int64} {gI : Nat → Int32}
    (hq : h q = none) (hqj : h qj = none) (hqi : h qi = none) (hqc : h qc = none) (dq : q ≠ qj ∧ q ≠ qi ∧ q ≠ qc ∧ qj ≠ qi ∧ qj ≠ qc ∧ qi ≠ qc) (hn : n ≤ 12)
    (e4 : h' (Z.da 4) = some (ob 8 [.int x0, .ref e', .int (nI (Z.nC + 1))])) (e5 : h' e' = some (aO G C f')) (hCa : C ∈ alC) (hCn : Z.nC + 1 ≤ C) (hf : ∀ i, i < Z.nC → f' i = Z.Fo 5 i) (hf2 : f' Z.nC = some qc)
    (he : (0 < Z.nC ∧ e' = Z.da 5) ∨ (h e' = none ∧ e' ≠ q ∧ e' ≠ qj ∧ e' ≠ qi ∧ e' ≠ qc))
    (eP : h' q = some (ob 2 [.ref qj, .ref qi, .int tn])) (ePJ : h' qj = some (aJ G n gJ)) (ePI : h' qi = some (aI G n gI))
    (eC : h' qc = some (ob 0 [.int (nI Z.nC), va_rf (cz Z ab), .int dk, .int dd, .int th, .ref q])) (hab : kN Z.nC ab)
    (hfr : ∀ b, b ≠ Z.da 4 → b ≠ e' → b ≠ q → b ≠ qj → b ≠ qi → b ≠ qc → h' b = h b) :
    ∃ Z', kD G Z' I (caC Ar Z.nC ab dk dd th) (va_up (va_up T 6 x0) (200 + Z.nC) tn) (va_up A (400 + Z.nC) gI) (va_up Lg (300 + Z.nC) gJ) h' ∧ (Z'.nC = Z.nC + 1 ∧ Z'.nL = Z.nL ∧ Z'.nX = Z.nX ∧ Z'.np = Z.np) ∧ (∀ j, j ≠ 5 → j ≠ 300 + Z.nC → Z'.Sz j = Z.Sz j) ∧ Z'.Sz (300 + Z.nC) = n ∧ kF Z Z' h h' ∧ Z'.da 1 = Z.da 1 := by
  have h80 := K.1.l80
  obtain ⟨d1, d2, d3, d4, d5, d6⟩ := dq
  have nu : ∀ j, (j = 100 + Z.nC ∨ j = 200 + Z.nC ∨ j = 300 + Z.nC ∨ j = 400 + Z.nC) → ¬ kU Z j := by
    rintro j hj (⟨k1, k2, -⟩ | ⟨c, hc, z | z | z | z⟩ | ⟨a, ha, z | z | ⟨z, -⟩ | ⟨p, -, z | z⟩⟩) <;> omega
  have J1 := K.X.new (k := 200 + Z.nC) (K.j0 hq) (nu _ (by omega)) (by omega)
  have J2 := J1.new (k := 300 + Z.nC) (by rw [va_up_ne _ _ d1.symm]; exact K.j0 hqj) (fun z => z.elim (nu _ (by omega)) (by omega)) (by omega)
  have J3 := J2.new (k := 400 + Z.nC) (by rw [va_up_ne _ _ d4.symm, va_up_ne _ _ d2.symm]; exact K.j0 hqi) (fun z => z.elim (fun z => z.elim (nu _ (by omega)) (by omega)) (by omega)) (by omega)
  have J4 := J3.new (k := 100 + Z.nC) (by rw [va_up_ne _ _ d6.symm, va_up_ne _ _ d5.symm, va_up_ne _ _ d3.symm]; exact K.j0 hqc) (fun z => z.elim (fun z => z.elim (fun z => z.elim (nu _ (by omega)) (by omega)) (by omega)) (by omega)) (by omega)
  obtain ⟨jx', J5, hj5⟩ := J4.put (q := e') (k := 5) (by decide) (by
    rcases he with ⟨z1, z2⟩ | ⟨z1, z2, z3, z4, z5⟩
    · refine Or.inl ⟨Or.inl (Or.inl (Or.inl (Or.inl (Or.inl ⟨by decide, by decide, fun _ => z1, fun z => absurd z (by decide)⟩)))), ?_⟩
      rw [va_up_ne _ _ (by omega), va_up_ne _ _ (by omega), va_up_ne _ _ (by omega), va_up_ne _ _ (by omega)]; exact z2
    · refine Or.inr ?_
      rw [va_up_ne _ _ z5, va_up_ne _ _ z4, va_up_ne _ _ z3, va_up_ne _ _ z2]; exact K.j0 z1)
  let Z' : kZ := (jx', (va_up (va_up (va_up (va_up (va_up Z.da (200 + Z.nC) q) (300 + Z.nC) qj) (400 + Z.nC) qi) (100 + Z.nC) qc) 5 e'), (Z.nC + 1, Z.nL, Z.nX), Z.np, va_up (va_up Z.Sz 5 C) (300 + Z.nC) n, va_up Z.Fo 5 f')
  have hd : ∀ j, ¬ (j = 5 ∨ j = 100 + Z.nC ∨ j = 200 + Z.nC ∨ j = 300 + Z.nC ∨ j = 400 + Z.nC) → Z'.da j = Z.da j := fun j hj => by
    show (va_up (va_up (va_up (va_up (va_up Z.da (200 + Z.nC) q) (300 + Z.nC) qj) (400 + Z.nC) qi) (100 + Z.nC) qc) 5 e') j = _
    rw [va_up_ne _ _ (fun z => hj (by omega)), va_up_ne _ _ (fun z => hj (by omega)), va_up_ne _ _ (fun z => hj (by omega)), va_up_ne _ _ (fun z => hj (by omega)), va_up_ne _ _ (fun z => hj (by omega))]
  have a5 : Z'.da 5 = e' := by
    show (va_up (va_up (va_up (va_up (va_up Z.da (200 + Z.nC) q) (300 + Z.nC) qj) (400 + Z.nC) qi) (100 + Z.nC) qc) 5 e') 5 = _
    rw [va_up_self]
  have aC : Z'.da (100 + Z.nC) = qc := by
    show (va_up (va_up (va_up (va_up (va_up Z.da (200 + Z.nC) q) (300 + Z.nC) qj) (400 + Z.nC) qi) (100 + Z.nC) qc) 5 e') (100 + Z.nC) = _
    rw [va_up_ne _ _ (by omega), va_up_self]
  have aP : Z'.da (200 + Z.nC) = q := by
    show (va_up (va_up (va_up (va_up (va_up Z.da (200 + Z.nC) q) (300 + Z.nC) qj) (400 + Z.nC) qi) (100 + Z.nC) qc) 5 e') (200 + Z.nC) = _
    rw [va_up_ne _ _ (by omega), va_up_ne _ _ (by omega), va_up_ne _ _ (by omega), va_up_ne _ _ (by omega), va_up_self]
  have aPJ : Z'.da (300 + Z.nC) = qj := by
    show (va_up (va_up (va_up (va_up (va_up Z.da (200 + Z.nC) q) (300 + Z.nC) qj) (400 + Z.nC) qi) (100 + Z.nC) qc) 5 e') (300 + Z.nC) = _
    rw [va_up_ne _ _ (by omega), va_up_ne _ _ (by omega), va_up_ne _ _ (by omega), va_up_self]
  have aPI : Z'.da (400 + Z.nC) = qi := by
    show (va_up (va_up (va_up (va_up (va_up Z.da (200 + Z.nC) q) (300 + Z.nC) qj) (400 + Z.nC) qi) (100 + Z.nC) qc) 5 e') (400 + Z.nC) = _
    rw [va_up_ne _ _ (by omega), va_up_ne _ _ (by omega), va_up_self]
  have hus : ∀ k, kU Z' k ↔ ((((kU Z k ∨ k = 200 + Z.nC) ∨ k = 300 + Z.nC) ∨ k = 400 + Z.nC) ∨ k = 100 + Z.nC) ∨ k = 5 := by
    intro k
    constructor
    · rintro (⟨k1, k2, k5, k7⟩ | ⟨c, hc, z⟩ | ⟨a, ha, z⟩)
      · by_cases e : k = 5
        · exact Or.inr e
        · exact Or.inl (Or.inl (Or.inl (Or.inl (Or.inl (Or.inl ⟨k1, k2, fun z => absurd z e, k7⟩)))))
      · have hc : c < Z.nC + 1 := hc
        by_cases e : c = Z.nC
        · subst e; rcases z with z | z | z | z
          · exact Or.inl (Or.inr z)
          · exact Or.inl (Or.inl (Or.inl (Or.inl (Or.inr z))))
          · exact Or.inl (Or.inl (Or.inl (Or.inr z)))
          · exact Or.inl (Or.inl (Or.inr z))
        · exact Or.inl (Or.inl (Or.inl (Or.inl (Or.inl (Or.inr (Or.inl ⟨c, by omega, z⟩))))))
      · exact Or.inl (Or.inl (Or.inl (Or.inl (Or.inl (Or.inr (Or.inr ⟨a, ha, z⟩))))))
    · have hcn : Z.nC < Z'.nC := Nat.lt_succ_self _
      rintro (((((z | z) | z) | z) | z) | z)
      · rcases z with ⟨k1, k2, k5, k7⟩ | ⟨c, hc, z⟩ | ⟨a, ha, z⟩
        · exact Or.inl ⟨k1, k2, fun z => Nat.lt_of_le_of_lt (Nat.zero_le _) hcn, k7⟩
        · exact Or.inr (Or.inl ⟨c, Nat.lt_trans hc hcn, z⟩)
        · exact Or.inr (Or.inr ⟨a, ha, z⟩)
      · exact Or.inr (Or.inl ⟨_, hcn, Or.inr (Or.inl z)⟩)
      · exact Or.inr (Or.inl ⟨_, hcn, Or.inr (Or.inr (Or.inl z))⟩)
      · exact Or.inr (Or.inl ⟨_, hcn, Or.inr (Or.inr (Or.inr z))⟩)
      · exact Or.inr (Or.inl ⟨_, hcn, Or.inl z⟩)
      · exact Or.inl ⟨by omega, by omega, fun _ => Nat.lt_of_le_of_lt (Nat.zero_le _) hcn, fun e => by omega⟩
  have JZ : kX Z'.jx Z'.da (kU Z') := J5.cg hus
  have hW : kW G Z' := by
    refine ⟨fun k hk => (JZ.1 k hk).2, JZ.2, ⟨by show Z.nC + 1 ≤ 12; omega, K.1.lx, K.1.l80, K.1.p6⟩, ⟨⟨fun z => absurd z (Nat.succ_ne_zero _), fun _ => ⟨?_, ?_, fun i hi => ?_⟩⟩, ?_, fun a ha => ?_⟩, fun c hc => ?_, fun m => ?_⟩
    · show va_up (va_up Z.Sz 5 C) (300 + Z.nC) n 5 ∈ alC
      rw [va_up_ne _ _ (by omega), va_up_self]; exact hCa
    · show Z.nC + 1 ≤ va_up (va_up Z.Sz 5 C) (300 + Z.nC) n 5
      rw [va_up_ne _ _ (by omega), va_up_self]; exact hCn
    · show va_up Z.Fo 5 f' 5 i = some (Z'.da (100 + i))
      rw [va_up_self]
      have hi : i < Z.nC + 1 := hi
      by_cases e : i = Z.nC
      · rw [e, aC]; exact hf2
      · rw [hf i (by omega), hd _ (by omega)]
        exact (K.1.2.2.2.1.1.2 (by omega)).2.2 i (by omega)
    · refine ⟨fun z => ?_, fun z => ?_⟩
      · rw [hd 7 (by omega)]; exact K.1.2.2.2.1.2.1.1 z
      · obtain ⟨z1, z2, z3⟩ := K.1.2.2.2.1.2.1.2 z
        refine ⟨?_, ?_, fun i hi => ?_⟩
        · show va_up (va_up Z.Sz 5 C) (300 + Z.nC) n 7 ∈ alC
          rw [va_up_ne _ _ (by omega), va_up_ne _ _ (by decide)]; exact z1
        · show Z.nL ≤ va_up (va_up Z.Sz 5 C) (300 + Z.nC) n 7
          rw [va_up_ne _ _ (by omega), va_up_ne _ _ (by decide)]; exact z2
        · show va_up Z.Fo 5 f' 7 i = some (Z'.da (1000 + i))
          rw [va_up_ne _ _ (by decide), hd _ (by omega)]; exact z3 i hi
    · have ha : a < Z.nX := ha
      obtain ⟨w1, w2⟩ := K.1.2.2.2.1.2.2 a ha
      refine ⟨fun z => ?_, fun z => ?_⟩
      · rw [hd _ (by omega)]; exact w1 z
      · obtain ⟨z1, z2, z3⟩ := w2 z
        refine ⟨?_, ?_, fun i hi => ?_⟩
        · show va_up (va_up Z.Sz 5 C) (300 + Z.nC) n (1200 + a) ∈ alC
          rw [va_up_ne _ _ (by omega), va_up_ne _ _ (by omega)]; exact z1
        · show Z.np a ≤ va_up (va_up Z.Sz 5 C) (300 + Z.nC) n (1200 + a)
          rw [va_up_ne _ _ (by omega), va_up_ne _ _ (by omega)]; exact z2
        · show va_up Z.Fo 5 f' (1200 + a) i = some (Z'.da (2000 + (6 * a + i)))
          rw [va_up_ne _ _ (by omega), hd _ (by omega)]; exact z3 i hi
    · have hc : c < Z.nC + 1 := hc
      show va_up (va_up Z.Sz 5 C) (300 + Z.nC) n (300 + c) ≤ 12
      by_cases e : c = Z.nC
      · rw [e, va_up_self]; exact hn
      · rw [va_up_ne _ _ (by omega), va_up_ne _ _ (by omega)]; exact K.1.s12 (by omega)
    · show va_up (va_up Z.Sz 5 C) (300 + Z.nC) n (3000 + m) ≤ 60
      rw [va_up_ne _ _ (by omega), va_up_ne _ _ (by omega)]; exact K.1.s60 m
  have hcn : ∀ c, c < Z.nC → ∀ {f9 : Nat → Int32} {x9 : Int32}, upd f9 Z.nC x9 c = f9 c := fun c hc => pk_un (by omega)
  have hkeep := kE_cg (Z' := Z') (I := I) (I' := I) (Ar := Ar) (Ar' := caC Ar Z.nC ab dk dd th) (T := T) (T' := va_up (va_up T 6 x0) (200 + Z.nC) tn) (A := A) (A' := va_up A (400 + Z.nC) gI) (Lg := Lg) (Lg' := va_up Lg (300 + Z.nC) gJ) K.1 (fun k => k ≠ 4 ∧ k ≠ 5) (fun j => j = 5 ∨ j = 100 + Z.nC ∨ j = 200 + Z.nC ∨ j = 300 + Z.nC ∨ j = 400 + Z.nC) hd (fun j h1 h2 => by omega)
    ⟨fun c hc => by omega, HQ.1, HQ.2⟩ ⟨⟨rfl, rfl, rfl, rfl⟩, fun j hj => by rw [va_up_ne _ _ (by omega), va_up_ne _ _ (by omega)], ⟨rfl, rfl, rfl⟩, ⟨va_up_ne _ _ (by omega), va_up_ne _ _ (by omega), va_up_ne _ _ (by omega)⟩, va_up_ne _ _ (by omega)⟩
    (fun z => absurd rfl z.1) (fun z => absurd rfl z.2) (fun _ => ⟨by omega, by rw [va_up_ne _ _ (by omega), va_up_ne _ _ (by decide)], rfl⟩) (fun _ => ⟨by show va_up (va_up Z.Sz 5 C) (300 + Z.nC) n 7 = _; rw [va_up_ne _ _ (by omega), va_up_ne _ _ (by decide)], (show va_up Z.Fo 5 f' 7 = Z.Fo 7 from va_up_ne _ _ (by decide))⟩)
    (fun c hc _ => ⟨⟨hcn c hc, hcn c hc, hcn c hc, hcn c hc⟩, by omega⟩)
    (fun c hc _ => ⟨by omega, by omega, by rw [va_up_ne _ _ (by omega), va_up_ne _ _ (by omega)]⟩)
    (fun c hc _ => ⟨by show va_up (va_up Z.Sz 5 C) (300 + Z.nC) n (300 + c) = _; rw [va_up_ne _ _ (by omega), va_up_ne _ _ (by omega)], va_up_ne _ _ (by omega)⟩)
    (fun c hc _ => ⟨by show va_up (va_up Z.Sz 5 C) (300 + Z.nC) n (300 + c) = _; rw [va_up_ne _ _ (by omega), va_up_ne _ _ (by omega)], va_up_ne _ _ (by omega)⟩)
    (fun a ha _ => ⟨⟨rfl, rfl⟩, by omega⟩)
    (fun a ha _ => ⟨by omega, by rw [va_up_ne _ _ (by omega), va_up_ne _ _ (by omega)], rfl⟩)
    (fun a ha _ => ⟨by show va_up (va_up Z.Sz 5 C) (300 + Z.nC) n (1200 + a) = _; rw [va_up_ne _ _ (by omega), va_up_ne _ _ (by omega)], (show va_up Z.Fo 5 f' (1200 + a) = Z.Fo (1200 + a) from va_up_ne _ _ (by omega))⟩)
    (fun a ha p hp _ => ⟨by omega, rfl, rfl, rfl⟩)
    (fun a ha p hp _ => ⟨by show va_up (va_up Z.Sz 5 C) (300 + Z.nC) n (3000 + (6 * a + p)) = _; rw [va_up_ne _ _ (by omega), va_up_ne _ _ (by omega)], va_up_ne _ _ (by omega)⟩)
  have hu4 : kU Z 4 := kU.lo (by decide) (by decide) (by decide) (by decide)
  have hold : ∀ k, kU Z k → k ≠ 4 → k ≠ 5 → h' (Z.da k) = h (Z.da k) := fun k hk k4 k5 => by
    refine hfr _ (fun e => k4 (K.inj hk hu4 e)) ?_ (K.ne hq hk) (K.ne hqj hk) (K.ne hqi hk) (K.ne hqc hk)
    rcases he with ⟨z1, z2⟩ | ⟨z1, -⟩
    · rw [z2]; exact fun e => k5 (K.inj hk (Or.inl ⟨by decide, by decide, fun _ => z1, fun z => absurd z (by decide)⟩) e)
    · exact K.ne z1 hk
  refine ⟨Z', ⟨hW, fun k hk => ?_⟩, ⟨rfl, rfl, rfl, rfl⟩, fun j hj1 hj2 => ?_, va_up_self _ _ _, fun b hb hj => ?_, hd 1 (by omega)⟩
  · rcases (hus k).mp hk with ((((hz | rfl) | rfl) | rfl) | rfl) | rfl
    · by_cases e45 : k = 4 ∨ k = 5
      · rcases e45 with rfl | rfl
        · rw [hd 4 (by omega), e4]
          show _ = some (ob 8 [.int (va_up (va_up T 6 x0) (200 + Z.nC) tn 6), .ref (Z'.da 5), .int (nI (Z.nC + 1))])
          rw [a5, va_up_ne _ _ (by omega), va_up_self]
        · rw [a5, e5]
          show _ = some (aO G (va_up (va_up Z.Sz 5 C) (300 + Z.nC) n 5) (va_up Z.Fo 5 f' 5))
          rw [va_up_self, va_up_ne _ _ (by omega), va_up_self]
      · have n4 : k ≠ 4 := fun z => e45 (Or.inl z)
        have n5 : k ≠ 5 := fun z => e45 (Or.inr z)
        rw [hd k (fun z => by rcases z with z | z | z | z | z; exact n5 z; all_goals exact nu k (by omega) hz), hold k hz n4 n5, K.2 k hz, hkeep k hz ⟨n4, n5⟩]
    · rw [aP, eP, kE_P (by omega), aPJ, aPI, va_up_self]
    · rw [aPJ, ePJ, kE_PJ (by omega), va_up_self]
      show _ = some (aJ G (va_up (va_up Z.Sz 5 C) (300 + Z.nC) n (300 + Z.nC)) _)
      rw [va_up_self]
    · rw [aPI, ePI, kE_PI (by omega), va_up_self]
      show _ = some (aI G (va_up (va_up Z.Sz 5 C) (300 + Z.nC) n (300 + Z.nC)) _)
      rw [va_up_self]
    · rw [aC, eC, kE_C (by omega), aP]
      have z2 : caC Ar Z.nC ab dk dd th 2 Z.nC = ab := pk_us
      have z3 : caC Ar Z.nC ab dk dd th 3 Z.nC = dk := pk_us
      have z4 : caC Ar Z.nC ab dk dd th 4 Z.nC = dd := pk_us
      have z5 : caC Ar Z.nC ab dk dd th 5 Z.nC = th := pk_us
      rw [z2, z3, z4, z5, cz_cg (Z := Z) (Z' := Z') hab (by omega) (fun c hc => hd _ (by omega))]
    · rw [a5, e5]
      show _ = some (aO G (va_up (va_up Z.Sz 5 C) (300 + Z.nC) n 5) (va_up Z.Fo 5 f' 5))
      rw [va_up_self, va_up_ne _ _ (by omega), va_up_self]
  · show va_up (va_up Z.Sz 5 C) (300 + Z.nC) n j = _
    rw [va_up_ne _ _ hj2, va_up_ne _ _ hj1]
  · have nq : ∀ {z}, h z = none → b ≠ z := fun hz e => hb (e ▸ hz)
    have hne : b ≠ e' := by
      rcases he with ⟨z1, z2⟩ | ⟨z1, -⟩
      · intro e
        have := (K.1.1 5 (Or.inl ⟨by decide, by decide, fun _ => z1, fun z => absurd z (by decide)⟩) b).mpr (e.trans z2)
        rw [hj] at this; cases this
      · exact nq z1
    refine ⟨hfr b (fun e => ?_) hne (nq hq) (nq hqj) (nq hqi) (nq hqc), hj5 b hne ?_⟩
    · have := (K.1.1 4 hu4 b).mpr e
      rw [hj] at this; cases this
    · rw [va_up_ne _ _ (nq hqc), va_up_ne _ _ (nq hqi), va_up_ne _ _ (nq hqj), va_up_ne _ _ (nq hq)]; exact hj
end K28
