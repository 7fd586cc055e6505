section K31
variable {G : gG} {l : Launch} {h h0 : hW} {Z : kZ} {I : Nat → Int32} {Ar : Nat → Nat → Int32} {T : Nat → Int32} {A : Nat → Nat → Int32} {Lg : Nat → Nat → Int64}
set_option maxHeartbeats 4000000 in
/-- a point comes to a letter -/
theorem tr_point (K : kD G Z I Ar T A Lg h) (HQ : kQ Z Ar) {a : Nat} (ha : a < Z.nX) (hp6 : Z.np a < 6) {h' : hW} {q qj e' n C : Nat} {f' : Nat → Option Nat} {x0 x du an : Int32} {gw : Nat → Int64}
    (h_q : h q = none) (h_qj : h qj = none) (n_qj_q : qj ≠ q) (n_e_q : e' ≠ q) (n_e_qj : e' ≠ qj) (hn : n ≤ 60)
    (eK : h' (Z.da (1100 + a)) = some (ob 8 [.int x0, .ref e', .int (nI (Z.np a + 1))])) (eE : h' e' = some (aO G C f')) (hCa : C ∈ alC) (hCn : Z.np a + 1 ≤ C) (hf : ∀ i, i < Z.np a → f' i = Z.Fo (1200 + a) i) (hf2 : f' (Z.np a) = some q)
    (he : (0 < Z.np a ∧ e' = Z.da (1200 + a)) ∨ h e' = none)
    (eQ : h' q = some (ob 3 [.ref qj, va_rf (cz Z x), .int du, .int an])) (eJ : h' qj = some (aJ G n gw)) (hx : kN Z.nC x)
    (hfr : ∀ b, b ≠ Z.da (1100 + a) → b ≠ e' → b ≠ q → b ≠ qj → h' b = h b) :
    ∃ Z', kD G Z' I (va_up (va_up (va_up Ar 22 (upd (Ar 22) (6 * a + Z.np a) x)) 23 (upd (Ar 23) (6 * a + Z.np a) du)) 24 (upd (Ar 24) (6 * a + Z.np a) an)) (va_up T (1100 + a) x0) A (va_up Lg (3000 + (6 * a + Z.np a)) gw) h' ∧ (Z'.nC = Z.nC ∧ Z'.nL = Z.nL ∧ Z'.nX = Z.nX ∧ Z'.np = va_up Z.np a (Z.np a + 1)) ∧ (∀ j, j ≠ 1200 + a → j ≠ 3000 + (6 * a + Z.np a) → Z'.Sz j = Z.Sz j) ∧ Z'.Sz (3000 + (6 * a + Z.np a)) = n ∧ kF Z Z' h h' ∧ Z'.da 1 = Z.da 1 ∧ Z'.da (1000 + a) = Z.da (1000 + a) ∧ Z'.da (1100 + a) = Z.da (1100 + a) := by
  have h12 := K.1.c12
  have h80 := K.1.l80
  have J0 := K.X
  obtain ⟨jx1, J1, hj1⟩ := J0.put (q := q) (k := 2000 + (6 * a + Z.np a)) (by omega) (Or.inr (K.j0 h_q))
  obtain ⟨jx2, J2, hj2⟩ := J1.put (q := qj) (k := 3000 + (6 * a + Z.np a)) (by omega) (Or.inr (hj1 qj n_qj_q (K.j0 h_qj)))
  obtain ⟨jx3, J3, hj3⟩ := J2.put (q := e') (k := 1200 + a) (by omega) (by
    rcases he with ⟨z1, z2⟩ | z1
    · refine Or.inl ⟨Or.inl (Or.inl (kU.LA ha z1)), ?_⟩
      show e' = (va_up (va_up Z.da (2000 + (6 * a + Z.np a)) q) (3000 + (6 * a + Z.np a)) qj) (1200 + a)
      rw [va_up_ne _ _ (by omega), va_up_ne _ _ (by omega)]
      exact z2
    · exact Or.inr (hj2 e' n_e_qj (hj1 e' n_e_q (K.j0 z1))))
  let Z' : kZ := (jx3, (va_up (va_up (va_up Z.da (2000 + (6 * a + Z.np a)) q) (3000 + (6 * a + Z.np a)) qj) (1200 + a) e'), (Z.nC, Z.nL, Z.nX), va_up Z.np a (Z.np a + 1), va_up (va_up Z.Sz (1200 + a) C) (3000 + (6 * a + Z.np a)) n, va_up Z.Fo (1200 + a) f')
  have hd : ∀ j, ¬ (j = 2000 + (6 * a + Z.np a) ∨ j = 3000 + (6 * a + Z.np a) ∨ j = 1200 + a) → Z'.da j = Z.da j := fun j hj => by
    show (va_up (va_up (va_up Z.da (2000 + (6 * a + Z.np a)) q) (3000 + (6 * a + Z.np a)) qj) (1200 + a) e') j = _
    rw [va_up_ne _ _ (fun z => hj (by omega)), va_up_ne _ _ (fun z => hj (by omega)), va_up_ne _ _ (fun z => hj (by omega))]
  have a_0 : Z'.da (2000 + (6 * a + Z.np a)) = q := by
    show (va_up (va_up (va_up Z.da (2000 + (6 * a + Z.np a)) q) (3000 + (6 * a + Z.np a)) qj) (1200 + a) e') (2000 + (6 * a + Z.np a)) = _
    rw [va_up_ne _ _ (by omega), va_up_ne _ _ (by omega), va_up_self]
  have a_1 : Z'.da (3000 + (6 * a + Z.np a)) = qj := by
    show (va_up (va_up (va_up Z.da (2000 + (6 * a + Z.np a)) q) (3000 + (6 * a + Z.np a)) qj) (1200 + a) e') (3000 + (6 * a + Z.np a)) = _
    rw [va_up_ne _ _ (by omega), va_up_self]
  have a_2 : Z'.da (1200 + a) = e' := by
    show (va_up (va_up (va_up Z.da (2000 + (6 * a + Z.np a)) q) (3000 + (6 * a + Z.np a)) qj) (1200 + a) e') (1200 + a) = _
    rw [va_up_self]
  have npo : ∀ b, b ≠ a → Z'.np b = Z.np b := fun b hb => va_up_ne _ _ hb
  have npn : Z'.np a = Z.np a + 1 := va_up_self _ _ _
  have nu : ∀ j, (j = 2000 + (6 * a + Z.np a) ∨ j = 3000 + (6 * a + Z.np a)) → ¬ kU Z j := by
    rintro j hj (⟨k1, k2, -⟩ | ⟨c, hc, z | z | z | z⟩ | ⟨b, hb, z | z | ⟨z, -⟩ | ⟨p, hp, z | z⟩⟩)
    all_goals (try omega)
    all_goals (have := K.1.p6 b; have : b = a := by omega)
    all_goals (subst this; omega)
  have hus : ∀ k, kU Z' k ↔ (((kU Z k ∨ k = 2000 + (6 * a + Z.np a)) ∨ k = 3000 + (6 * a + Z.np a)) ∨ k = 1200 + a) := by
    intro k
    constructor
    · rintro (z | z | ⟨b, hb, z⟩)
      · exact Or.inl (Or.inl (Or.inl (Or.inl z)))
      · exact Or.inl (Or.inl (Or.inl (Or.inr (Or.inl z))))
      · have hb : b < Z.nX := hb
        by_cases e : b = a
        · subst e
          rw [npn] at z
          rcases z with z | z | ⟨z, -⟩ | ⟨p, hp, z⟩
          · exact Or.inl (Or.inl (Or.inl (Or.inr (Or.inr ⟨b, hb, Or.inl z⟩))))
          · exact Or.inl (Or.inl (Or.inl (Or.inr (Or.inr ⟨b, hb, Or.inr (Or.inl z)⟩))))
          · exact Or.inr z
          · by_cases e2 : p = Z.np b
            · rw [e2] at z
              exact Or.inl (z.elim (fun z => Or.inl (Or.inr z)) Or.inr)
            · exact Or.inl (Or.inl (Or.inl (Or.inr (Or.inr ⟨b, hb, Or.inr (Or.inr (Or.inr ⟨p, by omega, z⟩))⟩))))
        · rw [npo b e] at z
          exact Or.inl (Or.inl (Or.inl (Or.inr (Or.inr ⟨b, hb, z⟩))))
    · have hxn : a < Z'.nX := ha
      rintro (((z | z) | z) | z)
      · rcases z with z | z | ⟨b, hb, z⟩
        · exact Or.inl z
        · exact Or.inr (Or.inl z)
        · refine Or.inr (Or.inr ⟨b, hb, ?_⟩)
          by_cases e : b = a
          · subst e
            rw [npn]
            rcases z with z | z | ⟨z, -⟩ | ⟨p, hp, z⟩
            · exact Or.inl z
            · exact Or.inr (Or.inl z)
            · exact Or.inr (Or.inr (Or.inl ⟨z, Nat.succ_pos _⟩))
            · exact Or.inr (Or.inr (Or.inr ⟨p, by omega, z⟩))
          · rw [npo b e]; exact z
      · exact Or.inr (Or.inr ⟨a, hxn, Or.inr (Or.inr (Or.inr ⟨Z.np a, by rw [npn]; omega, Or.inl z⟩))⟩)
      · exact Or.inr (Or.inr ⟨a, hxn, Or.inr (Or.inr (Or.inr ⟨Z.np a, by rw [npn]; omega, Or.inr z⟩))⟩)
      · exact Or.inr (Or.inr ⟨a, hxn, Or.inr (Or.inr (Or.inl ⟨z, by rw [npn]; omega⟩))⟩)
  have JZ : kX Z'.jx Z'.da (kU Z') := J3.cg hus
  have hW : kW G Z' := by
    refine ⟨fun k hk => (JZ.1 k hk).2, JZ.2, ⟨K.1.c12, K.1.lx, K.1.l80, fun b => ?_⟩, ⟨⟨fun z => ?_, fun z => ?_⟩, ⟨fun z => ?_, fun z => ?_⟩, fun b hb => ⟨fun z => ?_, fun z => ?_⟩⟩, fun c2 hc2 => ?_, fun m => ?_⟩
    · by_cases e : b = a
      · rw [e, npn]; omega
      · rw [npo b e]; exact K.1.p6 b
    · rw [hd 5 (by omega)]; exact K.1.2.2.2.1.1.1 z
    · obtain ⟨z1, z2, z3⟩ := K.1.2.2.2.1.1.2 z
      have e1 : Z'.Sz 5 = Z.Sz 5 := by show (va_up (va_up Z.Sz (1200 + a) C) (3000 + (6 * a + Z.np a)) n) (5) = _; rw [va_up_ne _ _ (by omega), va_up_ne _ _ (by omega)]
      have e2 : Z'.Fo 5 = Z.Fo 5 := (show (va_up Z.Fo (1200 + a) f') 5 = _ from va_up_ne _ _ (by omega))
      rw [e1, e2]
      exact ⟨z1, z2, fun i hi => by have hi : i < Z.nC := hi; show Z.Fo 5 i = some (Z'.da (100 + i)); rw [hd _ (by omega)]; exact z3 i hi⟩
    · rw [hd 7 (by omega)]; exact K.1.2.2.2.1.2.1.1 z
    · obtain ⟨z1, z2, z3⟩ := K.1.2.2.2.1.2.1.2 z
      have e1 : Z'.Sz 7 = Z.Sz 7 := by show (va_up (va_up Z.Sz (1200 + a) C) (3000 + (6 * a + Z.np a)) n) (7) = _; rw [va_up_ne _ _ (by omega), va_up_ne _ _ (by omega)]
      have e2 : Z'.Fo 7 = Z.Fo 7 := (show (va_up Z.Fo (1200 + a) f') 7 = _ from va_up_ne _ _ (by omega))
      have hlx := K.1.lx
      rw [e1, e2]
      exact ⟨z1, z2, fun i hi => by have hi : i < Z.nL := hi; show Z.Fo 7 i = some (Z'.da (1000 + i)); rw [hd _ (by omega)]; exact z3 i hi⟩
    · have hb : b < Z.nX := hb
      by_cases e : b = a
      · rw [e, npn] at z; exact absurd z (Nat.succ_ne_zero _)
      · rw [npo b e] at z
        rw [hd _ (by omega)]; exact (K.1.2.2.2.1.2.2 b hb).1 z
    · have hb : b < Z.nX := hb
      by_cases e : b = a
      · subst e
        rw [npn]
        have e1 : Z'.Sz (1200 + b) = C := by show (va_up (va_up Z.Sz (1200 + b) C) (3000 + (6 * b + Z.np b)) n) (1200 + b) = _; rw [va_up_ne _ _ (by omega), va_up_self]
        have e2 : Z'.Fo (1200 + b) = f' := (show (va_up Z.Fo (1200 + b) f') (1200 + b) = _ from va_up_self _ _ _)
        rw [e1, e2]
        refine ⟨hCa, hCn, fun i hi => ?_⟩
        show f' i = some (Z'.da (2000 + (6 * b + i)))
        by_cases e3 : i = Z.np b
        · rw [e3, hf2, a_0]
        · rw [hf i (by omega), hd _ (by omega)]
          exact ((K.1.2.2.2.1.2.2 b hb).2 (by omega)).2.2 i (by omega)
      · rw [npo b e] at z ⊢
        obtain ⟨z1, z2, z3⟩ := (K.1.2.2.2.1.2.2 b hb).2 z
        have e1 : Z'.Sz (1200 + b) = Z.Sz (1200 + b) := by show (va_up (va_up Z.Sz (1200 + a) C) (3000 + (6 * a + Z.np a)) n) (1200 + b) = _; rw [va_up_ne _ _ (by omega), va_up_ne _ _ (by omega)]
        have e2 : Z'.Fo (1200 + b) = Z.Fo (1200 + b) := (show (va_up Z.Fo (1200 + a) f') (1200 + b) = _ from va_up_ne _ _ (by omega))
        have hpb := K.1.p6 b
        rw [e1, e2]
        exact ⟨z1, z2, fun i hi => by show Z.Fo (1200 + b) i = some (Z'.da (2000 + (6 * b + i))); rw [hd _ (by omega)]; exact z3 i hi⟩
    · have hc2 : c2 < Z.nC := hc2
      show (va_up (va_up Z.Sz (1200 + a) C) (3000 + (6 * a + Z.np a)) n) (300 + c2) ≤ 12
      rw [va_up_ne _ _ (by omega), va_up_ne _ _ (by omega)]; exact K.1.s12 hc2
    · show (va_up (va_up Z.Sz (1200 + a) C) (3000 + (6 * a + Z.np a)) n) (3000 + m) ≤ 60
      by_cases e : m = (6 * a + Z.np a)
      · rw [e, va_up_self]; exact hn
      · rw [va_up_ne _ _ (by omega), va_up_ne _ _ (by omega)]; exact K.1.s60 m
  have hne : ∀ b, b < Z.nX → ∀ p, p < Z.np b → 6 * b + p ≠ (6 * a + Z.np a) := fun b hb p hp e => by
    have := K.1.p6 b
    have e2 : b = a := by omega
    subst e2; omega
  have hkeep := kE_cg (Z' := Z') (I := I) (I' := I) (Ar := Ar) (Ar' := (va_up (va_up (va_up Ar 22 (upd (Ar 22) (6 * a + Z.np a) x)) 23 (upd (Ar 23) (6 * a + Z.np a) du)) 24 (upd (Ar 24) (6 * a + Z.np a) an))) (T := T) (T' := va_up T (1100 + a) x0) (A := A) (A' := A) (Lg := Lg) (Lg' := va_up Lg (3000 + (6 * a + Z.np a)) gw) K.1 (fun k => k ≠ 1100 + a ∧ k ≠ 1200 + a) (fun j => j = 2000 + (6 * a + Z.np a) ∨ j = 3000 + (6 * a + Z.np a) ∨ j = 1200 + a) hd (fun j h1 h2 => by omega)
    ⟨fun c2 hc2 => by omega, HQ.1, HQ.2⟩ ⟨⟨rfl, rfl, rfl, rfl⟩, fun j hj => by rw [va_up_ne _ _ (by omega)], ⟨rfl, rfl, rfl⟩, ⟨rfl, rfl, rfl⟩, va_up_ne _ _ (by omega)⟩
    (fun _ => ⟨by omega, by rw [va_up_ne _ _ (by omega)], rfl⟩) (fun _ => ⟨by show (va_up (va_up Z.Sz (1200 + a) C) (3000 + (6 * a + Z.np a)) n) (5) = _; rw [va_up_ne _ _ (by omega), va_up_ne _ _ (by omega)], (show (va_up Z.Fo (1200 + a) f') 5 = _ from va_up_ne _ _ (by omega))⟩) (fun _ => ⟨by omega, by rw [va_up_ne _ _ (by omega)], rfl⟩) (fun _ => ⟨by show (va_up (va_up Z.Sz (1200 + a) C) (3000 + (6 * a + Z.np a)) n) (7) = _; rw [va_up_ne _ _ (by omega), va_up_ne _ _ (by omega)], (show (va_up Z.Fo (1200 + a) f') 7 = _ from va_up_ne _ _ (by omega))⟩)
    (fun c2 hc2 z => ⟨⟨rfl, rfl, rfl, rfl⟩, by omega⟩)
    (fun c2 hc2 z => ⟨by omega, by omega, by rw [va_up_ne _ _ (by omega)]⟩)
    (fun c2 hc2 z => ⟨by show (va_up (va_up Z.Sz (1200 + a) C) (3000 + (6 * a + Z.np a)) n) (300 + c2) = _; rw [va_up_ne _ _ (by omega), va_up_ne _ _ (by omega)], va_up_ne _ _ (by omega)⟩)
    (fun c2 hc2 z => ⟨by show (va_up (va_up Z.Sz (1200 + a) C) (3000 + (6 * a + Z.np a)) n) (300 + c2) = _; rw [va_up_ne _ _ (by omega), va_up_ne _ _ (by omega)], rfl⟩)
    (fun b hb _ => ⟨⟨rfl, rfl⟩, by omega⟩)
    (fun b hb z => ⟨by omega, by rw [va_up_ne _ _ (by omega)], npo b (by omega)⟩)
    (fun b hb z => ⟨by show (va_up (va_up Z.Sz (1200 + a) C) (3000 + (6 * a + Z.np a)) n) (1200 + b) = _; rw [va_up_ne _ _ (by omega), va_up_ne _ _ (by omega)], (show (va_up Z.Fo (1200 + a) f') (1200 + b) = _ from va_up_ne _ _ (by omega))⟩)
    (fun b hb p hp _ => ⟨by have := hne b hb p hp; have := K.1.p6 b; omega, (pk_un (hne b hb p hp) : upd (Ar 22) (6 * a + Z.np a) x (6 * b + p) = _), (pk_un (hne b hb p hp) : upd (Ar 23) (6 * a + Z.np a) du (6 * b + p) = _), (pk_un (hne b hb p hp) : upd (Ar 24) (6 * a + Z.np a) an (6 * b + p) = _)⟩)
    (fun b hb p hp _ => ⟨by have := hne b hb p hp; show (va_up (va_up Z.Sz (1200 + a) C) (3000 + (6 * a + Z.np a)) n) (3000 + (6 * b + p)) = _; rw [va_up_ne _ _ (by omega), va_up_ne _ _ (by omega)], va_up_ne _ _ (by have := hne b hb p hp; omega)⟩)
  have huK : kU Z (1100 + a) := kU.LL ha
  have hold : ∀ k, kU Z k → k ≠ 1100 + a → k ≠ 1200 + a → h' (Z.da k) = h (Z.da k) := fun k hk k4 k5 => by
    refine hfr _ (fun e => k4 (K.inj hk huK e)) ?_ (K.ne h_q hk) (K.ne h_qj hk)
    rcases he with ⟨z1, z2⟩ | z1
    · rw [z2]; exact fun e => k5 (K.inj hk (kU.LA ha z1) e)
    · exact K.ne z1 hk
  refine ⟨Z', ⟨hW, fun k hk => ?_⟩, ⟨rfl, rfl, rfl, rfl⟩, fun j hj1 hj2 => ?_, va_up_self _ _ _, fun b hb hj => ?_, hd 1 (by omega), hd _ (by omega), hd _ (by omega)⟩
  · by_cases k5 : k = 1200 + a
    · subst k5
      rw [a_2, eE, kE_LA (by omega)]
      show _ = some (aO G ((va_up (va_up Z.Sz (1200 + a) C) (3000 + (6 * a + Z.np a)) n) (1200 + a)) ((va_up Z.Fo (1200 + a) f') (1200 + a)))
      rw [va_up_self, va_up_ne _ _ (by omega), va_up_self]
    · rcases (hus k).mp hk with ((hz | rfl) | rfl) | hz
      · by_cases k4 : k = 1100 + a
        · subst k4
          rw [hd _ (by omega), eK, kE_LL (by omega), a_2, va_up_self, npn]
        · rw [hd k (fun z => by rcases z with z | z | z; exact nu k (Or.inl z) hz; exact nu k (Or.inr z) hz; exact k5 z), hold k hz k4 k5, K.2 k hz, hkeep k hz ⟨k4, k5⟩]
      · rw [a_0, eQ, kE_q (by omega), a_1]
        have z2 : (va_up (va_up (va_up Ar 22 (upd (Ar 22) (6 * a + Z.np a) x)) 23 (upd (Ar 23) (6 * a + Z.np a) du)) 24 (upd (Ar 24) (6 * a + Z.np a) an)) 22 (6 * a + Z.np a) = x := pk_us
        have z3 : (va_up (va_up (va_up Ar 22 (upd (Ar 22) (6 * a + Z.np a) x)) 23 (upd (Ar 23) (6 * a + Z.np a) du)) 24 (upd (Ar 24) (6 * a + Z.np a) an)) 23 (6 * a + Z.np a) = du := pk_us
        have z4 : (va_up (va_up (va_up Ar 22 (upd (Ar 22) (6 * a + Z.np a) x)) 23 (upd (Ar 23) (6 * a + Z.np a) du)) 24 (upd (Ar 24) (6 * a + Z.np a) an)) 24 (6 * a + Z.np a) = an := pk_us
        rw [z2, z3, z4, cz_cg (Z := Z) (Z' := Z') hx (by omega) (fun c hc => hd _ (by omega))]
      · rw [a_1, eJ, kE_QJ, va_up_self]
        show _ = some (aJ G ((va_up (va_up Z.Sz (1200 + a) C) (3000 + (6 * a + Z.np a)) n) (3000 + (6 * a + Z.np a))) _)
        rw [va_up_self]
      · exact absurd hz k5
  · show (va_up (va_up Z.Sz (1200 + a) C) (3000 + (6 * a + Z.np a)) n) j = _
    rw [va_up_ne _ _ hj2, va_up_ne _ _ hj1]
  · have nq : ∀ {z}, h z = none → b ≠ z := fun hz e => hb (e ▸ hz)
    have hnb : b ≠ e' := by
      rcases he with ⟨z1, z2⟩ | z1
      · intro e
        have := (K.1.1 _ (kU.LA ha z1) b).mpr (e.trans z2)
        rw [hj] at this; omega
      · exact nq z1
    refine ⟨hfr b (fun e => ?_) hnb (nq h_q) (nq h_qj), hj3 b hnb (hj2 b (nq h_qj) (hj1 b (nq h_q) hj))⟩
    have := (K.1.1 _ huK b).mpr e
    rw [hj] at this; omega
set_option maxHeartbeats 4000000 in
/-- a letter comes into the list -/
theorem tr_list (K : kD G Z I Ar T A Lg h) (HQ : kQ Z Ar) (hLX : Z.nL < Z.nX) {h' : hW} {e' C : Nat} {f' : Nat → Option Nat} {x0 : Int32}
    (eK : h' (Z.da 6) = some (ob 8 [.int x0, .ref e', .int (nI (Z.nL + 1))])) (eE : h' e' = some (aO G C f')) (hCa : C ∈ alC) (hCn : Z.nL + 1 ≤ C) (hf : ∀ i, i < Z.nL → f' i = Z.Fo 7 i) (hf2 : f' Z.nL = some (Z.da (1000 + Z.nL)))
    (he : (0 < Z.nL ∧ e' = Z.da 7) ∨ h e' = none)
    (hfr : ∀ b, b ≠ Z.da 6 → b ≠ e' → h' b = h b) :
    ∃ Z', kD G Z' I Ar (va_up T 7 x0) A Lg h' ∧ (Z'.nC = Z.nC ∧ Z'.nL = Z.nL + 1 ∧ Z'.nX = Z.nX ∧ Z'.np = Z.np) ∧ (∀ j, j ≠ 7 → Z'.Sz j = Z.Sz j) ∧ kF Z Z' h h' ∧ Z'.da 1 = Z.da 1 := by
  have h12 := K.1.c12
  have h80 := K.1.l80
  have J0 := K.X
  obtain ⟨jx1, J1, hj1⟩ := J0.put (q := e') (k := 7) (by omega) (by
    rcases he with ⟨z1, z2⟩ | z1
    · refine Or.inl ⟨Or.inl ⟨by decide, by decide, fun z => absurd z (by decide), fun _ => z1⟩, ?_⟩
      show e' = Z.da (7)
      skip
      exact z2
    · exact Or.inr (K.j0 z1))
  let Z' : kZ := (jx1, (va_up Z.da (7) e'), (Z.nC, Z.nL + 1, Z.nX), Z.np, va_up Z.Sz 7 C, va_up Z.Fo 7 f')
  have hd : ∀ j, ¬ (j = 7) → Z'.da j = Z.da j := fun j hj => by
    show (va_up Z.da (7) e') j = _
    rw [va_up_ne _ _ (fun z => hj (by omega))]
  have a_0 : Z'.da (7) = e' := by
    show (va_up Z.da (7) e') (7) = _
    rw [va_up_self]
  have hus : ∀ k, kU Z' k ↔ (kU Z k ∨ k = 7) := by
    intro k
    have hln : Z.nL < Z'.nL := Nat.lt_succ_self _
    constructor
    · rintro (⟨k1, k2, k5, k7⟩ | z | z)
      · by_cases e : k = 7
        · exact Or.inr e
        · exact Or.inl (Or.inl ⟨k1, k2, k5, fun z => absurd z e⟩)
      · exact Or.inl (Or.inr (Or.inl z))
      · exact Or.inl (Or.inr (Or.inr z))
    · rintro ((⟨k1, k2, k5, k7⟩ | z | z) | z)
      · exact Or.inl ⟨k1, k2, k5, fun _ => Nat.lt_of_le_of_lt (Nat.zero_le _) hln⟩
      · exact Or.inr (Or.inl z)
      · exact Or.inr (Or.inr z)
      · exact Or.inl ⟨by omega, by omega, fun e => by omega, fun _ => Nat.lt_of_le_of_lt (Nat.zero_le _) hln⟩
  have JZ : kX Z'.jx Z'.da (kU Z') := J1.cg hus
  have hW : kW G Z' := by
    refine ⟨fun k hk => (JZ.1 k hk).2, JZ.2, ⟨K.1.c12, hLX, K.1.l80, K.1.p6⟩, ⟨⟨fun z => ?_, fun z => ?_⟩, ⟨fun z => absurd z (Nat.succ_ne_zero _), fun z => ?_⟩, fun b hb => ⟨fun z => ?_, fun z => ?_⟩⟩, fun c2 hc2 => ?_, fun m => ?_⟩
    · rw [hd 5 (by omega)]; exact K.1.2.2.2.1.1.1 z
    · obtain ⟨z1, z2, z3⟩ := K.1.2.2.2.1.1.2 z
      have e1 : Z'.Sz 5 = Z.Sz 5 := by show (va_up Z.Sz 7 C) (5) = _; rw [va_up_ne _ _ (by omega)]
      have e2 : Z'.Fo 5 = Z.Fo 5 := (show (va_up Z.Fo 7 f') 5 = _ from va_up_ne _ _ (by omega))
      rw [e1, e2]
      exact ⟨z1, z2, fun i hi => by have hi : i < Z.nC := hi; show Z.Fo 5 i = some (Z'.da (100 + i)); rw [hd _ (by omega)]; exact z3 i hi⟩
    · have e1 : Z'.Sz 7 = C := (show (va_up Z.Sz 7 C) 7 = C from va_up_self _ _ _)
      have e2 : Z'.Fo 7 = f' := (show (va_up Z.Fo 7 f') 7 = f' from va_up_self _ _ _)
      rw [e1, e2]
      refine ⟨hCa, hCn, fun i hi => ?_⟩
      have hi : i < Z.nL + 1 := hi
      show f' i = some (Z'.da (1000 + i))
      by_cases e3 : i = Z.nL
      · rw [e3, hf2, hd _ (by omega)]
      · rw [hf i (by omega), hd _ (by omega)]
        exact (K.1.2.2.2.1.2.1.2 (by omega)).2.2 i (by omega)
    · have hb : b < Z.nX := hb
      rw [hd _ (by omega)]; exact (K.1.2.2.2.1.2.2 b hb).1 z
    · have hb : b < Z.nX := hb
      obtain ⟨z1, z2, z3⟩ := (K.1.2.2.2.1.2.2 b hb).2 z
      have e1 : Z'.Sz (1200 + b) = Z.Sz (1200 + b) := by show (va_up Z.Sz 7 C) (1200 + b) = _; rw [va_up_ne _ _ (by omega)]
      have e2 : Z'.Fo (1200 + b) = Z.Fo (1200 + b) := (show (va_up Z.Fo 7 f') (1200 + b) = _ from va_up_ne _ _ (by omega))
      rw [e1, e2]
      exact ⟨z1, z2, fun i hi => by show Z.Fo (1200 + b) i = some (Z'.da (2000 + (6 * b + i))); rw [hd _ (by omega)]; exact z3 i hi⟩
    · show (va_up Z.Sz 7 C) (300 + c2) ≤ 12
      rw [va_up_ne _ _ (by omega)]; exact K.1.s12 hc2
    · show (va_up Z.Sz 7 C) (3000 + m) ≤ 60
      rw [va_up_ne _ _ (by omega)]; exact K.1.s60 m
  have hkeep := kE_cg (Z' := Z') (I := I) (I' := I) (Ar := Ar) (Ar' := Ar) (T := T) (T' := va_up T 7 x0) (A := A) (A' := A) (Lg := Lg) (Lg' := Lg) K.1 (fun k => k ≠ 6 ∧ k ≠ 7) (fun j => j = 7) hd (fun j h1 h2 => by omega)
    ⟨fun c2 hc2 => by omega, HQ.1, HQ.2⟩ ⟨⟨rfl, rfl, rfl, rfl⟩, fun j hj => by rw [va_up_ne _ _ (by omega)], ⟨rfl, rfl, rfl⟩, ⟨rfl, rfl, rfl⟩, rfl⟩
    (fun _ => ⟨by omega, by rw [va_up_ne _ _ (by omega)], rfl⟩) (fun _ => ⟨by show (va_up Z.Sz 7 C) (5) = _; rw [va_up_ne _ _ (by omega)], (show (va_up Z.Fo 7 f') 5 = _ from va_up_ne _ _ (by omega))⟩) (fun z => absurd rfl z.1) (fun z => absurd rfl z.2)
    (fun c2 hc2 z => ⟨⟨rfl, rfl, rfl, rfl⟩, by omega⟩)
    (fun c2 hc2 z => ⟨by omega, by omega, by rw [va_up_ne _ _ (by omega)]⟩)
    (fun c2 hc2 z => ⟨by show (va_up Z.Sz 7 C) (300 + c2) = _; rw [va_up_ne _ _ (by omega)], rfl⟩) (fun c2 hc2 z => ⟨by show (va_up Z.Sz 7 C) (300 + c2) = _; rw [va_up_ne _ _ (by omega)], rfl⟩)
    (fun b hb _ => ⟨⟨rfl, rfl⟩, by omega⟩)
    (fun b hb z => ⟨by omega, by rw [va_up_ne _ _ (by omega)], rfl⟩)
    (fun b hb z => ⟨by show (va_up Z.Sz 7 C) (1200 + b) = _; rw [va_up_ne _ _ (by omega)], (show (va_up Z.Fo 7 f') (1200 + b) = _ from va_up_ne _ _ (by omega))⟩)
    (fun b hb p hp _ => ⟨by omega, rfl, rfl, rfl⟩)
    (fun b hb p hp _ => ⟨by show (va_up Z.Sz 7 C) (3000 + (6 * b + p)) = _; rw [va_up_ne _ _ (by omega)], rfl⟩)
  have hu6 : kU Z 6 := kU.lo (by decide) (by decide) (by decide) (by decide)
  have hold : ∀ k, kU Z k → k ≠ 6 → k ≠ 7 → h' (Z.da k) = h (Z.da k) := fun k hk k4 k5 => by
    refine hfr _ (fun e => k4 (K.inj hk hu6 e)) ?_
    rcases he with ⟨z1, z2⟩ | z1
    · rw [z2]; exact fun e => k5 (K.inj hk (Or.inl ⟨by decide, by decide, fun z => absurd z (by decide), fun _ => z1⟩) e)
    · exact K.ne z1 hk
  refine ⟨Z', ⟨hW, fun k hk => ?_⟩, ⟨rfl, rfl, rfl, rfl⟩, fun j hj1 => va_up_ne _ _ hj1, fun b hb hj => ?_, hd 1 (by omega)⟩
  · by_cases k5 : k = 7
    · subst k5
      rw [a_0, eE]
      show _ = some (aO G ((va_up Z.Sz 7 C) 7) ((va_up Z.Fo 7 f') 7))
      rw [va_up_self, va_up_self]
    · have hz := ((hus k).mp hk).resolve_right k5
      by_cases k4 : k = 6
      · subst k4
        rw [hd 6 (by omega), eK]
        show _ = some (ob 8 [.int (va_up T 7 x0 7), .ref (Z'.da 7), .int (nI (Z.nL + 1))])
        rw [a_0, va_up_self]
      · rw [hd k k5, hold k hz k4 k5, K.2 k hz, hkeep k hz ⟨k4, k5⟩]
  · have nq : ∀ {z}, h z = none → b ≠ z := fun hz e => hb (e ▸ hz)
    have hnb : b ≠ e' := by
      rcases he with ⟨z1, z2⟩ | z1
      · intro e
        have := (K.1.1 7 (Or.inl ⟨by decide, by decide, fun z => absurd z (by decide), fun _ => z1⟩) b).mpr (e.trans z2)
        rw [hj] at this; cases this
      · exact nq z1
    refine ⟨hfr b (fun e => ?_) hnb, hj1 b hnb hj⟩
    have := (K.1.1 _ hu6 b).mpr e
    rw [hj] at this; cases this
end K31
