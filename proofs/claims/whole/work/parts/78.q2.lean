section Q2
/-- the reference's rows are the same, but where nobody looks -/
def agR (A A' : Nat → Nat → Int32) : Prop := (∀ j, j ≠ 6 → j ≠ 7 → j ≠ 8 → j ≠ 9 → j ≠ 10 → j ≠ 15 → j ≠ 16 → j ≠ 18 → j ≠ 19 → j ≠ 20 → A' j = A j) ∧ (∀ k, k < 12 → A' 6 k = A 6 k) ∧ (∀ k, k < 1728 → A' 7 k = A 7 k) ∧ (∀ k, k < 144 → A' 8 k = A 8 k ∧ A' 9 k = A 9 k ∧ A' 10 k = A 10 k) ∧ (∀ k, k < 80 → A' 15 k = A 15 k ∧ A' 16 k = A 16 k) ∧ ∀ k, k < 4800 → A' 18 k = A 18 k ∧ A' 19 k = A 19 k ∧ A' 20 k = A 20 k
def wfR (A : Nat → Nat → Int32) : Prop := PV A ∧ ∀ a, a < 80 → cl (A 16 a) ≤ 60
section AG
variable {A A' : Nat → Nat → Int32} {I I' : Nat → Int32}
theorem agR.fu (g : agR A A') {j : Nat} (hj : j = 2 ∨ j = 4 ∨ j = 14 ∨ j = 17 ∨ 21 ≤ j) : A' j = A j := g.1 j (by omega) (by omega) (by omega) (by omega) (by omega) (by omega) (by omega) (by omega) (by omega) (by omega)
theorem hwP_ag (g : agR A A') (W : wfR A) {a p k : Nat} (ha : a < 80) (hk : k < 144) : hwP A' a p k ↔ hwP A a p k := by
  obtain ⟨g1, g6, g7, g8, g15, g18⟩ := g
  have e16 := (g15 a ha).2
  have h16 := W.2 a ha
  have h8 := (W.1.1 k hk).le
  have e8 := (g8 k hk).1
  have e17 : A' 17 = A 17 := g1 17 (by decide) (by decide) (by decide) (by decide) (by decide) (by decide) (by decide) (by decide) (by decide) (by decide)
  have key : ∀ w, w < cl (A 16 a) → ((A' 20 (60 * a + w) = nI p ∧ smP A' a w k) ↔ (A 20 (60 * a + w) = nI p ∧ smP A a w k)) := by
    intro w hw
    obtain ⟨q18, q19, q20⟩ := g18 (60 * a + w) (by omega)
    unfold smP
    rw [q18, q19, q20, e8, e17]
    constructor
    · rintro ⟨h1, h2, h3⟩
      exact ⟨h1, h2, fun i hi => by rw [h3 i hi]; exact g7 _ (by omega)⟩
    · rintro ⟨h1, h2, h3⟩
      exact ⟨h1, h2, fun i hi => by rw [h3 i hi]; exact (g7 _ (by omega)).symm⟩
  constructor
  · rintro ⟨w, hw, h1⟩
    rw [e16] at hw
    exact ⟨w, hw, (key w hw).mp h1⟩
  · rintro ⟨w, hw, h1⟩
    exact ⟨w, by rw [e16]; exact hw, (key w hw).mpr h1⟩
theorem ftN_ag (g : agR A A') (W : wfR A) {a p c : Nat} (ha : a < 80) (hc : c < 12) : ∀ n, n ≤ 12 → ftN A' a p c n = ftN A a p c n
  | 0, _ => by rw [ftN_0, ftN_0]
  | n + 1, hn => by
    obtain ⟨q8, q9, q10⟩ := g.2.2.2.1 (12 * c + n) (by omega)
    have e := b2_iff (hwP_ag g W (p := p) (k := 12 * c + n) ha (by omega))
    rw [ftN_s, ftN_s, ftN_ag g W ha hc n (by omega), q9, q10, e]
theorem ftC_ag (g : agR A A') (W : wfR A) {a p c : Nat} (ha : a < 80) (hc : c < 12) : ftC A' a p c = ftC A a p c := by
  unfold ftC ftV
  rw [g.2.1 c hc, ftN_ag g W ha hc _ (W.1.2 c hc).le]
theorem blF_ag (g : agR A A') (W : wfR A) {a p : Nat} {c : Int32} (ha : a < 80) : ∀ n, n ≤ 12 → blF A' a p c n = blF A a p c n
  | 0, _ => by rw [blF_0, blF_0]
  | n + 1, hn => by rw [blF_s, blF_s, blF_ag g W ha n (by omega), g.fu (Or.inl rfl), ftC_ag g W ha (by omega)]
theorem srF_ag (g : agR A A') (W : wfR A) {a p nc : Nat} (ha : a < 80) (hn : nc ≤ 12) : ∀ (f : Nat) (c : Int32), srF A' a p nc f c = srF A a p nc f c
  | 0, c => by rw [srF, srF]
  | f + 1, c => by
    rw [srF_s, srF_s, blF_ag g W ha nc hn]
    cases blF A a p c nc with
    | none => rfl
    | some k => exact srF_ag g W ha hn f (nI k)
theorem srC_ag (g : agR A A') (W : wfR A) {a p : Nat} (ha : a < 80) (h11 : I' 11 = I 11) (hI : cl (I 11) ≤ 12) : srC I' A' a p = srC I A a p := by
  unfold srC; rw [h11]; exact srF_ag g W ha hI 13 (-1)
theorem agR.rf : agR A A := ⟨fun _ _ _ _ _ _ _ _ _ _ _ => rfl, fun _ _ => rfl, fun _ _ => rfl, fun _ _ => ⟨rfl, rfl, rfl⟩, fun _ _ => ⟨rfl, rfl⟩, fun _ _ => ⟨rfl, rfl, rfl⟩⟩
theorem agR.up (g : agR A A') {j : Nat} (hj : 21 ≤ j) (f : Nat → Int32) : agR (va_up A j f) (va_up A' j f) := by
  obtain ⟨g1, g6, g7, g8, g15, g18⟩ := g
  refine ⟨fun i a b c d e f1 g9 h k l => ?_, fun k hk => ?_, fun k hk => ?_, fun k hk => ?_, fun k hk => ?_, fun k hk => ?_⟩
  · by_cases z : i = j
    · subst z; rw [va_up_self, va_up_self]
    · rw [va_up_ne _ _ z, va_up_ne _ _ z]; exact g1 i a b c d e f1 g9 h k l
  · rw [va_up_ne _ _ (by omega), va_up_ne _ _ (by omega)]; exact g6 k hk
  · rw [va_up_ne _ _ (by omega), va_up_ne _ _ (by omega)]; exact g7 k hk
  · simp only [va_up_ne _ _ (show 8 ≠ j by omega), va_up_ne _ _ (show 9 ≠ j by omega), va_up_ne _ _ (show 10 ≠ j by omega)]; exact g8 k hk
  · simp only [va_up_ne _ _ (show 15 ≠ j by omega), va_up_ne _ _ (show 16 ≠ j by omega)]; exact g15 k hk
  · simp only [va_up_ne _ _ (show 18 ≠ j by omega), va_up_ne _ _ (show 19 ≠ j by omega), va_up_ne _ _ (show 20 ≠ j by omega)]; exact g18 k hk
theorem wfR.up (W : wfR A) {j : Nat} (hj : 21 ≤ j) (f : Nat → Int32) : wfR (va_up A j f) := by
  refine ⟨⟨fun k hk => ?_, fun c hc => ?_⟩, fun a ha => ?_⟩
  · rw [va_up_ne _ _ (by omega)]; exact W.1.1 k hk
  · rw [va_up_ne _ _ (by omega)]; exact W.1.2 c hc
  · rw [va_up_ne _ _ (by omega)]; exact W.2 a ha
theorem ptA_ag (g : agR A A') {a p : Nat} {c : Int32} : agR (ptA A a p c) (ptA A' a p c) := by
  unfold ptA
  rw [g.fu (j := 22) (by omega), g.fu (j := 23) (by omega), g.fu (j := 14) (by omega), g.fu (j := 4) (by omega)]
  exact (g.up (by decide) _).up (by decide) _
theorem ptA_wf (W : wfR A) {a p : Nat} {c : Int32} : wfR (ptA A a p c) := (W.up (by decide) _).up (by decide) _
theorem lpN_ag (W : wfR A) {n : Nat} (hn : n < 80) (h11 : I' 11 = I 11) (hI : cl (I 11) ≤ 12) (g : agR A A') : ∀ p, agR (lpN I n A p) (lpN I' n A' p) ∧ wfR (lpN I n A p)
  | 0 => by rw [lpN_0, lpN_0]; exact ⟨g, W⟩
  | p + 1 => by
    obtain ⟨g1, W1⟩ := lpN_ag W hn h11 hI g p
    have e24 : lpN I' n A' p 24 = lpN I n A p 24 := g1.fu (by omega)
    have g2 := g1.up (j := 24) (by decide) (upd (lpN I n A p 24) (6 * n + p) (-1))
    have W2 := W1.up (j := 24) (by decide) (upd (lpN I n A p 24) (6 * n + p) (-1))
    rw [lpN_s, lpN_s]
    unfold lpS
    rw [e24, srC_ag g2 W2 hn h11 hI]
    exact ⟨ptA_ag g2, ptA_wf W2⟩
theorem paS_ag {s s' : (Nat → Nat → Int32) × Nat} (g : agR s.1 s'.1) (W : wfR s.1) (e : s'.2 = s.2) {a p : Nat} (ha : a < 80) (h11 : I' 11 = I 11) (hI : cl (I 11) ≤ 12) : agR (paS I a p s).1 (paS I' a p s').1 ∧ wfR (paS I a p s).1 ∧ (paS I' a p s').2 = (paS I a p s).2 := by
  unfold paS
  rw [g.fu (j := 24) (by omega), srC_ag g W ha h11 hI, g.fu (j := 22) (by omega)]
  split
  · exact ⟨g, W, e⟩
  · split
    · exact ⟨g, W, e⟩
    · exact ⟨ptA_ag g, ptA_wf W, by show s'.2 + 1 = s.2 + 1; rw [e]⟩
theorem paP_ag {s s' : (Nat → Nat → Int32) × Nat} (g : agR s.1 s'.1) (W : wfR s.1) (e : s'.2 = s.2) {a : Nat} (ha : a < 80) (h11 : I' 11 = I 11) (hI : cl (I 11) ≤ 12) : ∀ n, agR (paP I a s n).1 (paP I' a s' n).1 ∧ wfR (paP I a s n).1 ∧ (paP I' a s' n).2 = (paP I a s n).2
  | 0 => by rw [paP_0, paP_0]; exact ⟨g, W, e⟩
  | n + 1 => by
    obtain ⟨g1, W1, e1⟩ := paP_ag g W e ha h11 hI n
    rw [paP_s, paP_s]
    exact paS_ag g1 W1 e1 ha h11 hI
theorem paL_ag (g : agR A A') (W : wfR A) (h11 : I' 11 = I 11) (hI : cl (I 11) ≤ 12) : ∀ n, n ≤ 80 → agR (paL I A n).1 (paL I' A' n).1 ∧ wfR (paL I A n).1 ∧ (paL I' A' n).2 = (paL I A n).2
  | 0, _ => by rw [paL_0, paL_0]; exact ⟨g, W, rfl⟩
  | n + 1, hn => by
    obtain ⟨g1, W1, e1⟩ := paL_ag g W h11 hI n (by omega)
    rw [paL_s, paL_s, (g.2.2.2.2.1 n (by omega)).1]
    exact paP_ag g1 W1 e1 (by omega) h11 hI _
end AG
/-- one way in which a pattern's words may lie in the last row -/
def cnP (A : Nat → Nat → Int32) (Lw : List pW) : Nat → Nat → Int32 := fun j k =>
  if j = 6 ∧ k = 12 then nI Lw.length
  else if j = 7 ∧ 1728 ≤ k then A 27 ((Lw.getD ((k - 1728) / 12) (0, 0, 0, 0)).1 + (k - 1728) % 12)
  else if j = 8 ∧ 144 ≤ k then nI (Lw.getD (k - 144) (0, 0, 0, 0)).2.1
  else if j = 9 ∧ 144 ≤ k then (Lw.getD (k - 144) (0, 0, 0, 0)).2.2.1
  else if j = 10 ∧ 144 ≤ k then (Lw.getD (k - 144) (0, 0, 0, 0)).2.2.2
  else A j k
theorem cnP_off {A : Nat → Nat → Int32} {Lw : List pW} {j k : Nat} (h : ¬ (j = 6 ∧ k = 12) ∧ ¬ (j = 7 ∧ 1728 ≤ k) ∧ ¬ (j = 8 ∧ 144 ≤ k) ∧ ¬ (j = 9 ∧ 144 ≤ k) ∧ ¬ (j = 10 ∧ 144 ≤ k)) : cnP A Lw j k = A j k := by
  unfold cnP; rw [if_neg h.1, if_neg h.2.1, if_neg h.2.2.1, if_neg h.2.2.2.1, if_neg h.2.2.2.2]
theorem cnP_AG {A : Nat → Nat → Int32} {Lw : List pW} : AGp A (cnP A Lw) := by
  refine ⟨fun j a b c d e => by funext k; exact cnP_off (by omega), fun k hk => cnP_off (by omega), fun k hk => ⟨cnP_off (by omega), cnP_off (by omega), cnP_off (by omega)⟩, fun k hk => cnP_off (by omega)⟩
theorem cnP_6 {A : Nat → Nat → Int32} {Lw : List pW} : cnP A Lw 6 12 = nI Lw.length := if_pos ⟨rfl, rfl⟩
theorem cnP_RW {A : Nat → Nat → Int32} {Lw : List pW} (hw : ∀ w ∈ Lw, w.2.1 ≤ 12) : RW (cnP A Lw) Lw := by
  intro i w hi
  have eg : Lw.getD i (0, 0, 0, 0) = w := by rw [List.getD_eq_getElem?_getD, hi]; rfl
  have h12 := hw w (List.mem_of_getElem? hi)
  refine ⟨?_, h12, ?_, ?_, fun k hk => ?_⟩
  · unfold cnP
    rw [if_neg (by omega), if_neg (by omega), if_pos ⟨rfl, by omega⟩, Nat.add_sub_cancel_left, eg]
  · unfold cnP
    rw [if_neg (by omega), if_neg (by omega), if_neg (by omega), if_pos ⟨rfl, by omega⟩, Nat.add_sub_cancel_left, eg]
  · unfold cnP
    rw [if_neg (by omega), if_neg (by omega), if_neg (by omega), if_neg (by omega), if_pos ⟨rfl, by omega⟩, Nat.add_sub_cancel_left, eg]
  · have e27 : cnP A Lw 27 (w.1 + k) = A 27 (w.1 + k) := cnP_off (by omega)
    rw [e27]
    unfold cnP
    rw [if_neg (by omega), if_pos ⟨rfl, by omega⟩, show (12 * (144 + i) + k - 1728) / 12 = i by omega, show (12 * (144 + i) + k - 1728) % 12 = k by omega, eg]
/-- what setting a pattern leaves -/
theorem spN_fr {A : Nat → Nat → Int32} {c : Nat} (hc : c < 12) : ∀ n, n ≤ 12 → (∀ k, ¬ (12 * c ≤ k ∧ k < 12 * c + n) → spN A c n 8 k = A 8 k ∧ spN A c n 9 k = A 9 k ∧ spN A c n 10 k = A 10 k) ∧
    ∀ k, (∀ i, i < n → ¬ (12 * (12 * c + i) ≤ k ∧ k < 12 * (12 * c + i) + cl (A 8 (144 + i)))) → spN A c n 7 k = A 7 k
  | 0, _ => by rw [spN_0]; exact ⟨fun k _ => ⟨rfl, rfl, rfl⟩, fun k _ => rfl⟩
  | n + 1, hn => by
    obtain ⟨h1, h2⟩ := spN_fr (A := A) hc n (by omega)
    obtain ⟨-, k1⟩ := spN_keep (A := A) hc n (by omega)
    rw [spN_s]
    refine ⟨fun k hk => ?_, fun k hk => ?_⟩
    · have hne : k ≠ 12 * c + n := by omega
      obtain ⟨u1, u2, u3⟩ := h1 k (by omega)
      exact ⟨(pk_un hne).trans u1, (pk_un hne).trans u2, (pk_un hne).trans u3⟩
    · have e8 := (k1 (144 + n) (by omega)).1
      show cpN (spN A c n 7) (spN A c n 7) (12 * (12 * c + n)) (12 * (144 + n)) (cl (spN A c n 8 (144 + n))) k = A 7 k
      rw [cpN_at, e8, if_neg (hk n (Nat.lt_succ_self n))]
      exact h2 k (fun i hi => hk i (by omega))
/-- however the last row lies, the cause's row is the same -/
theorem spN_ag {A A1 A2 : Nat → Nat → Int32} {Lw : List pW} {c : Nat} (hc : c < 12) (g1 : AGp A A1) (g2 : AGp A A2) (r1 : RW A1 Lw) (r2 : RW A2 Lw) (z1 : A1 6 12 = nI Lw.length) (z2 : A2 6 12 = nI Lw.length) (hl : Lw.length ≤ 12) : agR (spN A1 c Lw.length) (spN A2 c Lw.length) := by
  have hsz : ∀ {B : Nat → Nat → Int32}, RW B Lw → ∀ i, i < Lw.length → cl (B 8 (144 + i)) ≤ 12 := fun r i hi => by
    obtain ⟨q1, q2, -⟩ := r i _ (List.getElem?_eq_getElem hi)
    rw [q1, show cl (nI _) = _ from nI_clamp (by omega)]; exact q2
  obtain ⟨a1, a2, a3, a4⟩ := spN_at (A := A1) hc Lw.length hl (hsz r1)
  obtain ⟨b1, b2', b3, b4⟩ := spN_at (A := A2) hc Lw.length hl (hsz r2)
  obtain ⟨a6, -⟩ := spN_keep (A := A1) hc Lw.length hl
  obtain ⟨b6, -⟩ := spN_keep (A := A2) hc Lw.length hl
  have e27 : A1 27 = A2 27 := (g1.1 27 (by decide) (by decide) (by decide) (by decide) (by decide)).trans (g2.1 27 (by decide) (by decide) (by decide) (by decide) (by decide)).symm
  have z8 := spN_8 (A := A1) hc Lw.length hl
  refine ⟨fun j h6 h7 h8 h9 h10 _ _ _ _ _ => ?_, fun k hk => ?_, fun k hk => ?_, fun k hk => ?_, fun k hk => ?_, fun k hk => ?_⟩
  · rw [a1 j h6 h7 h8 h9 h10, b1 j h6 h7 h8 h9 h10, g1.1 j h6 h7 h8 h9 h10, g2.1 j h6 h7 h8 h9 h10]
  · rw [a6, b6, z1, z2, g1.2.1 k (by omega), g2.2.1 k (by omega)]
  · by_cases hz : 144 * c ≤ k ∧ k < 144 * c + 144
    · by_cases hi : (k - 144 * c) / 12 < Lw.length ∧ k - 12 * (12 * c + (k - 144 * c) / 12) < cl (A1 8 (144 + (k - 144 * c) / 12))
      · obtain ⟨i, hi0⟩ : ∃ i, i = (k - 144 * c) / 12 := ⟨_, rfl⟩
        rw [← hi0] at hi
        obtain ⟨h1, h2⟩ := hi
        obtain ⟨-, -, -, x7⟩ := a4 i h1
        obtain ⟨-, -, -, y7⟩ := b4 i h1
        obtain ⟨p1, p2, -, -, p5⟩ := r1 i _ (List.getElem?_eq_getElem h1)
        obtain ⟨q1, q2, -, -, q5⟩ := r2 i _ (List.getElem?_eq_getElem h1)
        have ec1 : cl (A1 8 (144 + i)) = Lw[i].2.1 := by rw [p1]; exact nI_clamp (by omega)
        have ec2 : cl (A2 8 (144 + i)) = Lw[i].2.1 := by rw [q1]; exact nI_clamp (by omega)
        rw [ec1] at h2
        have ek : k = 12 * (12 * c + i) + (k - 12 * (12 * c + i)) := by omega
        rw [ek, x7 _ (by rw [ec1]; exact h2), y7 _ (by rw [ec2]; exact h2), p5 _ h2, q5 _ h2, e27]
      · have hno : ∀ {B : Nat → Nat → Int32}, RW B Lw → (∀ j, j < Lw.length → cl (B 8 (144 + j)) = cl (A1 8 (144 + j))) → ∀ j, j < Lw.length → ¬ (12 * (12 * c + j) ≤ k ∧ k < 12 * (12 * c + j) + cl (B 8 (144 + j))) := by
          intro B rB eB j hj hq
          have h12 := hsz rB j hj
          have ej : (k - 144 * c) / 12 = j := by omega
          rw [ej] at hi
          rw [eB j hj] at hq
          exact hi ⟨hj, by omega⟩
        have e21 : ∀ j, j < Lw.length → cl (A2 8 (144 + j)) = cl (A1 8 (144 + j)) := fun j hj => by
          rw [(r1 j _ (List.getElem?_eq_getElem hj)).1, (r2 j _ (List.getElem?_eq_getElem hj)).1]
        rw [(spN_fr (A := A1) hc Lw.length hl).2 k (hno r1 (fun _ _ => rfl)), (spN_fr (A := A2) hc Lw.length hl).2 k (hno r2 e21), g1.2.2.2 k hk, g2.2.2.2 k hk]
    · rw [a3 k hz, b3 k hz, g1.2.2.2 k hk, g2.2.2.2 k hk]
  · by_cases hz : 12 * c ≤ k ∧ k < 12 * c + 12
    · by_cases hi : k < 12 * c + Lw.length
      · have h1 : k - 12 * c < Lw.length := by omega
        obtain ⟨x8, x9, x10, -⟩ := a4 _ h1
        obtain ⟨y8, y9, y10, -⟩ := b4 _ h1
        obtain ⟨p1, p2, p3, p4, -⟩ := r1 _ _ (List.getElem?_eq_getElem h1)
        obtain ⟨q1, q2, q3, q4, -⟩ := r2 _ _ (List.getElem?_eq_getElem h1)
        have ek : k = 12 * c + (k - 12 * c) := by omega
        rw [ek, x8, x9, x10, y8, y9, y10, p1, p3, p4, q1, q3, q4]
        exact ⟨rfl, rfl, rfl⟩
      · obtain ⟨u1, u2, u3⟩ := (spN_fr (A := A1) hc Lw.length hl).1 k (by omega)
        obtain ⟨v1, v2, v3⟩ := (spN_fr (A := A2) hc Lw.length hl).1 k (by omega)
        obtain ⟨s1, s2, s3⟩ := g1.2.2.1 k hk
        obtain ⟨t1, t2, t3⟩ := g2.2.2.1 k hk
        exact ⟨by rw [u1, v1, s1, t1], by rw [u2, v2, s2, t2], by rw [u3, v3, s3, t3]⟩
    · obtain ⟨u1, u2, u3⟩ := a2 k hz
      obtain ⟨v1, v2, v3⟩ := b2' k hz
      obtain ⟨s1, s2, s3⟩ := g1.2.2.1 k hk
      obtain ⟨t1, t2, t3⟩ := g2.2.2.1 k hk
      exact ⟨by rw [u1, v1, s1, t1], by rw [u2, v2, s2, t2], by rw [u3, v3, s3, t3]⟩
  · rw [a1 15 (by decide) (by decide) (by decide) (by decide) (by decide), b1 15 (by decide) (by decide) (by decide) (by decide) (by decide), a1 16 (by decide) (by decide) (by decide) (by decide) (by decide), b1 16 (by decide) (by decide) (by decide) (by decide) (by decide), g1.1 15 (by decide) (by decide) (by decide) (by decide) (by decide), g2.1 15 (by decide) (by decide) (by decide) (by decide) (by decide), g1.1 16 (by decide) (by decide) (by decide) (by decide) (by decide), g2.1 16 (by decide) (by decide) (by decide) (by decide) (by decide)]
    exact ⟨rfl, rfl⟩
  · have f : ∀ j, j = 18 ∨ j = 19 ∨ j = 20 → spN A2 c Lw.length j = spN A1 c Lw.length j := fun j hj => by
      rw [a1 j (by omega) (by omega) (by omega) (by omega) (by omega), b1 j (by omega) (by omega) (by omega) (by omega) (by omega), g1.1 j (by omega) (by omega) (by omega) (by omega) (by omega), g2.1 j (by omega) (by omega) (by omega) (by omega) (by omega)]
    rw [f 18 (by omega), f 19 (by omega), f 20 (by omega)]
    exact ⟨rfl, rfl, rfl⟩
/-- one way in which a letter's words may lie in the last row -/
def cnL (A : Nat → Nat → Int32) (W : Nat) (Lw : List lW) : Nat → Nat → Int32 := fun j k =>
  if j = 15 ∧ k = 80 then nI W
  else if j = 16 ∧ k = 80 then nI Lw.length
  else if j = 18 ∧ 4800 ≤ k then nI (Lw.getD (k - 4800) (0, 0, 0)).1
  else if j = 19 ∧ 4800 ≤ k then nI (Lw.getD (k - 4800) (0, 0, 0)).2.1
  else if j = 20 ∧ 4800 ≤ k then nI (Lw.getD (k - 4800) (0, 0, 0)).2.2
  else A j k
theorem cnL_off {A : Nat → Nat → Int32} {W : Nat} {Lw : List lW} {j k : Nat} (h : ¬ (j = 15 ∧ k = 80) ∧ ¬ (j = 16 ∧ k = 80) ∧ ¬ (j = 18 ∧ 4800 ≤ k) ∧ ¬ (j = 19 ∧ 4800 ≤ k) ∧ ¬ (j = 20 ∧ 4800 ≤ k)) : cnL A W Lw j k = A j k := by
  unfold cnL; rw [if_neg h.1, if_neg h.2.1, if_neg h.2.2.1, if_neg h.2.2.2.1, if_neg h.2.2.2.2]
theorem cnL_AG {A : Nat → Nat → Int32} {W : Nat} {Lw : List lW} : AGl A (cnL A W Lw) := by
  refine ⟨fun j a b c d e => by funext k; exact cnL_off (by omega), fun k hk => ⟨cnL_off (by omega), cnL_off (by omega)⟩, fun k hk => ⟨cnL_off (by omega), cnL_off (by omega), cnL_off (by omega)⟩⟩
theorem cnL_15 {A : Nat → Nat → Int32} {W : Nat} {Lw : List lW} : cnL A W Lw 15 80 = nI W := if_pos ⟨rfl, rfl⟩
theorem cnL_16 {A : Nat → Nat → Int32} {W : Nat} {Lw : List lW} : cnL A W Lw 16 80 = nI Lw.length := by
  unfold cnL; rw [if_neg (by omega), if_pos ⟨rfl, rfl⟩]
theorem cnL_rl {A : Nat → Nat → Int32} {W : Nat} {Lw : List lW} : rlW (cnL A W Lw) Lw := by
  intro i w hi
  have eg : Lw.getD i (0, 0, 0) = w := by rw [List.getD_eq_getElem?_getD, hi]; rfl
  refine ⟨?_, ?_, ?_⟩
  · unfold cnL
    rw [if_neg (by omega), if_neg (by omega), if_pos ⟨rfl, by omega⟩, Nat.add_sub_cancel_left, eg]
  · unfold cnL
    rw [if_neg (by omega), if_neg (by omega), if_neg (by omega), if_pos ⟨rfl, by omega⟩, Nat.add_sub_cancel_left, eg]
  · unfold cnL
    rw [if_neg (by omega), if_neg (by omega), if_neg (by omega), if_neg (by omega), if_pos ⟨rfl, by omega⟩, Nat.add_sub_cancel_left, eg]
theorem ltA_off {A : Nat → Nat → Int32} {n N W : Nat} {yb td : Int32} {j : Nat} (h : j ≠ 13 ∧ j ≠ 14 ∧ j ≠ 15 ∧ j ≠ 16 ∧ j ≠ 17 ∧ j ≠ 18 ∧ j ≠ 19 ∧ j ≠ 20) : ltA A n N W yb td j = A j := by
  unfold ltA
  rw [lcN_off (by omega) (by omega) (by omega), va_up_ne _ _ (by omega)]
  unfold leA
  rw [va_up_ne _ _ (by omega), va_up_ne _ _ (by omega), va_up_ne _ _ (by omega), va_up_ne _ _ (by omega)]
theorem ltA_at {A : Nat → Nat → Int32} {n N W : Nat} {yb td : Int32} : ltA A n N W yb td 13 = upd (A 13) n yb ∧ ltA A n N W yb td 14 = upd (A 14) n td ∧ ltA A n N W yb td 15 = upd (A 15) n (A 15 80) ∧ ltA A n N W yb td 16 = upd (A 16) n (A 16 80) ∧ ltA A n N W yb td 17 = cpN (A 17) (A 27) (400 * n) 0 N := by
  unfold ltA
  rw [lcN_off (j := 13) (by decide) (by decide) (by decide), lcN_off (j := 14) (by decide) (by decide) (by decide), lcN_off (j := 15) (by decide) (by decide) (by decide), lcN_off (j := 16) (by decide) (by decide) (by decide), lcN_off (j := 17) (by decide) (by decide) (by decide)]
  exact ⟨rfl, rfl, rfl, rfl, rfl⟩
theorem ltA_w {A : Nat → Nat → Int32} {n N W : Nat} {yb td : Int32} (hn : n < 80) (hW : W ≤ 60) : (∀ i, ¬ (60 * n ≤ i ∧ i < 60 * n + W) → ltA A n N W yb td 18 i = A 18 i ∧ ltA A n N W yb td 19 i = A 19 i ∧ ltA A n N W yb td 20 i = A 20 i) ∧ ∀ i, i < W → ltA A n N W yb td 18 (60 * n + i) = A 18 (4800 + i) ∧ ltA A n N W yb td 19 (60 * n + i) = A 19 (4800 + i) ∧ ltA A n N W yb td 20 (60 * n + i) = A 20 (4800 + i) := lcN_at hn W hW
theorem ltA_ag {A A1 A2 : Nat → Nat → Int32} {W : Nat} {Lw : List lW} {n N : Nat} {yb td : Int32} (hn : n < 80) (g1 : AGl A A1) (g2 : AGl A A2) (r1 : rlW A1 Lw) (r2 : rlW A2 Lw) (z1 : A1 15 80 = nI W ∧ A1 16 80 = nI Lw.length) (z2 : A2 15 80 = nI W ∧ A2 16 80 = nI Lw.length) (hl : Lw.length ≤ 60) : agR (ltA A1 n N Lw.length yb td) (ltA A2 n N Lw.length yb td) := by
  have f : ∀ j, j ≠ 15 → j ≠ 16 → j ≠ 18 → j ≠ 19 → j ≠ 20 → A2 j = A1 j := fun j a b c d e => (g2.1 j a b c d e).trans (g1.1 j a b c d e).symm
  obtain ⟨u13, u14, u15, u16, u17⟩ := ltA_at (A := A1) (n := n) (N := N) (W := Lw.length) (yb := yb) (td := td)
  obtain ⟨v13, v14, v15, v16, v17⟩ := ltA_at (A := A2) (n := n) (N := N) (W := Lw.length) (yb := yb) (td := td)
  obtain ⟨w1, w2⟩ := ltA_w (A := A1) (N := N) (yb := yb) (td := td) hn hl
  obtain ⟨x1, x2⟩ := ltA_w (A := A2) (N := N) (yb := yb) (td := td) hn hl
  have o : ∀ j, j ≠ 15 → j ≠ 16 → j ≠ 18 → j ≠ 19 → j ≠ 20 → ltA A2 n N Lw.length yb td j = ltA A1 n N Lw.length yb td j := by
    intro j a b c d e
    by_cases h13 : j = 13
    · subst h13; rw [u13, v13, f 13 (by decide) (by decide) (by decide) (by decide) (by decide)]
    · by_cases h14 : j = 14
      · subst h14; rw [u14, v14, f 14 (by decide) (by decide) (by decide) (by decide) (by decide)]
      · by_cases h17 : j = 17
        · subst h17; rw [u17, v17, f 17 (by decide) (by decide) (by decide) (by decide) (by decide), f 27 (by decide) (by decide) (by decide) (by decide) (by decide)]
        · rw [ltA_off (by omega), ltA_off (by omega), f j a b c d e]
  refine ⟨fun j _ _ _ _ _ a b c d e => o j a b c d e, fun k hk => by rw [o 6 (by decide) (by decide) (by decide) (by decide) (by decide)], fun k hk => by rw [o 7 (by decide) (by decide) (by decide) (by decide) (by decide)], fun k hk => ?_, fun k hk => ?_, fun k hk => ?_⟩
  · rw [o 8 (by decide) (by decide) (by decide) (by decide) (by decide), o 9 (by decide) (by decide) (by decide) (by decide) (by decide), o 10 (by decide) (by decide) (by decide) (by decide) (by decide)]
    exact ⟨rfl, rfl, rfl⟩
  · rw [u15, u16, v15, v16, z1.1, z1.2, z2.1, z2.2]
    by_cases e : k = n
    · subst e; rw [pk_us, pk_us, pk_us, pk_us]; exact ⟨rfl, rfl⟩
    · rw [pk_un e, pk_un e, pk_un e, pk_un e, (g1.2.1 k hk).1, (g1.2.1 k hk).2, (g2.2.1 k hk).1, (g2.2.1 k hk).2]
      exact ⟨rfl, rfl⟩
  · by_cases hz : 60 * n ≤ k ∧ k < 60 * n + Lw.length
    · have h1 : k - 60 * n < Lw.length := by omega
      obtain ⟨p1, p2, p3⟩ := w2 _ h1
      obtain ⟨q1, q2, q3⟩ := x2 _ h1
      obtain ⟨s1, s2, s3⟩ := r1 _ _ (List.getElem?_eq_getElem h1)
      obtain ⟨t1, t2, t3⟩ := r2 _ _ (List.getElem?_eq_getElem h1)
      have ek : k = 60 * n + (k - 60 * n) := by omega
      rw [ek, p1, p2, p3, q1, q2, q3, s1, s2, s3, t1, t2, t3]
      exact ⟨rfl, rfl, rfl⟩
    · obtain ⟨p1, p2, p3⟩ := w1 k hz
      obtain ⟨q1, q2, q3⟩ := x1 k hz
      obtain ⟨s1, s2, s3⟩ := g1.2.2 k hk
      obtain ⟨t1, t2, t3⟩ := g2.2.2 k hk
      exact ⟨by rw [p1, q1, s1, t1], by rw [p2, q2, s2, t2], by rw [p3, q3, s3, t3]⟩
end Q2
