section Q1
variable {Z : kZ} {I : Nat → Int32} {Ar : Nat → Nat → Int32} {T : Nat → Int32} {A : Nat → Nat → Int32} {Lg : Nat → Nat → Int64}
/-- a letter's words and its text, in the reference's rows -/
def jT (Ar : Nat → Nat → Int32) (a : Nat) (B : Nat → Int32) (Lw : List lW) : Prop :=
  Lw.length ≤ 60 ∧ Ar 16 a = nI Lw.length ∧ ∀ (i : Nat) (w : lW), Lw[i]? = some w → (Ar 18 (60 * a + i) = nI w.1 ∧ Ar 19 (60 * a + i) = nI w.2.1 ∧ Ar 20 (60 * a + i) = nI w.2.2) ∧ (w.1 ≤ w.2.1 ∧ w.2.1 ≤ 400 ∧ w.2.2 < 6) ∧ ∀ k, k < w.2.1 - w.1 → ltr (B (w.1 + k)) ∧ Ar 17 (400 * a + (w.1 + k)) = B (w.1 + k)
/-- a word in a pattern's row -/
def jK (Ar : Nat → Nat → Int32) (k len : Nat) : Prop := Ar 8 k = nI len ∧ 1 ≤ len ∧ len ≤ 12 ∧ ∀ i, i < len → ltr (Ar 7 (12 * k + i))
theorem hwP_pt {a p k len : Nat} {B : Nat → Int32} {Lw : List lW} (hT : jT Ar a B Lw) (hK : jK Ar k len) (hp : p < 6) : hwP Ar a p k ↔ ptW B Lw p (cdW (Ar 7) (12 * k) len) := by
  obtain ⟨t1, t2, t3⟩ := hT
  obtain ⟨k1, k2, k3, k4⟩ := hK
  have eL : cl (Ar 16 a) = Lw.length := by rw [t2]; exact nI_clamp (by omega)
  have ek : cl (Ar 8 k) = len := by rw [k1]; exact nI_clamp (by omega)
  have key : ∀ (i : Nat) (w : lW), Lw[i]? = some w → ((Ar 20 (60 * a + i) = nI p ∧ smP Ar a i k) ↔ (w.2.2 = p ∧ cdV B w.1 w.2.1 = cdW (Ar 7) (12 * k) len)) := by
    intro i w hi
    obtain ⟨⟨w1, w2, w3⟩, ⟨v1, v2, v3⟩, w4⟩ := t3 i w hi
    have e18 : cl (Ar 18 (60 * a + i)) = w.1 := by rw [w1]; exact nI_clamp (by omega)
    have hB : ∀ j, j < w.2.1 - w.1 → ltr (B (w.1 + j)) := fun j hj => (w4 j hj).1
    have e1 : Ar 20 (60 * a + i) = nI p ↔ w.2.2 = p := by rw [w3]; exact nI_eq (by omega) (by omega)
    have e2 : smP Ar a i k ↔ cdV B w.1 w.2.1 = cdW (Ar 7) (12 * k) len := by
      constructor
      · rintro ⟨h1, h2⟩
        rw [w1, w2, k1, pk_sub v1] at h1
        have h3 : w.2.1 - w.1 = len := (nI_eq (by omega) (by omega)).mp h1
        unfold cdV
        rw [if_pos (by omega), h3]
        refine (cdW_inj k3 k3 (fun j hj => hB j (by omega)) k4).mpr ⟨rfl, fun j hj => ?_⟩
        have h4 := h2 j (by rw [ek]; exact hj)
        rw [e18, Nat.add_assoc, (w4 j (by omega)).2] at h4
        exact h4
      · intro h1
        unfold cdV at h1
        by_cases z : w.2.1 - w.1 ≤ 12
        · rw [if_pos z] at h1
          obtain ⟨h3, h4⟩ := (cdW_inj z k3 hB k4).mp h1
          refine ⟨by rw [w1, w2, k1, pk_sub v1, h3], fun j hj => ?_⟩
          rw [ek] at hj
          rw [e18, Nat.add_assoc, (w4 j (by omega)).2]
          exact h4 j (by omega)
        · rw [if_neg z] at h1
          exact absurd h1.symm (cdW_pos (by omega) k3 k4)
    rw [e1, e2]
  constructor
  · rintro ⟨w9, hw, h1, h2⟩
    rw [eL] at hw
    obtain ⟨g1, g2⟩ := (key w9 _ (List.getElem?_eq_getElem hw)).mp ⟨h1, h2⟩
    exact ⟨w9, _, List.getElem?_eq_getElem hw, g1, g2⟩
  · rintro ⟨i, w, hi, h1, h2⟩
    obtain ⟨g1, g2⟩ := (key i w hi).mpr ⟨h1, h2⟩
    exact ⟨i, by rw [eL]; exact (List.getElem?_eq_some_iff.mp hi).1, g1, g2⟩
/-- what stands of a cause's pattern -/
def jC (Z : kZ) (Ar : Nat → Nat → Int32) (T : Nat → Int32) (A : Nat → Nat → Int32) (Lg : Nat → Nat → Int64) (c : Nat) : Prop := Z.Sz (300 + c) = cl (Ar 6 c) ∧ kRP Z Ar T A c ∧ ∀ i, i < Z.Sz (300 + c) → ∃ len, jK Ar (12 * c + i) len ∧ Lg (300 + c) i = cdW (Ar 7) (12 * (12 * c + i)) len
/-- what stands of a letter's words -/
def jA (Z : kZ) (Ar : Nat → Nat → Int32) (Lg : Nat → Nat → Int64) (a : Nat) : Prop := ∃ (B : Nat → Int32) (Lw : List lW), jT Ar a B Lw ∧ ∀ p, p < Z.np a → Z.Sz (3000 + (6 * a + p)) = ptN Lw p ∧ ∀ x, hwJ Z Lg (6 * a + p) x ↔ ptW B Lw p x
theorem kRW.of {a p c : Nat} (hC : jC Z Ar T A Lg c) (hA : jA Z Ar Lg a) (hp : p < Z.np a) (h6 : Z.np a ≤ 6) : kRW Z Ar Lg c a p := by
  intro i hi
  obtain ⟨len, hK, hl⟩ := hC.2.2 i hi
  obtain ⟨B, Lw, hT, hx⟩ := hA
  rw [(hx p hp).2, hwP_pt hT hK (by omega), hl]
theorem kRY.of {a p c n : Nat} {gw : Nat → Int64} {B : Nat → Int32} {Lw : List lW} (hC : jC Z Ar T A Lg c) (hT : jT Ar a B Lw) (hp : p < 6) (hgw : ∀ x, (∃ j, j < n ∧ gw j = x) ↔ ptW B Lw p x) : kRY Z Ar Lg c a p n gw := by
  intro i hi
  obtain ⟨len, hK, hl⟩ := hC.2.2 i hi
  rw [hgw, hwP_pt hT hK hp, hl]
theorem cdW_cg {B V : Nat → Int32} {b : Nat} : ∀ k, (∀ i, i < k → B (b + i) = V (b + i)) → cdW B b k = cdW V b k
  | 0, _ => by rw [cdW_0, cdW_0]
  | k + 1, h => by rw [cdW_s, cdW_s, cdW_cg k (fun i hi => h i (by omega)), h k (by omega)]
theorem jC.cg {Z' : kZ} {Ar' : Nat → Nat → Int32} {T' : Nat → Int32} {A' : Nat → Nat → Int32} {Lg' : Nat → Nat → Int64} {c : Nat} (h : jC Z Ar T A Lg c) (h1 : Z'.Sz (300 + c) = Z.Sz (300 + c)) (h2 : T' (200 + c) = T (200 + c)) (h3 : A' (400 + c) = A (400 + c)) (h4 : Lg' (300 + c) = Lg (300 + c)) (h6 : Ar' 6 c = Ar 6 c)
    (h7 : ∀ k, 144 * c ≤ k → k < 144 * c + 144 → Ar' 7 k = Ar 7 k) (h8 : ∀ k, 12 * c ≤ k → k < 12 * c + 12 → Ar' 8 k = Ar 8 k ∧ Ar' 9 k = Ar 9 k ∧ Ar' 10 k = Ar 10 k) (hs : Z.Sz (300 + c) ≤ 12) : jC Z' Ar' T' A' Lg' c := by
  refine ⟨by rw [h1, h6]; exact h.1, fun i hi => ?_, fun i hi => ?_⟩
  · rw [h1] at hi
    obtain ⟨-, q2, q3⟩ := h8 (12 * c + i) (by omega) (by omega)
    rw [h2, h3, q2, q3]; exact h.2.1 i hi
  · rw [h1] at hi
    obtain ⟨q1, -, -⟩ := h8 (12 * c + i) (by omega) (by omega)
    obtain ⟨len, ⟨k1, k2, k3, k4⟩, e⟩ := h.2.2 i hi
    refine ⟨len, ⟨by rw [q1]; exact k1, k2, k3, fun j hj => by rw [h7 _ (by omega) (by omega)]; exact k4 j hj⟩, ?_⟩
    rw [h4, e]
    exact cdW_cg _ (fun j hj => (h7 _ (by omega) (by omega)).symm)
theorem hwJ.cg {Z' : kZ} {Lg' : Nat → Nat → Int64} {m : Nat} {x : Int64} (h1 : Z'.Sz (3000 + m) = Z.Sz (3000 + m)) (h2 : Lg' (3000 + m) = Lg (3000 + m)) : hwJ Z' Lg' m x ↔ hwJ Z Lg m x := by
  unfold hwJ; rw [h1, h2]
theorem jA.cg {Z' : kZ} {Ar' : Nat → Nat → Int32} {Lg' : Nat → Nat → Int64} {a : Nat} (h : jA Z Ar Lg a) (hn : Z'.np a = Z.np a) (hz : ∀ p, p < Z.np a → Z'.Sz (3000 + (6 * a + p)) = Z.Sz (3000 + (6 * a + p)) ∧ Lg' (3000 + (6 * a + p)) = Lg (3000 + (6 * a + p))) (h16 : Ar' 16 a = Ar 16 a)
    (h17 : ∀ k, k < 400 → Ar' 17 (400 * a + k) = Ar 17 (400 * a + k)) (h18 : ∀ k, k < 60 → Ar' 18 (60 * a + k) = Ar 18 (60 * a + k) ∧ Ar' 19 (60 * a + k) = Ar 19 (60 * a + k) ∧ Ar' 20 (60 * a + k) = Ar 20 (60 * a + k)) : jA Z' Ar' Lg' a := by
  obtain ⟨B, Lw, ⟨t1, t2, t3⟩, hx⟩ := h
  refine ⟨B, Lw, ⟨t1, h16.trans t2, fun i w hi => ?_⟩, fun p hp => ?_⟩
  · have hlt : i < Lw.length := (List.getElem?_eq_some_iff.mp hi).1
    obtain ⟨⟨w1, w2, w3⟩, v, w4⟩ := t3 i w hi
    obtain ⟨q1, q2, q3⟩ := h18 i (by omega)
    exact ⟨⟨q1.trans w1, q2.trans w2, q3.trans w3⟩, v, fun k hk => ⟨(w4 k hk).1, (h17 _ (by omega)).trans (w4 k hk).2⟩⟩
  · rw [hn] at hp
    obtain ⟨z1, z2⟩ := hz p hp
    exact ⟨z1.trans (hx p hp).1, fun x => (hwJ.cg z1 z2).trans ((hx p hp).2 x)⟩
/-- words of a pattern's text -/
def jW (B : Nat → Int32) (w : pW) : Prop := 1 ≤ w.2.1 ∧ w.2.1 ≤ 12 ∧ (∀ k, k < w.2.1 → ltr (B (w.1 + k))) ∧ (w.2.2.1 = 0 ∨ w.2.2.1 = 1) ∧ (w.2.2.2 = 0 ∨ w.2.2.2 = 1)
theorem wW_wf {B : Nat → Int32} {N i n : Nat} {o : Int32} (ho : o = 0 ∨ o = 1) (h : ¬ badW B (wb B N i) (wp B N i) n) : jW B (wW B N i o) := by
  have h1 : ¬ wp B N i = wb B N i := fun q => h (Or.inl q)
  have h2 : ¬ 12 < wp B N i - wb B N i := fun q => h (Or.inr (Or.inr (Or.inr q)))
  have h3 : wb B N i ≤ wp B N i := by
    by_cases z : wb B N i ≤ N
    · exact skp_ge1 z
    · exact absurd (skp_f (fun q => z (Nat.le_of_lt q.1))) h1
  refine ⟨?_, ?_, fun k hk => fin_l k hk, b2_c, ho⟩
  · show 1 ≤ wp B N i - wb B N i; omega
  · show wp B N i - wb B N i ≤ 12; omega
theorem pP_wf {B : Nat → Int32} {N : Nat} : ∀ (f i : Nat) (o : Int32) (L : List pW), (o = 0 ∨ o = 1) → (∀ w ∈ L, jW B w) → ∀ w ∈ (pP B N f i o L).2, jW B w
  | 0, i, o, L, _, hL => by rw [pP]; exact hL
  | f + 1, i, o, L, ho, hL => by
    rw [pP_s]
    by_cases hb : badW B (wb B N i) (wp B N i) L.length
    · rw [if_pos hb]; exact hL
    · rw [if_neg hb]
      have hL2 : ∀ w ∈ L ++ [wW B N i o], jW B w := by
        intro w hw
        rcases List.mem_append.mp hw with hw | hw
        · exact hL w hw
        · rw [List.mem_singleton] at hw; subst hw; exact wW_wf ho hb
      split
      · exact hL2
      · split
        · exact pP_wf f _ _ _ b2_c hL2
        · exact hL2
theorem pR_wf {N : Nat} : ∀ w ∈ (pR Ar N).2, jW (Ar 27) w := pP_wf 13 0 0 [] (Or.inl rfl) (fun w hw => by cases hw)
theorem lP_ltr {B : Nat → Int32} {N : Nat} : ∀ (f i c : Nat) (fr : Int32) (L : List lW), (∀ w ∈ L, ∀ k, k < w.2.1 - w.1 → ltr (B (w.1 + k))) → ∀ w ∈ (lP B N f i c fr L).2.2, ∀ k, k < w.2.1 - w.1 → ltr (B (w.1 + k))
  | 0, i, c, fr, L, hL => by rw [lP]; exact hL
  | f + 1, i, c, fr, L, hL => by
    rw [lP_s]
    split
    · split
      · exact hL
      · split
        · exact hL
        · exact lP_ltr f _ _ _ _ hL
    · split
      · exact hL
      · refine lP_ltr f _ _ _ _ (fun w hw => ?_)
        rcases List.mem_append.mp hw with hw | hw
        · exact hL w hw
        · rw [List.mem_singleton] at hw; subst hw; exact fun k hk => fin_l k hk
theorem lR_ltr {N : Nat} : ∀ w ∈ (lR Ar N).2.2, ∀ k, k < w.2.1 - w.1 → ltr (Ar 27 (w.1 + k)) := lP_ltr 401 0 0 1 [] (fun w hw => by cases hw)
/-- a new pattern stands -/
theorem jC.new {Ar' : Nat → Nat → Int32} {c : Nat} {B : Nat → Int32} {Lw : List pW} (hc : c < 12) (hRW : RW Ar Lw) (h27 : Ar 27 = B) (hby : ∀ i, vp_nar .byte (B i) = B i) (hlen : Lw.length ≤ 12) (h612 : Ar 6 12 = nI Lw.length) (hwf : ∀ w ∈ Lw, jW B w)
    (hj : ∀ j, j = 6 ∨ j = 7 ∨ j = 8 ∨ j = 9 ∨ j = 10 → Ar' j = spN Ar c Lw.length j) (hS : Z.Sz (300 + c) = Lw.length) (hPW : kPW B (T (200 + c)) (A (400 + c)) (Lg (300 + c)) Lw) : jC Z Ar' T A Lg c := by
  have hsz : ∀ i, i < Lw.length → cl (Ar 8 (144 + i)) ≤ 12 := fun i hi => by
    obtain ⟨q1, q2, -⟩ := hRW i _ (List.getElem?_eq_getElem hi)
    rw [q1, show cl (nI _) = _ from nI_clamp (by omega)]; exact q2
  obtain ⟨-, -, -, g4⟩ := spN_at (A := Ar) hc Lw.length hlen hsz
  obtain ⟨g6, -⟩ := spN_keep (A := Ar) hc Lw.length hlen
  refine ⟨?_, fun i hi => ?_, fun i hi => ?_⟩
  · rw [hS, hj 6 (Or.inl rfl), g6, if_pos rfl, h612]; exact (nI_clamp (by omega)).symm
  · rw [hS] at hi
    have hg := List.getElem?_eq_getElem hi
    obtain ⟨r1, r2, r3, r4, r5⟩ := hRW i _ hg
    obtain ⟨e8, e9, e10, e7⟩ := g4 i hi
    obtain ⟨p1, p2, p3⟩ := hPW i _ hg
    obtain ⟨u1, u2, u3, u4, u5⟩ := hwf _ (List.getElem_mem hi)
    rw [hj 9 (by decide), hj 10 (by decide), e9, e10, r3, r4, bool_nar u4, bool_nar u5]
    exact ⟨p2, p3, u4⟩
  · rw [hS] at hi
    have hg := List.getElem?_eq_getElem hi
    obtain ⟨r1, r2, r3, r4, r5⟩ := hRW i _ hg
    obtain ⟨e8, e9, e10, e7⟩ := g4 i hi
    obtain ⟨p1, p2, p3⟩ := hPW i _ hg
    obtain ⟨u1, u2, u3, u4, u5⟩ := hwf _ (List.getElem_mem hi)
    have ec : cl (Ar 8 (144 + i)) = Lw[i].2.1 := by rw [r1]; exact nI_clamp (by omega)
    have e7' : ∀ k, k < Lw[i].2.1 → Ar' 7 (12 * (12 * c + i) + k) = B (Lw[i].1 + k) := fun k hk => by
      rw [hj 7 (by decide), e7 k (by rw [ec]; exact hk), r5 k hk, h27, hby]
    refine ⟨Lw[i].2.1, ⟨by rw [hj 8 (by decide), e8, r1], u1, u2, fun k hk => by rw [e7' k hk]; exact u3 k hk⟩, ?_⟩
    rw [p1]
    refine (cdW_inj u2 u2 u3 (fun k hk => by rw [e7' k hk]; exact u3 k hk)).mpr ⟨rfl, fun k hk => (e7' k hk).symm⟩
/-- a new letter's words stand -/
theorem jT.new {Ar' : Nat → Nat → Int32} {n N : Nat} {yb td : Int32} {B : Nat → Int32} {Lw : List lW} (hn : n < 80) (hrl : rlW Ar Lw) (h16 : Ar 16 80 = nI Lw.length) (hlen : Lw.length ≤ 60) (h27 : Ar 27 = B) (hby : ∀ i, vp_nar .byte (B i) = B i) (hN : N ≤ 400) (hw : ∀ w ∈ Lw, w.1 ≤ w.2.1 ∧ w.2.1 ≤ N ∧ w.2.2 < 6) (hl : ∀ w ∈ Lw, ∀ k, k < w.2.1 - w.1 → ltr (B (w.1 + k)))
    (hj : ∀ j, j = 16 ∨ j = 17 ∨ j = 18 ∨ j = 19 ∨ j = 20 → Ar' j = ltA Ar n N Lw.length yb td j) : jT Ar' n B Lw := by
  obtain ⟨-, hat⟩ := lcN_at (A := va_up (leA Ar n yb td) 17 (cpN (leA Ar n yb td 17) (leA Ar n yb td 27) (400 * n) 0 N)) hn Lw.length hlen
  refine ⟨hlen, ?_, fun i w hi => ?_⟩
  · have e : ltA Ar n N Lw.length yb td 16 = upd (Ar 16) n (Ar 16 80) := lcN_off (by decide) (by decide) (by decide) _
    rw [hj 16 (by decide), e, pk_us, h16]
  · have hlt : i < Lw.length := (List.getElem?_eq_some_iff.mp hi).1
    have hm : w ∈ Lw := List.mem_of_getElem? hi
    obtain ⟨g1, g2, g3⟩ := hat i hlt
    obtain ⟨q1, q2, q3⟩ := hrl i w hi
    obtain ⟨v1, v2, v3⟩ := hw w hm
    refine ⟨⟨?_, ?_, ?_⟩, ⟨v1, by omega, v3⟩, fun k hk => ⟨hl w hm k hk, ?_⟩⟩
    · rw [hj 18 (by decide)]; exact g1.trans q1
    · rw [hj 19 (by decide)]; exact g2.trans q2
    · rw [hj 20 (by decide)]; exact g3.trans q3
    · have e : ltA Ar n N Lw.length yb td 17 = cpN (leA Ar n yb td 17) (leA Ar n yb td 27) (400 * n) 0 N := lcN_off (by decide) (by decide) (by decide) _
      rw [hj 17 (by decide), e, cpN_at, if_pos (by omega)]
      show vp_nar .byte (Ar 27 (0 + (400 * n + (w.1 + k) - 400 * n))) = _
      rw [h27, hby, show 0 + (400 * n + (w.1 + k) - 400 * n) = w.1 + k by omega]
end Q1
