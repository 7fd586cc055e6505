section Q18
variable {G : gG} {l : Launch} {h h0 h1 : hW} {Z Z' : kZ} {I : Nat → Int32} {Ar : Nat → Nat → Int32} {T : Nat → Int32} {A : Nat → Nat → Int32} {Lg : Nat → Nat → Int64} {ix ad : Nat → Nat} {x m o : Nat} {fo : Nat → Int64}
variable {T' : Nat → Int32} {A' : Nat → Nat → Int32} {Lg' : Nat → Nat → Int64}
theorem lP_ne {B : Nat → Int32} {N : Nat} : ∀ (f i c : Nat) (fr : Int32) (L : List lW), (lP B N f i c fr L).1 = none → 0 < (lP B N f i c fr L).2.2.length
  | 0, i, c, fr, L, h => by rw [lP] at h; cases h
  | f + 1, i, c, fr, L, h => by
    rw [lP_s] at h ⊢
    by_cases e1 : fin B N (bgn B N i) = bgn B N i
    · rw [if_pos e1] at h ⊢
      by_cases e2 : fin B N (bgn B N i) = N
      · rw [if_pos e2] at h ⊢
        by_cases e3 : L.length = 0
        · simp only [if_pos e3] at h; cases h
        · exact Nat.pos_of_ne_zero e3
      · rw [if_neg e2] at h ⊢
        by_cases e3 : ¬ fr = 0 ∨ ¬ atP B N (bgn B N i) 46 46
        · simp only [if_pos e3] at h; cases h
        · rw [if_neg e3] at h ⊢
          exact lP_ne f _ _ _ _ h
    · rw [if_neg e1] at h ⊢
      by_cases e3 : (¬ fr = 0 ∧ c = 6) ∨ L.length = 60
      · simp only [if_pos e3] at h; cases h
      · rw [if_neg e3] at h ⊢
        exact lP_ne f _ _ _ _ h
theorem lR_pos {N : Nat} (h : (lR Ar N).1 = none) : 0 < (lR Ar N).2.1 := by
  have h1 := lP_ne _ _ _ _ _ h
  have h2 := (lR_wf (Ar := Ar) (N := N)).2.2 _ (List.getElem_mem h1)
  exact Nat.lt_of_le_of_lt (Nat.zero_le _) h2.2.2
theorem lpN_at {B : Nat → Nat → Int32} {n : Nat} (D : kW G Z) (V : kV Z I Ar) : ∀ W, (∀ k, ¬ (6 * n ≤ k ∧ k < 6 * n + W) → lpN I n B W 22 k = B 22 k ∧ lpN I n B W 23 k = B 23 k ∧ lpN I n B W 24 k = B 24 k) ∧
    ∀ q, q < W → ∃ c, kN Z.nC c ∧ lpN I n B W 22 (6 * n + q) = c ∧ lpN I n B W 23 (6 * n + q) = (if c < 0 then -1 else B 14 n + B 4 (cl c)) ∧ lpN I n B W 24 (6 * n + q) = -1
  | 0 => by rw [lpN_0]; exact ⟨fun k _ => ⟨rfl, rfl, rfl⟩, fun q hq => absurd hq (Nat.not_lt_zero q)⟩
  | W + 1 => by
    obtain ⟨g1, g2⟩ := lpN_at (B := B) (n := n) D V W
    have e14 : lpN I n B W 14 = B 14 := lpN_off (by decide) (by decide) (by decide) W
    have e4 : lpN I n B W 4 = B 4 := lpN_off (by decide) (by decide) (by decide) W
    rw [lpN_s]
    have hc : kN Z.nC (srC I (va_up (lpN I n B W) 24 (upd (lpN I n B W 24) (6 * n + W) (-1))) n W) := srC_kN D V
    have f22 : ∀ k, lpS I n W (lpN I n B W) 22 k = upd (lpN I n B W 22) (6 * n + W) (srC I (va_up (lpN I n B W) 24 (upd (lpN I n B W 24) (6 * n + W) (-1))) n W) k := fun k => rfl
    have f23 : ∀ k, lpS I n W (lpN I n B W) 23 k = upd (lpN I n B W 23) (6 * n + W) (if srC I (va_up (lpN I n B W) 24 (upd (lpN I n B W 24) (6 * n + W) (-1))) n W < 0 then -1 else lpN I n B W 14 n + lpN I n B W 4 (cl (srC I (va_up (lpN I n B W) 24 (upd (lpN I n B W 24) (6 * n + W) (-1))) n W))) k := fun k => rfl
    have f24 : ∀ k, lpS I n W (lpN I n B W) 24 k = upd (lpN I n B W 24) (6 * n + W) (-1) k := fun k => rfl
    generalize srC I (va_up (lpN I n B W) 24 (upd (lpN I n B W 24) (6 * n + W) (-1))) n W = c at hc f22 f23
    refine ⟨fun k hk => ?_, fun q hq => ?_⟩
    · have hne : k ≠ 6 * n + W := by omega
      rw [f22, f23, f24, pk_un hne, pk_un hne, pk_un hne]
      exact g1 k (by omega)
    · by_cases hqW : q = W
      · subst hqW
        refine ⟨c, hc, ?_, ?_, ?_⟩
        · rw [f22, pk_us]
        · rw [f23, pk_us, e14, e4]
        · rw [f24, pk_us]
      · obtain ⟨c2, y1, y2, y3, y4⟩ := g2 q (by omega)
        have hne : 6 * n + q ≠ 6 * n + W := by omega
        refine ⟨c2, y1, ?_, ?_, ?_⟩
        · rw [f22, pk_un hne]; exact y2
        · rw [f23, pk_un hne]; exact y3
        · rw [f24, pk_un hne]; exact y4
/-- the rows of a new letter -/
abbrev nlA (Ar : Nat → Nat → Int32) (n N : Nat) (yb td : Int32) : Nat → Nat → Int32 := ltA (cnL Ar (lR Ar N).2.1 (lR Ar N).2.2) n N (lR Ar N).2.2.length yb td
theorem nlA_off {n N j : Nat} {yb td : Int32} (h : j ≠ 13 ∧ j ≠ 14 ∧ j ≠ 15 ∧ j ≠ 16 ∧ j ≠ 17 ∧ j ≠ 18 ∧ j ≠ 19 ∧ j ≠ 20) : nlA Ar n N yb td j = Ar j :=
  (ltA_off h).trans (cnL_AG.1 j h.2.2.1 h.2.2.2.1 h.2.2.2.2.2.1 h.2.2.2.2.2.2.1 h.2.2.2.2.2.2.2)
theorem nlA_at {n N : Nat} {yb td : Int32} : nlA Ar n N yb td 13 = upd ((cnL Ar (lR Ar N).2.1 (lR Ar N).2.2) 13) n yb ∧ nlA Ar n N yb td 14 = upd ((cnL Ar (lR Ar N).2.1 (lR Ar N).2.2) 14) n td ∧ nlA Ar n N yb td 15 = upd ((cnL Ar (lR Ar N).2.1 (lR Ar N).2.2) 15) n ((cnL Ar (lR Ar N).2.1 (lR Ar N).2.2) 15 80) ∧ nlA Ar n N yb td 16 = upd ((cnL Ar (lR Ar N).2.1 (lR Ar N).2.2) 16) n ((cnL Ar (lR Ar N).2.1 (lR Ar N).2.2) 16 80) ∧ nlA Ar n N yb td 17 = cpN ((cnL Ar (lR Ar N).2.1 (lR Ar N).2.2) 17) ((cnL Ar (lR Ar N).2.1 (lR Ar N).2.2) 27) (400 * n) 0 N := ltA_at
theorem nlA_w {n N : Nat} {yb td : Int32} (hn : n < 80) : (∀ i, ¬ (60 * n ≤ i ∧ i < 60 * n + (lR Ar N).2.2.length) → nlA Ar n N yb td 18 i = (cnL Ar (lR Ar N).2.1 (lR Ar N).2.2) 18 i ∧ nlA Ar n N yb td 19 i = (cnL Ar (lR Ar N).2.1 (lR Ar N).2.2) 19 i ∧ nlA Ar n N yb td 20 i = (cnL Ar (lR Ar N).2.1 (lR Ar N).2.2) 20 i) := (ltA_w hn lR_wf.2.1).1
theorem nlA_wf {n N : Nat} {yb td : Int32} (J : jJ Z I Ar T A Lg) : wfR (nlA Ar n N yb td) := by
  have hlen : (lR Ar N).2.2.length ≤ 60 := lR_wf.2.1
  refine ⟨J.hPV.cg (nlA_off (by decide)) (nlA_off (by decide)), fun a ha => ?_⟩
  rw [nlA_at.2.2.2.1, cnL_16]
  by_cases e : a = n
  · rw [e, pk_us, show cl (nI (lR Ar N).2.2.length) = _ from nI_clamp (by omega)]; exact hlen
  · rw [pk_un e, (cnL_AG.2.1 a ha).2]
    obtain ⟨j, hj, q⟩ := (J.hLV a ha).1
    rw [q, show cl (nI j) = j from nI_clamp (by omega)]; exact hj
theorem nlA_T {n N : Nat} {yb td : Int32} (J : jJ Z I Ar T A Lg) (hn : n < 80) (hN : N ≤ 400) : jT (nlA Ar n N yb td) n (Ar 27) (lR Ar N).2.2 :=
  jT.new hn cnL_rl cnL_16 lR_wf.2.1 (cnL_AG.1 27 (by decide) (by decide) (by decide) (by decide) (by decide)) J.by27 hN (fun w hw => ⟨(lR_wf.2.2 w hw).1, (lR_wf.2.2 w hw).2.1, Nat.lt_of_lt_of_le (lR_wf.2.2 w hw).2.2 lR_wf.1⟩) lR_ltr (fun j _ => rfl)
theorem nlA_C {n N c : Nat} {yb td : Int32} (D : kW G Z) (J : jJ Z I Ar T A Lg) (hc : c < Z.nC) : jC Z (nlA Ar n N yb td) T A Lg c :=
  (J.2.2.1 c hc).1.cg rfl rfl rfl rfl (by rw [nlA_off (by decide)]) (fun k _ _ => by rw [nlA_off (by decide)]) (fun k _ _ => by rw [nlA_off (by decide), nlA_off (by decide), nlA_off (by decide)]; exact ⟨rfl, rfl, rfl⟩) (D.s12 hc)
/-- a new letter -/
theorem jJ.nl {N t : Nat} {yb : Int32} {I2 : Nat → Int32} (D : kW G Z) (J : jJ Z I Ar T A Lg) (hn : Z.nL < 80) (hN4 : N ≤ 400) (hR : (lR Ar N).1 = none) (ht : t ≤ 400) (hI1 : I 1 = nI t)
    (hz : Z'.nC = Z.nC ∧ Z'.nL = Z.nL + 1 ∧ Z'.nX = Z.nX + 1 ∧ (∀ b, b ≠ Z.nL → Z'.np b = Z.np b) ∧ Z'.np Z.nL = (lR Ar N).2.1)
    (hf : (∀ j, 300 ≤ j → j < 3000 + 6 * Z.nL → ¬ (1200 ≤ j ∧ j < 1300) → Z'.Sz j = Z.Sz j) ∧ (∀ j, 8 ≤ j → j < 1000 → T' j = T j) ∧ (∀ j, j ≠ 14 → A' j = A j) ∧ ∀ j, j ≠ 13 → j < 3000 + 6 * Z.nL → Lg' j = Lg j)
    (hp : ∀ q, q < (lR Ar N).2.1 → Z'.Sz (3000 + (6 * Z.nL + q)) = ptN (lR Ar N).2.2 q ∧ ∀ x, hwJ Z' Lg' (6 * Z.nL + q) x ↔ ptW (Ar 27) (lR Ar N).2.2 q x)
    (h21 : I2 21 = nI (Z.nL + 1)) (h11 : I2 11 = I 11) (h1 : I2 1 = I 1) (h28 : ∃ N : Nat, N ≤ 400 ∧ I2 28 = nI N) (h31 : ∃ b9 : Nat, I2 31 = nI b9) (h26 : I2 26 = I 26) : jJ Z' I2 (lpN I Z.nL (nlA Ar Z.nL N yb (I 1)) (lR Ar N).2.1) T' A' Lg' := by
  have hT0 : jT (nlA Ar Z.nL N yb (I 1)) Z.nL (Ar 27) (lR Ar N).2.2 := nlA_T J hn hN4
  have hWF := nlA_wf (n := Z.nL) (N := N) (yb := yb) (td := I 1) J
  have hlen : (lR Ar N).2.2.length ≤ 60 := lR_wf.2.1
  have hW6 : (lR Ar N).2.1 ≤ 6 := lR_wf.1
  have hpos := lR_pos hR
  have hLVn : LV (nlA Ar Z.nL N yb (I 1)) Z.nL := leA_LV hn cnL_16 hlen cnL_rl hN4 (fun w hw => ⟨(lR_wf.2.2 w hw).1, (lR_wf.2.2 w hw).2.1⟩)
  obtain ⟨g1, g2⟩ := lpN_at (B := nlA Ar Z.nL N yb (I 1)) (n := Z.nL) D J.V (lR Ar N).2.1
  have w1 := nlA_w (Ar := Ar) (N := N) (yb := yb) (td := I 1) hn
  have r14 : nlA Ar Z.nL N yb (I 1) 14 = upd (Ar 14) Z.nL (I 1) := by
    rw [nlA_at.2.1, cnL_AG.1 14 (by decide) (by decide) (by decide) (by decide) (by decide)]
  have r15 : ∀ a, a < 80 → nlA Ar Z.nL N yb (I 1) 15 a = if a = Z.nL then nI (lR Ar N).2.1 else Ar 15 a := fun a ha => by
    rw [nlA_at.2.2.1, cnL_15]
    by_cases e : a = Z.nL
    · rw [e, pk_us, if_pos rfl]
    · rw [pk_un e, if_neg e, (cnL_AG.2.1 a ha).1]
  have r16 : ∀ a, a < 80 → a ≠ Z.nL → nlA Ar Z.nL N yb (I 1) 16 a = Ar 16 a := fun a ha e => by
    rw [nlA_at.2.2.2.1, pk_un e, (cnL_AG.2.1 a ha).2]
  have r17 : ∀ a, a ≠ Z.nL → ∀ k, k < 400 → nlA Ar Z.nL N yb (I 1) 17 (400 * a + k) = Ar 17 (400 * a + k) := fun a e k hk => by
    rw [nlA_at.2.2.2.2, cpN_at, if_neg (by omega), cnL_AG.1 17 (by decide) (by decide) (by decide) (by decide) (by decide)]
  have r18 : ∀ a, a < 80 → a ≠ Z.nL → ∀ k, k < 60 → nlA Ar Z.nL N yb (I 1) 18 (60 * a + k) = Ar 18 (60 * a + k) ∧ nlA Ar Z.nL N yb (I 1) 19 (60 * a + k) = Ar 19 (60 * a + k) ∧ nlA Ar Z.nL N yb (I 1) 20 (60 * a + k) = Ar 20 (60 * a + k) := fun a ha e k hk => by
    obtain ⟨y1, y2, y3⟩ := w1 (60 * a + k) (by omega)
    rw [y1, y2, y3]
    exact cnL_AG.2.2 _ (by omega)
  have o22 : nlA Ar Z.nL N yb (I 1) 22 = Ar 22 := nlA_off (by decide)
  have o23 : nlA Ar Z.nL N yb (I 1) 23 = Ar 23 := nlA_off (by decide)
  have o24 : nlA Ar Z.nL N yb (I 1) 24 = Ar 24 := nlA_off (by decide)
  have o4 : nlA Ar Z.nL N yb (I 1) 4 = Ar 4 := nlA_off (by decide)
  rw [o22, o23, o24] at g1
  rw [r14, o4, pk_us] at g2
  have rl : ∀ j, j ≠ 22 → j ≠ 23 → j ≠ 24 → lpN I Z.nL (nlA Ar Z.nL N yb (I 1)) (lR Ar N).2.1 j = nlA Ar Z.nL N yb (I 1) j := fun j a b c => lpN_off a b c _
  have ro : ∀ j, j ≠ 13 ∧ j ≠ 14 ∧ j ≠ 15 ∧ j ≠ 16 ∧ j ≠ 17 ∧ j ≠ 18 ∧ j ≠ 19 ∧ j ≠ 20 → j ≠ 22 → j ≠ 23 → j ≠ 24 → lpN I Z.nL (nlA Ar Z.nL N yb (I 1)) (lR Ar N).2.1 j = Ar j := fun j a b c d => (rl j b c d).trans (nlA_off a)
  generalize hX : lpN I Z.nL (nlA Ar Z.nL N yb (I 1)) (lR Ar N).2.1 = R at *
  obtain ⟨⟨⟨a1, a2, a3⟩, a4, a5, a6⟩, b, cc, d, ⟨i1, i28, i31, i26⟩, ⟨f1, f2, f3, f4⟩, pv, lv⟩ := J
  obtain ⟨c1, c2, c3, c4, c5⟩ := hz
  obtain ⟨n1, n2, n3, n4⟩ := hf
  have h12 := D.c12
  have hcl : cl (I 1) = t := by rw [hI1]; exact nI_clamp (by omega)
  have e2 := ro 2 (by decide) (by decide) (by decide) (by decide)
  have e4 := ro 4 (by decide) (by decide) (by decide) (by decide)
  have e5 := ro 5 (by decide) (by decide) (by decide) (by decide)
  have e6 := ro 6 (by decide) (by decide) (by decide) (by decide)
  have e7 := ro 7 (by decide) (by decide) (by decide) (by decide)
  have e8 := ro 8 (by decide) (by decide) (by decide) (by decide)
  have e9 := ro 9 (by decide) (by decide) (by decide) (by decide)
  have e10 := ro 10 (by decide) (by decide) (by decide) (by decide)
  have e12 := ro 12 (by decide) (by decide) (by decide) (by decide)
  have e27 := ro 27 (by decide) (by decide) (by decide) (by decide)
  have e14 : R 14 = upd (Ar 14) Z.nL (I 1) := (rl 14 (by decide) (by decide) (by decide)).trans r14
  have e15 := rl 15 (by decide) (by decide) (by decide)
  have e16 := rl 16 (by decide) (by decide) (by decide)
  have e17 := rl 17 (by decide) (by decide) (by decide)
  have e18 := rl 18 (by decide) (by decide) (by decide)
  have e19 := rl 19 (by decide) (by decide) (by decide)
  have e20 := rl 20 (by decide) (by decide) (by decide)
  refine ⟨⟨⟨?_, ?_, ?_⟩, ?_, ?_, ?_⟩, ?_, ?_, ?_, ⟨?_, h28, h31, ?_⟩, ⟨?_, ?_, ?_, ?_⟩, ⟨?_, ?_⟩, ?_⟩
  · rw [c3, c2, a1]
  · rw [c2]; exact h21
  · rw [c1, h11]; exact a3
  · rw [c3, e15]
    intro a ha
    rw [r15 a (by omega)]
    by_cases e : a = Z.nL
    · rw [if_pos e, e, c5]
    · rw [if_neg e, c4 a e]; exact a4 a (by omega)
  · rw [c3, c1]
    intro a ha q hq
    by_cases e : a = Z.nL
    · subst e
      rw [c5] at hq
      obtain ⟨c0, y1, y2, y3, y4⟩ := g2 q hq
      rw [y2, y4]; exact ⟨y1, fun _ => rfl⟩
    · rw [c4 a e] at hq
      have := D.p6 a
      obtain ⟨y1, y2, y3⟩ := g1 (6 * a + q) (by omega)
      rw [y1, y3]; exact a5 a (by omega) q hq
  · rw [c1, e2, e5]; exact a6
  · intro a ha q hq
    rw [c3] at ha
    rw [h1, hcl]
    by_cases e : a = Z.nL
    · subst e
      rw [c5] at hq
      obtain ⟨c0, y1, y2, y3, y4⟩ := g2 q hq
      rw [y2, y3]
      rcases y1 with rfl | ⟨k0, hk0, rfl⟩
      · exact ⟨fun _ => rfl, fun z => absurd rfl z⟩
      · refine ⟨fun z => absurd z (nI_ne1 (by omega)), fun _ => ?_⟩
        rw [if_neg (nI_pos (by omega)), show cl (nI k0) = k0 from nI_clamp (by omega), hI1]
        obtain ⟨dd, z3, z4⟩ := (cc k0 hk0).2
        exact ⟨t + dd, by omega, by rw [z4, nI_add]⟩
    · rw [c4 a e] at hq
      have := D.p6 a
      obtain ⟨y1, y2, y3⟩ := g1 (6 * a + q) (by omega)
      have z := b a (by omega) q hq
      rw [hcl] at z
      rw [y1, y2]; exact z
  · rw [c1, e4]
    intro c hc
    refine ⟨(cc c hc).1.cg (n1 _ (by omega) (by omega) (by omega)) (n2 _ (by omega) (by omega)) (n3 _ (by omega)) (n4 _ (by omega) (by omega)) (by rw [e6]) (fun k _ _ => by rw [e7]) (fun k _ _ => by rw [e8, e9, e10]; exact ⟨rfl, rfl, rfl⟩) (D.s12 hc), (cc c hc).2⟩
  · rw [c3, h1, e14]
    intro a ha
    by_cases e : a = Z.nL
    · subst e
      rw [c5, pk_us]
      refine ⟨⟨Ar 27, (lR Ar N).2.2, ?_, fun p hq => hp p (by rw [c5] at hq; exact hq)⟩, hpos, t, by rw [hcl]; exact Nat.le_refl _, hI1⟩
      unfold jT at hT0 ⊢
      rw [e16, e17, e18, e19, e20]; exact hT0
    · rw [c4 a e, pk_un e]
      have h6 := D.p6 a
      have hax : a < Z.nX := by omega
      refine ⟨(d a hax).1.cg (c4 a e) (fun p hq => ⟨n1 _ (by omega) (by omega) (by omega), n4 _ (by omega) (by omega)⟩) (by rw [e16]; exact r16 a (by omega) e) (fun k hk => by rw [e17]; exact r17 a e k hk) (fun k hk => by rw [e18, e19, e20]; exact r18 a (by omega) e k hk), (d a hax).2⟩
  · rw [h1]; exact i1
  · rw [h26]; exact i26
  · rw [e12]; exact f1
  · rw [e27]; exact f2
  · intro k hk
    by_cases e : 6 * Z.nL ≤ k ∧ k < 6 * Z.nL + (lR Ar N).2.1
    · obtain ⟨c0, y1, y2, -⟩ := g2 (k - 6 * Z.nL) (by omega)
      rw [show 6 * Z.nL + (k - 6 * Z.nL) = k by omega] at y2
      rw [y2]
      rcases y1 with rfl | ⟨k0, hk0, rfl⟩
      · decide +kernel
      · exact nI_lt (b := 12) (by omega) (by decide)
    · rw [(g1 k e).1]; exact f3 k hk
  · rw [e5]; exact f4
  · intro k hk; rw [e8]; exact pv.1 k hk
  · intro c hc; rw [e6]; exact pv.2 c hc
  · intro a ha
    by_cases e : a = Z.nL
    · subst e
      refine ⟨?_, ?_, ?_⟩
      · exact hLVn.cg e16 e18 e19
      · rw [e15, r15 _ ha, if_pos rfl]; exact ⟨_, hW6, rfl⟩
      · rw [e14, pk_us]; exact ⟨t, ht, hI1⟩
    · obtain ⟨⟨z1, z2⟩, z3, z4⟩ := lv a ha
      refine ⟨⟨?_, ?_⟩, ?_, ?_⟩
      · rw [e16, r16 a ha e]; exact z1
      · intro w hw
        rw [e16, r16 a ha e] at hw
        obtain ⟨j, hj, q⟩ := z1
        have hw2 : w < 60 := by rw [q, show cl (nI j) = j from nI_clamp (by omega)] at hw; omega
        obtain ⟨y1, y2, -⟩ := r18 a ha e w hw2
        rw [e18, e19, y1, y2]; exact z2 w hw
      · rw [e15, r15 a ha, if_neg e]; exact z3
      · rw [e14, pk_un e]; exact z4
end Q18
