section Q16
variable {G : gG} {l : Launch} {h h0 h1 : hW} {Z Z1 : kZ} {I : Nat → Int32} {Ar : Nat → Nat → Int32} {T : Nat → Int32} {A : Nat → Nat → Int32} {Lg : Nat → Nat → Int64} {ix ad : Nat → Nat} {x m o : Nat} {fo : Nat → Int64}
variable {T1 : Nat → Int32} {A1 : Nat → Nat → Int32} {Lg1 : Nat → Nat → Int64}
theorem srF_kN {B : Nat → Nat → Int32} {a p nc : Nat} : ∀ (f : Nat) (c : Int32), kN nc c → kN nc (srF B a p nc f c)
  | 0, c, hc => by rw [srF]; exact hc
  | f + 1, c, hc => by
    rw [srF_s]
    split
    · exact hc
    · rename_i k hk
      exact srF_kN f _ (Or.inr ⟨k, (blF_at hk).1, rfl⟩)
theorem srC_kN {B : Nat → Nat → Int32} {a p : Nat} (D : kW G Z) (V : kV Z I Ar) : kN Z.nC (srC I B a p) := by
  have h12 := D.c12
  unfold srC
  rw [V.1.2.2, show cl (nI Z.nC) = Z.nC from nI_clamp (by omega)]
  exact srF_kN _ _ (Or.inl rfl)
/-- a point gets another cause -/
theorem jJ.pt2 {a p : Nat} {c : Int32} (D : kW G Z) (J : jJ Z I Ar T A Lg) (ha : a < Z.nX) (hp : p < Z.np a) (hc : kN Z.nC c) : jJ Z I (ptA Ar a p c) T A Lg := by
  have V2 : kV Z I (ptA Ar a p c) := J.V.up22 hc
  obtain ⟨-, b, cc, d, i1, ⟨f1, f2, f3, f4⟩, hPV, lv⟩ := J
  have h12 := D.c12
  refine ⟨V2, ?_, cc, d, i1, ⟨f1, f2, ?_, f4⟩, hPV, lv⟩
  · intro a2 ha2 p2 hp2
    show (upd (Ar 22) (6 * a + p) c (6 * a2 + p2) = -1 → upd (Ar 23) (6 * a + p) (if c < 0 then -1 else Ar 14 a + Ar 4 (cl c)) (6 * a2 + p2) = -1) ∧ (¬ upd (Ar 22) (6 * a + p) c (6 * a2 + p2) = -1 → ∃ dd : Nat, dd ≤ cl (I 1) + 60 ∧ upd (Ar 23) (6 * a + p) (if c < 0 then -1 else Ar 14 a + Ar 4 (cl c)) (6 * a2 + p2) = nI dd)
    have q1 := D.p6 a
    have q2 := D.p6 a2
    by_cases e : 6 * a2 + p2 = 6 * a + p
    · rw [e, pk_us, pk_us]
      rcases hc with rfl | ⟨c0, h0c, rfl⟩
      · exact ⟨fun _ => rfl, fun z => absurd rfl z⟩
      · refine ⟨fun z => absurd z (nI_ne1 (by omega)), fun _ => ?_⟩
        rw [if_neg (nI_pos (by omega)), show cl (nI c0) = c0 from nI_clamp (by omega)]
        obtain ⟨-, -, ca, z1, z2⟩ := d a ha
        obtain ⟨dd, z3, z4⟩ := (cc c0 h0c).2
        exact ⟨ca + dd, by omega, by rw [z2, z4, nI_add]⟩
    · rw [pk_un e, pk_un e]; exact b a2 ha2 p2 hp2
  · intro k hk
    show upd (Ar 22) (6 * a + p) c k < 12
    by_cases e : k = 6 * a + p
    · rw [e, pk_us]
      rcases hc with rfl | ⟨c0, h0c, rfl⟩
      · decide +kernel
      · exact nI_lt (b := 12) (by omega) (by decide)
    · rw [pk_un e]; exact f3 k hk
theorem jJ.paP {s : (Nat → Nat → Int32) × Nat} {a : Nat} (D : kW G Z) (J : jJ Z I s.1 T A Lg) (ha : a < Z.nX) : ∀ nn, nn ≤ Z.np a → jJ Z I (paP I a s nn).1 T A Lg
  | 0, _ => by rw [paP_0]; exact J
  | nn + 1, hn => by
    have J2 := jJ.paP D J ha nn (by omega)
    rw [paP_s]
    unfold paS
    split
    · exact J2
    · split
      · exact J2
      · exact J2.pt2 D ha (by omega) (srC_kN D J2.V)
theorem jJ.paL (D : kW G Z) (J : jJ Z I Ar T A Lg) : ∀ nn, nn ≤ Z.nX → jJ Z I (paL I Ar nn).1 T A Lg
  | 0, _ => by rw [paL_0]; exact J
  | nn + 1, hn => by
    have J2 := jJ.paL D J nn (by omega)
    have h6 := D.p6 nn
    rw [paL_s]
    exact J2.paP D (by omega) _ (by rw [J.V.2.1 nn (by omega), show cl (nI (Z.np nn)) = Z.np nn from nI_clamp (by omega)]; exact Nat.le_refl _)
/-- a cause has another pattern -/
theorem jJ.np {N c : Nat} (D : kW G Z) (J : jJ Z I Ar T A Lg) (hc : c < Z.nC) (hz : Z1.nC = Z.nC ∧ Z1.nL = Z.nL ∧ Z1.nX = Z.nX ∧ Z1.np = Z.np) (hN : kNP c Z Z1 T T1 A A1 Lg Lg1 (Ar 27) (pR Ar N).2) : jJ Z1 I (spN (cnP Ar (pR Ar N).2) c (pR Ar N).2.length) T1 A1 Lg1 := by
  have hlen : (pR Ar N).2.length ≤ 12 := pR_len
  have hc12 : c < 12 := Nat.lt_of_lt_of_le hc D.c12
  have hRB : RW (cnP Ar (pR Ar N).2) (pR Ar N).2 := cnP_RW (fun w hw => (pR_wf w hw).2.1)
  have hAG : AGp Ar (cnP Ar (pR Ar N).2) := cnP_AG
  have h612 : cnP Ar (pR Ar N).2 6 12 = nI (pR Ar N).2.length := cnP_6
  obtain ⟨s1, s2, s3, s4⟩ := spN_at (A := cnP Ar (pR Ar N).2) hc12 (pR Ar N).2.length hlen hRB.cl
  obtain ⟨k6, -⟩ := spN_keep (A := cnP Ar (pR Ar N).2) hc12 (pR Ar N).2.length hlen
  have hPV : PV (spN (cnP Ar (pR Ar N).2) c (pR Ar N).2.length) := (J.hPV.ag hAG).sp hc12 hlen h612 hRB.sz
  have h27 : cnP Ar (pR Ar N).2 27 = Ar 27 := hAG.1 27 (by decide) (by decide) (by decide) (by decide) (by decide)
  generalize hR : spN (cnP Ar (pR Ar N).2) c (pR Ar N).2.length = R at *
  have rr : ∀ j, j ≠ 6 → j ≠ 7 → j ≠ 8 → j ≠ 9 → j ≠ 10 → R j = Ar j := fun j a b d e f => (s1 j a b d e f).trans (hAG.1 j a b d e f)
  have e2 := rr 2 (by decide) (by decide) (by decide) (by decide) (by decide)
  have e4 := rr 4 (by decide) (by decide) (by decide) (by decide) (by decide)
  have e5 := rr 5 (by decide) (by decide) (by decide) (by decide) (by decide)
  have e12 := rr 12 (by decide) (by decide) (by decide) (by decide) (by decide)
  have e14 := rr 14 (by decide) (by decide) (by decide) (by decide) (by decide)
  have e15 := rr 15 (by decide) (by decide) (by decide) (by decide) (by decide)
  have e16 := rr 16 (by decide) (by decide) (by decide) (by decide) (by decide)
  have e17 := rr 17 (by decide) (by decide) (by decide) (by decide) (by decide)
  have e18 := rr 18 (by decide) (by decide) (by decide) (by decide) (by decide)
  have e19 := rr 19 (by decide) (by decide) (by decide) (by decide) (by decide)
  have e20 := rr 20 (by decide) (by decide) (by decide) (by decide) (by decide)
  have e22 := rr 22 (by decide) (by decide) (by decide) (by decide) (by decide)
  have e23 := rr 23 (by decide) (by decide) (by decide) (by decide) (by decide)
  have e24 := rr 24 (by decide) (by decide) (by decide) (by decide) (by decide)
  have e27 := rr 27 (by decide) (by decide) (by decide) (by decide) (by decide)
  obtain ⟨⟨⟨a1, a2, a3⟩, a4, a5, a6⟩, b, cc, d, i1, ⟨f1, f2, f3, f4⟩, -, lv⟩ := J
  obtain ⟨c1, c2, c3, c4⟩ := hz
  obtain ⟨n1, n2, n3, n4, n5, n6⟩ := hN
  have h12 := D.c12
  have h80 := D.l80
  refine ⟨⟨⟨?_, ?_, ?_⟩, ?_, ?_, ?_⟩, ?_, ?_, ?_, i1, ⟨?_, ?_, ?_, ?_⟩, hPV, ?_⟩
  · rw [c3, c2]; exact a1
  · rw [c2]; exact a2
  · rw [c1]; exact a3
  · rw [c3, e15, c4]; exact a4
  · rw [c3, c4, e22, e24, c1]; exact a5
  · rw [c1, e2, e5]; exact a6
  · unfold jQ; rw [c3, c4, e22, e23]; exact b
  · rw [c1, e4]
    intro z hz
    refine ⟨?_, (cc z hz).2⟩
    by_cases hzn : z = c
    · rw [hzn]
      exact jC.new (Ar := cnP Ar (pR Ar N).2) (B := Ar 27) (Lw := (pR Ar N).2) hc12 hRB h27 f2 hlen h612 pR_wf (fun j _ => by rw [hR]) n2 n6
    · refine (cc z hz).1.cg (n1 _ (by omega) (by omega)) (n3 _ (by omega) (by omega)) (n4 _ (by omega) (by omega)) (n5 _ (by omega) (by omega)) ?_ ?_ ?_ (D.s12 hz)
      · rw [k6, if_neg hzn]
        exact hAG.2.1 z (by omega)
      · intro k hk1 hk2
        rw [s3 k (by omega)]
        exact hAG.2.2.2 k (by omega)
      · intro k hk1 hk2
        obtain ⟨y1, y2, y3⟩ := s2 k (by omega)
        rw [y1, y2, y3]
        exact hAG.2.2.1 k (by omega)
  · rw [c3, e14]
    intro a ha
    refine ⟨(d a ha).1.cg (by rw [c4]) (fun p hp => ⟨n1 _ (by omega) (by omega), n5 _ (by omega) (by omega)⟩) (by rw [e16]) (fun k _ => by rw [e17]) (fun k _ => by rw [e18, e19, e20]; exact ⟨rfl, rfl, rfl⟩), ?_⟩
    rw [c4]; exact (d a ha).2
  · rw [e12]; exact f1
  · rw [e27]; exact f2
  · rw [e22]; exact f3
  · rw [e5]; exact f4
  · intro a ha
    unfold LV
    rw [e14, e15, e16, e18, e19]; exact lv a ha
theorem jJ.rel (D1 : ∀ a, Z1.np a ≤ 6) (J : jJ Z1 I Ar T1 A1 Lg1) : (∀ c2, c2 < Z1.nC → Z1.Sz (300 + c2) = cl (Ar 6 c2) ∧ kRP Z1 Ar T1 A1 c2) ∧ ∀ a, a < Z1.nX → ∀ p, p < Z1.np a → ∀ c2, c2 < Z1.nC → kRW Z1 Ar Lg1 c2 a p :=
  ⟨fun c2 h2 => ⟨(J.2.2.1 c2 h2).1.1, (J.2.2.1 c2 h2).1.2.1⟩, fun a ha p hp c2 h2 => kRW.of (J.2.2.1 c2 h2).1 (J.2.2.2.1 a ha).1 hp (D1 a)⟩
end Q16
