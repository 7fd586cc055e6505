section Q14
variable {G : gG} {l : Launch} {h h0 h1 : hW} {Z Z' : kZ} {I : Nat → Int32} {Ar : Nat → Nat → Int32} {T : Nat → Int32} {A : Nat → Nat → Int32} {Lg : Nat → Nat → Int64} {ix ad : Nat → Nat} {x m o : Nat} {fo : Nat → Int64}
variable {T' : Nat → Int32} {A' A2 : Nat → Nat → Int32} {Lg' : Nat → Nat → Int64}
theorem RW.cl {B : Nat → Nat → Int32} {Lw : List pW} (h : RW B Lw) : ∀ i, i < Lw.length → (B 8 (144 + i)).toNatClampNeg ≤ 12 := fun i hi => by
  obtain ⟨j, hj, q⟩ := h.sz i hi
  rw [q, show (nI j).toNatClampNeg = j from nI_clamp (by omega)]; exact hj
/-- a new cause -/
theorem cause_hE {N dk dd : Nat} {ab th x8 tn : Int32} {gI : Nat → Int32} {gJ : Nat → Int64} {b' p' : Nat} (D : kW G Z) (J : jJ Z I Ar T A Lg) (hn : Z.nC < 12) (hab : kN Z.nC ab) (hdd : dd ≤ 60) (hth : th = 0 ∨ th = 1) (hT : kTf T T') (hA : kAf A A') (hL : kLf Lg Lg') (hc : Z'.nC = Z.nC + 1 ∧ Z'.nL = Z.nL ∧ Z'.nX = Z.nX ∧ Z'.np = Z.np) (hSz : ∀ j, j ≠ 5 → j ≠ 300 + Z.nC → Z'.Sz j = Z.Sz j) (hS2 : Z'.Sz (300 + Z.nC) = (pR Ar N).2.length) (hPW : kPW (Ar 27) tn gI gJ (pR Ar N).2) (g : AGp Ar A2) (hRW : RW A2 (pR Ar N).2) (h12 : A2 6 12 = nI (pR Ar N).2.length) :
    jG (va_up (va_up I 28 0) 32 (-1)) (caC Ar Z.nC ab (nI dk) (nI dd) th) (va_up (va_up (wI (usI I) b' p') 32 (-1)) 11 (nI (Z.nC + 1))) (spN (caA A2 Z.nC ab (nI dk) (nI dd) th) Z.nC (pR Ar N).2.length) ∧
    jJ Z' (va_up (va_up (wI (usI I) b' p') 32 (-1)) 11 (nI (Z.nC + 1))) (spN (caA A2 Z.nC ab (nI dk) (nI dd) th) Z.nC (pR Ar N).2.length) (va_up (va_up T' 6 x8) (200 + Z.nC) tn) (va_up A' (400 + Z.nC) gI) (va_up Lg' (300 + Z.nC) gJ) ∧ va_up (va_up (wI (usI I) b' p') 32 (-1)) 11 (nI (Z.nC + 1)) 0 = 0 := by
  have hlen : (pR Ar N).2.length ≤ 12 := pR_len
  have hRB : RW (caA A2 Z.nC ab (nI dk) (nI dd) th) (pR Ar N).2 := hRW
  obtain ⟨s1, s2, s3, s4⟩ := spN_at (A := caA A2 Z.nC ab (nI dk) (nI dd) th) hn (pR Ar N).2.length hlen hRB.cl
  obtain ⟨k6, -⟩ := spN_keep (A := caA A2 Z.nC ab (nI dk) (nI dd) th) hn (pR Ar N).2.length hlen
  generalize hR : spN (caA A2 Z.nC ab (nI dk) (nI dd) th) Z.nC (pR Ar N).2.length = R at *
  have r2 : R 2 = upd (Ar 2) Z.nC ab := by
    rw [s1 2 (by decide) (by decide) (by decide) (by decide) (by decide)]
    show upd (A2 2) Z.nC ab = _
    rw [g.1 2 (by decide) (by decide) (by decide) (by decide) (by decide)]
  have r3 : R 3 = upd (Ar 3) Z.nC (nI dk) := by
    rw [s1 3 (by decide) (by decide) (by decide) (by decide) (by decide)]
    show upd (A2 3) Z.nC (nI dk) = _
    rw [g.1 3 (by decide) (by decide) (by decide) (by decide) (by decide)]
  have r4 : R 4 = upd (Ar 4) Z.nC (nI dd) := by
    rw [s1 4 (by decide) (by decide) (by decide) (by decide) (by decide)]
    show upd (A2 4) Z.nC (nI dd) = _
    rw [g.1 4 (by decide) (by decide) (by decide) (by decide) (by decide)]
  have r5 : R 5 = upd (Ar 5) Z.nC th := by
    rw [s1 5 (by decide) (by decide) (by decide) (by decide) (by decide)]
    show upd (A2 5) Z.nC (vp_nar .boolean th) = _
    rw [g.1 5 (by decide) (by decide) (by decide) (by decide) (by decide), bool_nar hth]
  have rr : ∀ j, j ∈ [12, 13, 14, 15, 16, 17, 18, 19, 20, 22, 23, 24, 25, 27] → R j = Ar j := fun j hj => by
    have n2 : j ≠ 2 := fun z => by rw [z] at hj; revert hj; decide
    have n3 : j ≠ 3 := fun z => by rw [z] at hj; revert hj; decide
    have n4 : j ≠ 4 := fun z => by rw [z] at hj; revert hj; decide
    have n5 : j ≠ 5 := fun z => by rw [z] at hj; revert hj; decide
    have n6 : j ≠ 6 := fun z => by rw [z] at hj; revert hj; decide
    have n7 : j ≠ 7 := fun z => by rw [z] at hj; revert hj; decide
    have n8 : j ≠ 8 := fun z => by rw [z] at hj; revert hj; decide
    have n9 : j ≠ 9 := fun z => by rw [z] at hj; revert hj; decide
    have n10 : j ≠ 10 := fun z => by rw [z] at hj; revert hj; decide
    rw [s1 j n6 n7 n8 n9 n10]
    show va_up _ 5 _ j = _
    rw [va_up_ne _ _ n5, va_up_ne _ _ n4, va_up_ne _ _ n3, va_up_ne _ _ n2, g.1 j n6 n7 n8 n9 n10]
  have e12 := rr 12 (by decide)
  have e14 := rr 14 (by decide)
  have e15 := rr 15 (by decide)
  have e16 := rr 16 (by decide)
  have e17 := rr 17 (by decide)
  have e18 := rr 18 (by decide)
  have e19 := rr 19 (by decide)
  have e20 := rr 20 (by decide)
  have e22 := rr 22 (by decide)
  have e23 := rr 23 (by decide)
  have e24 := rr 24 (by decide)
  have e27 := rr 27 (by decide)
  have hPV : PV R := by
    rw [← hR]
    exact ((J.hPV.ag g).cg rfl rfl : PV (caA A2 Z.nC ab (nI dk) (nI dd) th)).sp hn hlen h12 hRW.sz
  obtain ⟨⟨⟨a1, a2, a3⟩, a4, a5, a6⟩, b, c, d, ⟨i1, i28, i31, i26⟩, ⟨f1, f2, f3, f4⟩, -, lv⟩ := J
  obtain ⟨c1, c2, c3, c4⟩ := hc
  have h80 := D.l80
  refine ⟨⟨⟨rfl, rfl, rfl, rfl⟩, fun j hj => ?_⟩, ⟨⟨⟨?_, ?_, ?_⟩, ?_, ?_, ?_⟩, ?_, ?_, ?_, ⟨i1, ⟨0, by decide, rfl⟩, ⟨b', rfl⟩, i26⟩, ⟨?_, ?_, ?_, ?_⟩, hPV, ?_⟩, rfl⟩
  · by_cases h5 : j = 5
    · rw [h5, r5]; rfl
    · by_cases h4 : j = 4
      · rw [h4, r4]; rfl
      · by_cases h3 : j = 3
        · rw [h3, r3]; rfl
        · by_cases h2 : j = 2
          · rw [h2, r2]; rfl
          · rw [show caC Ar Z.nC ab (nI dk) (nI dd) th j = Ar j by
              show va_up _ 5 _ j = _
              rw [va_up_ne _ _ h5, va_up_ne _ _ h4, va_up_ne _ _ h3, va_up_ne _ _ h2]]
            refine rr j ?_
            simp only [List.mem_cons, List.mem_nil_iff, or_false] at hj ⊢
            omega
  · rw [c3, c2]; exact a1
  · rw [c2]; exact a2
  · rw [c1]; rfl
  · rw [c3, e15, c4]; exact a4
  · rw [c3, c4, e22, e24, c1]
    exact fun a ha q hq => ⟨(a5 a ha q hq).1.le (Nat.le_succ _), (a5 a ha q hq).2⟩
  · rw [c1, r2, r5]
    intro z hz
    by_cases hzn : z = Z.nC
    · rw [hzn, pk_us, pk_us]; exact ⟨hab, hth⟩
    · rw [pk_un hzn, pk_un hzn]; exact a6 z (by omega)
  · unfold jQ; rw [c3, c4, e22, e23]; exact b
  · rw [c1, r4]
    intro z hz
    by_cases hzn : z = Z.nC
    · rw [hzn, pk_us]
      refine ⟨?_, dd, hdd, rfl⟩
      refine jC.new (Ar := caA A2 Z.nC ab (nI dk) (nI dd) th) (B := Ar 27) (Lw := (pR Ar N).2) hn hRB (g.1 27 (by decide) (by decide) (by decide) (by decide) (by decide)) f2 hlen h12 pR_wf (fun j _ => by rw [hR]) hS2 ?_
      rw [va_up_self, va_up_self, va_up_self]; exact hPW
    · rw [pk_un hzn]
      have hz2 : z < Z.nC := by omega
      refine ⟨(c z hz2).1.cg (hSz _ (by omega) (by omega)) ?_ ?_ ?_ ?_ ?_ ?_ (D.s12 hz2), (c z hz2).2⟩
      · rw [va_up_ne _ _ (by omega), va_up_ne _ _ (by omega)]; exact hT _ (by omega)
      · rw [va_up_ne _ _ (by omega)]; exact hA _ (by omega)
      · rw [va_up_ne _ _ (by omega)]; exact hL _ (by omega)
      · rw [k6, if_neg hzn]
        exact g.2.1 z (by omega)
      · intro k hk1 hk2
        rw [s3 k (by omega)]
        exact g.2.2.2 k (by omega)
      · intro k hk1 hk2
        obtain ⟨y1, y2, y3⟩ := s2 k (by omega)
        rw [y1, y2, y3]
        exact g.2.2.1 k (by omega)
  · rw [c3, e14]
    intro a ha
    refine ⟨(d a ha).1.cg (by rw [c4]) (fun p hp => ⟨hSz _ (by omega) (by omega), ?_⟩) (by rw [e16]) (fun k _ => by rw [e17]) (fun k _ => by rw [e18, e19, e20]; exact ⟨rfl, rfl, rfl⟩), ?_⟩
    · rw [va_up_ne _ _ (by omega)]; exact hL _ (by omega)
    · rw [c4]; exact (d a ha).2
  · rw [e12]; exact f1
  · rw [e27]; exact f2
  · rw [e22]; exact f3
  · rw [r5]
    intro z hz
    by_cases hzn : z = Z.nC
    · rw [hzn, pk_us]; exact hth
    · rw [pk_un hzn]; exact f4 z hz
  · intro a ha
    unfold LV
    rw [e14, e15, e16, e18, e19]; exact lv a ha
end Q14
