section Q17
variable {G : gG} {l : Launch} {h h0 h1 : hW} {Z : kZ} {I : Nat → Int32} {Ar : Nat → Nat → Int32} {T : Nat → Int32} {A : Nat → Nat → Int32} {Lg : Nat → Nat → Int64} {ix ad : Nat → Nat} {x m o : Nat} {fo : Nat → Int64}
variable {I1 I' : Nat → Int32} {Ar1 Ar' : Nat → Nat → Int32} {T1 : Nat → Int32} {A1 : Nat → Nat → Int32} {Lg1 : Nat → Nat → Int64}
variable {P : Int32 → Prop}
theorem wfR_sp {N c : Nat} (J : jJ Z I Ar T A Lg) (hc12 : c < 12) : wfR (spN (cnP Ar (pR Ar N).2) c (pR Ar N).2.length) := by
  have hlen : (pR Ar N).2.length ≤ 12 := pR_len
  have hRB : RW (cnP Ar (pR Ar N).2) (pR Ar N).2 := cnP_RW (fun w hw => (pR_wf w hw).2.1)
  have hAG : AGp Ar (cnP Ar (pR Ar N).2) := cnP_AG
  have h612 : cnP Ar (pR Ar N).2 6 12 = nI (pR Ar N).2.length := cnP_6
  obtain ⟨s1, s2, s3, s4⟩ := spN_at (A := cnP Ar (pR Ar N).2) hc12 (pR Ar N).2.length hlen hRB.cl
  refine ⟨(J.hPV.ag hAG).sp hc12 hlen h612 hRB.sz, fun a ha => ?_⟩
  rw [s1 16 (by decide) (by decide) (by decide) (by decide) (by decide), hAG.1 16 (by decide) (by decide) (by decide) (by decide) (by decide)]
  obtain ⟨j, hj, q⟩ := (J.hLV a ha).1
  rw [q, show cl (nI j) = j from nI_clamp (by omega)]; exact hj
theorem j_pattern (hs : l.stackTraces = false) (hP : ∀ v, P v) (D : md ix m ad) (S : jS2 G x m o ad Z I Ar T A Lg I Ar fo h) (J : jJ Z I Ar T A Lg) (p : Int32) : opW P G l x m o ad M_L_pattern hh_pattern [.ref x, .int p, .ref o] M_X7_pattern [.int p] h := by
  have hx := S.2.2.2.2
  subst hx
  have D6 := S.1.1
  have V := J.V
  have h12 := D6.c12
  have h80 := J.l80 D6
  have hP0 := hP 0
  obtain ⟨N, hN4, hI28⟩ := J.i28
  obtain ⟨b9, hI31⟩ := J.i31
  have hby := J.by27
  rcases noI_or p Z.nC (by omega) with q1 | ⟨c, hc, rfl⟩
  · have hd : ¬ inR p 0 (I 11 - 1) := by rw [V.1.2.2]; exact q1.inR (by omega)
    exact opW.thr (P := P) (k := 1) (v := 0) (mcc := 1) (msc := 6) (cls := "java/lang/IndexOutOfBoundsException") (W := dW Z (va_up I 28 0) Ar (va_up (va_up (va_up T 0 (I 28)) 1 0) 2 0) A Lg) (E7 := _) D S hP0 (by decide) (Nat.le_of_ble_eq_true rfl) (Nat.le_of_ble_eq_true rfl) (Nat.le_of_ble_eq_true rfl) (w_pattern_1 (post0 := fun _ _ => False) (px0 := fun C h' => C = "java/lang/IndexOutOfBoundsException" ∧ dP G Z h (dW Z (va_up I 28 0) Ar (va_up (va_up (va_up T 0 (I 28)) 1 0) 2 0) A Lg) h') _ o p S.hx (Nat.le_of_ble_eq_true rfl) (CtX.kt S.1 (c_X6_pattern_t1 hs S.1 p q1)) (fun C h' z => z.1)) (Ct.mh (fun h0 => c_X7_pattern_e1 D p hd)) (hE_of jG.us J.us rfl)
  · have hd : inR (nI c) 0 (I 11 - 1) := by rw [V.1.2.2]; exact inR.of (by omega) hc
    have c7 := fun h0 => c_X7_pattern (l := l) (G := G) (Ar := Ar) (h0 := h0) D c hd N b9 hI28 hN4 hI31 hby (J.i11 D6) (by omega) J.hPV (J.abv D6) (J.i21 D6) J.hLV J.h15
    by_cases hR : (pR Ar N).1 = none
    · have hc12 : c < 12 := by omega
      have hlen : (pR Ar N).2.length ≤ 12 := pR_len
      have hRB : RW (cnP Ar (pR Ar N).2) (pR Ar N).2 := cnP_RW (fun w hw => (pR_wf w hw).2.1)
      have hWF := wfR_sp (N := N) J hc12
      have hI11 : cl ((va_up (va_up I 28 0) 32 (-1)) 11) ≤ 12 := by
        show cl (I 11) ≤ 12
        rw [kV.n11 D6 V]; exact h12
      have hAr : ∀ j, j ≠ 6 → j ≠ 7 → j ≠ 8 → j ≠ 9 → j ≠ 10 → (spN (cnP Ar (pR Ar N).2) c (pR Ar N).2.length) j = Ar j := fun j a1 a2 a3 a4 a5 => ((spN_at (A := cnP Ar (pR Ar N).2) hc12 (pR Ar N).2.length hlen hRB.cl).1 j a1 a2 a3 a4 a5).trans (cnP_AG.1 j a1 a2 a3 a4 a5)
      have hag : ∀ A2, AGp Ar A2 → RW A2 (pR Ar N).2 → A2 6 12 = nI (pR Ar N).2.length → agR (paL (va_up (va_up I 28 0) 32 (-1)) (spN (cnP Ar (pR Ar N).2) c (pR Ar N).2.length) Z.nL).1 (paL I (spN A2 c (pR Ar N).2.length) Z.nL).1 ∧ wfR (paL (va_up (va_up I 28 0) 32 (-1)) (spN (cnP Ar (pR Ar N).2) c (pR Ar N).2.length) Z.nL).1 ∧ (paL I (spN A2 c (pR Ar N).2.length) Z.nL).2 = (paL (va_up (va_up I 28 0) 32 (-1)) (spN (cnP Ar (pR Ar N).2) c (pR Ar N).2.length) Z.nL).2 := fun A2 g1 g2 g3 =>
        paL_ag (I := (va_up (va_up I 28 0) 32 (-1))) (I' := I) (spN_ag hc12 cnP_AG g1 hRB g2 cnP_6 g3 hlen) hWF rfl hI11 Z.nL h80
      exact opW.ret (P := P) (r := nI (paL (va_up (va_up I 28 0) 32 (-1)) (spN (cnP Ar (pR Ar N).2) c (pR Ar N).2.length) Z.nL).2) (mcc := 3) (msc := 403) (F := fun r => r.toInt64) (W := fun Z1 I1 Ar1 T1 A1 Lg1 => (Z1.nC = Z.nC ∧ Z1.nL = Z.nL ∧ Z1.nX = Z.nX ∧ Z1.np = Z.np) ∧ kNP c Z Z1 T T1 A A1 Lg Lg1 (Ar 27) (pR Ar N).2 ∧ (I1 = (va_up (va_up I 28 0) 32 (-1)) ∧ Ar1 = (paL (va_up (va_up I 28 0) 32 (-1)) (spN (cnP Ar (pR Ar N).2) c (pR Ar N).2.length) Z.nL).1) ∧ kW G Z1)
          (E7 := fun I' Ar' => ∃ (b' p' : Nat) (A2 : Nat → Nat → Int32), AGp Ar A2 ∧ RW A2 (pR Ar N).2 ∧ A2 6 12 = nI (pR Ar N).2.length ∧ I' = va_up (wI (usI I) b' p') 32 (-1) ∧ Ar' = (paL I (spN A2 c (pR Ar N).2.length) Z.nL).1) D S (hP _) rfl (Nat.le_of_ble_eq_true rfl) (Nat.le_of_ble_eq_true rfl) (Nat.le_of_ble_eq_true rfl) (fun hM hp => w_pattern (px0 := fun _ _ => True) _ o (nI c) S.hx (Nat.le_of_ble_eq_true rfl) hM hp)
          ((c_X6_pattern S.1 V N hN4 hby hI28 c hc hR (spN (cnP Ar (pR Ar N).2) c (pR Ar N).2.length) hAr (fun Z1 T1 A1 Lg1 z1 z2 => jJ.rel (fun a => by rw [z1.2.2.2]; exact D6.p6 a) (J.np D6 hc z1 z2))).mono (fun v h' q => by
            obtain ⟨z0, Z1, T1, A1, Lg1, z1, z2, z3, z4, z5⟩ := q
            exact ⟨z0, Z1, _, _, _, _, _, z3, z4, z5, z1, z2, ⟨rfl, rfl⟩, z3.1⟩))
          (fun h0 => (c7 h0).mono (fun v h2 q => by
            obtain ⟨b', p', A2, g, hok, ⟨y1, -⟩ | ⟨-, y2, y3⟩⟩ := q
            · exact absurd hR y1
            · rw [kV.n21 D6 V] at y2 y3
              obtain ⟨w1, w2, w3⟩ := hag A2 g (hok hR).1 (hok hR).2
              rw [w3] at y2
              exact ⟨y2, _, _, y3, b', p', A2, g, (hok hR).1, (hok hR).2, rfl, rfl⟩))
          (by
            rintro Z1 I1 Ar1 T1 A1 Lg1 I' Ar' ⟨z1, z2, ⟨rfl, rfl⟩, D1⟩ ⟨b', p', A2, g, y1, y2, rfl, rfl⟩
            obtain ⟨w1, w2, w3⟩ := hag A2 g y1 y2
            refine ⟨⟨⟨rfl, rfl, rfl, rfl⟩, w1.l12⟩, ?_, rfl⟩
            have J2 := J.np D6 hc z1 z2
            have J3 := J2.paL D1 Z.nL (by rw [z1.2.2.1, V.1.1]; exact Nat.le_refl _)
            rw [← paL_I (I' := (va_up (va_up I 28 0) 32 (-1))) (I := I) rfl] at J3
            exact (J3.ag D1 w1).cI (I' := va_up (wI (usI I) b' p') 32 (-1)) ⟨rfl, rfl, rfl⟩ ⟨0, by decide, rfl⟩ ⟨b', rfl⟩ J.i26)
    · exact opW.thr (P := P) (k := 2) (v := 0) (mcc := 1) (msc := 6) (cls := "java/lang/IllegalArgumentException") (W := rW Z (va_up (va_up I 28 0) 32 (enO (pR Ar N).1)) Ar T A Lg) (E7 := eT I Ar (enO (pR Ar N).1) 2 (fun _ => True)) D S hP0 (by decide) (Nat.le_of_ble_eq_true rfl) (Nat.le_of_ble_eq_true rfl) (Nat.le_of_ble_eq_true rfl) (w_pattern_2 (post0 := fun _ _ => False) (px0 := fun C h' => C = "java/lang/IllegalArgumentException" ∧ dP G Z h (rW Z (va_up (va_up I 28 0) 32 (enO (pR Ar N).1)) Ar T A Lg) h') _ o (nI c) S.hx (Nat.le_of_ble_eq_true rfl) (CtX.kr (c_X6_pattern_t2 hs S.1 N hN4 hby hI28 c hc hR)) (fun C h' z => z.1)) (fun h0 => (c7 h0).mono (fun v h2 q => by
        obtain ⟨b', p', A2, g, hok, ⟨-, y2, y3⟩ | ⟨y1, -⟩⟩ := q
        · exact ⟨y2, _, _, y3, b', p', rfl, agR.of_p g, trivial⟩
        · exact absurd y1 hR)) (rW.hE D6 J)
end Q17
