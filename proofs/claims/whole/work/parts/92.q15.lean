section Q15
variable {G : gG} {l : Launch} {h h0 h1 : hW} {Z : kZ} {I : Nat → Int32} {Ar : Nat → Nat → Int32} {T : Nat → Int32} {A : Nat → Nat → Int32} {Lg : Nat → Nat → Int64} {ix ad : Nat → Nat} {x m o : Nat} {fo : Nat → Int64}
variable {I1 I' : Nat → Int32} {Ar1 Ar' : Nat → Nat → Int32} {T1 : Nat → Int32} {A1 : Nat → Nat → Int32} {Lg1 : Nat → Nat → Int64}
variable {P : Int32 → Prop}
theorem j_cause (hs : l.stackTraces = false) (hP : ∀ v, P v) (D : md ix m ad) (S : jS2 G x m o ad Z I Ar T A Lg I Ar fo h) (J : jJ Z I Ar T A Lg) (ab dk dd th : Int32) (hth : th = 0 ∨ th = 1) : opW P G l x m o ad M_L_cause hh_cause [.ref x, .int ab, .int dk, .int dd, .int th, .ref o] M_X7_cause [.int ab, .int dk, .int dd, .int th] h := by
  have hx := S.2.2.2.2
  subst hx
  have D6 := S.1.1
  have V := J.V
  have h12 := D6.c12
  have h80 := J.l80 D6
  have hP0 := hP 0
  obtain ⟨N, hN4, hI28⟩ := J.i28
  obtain ⟨b9, hI31⟩ := J.i31
  have hby := J.by27
  have hKQ : kQ Z Ar := ⟨fun c hc => (V.k2 c hc).le (by omega), V.k22⟩
  by_cases q0 : ab = -1
  · subst q0
    rcases noI_or dk 4 (by decide) with q2 | ⟨k, hk, rfl⟩
    · have hd : caB I (-1) dk := Or.inr (nin3 q2)
      exact opW.thr (P := P) (k := 1) (v := 0) (mcc := 1) (msc := 6) (cls := "java/lang/IndexOutOfBoundsException") (W := dW Z (va_up I 28 0) Ar (va_up (va_up (va_up T 0 (I 28)) 1 0) 2 0) A Lg) (E7 := _) D S hP0 (by decide) (Nat.le_of_ble_eq_true rfl) (Nat.le_of_ble_eq_true rfl) (Nat.le_of_ble_eq_true rfl) (w_cause_1 (post0 := fun _ _ => False) (px0 := fun C h' => C = "java/lang/IndexOutOfBoundsException" ∧ dP G Z h (dW Z (va_up I 28 0) Ar (va_up (va_up (va_up T 0 (I 28)) 1 0) 2 0) A Lg) h') _ o (-1) dk dd th S.hx (Nat.le_of_ble_eq_true rfl) (CtX.kt S.1 (c_X6_cause_t2n hs S.1 dk dd th q2)) (fun C h' z => z.1)) (Ct.mh (fun h0 => c_X7_cause_e1 D (-1) dk dd th hd)) (hE_of jG.us J.us rfl)
    · have hd : ¬ caB I (-1) (nI k) := fun z => z.elim (fun z => z.1 rfl) (fun y => y (inR3 hk))
      by_cases q3 : dd < 0 ∨ 60 < dd
      · have hd2 : ¬ inR dd 0 60 := fun z => q3.elim z.1 z.2
        exact opW.thr (P := P) (k := 2) (v := 0) (mcc := 1) (msc := 6) (cls := "java/lang/IllegalArgumentException") (W := dW Z (va_up I 28 0) Ar (va_up (va_up (va_up T 0 (I 28)) 1 0) 2 0) A Lg) (E7 := _) D S hP0 (by decide) (Nat.le_of_ble_eq_true rfl) (Nat.le_of_ble_eq_true rfl) (Nat.le_of_ble_eq_true rfl) (w_cause_2 (post0 := fun _ _ => False) (px0 := fun C h' => C = "java/lang/IllegalArgumentException" ∧ dP G Z h (dW Z (va_up I 28 0) Ar (va_up (va_up (va_up T 0 (I 28)) 1 0) 2 0) A Lg) h') _ o (-1) (nI k) dd th S.hx (Nat.le_of_ble_eq_true rfl) (CtX.kt S.1 (c_X6_cause_t3n hs S.1 k hk dd th q3)) (fun C h' z => z.1)) (Ct.mh (fun h0 => c_X7_cause_e2 D (-1) (nI k) dd th hd hd2)) (hE_of jG.us J.us rfl)
      · obtain ⟨d, hd60, rfl, hin⟩ := inR60 (n := 60) rfl (by decide) q3
        have c7 := fun h0 => c_X7_cause (l := l) (G := G) (Ar := Ar) (h0 := h0) D (-1) (nI k) (nI d) th hd hin N b9 Z.nC hI28 hN4 hI31 hby h12 V.1.2.2
        by_cases hR : (pR Ar N).1 = none
        · by_cases hn : Z.nC < 12
          · exact opW.ret (P := P) (r := nI Z.nC) (mcc := 5) (msc := 559) (F := fun r => r.toInt64) (W := fun Z1 I1 Ar1 T1 A1 Lg1 => ∃ (T' : Nat → Int32) (A' : Nat → Nat → Int32) (Lg' : Nat → Nat → Int64) (x8 tn : Int32) (gI : Nat → Int32) (gJ : Nat → Int64), (kTf T T' ∧ kAf A A' ∧ kLf Lg Lg') ∧ (I1 = va_up (va_up I 28 0) 32 (-1) ∧ Ar1 = caC Ar Z.nC (-1) (nI k) (nI d) th ∧ T1 = va_up (va_up T' 6 x8) (200 + Z.nC) tn ∧ A1 = va_up A' (400 + Z.nC) gI ∧ Lg1 = va_up Lg' (300 + Z.nC) gJ) ∧ (Z1.nC = Z.nC + 1 ∧ Z1.nL = Z.nL ∧ Z1.nX = Z.nX ∧ Z1.np = Z.np) ∧ (∀ j, j ≠ 5 → j ≠ 300 + Z.nC → Z1.Sz j = Z.Sz j) ∧ Z1.Sz (300 + Z.nC) = (pR Ar N).2.length ∧ kPW (Ar 27) tn gI gJ (pR Ar N).2)
              (E7 := fun I' Ar' => ∃ (b' p' : Nat) (A2 : Nat → Nat → Int32), AGp Ar A2 ∧ RW A2 (pR Ar N).2 ∧ A2 6 12 = nI (pR Ar N).2.length ∧ I' = va_up (va_up (wI (usI I) b' p') 32 (-1)) 11 (nI (Z.nC + 1)) ∧ Ar' = spN (caA A2 Z.nC (-1) (nI k) (nI d) th) Z.nC (pR Ar N).2.length) D S (hP _) rfl (Nat.le_of_ble_eq_true rfl) (Nat.le_of_ble_eq_true rfl) (Nat.le_of_ble_eq_true rfl) (fun hM hp => w_cause (px0 := fun _ _ => True) _ o (-1) (nI k) (nI d) th S.hx (Nat.le_of_ble_eq_true rfl) hM hp)
              ((c_X6_cause_n S.1 hKQ N hN4 hby hI28 k d th hk hd60 hth hR hn).mono (fun v h' q => by
                obtain ⟨z0, Z', T', A', Lg', x8, tn, gI, gJ, z1, z2, z3, z4, z5, z6, z7, z8⟩ := q
                exact ⟨z0, Z', _, _, _, _, _, z2, z6, z7, T', A', Lg', x8, tn, gI, gJ, z1, ⟨rfl, rfl, rfl, rfl, rfl⟩, z3, z4, z5, z8⟩))
              (fun h0 => (c7 h0).mono (fun v h2 q => by
                obtain ⟨b', p', A2, g, hok, ⟨y1, -⟩ | ⟨-, y1, -⟩ | ⟨-, -, y2, y3⟩⟩ := q
                · exact absurd hR y1
                · omega
                · exact ⟨y2, _, _, y3, b', p', A2, g, (hok hR).1, (hok hR).2, rfl, rfl⟩))
              (by
                rintro Z1 I1 Ar1 T1 A1 Lg1 I' Ar' ⟨T', A', Lg', x8, tn, gI, gJ, ⟨z1, z2, z3⟩, ⟨rfl, rfl, rfl, rfl, rfl⟩, z4, z5, z6, z7⟩ ⟨b', p', A2, g, y1, y2, rfl, rfl⟩
                exact cause_hE D6 J hn (Or.inl rfl) hd60 hth z1 z2 z3 z4 z5 z6 z7 g y1 y2)
          · have h12' : Z.nC = 12 := by omega
            exact opW.thr (P := P) (k := 3) (v := 0) (mcc := 5) (msc := 559) (cls := "java/lang/UnsupportedOperationException") (W := rW Z (va_up (va_up I 28 0) 32 (-1)) Ar T A Lg) (E7 := eT I Ar (-1) 3 (fun _ => True)) D S hP0 (by decide) (Nat.le_of_ble_eq_true rfl) (Nat.le_of_ble_eq_true rfl) (Nat.le_of_ble_eq_true rfl) (w_cause_3 (post0 := fun _ _ => False) (px0 := fun C h' => C = "java/lang/UnsupportedOperationException" ∧ dP G Z h (rW Z (va_up (va_up I 28 0) 32 (-1)) Ar T A Lg) h') _ o (-1) (nI k) (nI d) th S.hx (Nat.le_of_ble_eq_true rfl) (CtX.kr (c_X6_cause_t5n hs S.1 N hN4 hby hI28 k d th hk hd60 hR hn)) (fun C h' z => z.1)) (fun h0 => (c7 h0).mono (fun v h2 q => by
              obtain ⟨b', p', A2, g, hok, ⟨y1, -⟩ | ⟨-, -, y2, y3⟩ | ⟨-, y1, -⟩⟩ := q
              · exact absurd hR y1
              · exact ⟨y2, _, _, y3, b', p', rfl, agR.of_p g, trivial⟩
              · omega)) (rW.hE D6 J)
        · exact opW.thr (P := P) (k := 2) (v := 0) (mcc := 1) (msc := 6) (cls := "java/lang/IllegalArgumentException") (W := rW Z (va_up (va_up I 28 0) 32 (enO (pR Ar N).1)) Ar T A Lg) (E7 := eT I Ar (enO (pR Ar N).1) 2 (fun _ => True)) D S hP0 (by decide) (Nat.le_of_ble_eq_true rfl) (Nat.le_of_ble_eq_true rfl) (Nat.le_of_ble_eq_true rfl) (w_cause_2 (post0 := fun _ _ => False) (px0 := fun C h' => C = "java/lang/IllegalArgumentException" ∧ dP G Z h (rW Z (va_up (va_up I 28 0) 32 (enO (pR Ar N).1)) Ar T A Lg) h') _ o (-1) (nI k) (nI d) th S.hx (Nat.le_of_ble_eq_true rfl) (CtX.kr (c_X6_cause_t4n hs S.1 N hN4 hby hI28 k d th hk hd60 hR)) (fun C h' z => z.1)) (fun h0 => (c7 h0).mono (fun v h2 q => by
            obtain ⟨b', p', A2, g, hok, ⟨-, y2, y3⟩ | ⟨y1, -⟩ | ⟨y1, -⟩⟩ := q
            · exact ⟨y2, _, _, y3, b', p', rfl, agR.of_p g, trivial⟩
            · exact absurd y1 hR
            · exact absurd y1 hR)) (rW.hE D6 J)
  · rcases noI_or ab Z.nC (by omega) with q1 | ⟨u, hu, rfl⟩
    · have hd : caB I ab dk := Or.inl ⟨q0, by rw [V.1.2.2]; exact q1.inR (by omega)⟩
      exact opW.thr (P := P) (k := 1) (v := 0) (mcc := 1) (msc := 6) (cls := "java/lang/IndexOutOfBoundsException") (W := dW Z (va_up I 28 0) Ar (va_up (va_up (va_up T 0 (I 28)) 1 0) 2 0) A Lg) (E7 := _) D S hP0 (by decide) (Nat.le_of_ble_eq_true rfl) (Nat.le_of_ble_eq_true rfl) (Nat.le_of_ble_eq_true rfl) (w_cause_1 (post0 := fun _ _ => False) (px0 := fun C h' => C = "java/lang/IndexOutOfBoundsException" ∧ dP G Z h (dW Z (va_up I 28 0) Ar (va_up (va_up (va_up T 0 (I 28)) 1 0) 2 0) A Lg) h') _ o ab dk dd th S.hx (Nat.le_of_ble_eq_true rfl) (CtX.kt S.1 (c_X6_cause_t1 hs S.1 ab dk dd th q0 q1)) (fun C h' z => z.1)) (Ct.mh (fun h0 => c_X7_cause_e1 D ab dk dd th hd)) (hE_of jG.us J.us rfl)
    · rcases noI_or dk 4 (by decide) with q2 | ⟨k, hk, rfl⟩
      · have hd : caB I (nI u) dk := Or.inr (nin3 q2)
        exact opW.thr (P := P) (k := 1) (v := 0) (mcc := 1) (msc := 6) (cls := "java/lang/IndexOutOfBoundsException") (W := dW Z (va_up I 28 0) Ar (va_up (va_up (va_up T 0 (I 28)) 1 0) 2 0) A Lg) (E7 := _) D S hP0 (by decide) (Nat.le_of_ble_eq_true rfl) (Nat.le_of_ble_eq_true rfl) (Nat.le_of_ble_eq_true rfl) (w_cause_1 (post0 := fun _ _ => False) (px0 := fun C h' => C = "java/lang/IndexOutOfBoundsException" ∧ dP G Z h (dW Z (va_up I 28 0) Ar (va_up (va_up (va_up T 0 (I 28)) 1 0) 2 0) A Lg) h') _ o (nI u) dk dd th S.hx (Nat.le_of_ble_eq_true rfl) (CtX.kt S.1 (c_X6_cause_t2s hs S.1 u hu dk dd th q2)) (fun C h' z => z.1)) (Ct.mh (fun h0 => c_X7_cause_e1 D (nI u) dk dd th hd)) (hE_of jG.us J.us rfl)
      · have hd : ¬ caB I (nI u) (nI k) := fun z => z.elim (fun z => z.2 (by rw [V.1.2.2]; exact inR.of (by omega) hu)) (fun y => y (inR3 hk))
        by_cases q3 : dd < 0 ∨ 60 < dd
        · have hd2 : ¬ inR dd 0 60 := fun z => q3.elim z.1 z.2
          exact opW.thr (P := P) (k := 2) (v := 0) (mcc := 1) (msc := 6) (cls := "java/lang/IllegalArgumentException") (W := dW Z (va_up I 28 0) Ar (va_up (va_up (va_up T 0 (I 28)) 1 0) 2 0) A Lg) (E7 := _) D S hP0 (by decide) (Nat.le_of_ble_eq_true rfl) (Nat.le_of_ble_eq_true rfl) (Nat.le_of_ble_eq_true rfl) (w_cause_2 (post0 := fun _ _ => False) (px0 := fun C h' => C = "java/lang/IllegalArgumentException" ∧ dP G Z h (dW Z (va_up I 28 0) Ar (va_up (va_up (va_up T 0 (I 28)) 1 0) 2 0) A Lg) h') _ o (nI u) (nI k) dd th S.hx (Nat.le_of_ble_eq_true rfl) (CtX.kt S.1 (c_X6_cause_t3s hs S.1 u hu k hk dd th q3)) (fun C h' z => z.1)) (Ct.mh (fun h0 => c_X7_cause_e2 D (nI u) (nI k) dd th hd hd2)) (hE_of jG.us J.us rfl)
        · obtain ⟨d, hd60, rfl, hin⟩ := inR60 (n := 60) rfl (by decide) q3
          have c7 := fun h0 => c_X7_cause (l := l) (G := G) (Ar := Ar) (h0 := h0) D (nI u) (nI k) (nI d) th hd hin N b9 Z.nC hI28 hN4 hI31 hby h12 V.1.2.2
          by_cases hR : (pR Ar N).1 = none
          · by_cases hn : Z.nC < 12
            · exact opW.ret (P := P) (r := nI Z.nC) (mcc := 5) (msc := 559) (F := fun r => r.toInt64) (W := fun Z1 I1 Ar1 T1 A1 Lg1 => ∃ (T' : Nat → Int32) (A' : Nat → Nat → Int32) (Lg' : Nat → Nat → Int64) (x8 tn : Int32) (gI : Nat → Int32) (gJ : Nat → Int64), (kTf T T' ∧ kAf A A' ∧ kLf Lg Lg') ∧ (I1 = va_up (va_up I 28 0) 32 (-1) ∧ Ar1 = caC Ar Z.nC (nI u) (nI k) (nI d) th ∧ T1 = va_up (va_up T' 6 x8) (200 + Z.nC) tn ∧ A1 = va_up A' (400 + Z.nC) gI ∧ Lg1 = va_up Lg' (300 + Z.nC) gJ) ∧ (Z1.nC = Z.nC + 1 ∧ Z1.nL = Z.nL ∧ Z1.nX = Z.nX ∧ Z1.np = Z.np) ∧ (∀ j, j ≠ 5 → j ≠ 300 + Z.nC → Z1.Sz j = Z.Sz j) ∧ Z1.Sz (300 + Z.nC) = (pR Ar N).2.length ∧ kPW (Ar 27) tn gI gJ (pR Ar N).2)
                (E7 := fun I' Ar' => ∃ (b' p' : Nat) (A2 : Nat → Nat → Int32), AGp Ar A2 ∧ RW A2 (pR Ar N).2 ∧ A2 6 12 = nI (pR Ar N).2.length ∧ I' = va_up (va_up (wI (usI I) b' p') 32 (-1)) 11 (nI (Z.nC + 1)) ∧ Ar' = spN (caA A2 Z.nC (nI u) (nI k) (nI d) th) Z.nC (pR Ar N).2.length) D S (hP _) rfl (Nat.le_of_ble_eq_true rfl) (Nat.le_of_ble_eq_true rfl) (Nat.le_of_ble_eq_true rfl) (fun hM hp => w_cause (px0 := fun _ _ => True) _ o (nI u) (nI k) (nI d) th S.hx (Nat.le_of_ble_eq_true rfl) hM hp)
                ((c_X6_cause_s S.1 hKQ N hN4 hby hI28 u hu k d th hk hd60 hth hR hn).mono (fun v h' q => by
                  obtain ⟨z0, Z', T', A', Lg', x8, tn, gI, gJ, z1, z2, z3, z4, z5, z6, z7, z8⟩ := q
                  exact ⟨z0, Z', _, _, _, _, _, z2, z6, z7, T', A', Lg', x8, tn, gI, gJ, z1, ⟨rfl, rfl, rfl, rfl, rfl⟩, z3, z4, z5, z8⟩))
                (fun h0 => (c7 h0).mono (fun v h2 q => by
                  obtain ⟨b', p', A2, g, hok, ⟨y1, -⟩ | ⟨-, y1, -⟩ | ⟨-, -, y2, y3⟩⟩ := q
                  · exact absurd hR y1
                  · omega
                  · exact ⟨y2, _, _, y3, b', p', A2, g, (hok hR).1, (hok hR).2, rfl, rfl⟩))
                (by
                  rintro Z1 I1 Ar1 T1 A1 Lg1 I' Ar' ⟨T', A', Lg', x8, tn, gI, gJ, ⟨z1, z2, z3⟩, ⟨rfl, rfl, rfl, rfl, rfl⟩, z4, z5, z6, z7⟩ ⟨b', p', A2, g, y1, y2, rfl, rfl⟩
                  exact cause_hE D6 J hn (Or.inr ⟨u, hu, rfl⟩) hd60 hth z1 z2 z3 z4 z5 z6 z7 g y1 y2)
            · have h12' : Z.nC = 12 := by omega
              exact opW.thr (P := P) (k := 3) (v := 0) (mcc := 5) (msc := 559) (cls := "java/lang/UnsupportedOperationException") (W := rW Z (va_up (va_up I 28 0) 32 (-1)) Ar T A Lg) (E7 := eT I Ar (-1) 3 (fun _ => True)) D S hP0 (by decide) (Nat.le_of_ble_eq_true rfl) (Nat.le_of_ble_eq_true rfl) (Nat.le_of_ble_eq_true rfl) (w_cause_3 (post0 := fun _ _ => False) (px0 := fun C h' => C = "java/lang/UnsupportedOperationException" ∧ dP G Z h (rW Z (va_up (va_up I 28 0) 32 (-1)) Ar T A Lg) h') _ o (nI u) (nI k) (nI d) th S.hx (Nat.le_of_ble_eq_true rfl) (CtX.kr (c_X6_cause_t5s hs S.1 N hN4 hby hI28 u hu k d th hk hd60 hR hn)) (fun C h' z => z.1)) (fun h0 => (c7 h0).mono (fun v h2 q => by
                obtain ⟨b', p', A2, g, hok, ⟨y1, -⟩ | ⟨-, -, y2, y3⟩ | ⟨-, y1, -⟩⟩ := q
                · exact absurd hR y1
                · exact ⟨y2, _, _, y3, b', p', rfl, agR.of_p g, trivial⟩
                · omega)) (rW.hE D6 J)
          · exact opW.thr (P := P) (k := 2) (v := 0) (mcc := 1) (msc := 6) (cls := "java/lang/IllegalArgumentException") (W := rW Z (va_up (va_up I 28 0) 32 (enO (pR Ar N).1)) Ar T A Lg) (E7 := eT I Ar (enO (pR Ar N).1) 2 (fun _ => True)) D S hP0 (by decide) (Nat.le_of_ble_eq_true rfl) (Nat.le_of_ble_eq_true rfl) (Nat.le_of_ble_eq_true rfl) (w_cause_2 (post0 := fun _ _ => False) (px0 := fun C h' => C = "java/lang/IllegalArgumentException" ∧ dP G Z h (rW Z (va_up (va_up I 28 0) 32 (enO (pR Ar N).1)) Ar T A Lg) h') _ o (nI u) (nI k) (nI d) th S.hx (Nat.le_of_ble_eq_true rfl) (CtX.kr (c_X6_cause_t4s hs S.1 N hN4 hby hI28 u hu k d th hk hd60 hR)) (fun C h' z => z.1)) (fun h0 => (c7 h0).mono (fun v h2 q => by
              obtain ⟨b', p', A2, g, hok, ⟨-, y2, y3⟩ | ⟨y1, -⟩ | ⟨y1, -⟩⟩ := q
              · exact ⟨y2, _, _, y3, b', p', rfl, agR.of_p g, trivial⟩
              · exact absurd y1 hR
              · exact absurd y1 hR)) (rW.hE D6 J)
end Q15
