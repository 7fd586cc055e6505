section Q19
variable {G : gG} {l : Launch} {h h0 h1 : hW} {Z : kZ} {I : Nat → Int32} {Ar : Nat → Nat → Int32} {T : Nat → Int32} {A : Nat → Nat → Int32} {Lg : Nat → Nat → Int64} {ix ad : Nat → Nat} {x m o : Nat} {fo : Nat → Int64}
variable {I1 I' : Nat → Int32} {Ar1 Ar' : Nat → Nat → Int32} {T1 : Nat → Int32} {A1 : Nat → Nat → Int32} {Lg1 : Nat → Nat → Int64}
variable {P : Int32 → Prop}
theorem j_letter (hs : l.stackTraces = false) (hP : ∀ v, P v) (D : md ix m ad) (S : jS2 G x m o ad Z I Ar T A Lg I Ar fo h) (J : jJ Z I Ar T A Lg) (p : Int32) : opW P G l x m o ad M_L_letter hh_letter [.ref x, .int p, .ref o] M_X7_letter [.int p] h := by
  have hx := S.2.2.2.2
  subst hx
  have D6 := S.1.1
  have V := J.V
  have h12 := D6.c12
  have h80 := J.l80 D6
  have hP0 := hP 0
  obtain ⟨N, hN4, hI28⟩ := J.i28
  obtain ⟨b9, hI31⟩ := J.i31
  obtain ⟨t, ht, hI1⟩ := J.i1
  have hby := J.by27
  have e49 : nI 50 - 1 = (49 : Int32) := by decide +kernel
  rcases noI_or p 50 (by decide) with q1 | ⟨w, hw, rfl⟩
  · have hd : ¬ inR p 0 49 := by rw [← e49]; exact q1.inR (by decide)
    exact opW.thr (P := P) (k := 1) (v := 0) (mcc := 1) (msc := 6) (cls := "java/lang/IllegalArgumentException") (W := dW Z (va_up I 28 0) Ar (va_up (va_up (va_up T 0 (I 28)) 1 0) 2 0) A Lg) (E7 := _) D S hP0 (by decide) (Nat.le_of_ble_eq_true rfl) (Nat.le_of_ble_eq_true rfl) (Nat.le_of_ble_eq_true rfl) (w_letter_1 (post0 := fun _ _ => False) (px0 := fun C h' => C = "java/lang/IllegalArgumentException" ∧ dP G Z h (dW Z (va_up I 28 0) Ar (va_up (va_up (va_up T 0 (I 28)) 1 0) 2 0) A Lg) h') _ o p S.hx (Nat.le_of_ble_eq_true rfl) (CtX.kt S.1 (c_X6_letter_t1 hs S.1 p q1)) (fun C h' z => z.1)) (Ct.mh (fun h0 => c_X7_letter_e1 D p hd)) (hE_of jG.us J.us rfl)
  · have hd : inR (nI w) 0 49 := by rw [← e49]; exact inR.of (by decide) hw
    have c7 := fun h0 => c_X7_letter (l := l) (G := G) (Ar := Ar) (h0 := h0) D (nI w) hd N b9 Z.nL hI28 hN4 hI31 h80 V.1.2.1 (J.i11 D6) J.hPV (J.abv D6)
    by_cases hR : (lR Ar N).1 = none
    · by_cases hL : Z.nL < 80
      · have hlen : (lR Ar N).2.2.length ≤ 60 := lR_wf.2.1
        have hWF : wfR (nlA Ar Z.nL N (nI w) (I 1)) := nlA_wf J
        have hI11 : cl (I 11) ≤ 12 := by rw [kV.n11 D6 V]; exact h12
        have hag : ∀ (I2 : Nat → Int32) (A2 : Nat → Nat → Int32), I2 11 = I 11 → AGl Ar A2 → rlW A2 (lR Ar N).2.2 → A2 15 80 = nI (lR Ar N).2.1 ∧ A2 16 80 = nI (lR Ar N).2.2.length → agR (lpN I Z.nL (nlA Ar Z.nL N (nI w) (I 1)) (lR Ar N).2.1) (lpN I2 Z.nL (ltA A2 Z.nL N (lR Ar N).2.2.length (nI w) (I 1)) (lR Ar N).2.1) := fun I2 A2 hI2 g1 g2 g3 =>
          (lpN_ag (I := I) (I' := I2) hWF hL hI2 hI11 (ltA_ag hL cnL_AG g1 cnL_rl g2 ⟨cnL_15, cnL_16⟩ g3 hlen) (lR Ar N).2.1).1
        have hAr : ∀ j, j ∈ [2, 3, 4, 5, 12, 22, 23, 24, 25, 27] → (nlA Ar Z.nL N (nI w) (I 1)) j = Ar j := fun j hj => nlA_off (by simp only [List.mem_cons, List.mem_nil_iff, or_false] at hj; omega)
        have h13 : (nlA Ar Z.nL N (nI w) (I 1)) 13 = upd (Ar 13) Z.nL (nI w) := by
          rw [nlA_at.1, cnL_AG.1 13 (by decide) (by decide) (by decide) (by decide) (by decide)]
        have h14 : (nlA Ar Z.nL N (nI w) (I 1)) 14 = upd (Ar 14) Z.nL (I 1) := by
          rw [nlA_at.2.1, cnL_AG.1 14 (by decide) (by decide) (by decide) (by decide) (by decide)]
        have hC : ∀ c, c < Z.nC → jC Z (nlA Ar Z.nL N (nI w) (I 1)) T A Lg c := fun c hc => nlA_C D6 J hc
        have hT0 : jT (nlA Ar Z.nL N (nI w) (I 1)) Z.nL (Ar 27) (lR Ar N).2.2 := nlA_T J hL hN4
        have hKQ : kQ Z Ar := ⟨fun c hc => (V.k2 c hc).le (by omega), V.k22⟩
        exact opW.ret (P := P) (r := nI Z.nL) (mcc := 21) (msc := 2280) (F := fun r => r.toInt64) (W := fun Z' I1 Ar1 T' A' Lg' => (I1 = (va_up (va_up I 28 0) 32 (-1)) ∧ Ar1 = lpN I Z.nL (nlA Ar Z.nL N (nI w) (I 1)) (lR Ar N).2.1) ∧ (Z'.nC = Z.nC ∧ Z'.nL = Z.nL + 1 ∧ Z'.nX = Z.nX + 1 ∧ (∀ b, b ≠ Z.nL → Z'.np b = Z.np b) ∧ Z'.np Z.nL = (lR Ar N).2.1) ∧ ((∀ j, 300 ≤ j → j < 3000 + 6 * Z.nL → ¬ (1200 ≤ j ∧ j < 1300) → Z'.Sz j = Z.Sz j) ∧ (∀ j, 8 ≤ j → j < 1000 → T' j = T j) ∧ (∀ j, j ≠ 14 → A' j = A j) ∧ ∀ j, j ≠ 13 → j < 3000 + 6 * Z.nL → Lg' j = Lg j) ∧ (∀ q, q < (lR Ar N).2.1 → Z'.Sz (3000 + (6 * Z.nL + q)) = ptN (lR Ar N).2.2 q ∧ ∀ x, hwJ Z' Lg' (6 * Z.nL + q) x ↔ ptW (Ar 27) (lR Ar N).2.2 q x) ∧ kW G Z')
          (E7 := fun I' Ar' => ∃ (b' p' : Nat) (A2 : Nat → Nat → Int32), AGl Ar A2 ∧ rlW A2 (lR Ar N).2.2 ∧ (A2 15 80 = nI (lR Ar N).2.1 ∧ A2 16 80 = nI (lR Ar N).2.2.length) ∧ I' = va_up (va_up (wI (usI I) b' p') 32 (-1)) 21 (nI (Z.nL + 1)) ∧ Ar' = lpN (va_up (va_up (wI (usI I) b' p') 32 (-1)) 21 (nI (Z.nL + 1))) Z.nL (ltA A2 Z.nL N (lR Ar N).2.2.length (nI w) (I 1)) (lR Ar N).2.1) D S (hP _) rfl (Nat.le_of_ble_eq_true rfl) (Nat.le_of_ble_eq_true rfl) (Nat.le_of_ble_eq_true rfl) (fun hM hp => w_letter (px0 := fun _ _ => True) _ o (nI w) S.hx (Nat.le_of_ble_eq_true rfl) hM hp)
          ((c_X6_letter S.1 N hN4 hby hI28 w hw hR hKQ V.k2 V.1.1 hL I (nlA Ar Z.nL N (nI w) (I 1)) V.1.2.2 hAr h13 h14 (fun c hc => (hC c hc).1) (fun c hc => (hC c hc).2.1) (fun p hp n gw hgw c hc => kRY.of (hC c hc) hT0 (Nat.lt_of_lt_of_le hp lR_wf.1) hgw)).mono (fun v h' q => by
            obtain ⟨z0, Z', T', A', Lg', z1, z2, z3, z4, z5, z6⟩ := q
            exact ⟨z0, Z', _, _, _, _, _, z1, z5, z6, ⟨rfl, rfl⟩, z2, z3, z4, z1.1⟩))
          (fun h0 => (c7 h0).mono (fun v h2 q => by
            obtain ⟨b', p', A2, g, hok, ⟨y1, -⟩ | ⟨-, y1, -⟩ | ⟨-, -, y2, y3⟩⟩ := q
            · exact absurd hR y1
            · omega
            · exact ⟨y2, _, _, y3, b', p', A2, g, (hok hR).1, (hok hR).2, rfl, rfl⟩))
          (by
            rintro Z' I1 Ar1 T' A' Lg' I' Ar' ⟨⟨rfl, rfl⟩, z2, z3, z4, D1⟩ ⟨b', p', A2, g, y1, y2, rfl, rfl⟩
            have w1 := hag (va_up (va_up (wI (usI I) b' p') 32 (-1)) 21 (nI (Z.nL + 1))) A2 rfl g y1 y2
            refine ⟨⟨⟨rfl, rfl, rfl, rfl⟩, w1.l12⟩, ?_, rfl⟩
            exact (J.nl (I2 := va_up (va_up (wI (usI I) b' p') 32 (-1)) 21 (nI (Z.nL + 1))) (yb := nI w) D6 hL hN4 hR ht hI1 z2 z3 z4 rfl rfl rfl ⟨0, by decide, rfl⟩ ⟨b', rfl⟩ rfl).ag D1 w1)
      · have h80' : Z.nL = 80 := by omega
        exact opW.thr (P := P) (k := 2) (v := 0) (mcc := 1) (msc := 6) (cls := "java/lang/UnsupportedOperationException") (W := rW Z (va_up (va_up I 28 0) 32 (-1)) Ar T A Lg) (E7 := eT I Ar (-1) 2 (fun _ => True)) D S hP0 (by decide) (Nat.le_of_ble_eq_true rfl) (Nat.le_of_ble_eq_true rfl) (Nat.le_of_ble_eq_true rfl) (w_letter_2 (post0 := fun _ _ => False) (px0 := fun C h' => C = "java/lang/UnsupportedOperationException" ∧ dP G Z h (rW Z (va_up (va_up I 28 0) 32 (-1)) Ar T A Lg) h') _ o (nI w) S.hx (Nat.le_of_ble_eq_true rfl) (CtX.kr (c_X6_letter_t3 hs S.1 N hN4 hby hI28 w hw hR hL)) (fun C h' z => z.1)) (fun h0 => (c7 h0).mono (fun v h2 q => by
          obtain ⟨b', p', A2, g, hok, ⟨y1, -⟩ | ⟨-, -, y2, y3⟩ | ⟨-, y1, -⟩⟩ := q
          · exact absurd hR y1
          · exact ⟨y2, _, _, y3, b', p', rfl, agR.of_l g, trivial⟩
          · omega)) (rW.hE D6 J)
    · exact opW.thr (P := P) (k := 1) (v := 0) (mcc := 1) (msc := 6) (cls := "java/lang/IllegalArgumentException") (W := rW Z (va_up (va_up I 28 0) 32 (enO (lR Ar N).1)) Ar T A Lg) (E7 := eT I Ar (enO (lR Ar N).1) 1 (fun _ => True)) D S hP0 (by decide) (Nat.le_of_ble_eq_true rfl) (Nat.le_of_ble_eq_true rfl) (Nat.le_of_ble_eq_true rfl) (w_letter_1 (post0 := fun _ _ => False) (px0 := fun C h' => C = "java/lang/IllegalArgumentException" ∧ dP G Z h (rW Z (va_up (va_up I 28 0) 32 (enO (lR Ar N).1)) Ar T A Lg) h') _ o (nI w) S.hx (Nat.le_of_ble_eq_true rfl) (CtX.kr (c_X6_letter_t2 hs S.1 N hN4 hby hI28 w hw hR)) (fun C h' z => z.1)) (fun h0 => (c7 h0).mono (fun v h2 q => by
        obtain ⟨b', p', A2, g, hok, ⟨-, y2, y3⟩ | ⟨y1, -⟩ | ⟨y1, -⟩⟩ := q
        · exact ⟨y2, _, _, y3, b', p', rfl, agR.of_l g, trivial⟩
        · exact absurd y1 hR
        · exact absurd y1 hR)) (rW.hE D6 J)
end Q19
