section K35
variable {G : gG} {l : Launch} {h h0 : hW} {Z : kZ} {I : Nat → Int32} {Ar : Nat → Nat → Int32} {T : Nat → Int32} {A : Nat → Nat → Int32} {Lg : Nat → Nat → Int64}
/-- the cells know some of the reference's rows only -/
theorem kE_Ar {Ar2 : Nat → Nat → Int32} (ho : ∀ j, j ∈ [2, 3, 4, 5, 12, 13, 14, 22, 23, 24, 25, 27] → Ar2 j = Ar j) : kE G Z I Ar2 T A Lg = kE G Z I Ar T A Lg := by
  have h := fun j hj => ho j hj
  funext k
  unfold kE
  by_cases hk : k < 15
  · rw [if_pos hk, if_pos hk]
    match k, hk with
    | 0, _ | 1, _ | 2, _ | 3, _ | 4, _ | 5, _ | 6, _ | 7, _ | 10, _ | 11, _ | 13, _ | 14, _ => rfl
    | 8, _ => show aI G 4 _ = aI G 4 _; rw [h 12 (by decide)]
    | 9, _ => show aI G 10 _ = aI G 10 _; rw [h 25 (by decide)]
    | 12, _ => show aB G 400 _ = aB G 400 _; rw [h 27 (by decide)]
    | z + 15, hz => omega
  · rw [if_neg hk, if_neg hk]
    exact kE1_lo ⟨h 2 (by decide), h 3 (by decide), h 4 (by decide), h 5 (by decide), h 13 (by decide), h 14 (by decide)⟩ (Or.inr ⟨by rw [h 22 (by decide)], by rw [h 23 (by decide)], by rw [h 24 (by decide)]⟩) rfl rfl rfl
theorem kH_Ar {Ar2 : Nat → Nat → Int32} (ho : ∀ j, j ∈ [2, 3, 4, 5, 12, 13, 14, 22, 23, 24, 25, 27] → Ar2 j = Ar j) : kH G Z I Ar2 T A Lg h0 = kH G Z I Ar T A Lg h0 := by
  unfold kH; rw [kE_Ar ho]
/-- what a new pattern of cause c has changed of the desk's own numbers -/
def kNP (c : Nat) (Z Z1 : kZ) (T T1 : Nat → Int32) (A A1 : Nat → Nat → Int32) (Lg Lg1 : Nat → Nat → Int64) (B : Nat → Int32) (Lw : List pW) : Prop :=
  (∀ j, 300 ≤ j → j ≠ 300 + c → Z1.Sz j = Z.Sz j) ∧ Z1.Sz (300 + c) = Lw.length ∧ (∀ j, 8 ≤ j → j ≠ 200 + c → T1 j = T j) ∧ (∀ j, 15 ≤ j → j ≠ 400 + c → A1 j = A j) ∧ (∀ j, 15 ≤ j → j ≠ 300 + c → Lg1 j = Lg j) ∧ kPW B (T1 (200 + c)) (A1 (400 + c)) (Lg1 (300 + c)) Lw
theorem c_X6_pattern (K : kD G Z I Ar T A Lg h) (V : kV Z I Ar) (N : Nat) (hN4 : N ≤ 400) (hby : ∀ i, vp_nar .byte (Ar 27 i) = Ar 27 i) (hI28 : I 28 = nI N) (c : Nat) (hc : c < Z.nC) (hR : (pR Ar N).1 = none) (Ar2 : Nat → Nat → Int32) (hAr : ∀ j, j ≠ 6 → j ≠ 7 → j ≠ 8 → j ≠ 9 → j ≠ 10 → Ar2 j = Ar j) (hrel : ∀ (Z1 : kZ) (T1 : Nat → Int32) (A1 : Nat → Nat → Int32) (Lg1 : Nat → Nat → Int64), (Z1.nC = Z.nC ∧ Z1.nL = Z.nL ∧ Z1.nX = Z.nX ∧ Z1.np = Z.np) → kNP c Z Z1 T T1 A A1 Lg Lg1 (Ar 27) (pR Ar N).2 → (∀ c2, c2 < Z1.nC → Z1.Sz (300 + c2) = cl (Ar2 6 c2) ∧ kRP Z1 Ar2 T1 A1 c2) ∧ ∀ a, a < Z1.nX → ∀ p, p < Z1.np a → ∀ c2, c2 < Z1.nC → kRW Z1 Ar2 Lg1 c2 a p)  : Ct G l 7 3 403 M_X6_pattern [.ref (Z.da 1), .int (nI c)] h (fun v h' => v = some (.int (nI (paL (va_up (va_up I 28 0) 32 (-1)) Ar2 Z.nL).2)) ∧ ∃ (Z1 : kZ) (T1 : Nat → Int32) (A1 : Nat → Nat → Int32) (Lg1 : Nat → Nat → Int64), (Z1.nC = Z.nC ∧ Z1.nL = Z.nL ∧ Z1.nX = Z.nX ∧ Z1.np = Z.np) ∧ kNP c Z Z1 T T1 A A1 Lg Lg1 (Ar 27) (pR Ar N).2 ∧ kD G Z1 (va_up (va_up I 28 0) 32 (-1)) (paL (va_up (va_up I 28 0) 32 (-1)) Ar2 Z.nL).1 T1 A1 Lg1 h' ∧ kF Z Z1 h h' ∧ Z1.da 1 = Z.da 1) := by
  refine Ct.of (by decide +kernel) (Nat.le_of_ble_eq_true rfl) (fun E hE X F => ?_)
  have X : Gc G E "ComplaintDesk" cX6_pattern 3 7 3 403 := X
  show GW G E _ 3 0 [(0, _), (1, _)] [] _ 0 0
  have D := K.1
  refine g_h K.self ?_
  refine g_aload_n X dX6_pattern_0 0 rfl ?_
  refine g_getfield X fl_X6_10 dX6_pattern_1 (kL1 D) rfl ?_
  refine g_cV0 X ml_X6_71 (c_X4_useUp D) ⟨4, _, kL2 D, rfl⟩ (Nat.le_of_ble_eq_true rfl) rfl rfl (Nat.le_of_ble_eq_true rfl) (Nat.le_of_ble_eq_true rfl) (Nat.le_of_ble_eq_true rfl) dX6_pattern_4 ?_
  refine g_aload_n X dX6_pattern_7 0 rfl ?_
  refine g_iload_n X dX6_pattern_8 1 rfl ?_
  refine g_cV X ml_X6_74 (c_X6_causeAt D c hc) ⟨6, _, kL1 D, rfl⟩ (Nat.le_of_ble_eq_true rfl) rfl rfl (Nat.le_of_ble_eq_true rfl) (Nat.le_of_ble_eq_true rfl) (Nat.le_of_ble_eq_true rfl) dX6_pattern_9 ?_
  refine g_astore_n X dX6_pattern_12 (Nat.le_of_ble_eq_true rfl) [(2, _), (0, _), (1, _)] rfl ?_
  refine g_aload_n X dX6_pattern_13 0 rfl ?_
  refine g_aload_n X dX6_pattern_14 1 rfl ?_
  refine g_cVx X ml_X6_88 (c_X6_readPattern (I := va_up I 28 0) (T := (va_up (va_up (va_up T 0 (I 28)) 1 0) 2 0)) D N hN4 hby hI28 rfl hR) ⟨6, _, kL1 D, rfl⟩ (Nat.le_of_ble_eq_true rfl) rfl rfl (Nat.le_of_ble_eq_true rfl) (Nat.le_of_ble_eq_true rfl) (Nat.le_of_ble_eq_true rfl) dX6_pattern_15 ?_
  rintro v9 h9 ⟨T9, A9, Lg9, q, qj, qi, gJ, gI, ⟨hf1, hf2, hf3⟩, rfl, ⟨u1, u2, u3, u4, u5, u6⟩, eP, eJ, eI, hfr, hpw⟩
  refine g_st (st' := [.ref q, .ref (Z.da (100 + c))]) rfl ?_
  have kq : ∀ b x, (kH G Z (va_up (va_up I 28 0) 32 (-1)) Ar T9 A9 Lg9 h) b = some x → h9 b = some x := fun b x hb => (hfr b (fun z => by rw [z, u1] at hb; cases hb) (fun z => by rw [z, u2] at hb; cases hb) (fun z => by rw [z, u3] at hb; cases hb)).trans hb
  have hfT : kTf T T9 := fun j hj => (hf1 j hj).trans (by rw [va_up_ne _ _ (by omega), va_up_ne _ _ (by omega), va_up_ne _ _ (by omega)])
  refine g_putfield X fp_X6_110 dX6_pattern_18 (kq _ _ (kLC D hc)) (Nat.le_of_ble_eq_true rfl) rfl rfl _ rfl ?_
  refine g_h (h' := hup h9 (Z.da (100 + c)) (ob 0 [.int (nI c), va_rf (cz Z (Ar 2 c)), .int (Ar 3 c), .int (Ar 4 c), .int (Ar 5 c), .ref q])) rfl ?_
  have HQ : kQ Z Ar := ⟨fun c hc => (V.k2 c hc).le (Nat.le_of_lt hc), V.k22⟩
  have nC : ∀ {z}, (kH G Z (va_up (va_up I 28 0) 32 (-1)) Ar T9 A9 Lg9 h) z = none → z ≠ Z.da (100 + c) := fun hz e => by rw [e, kLC D hc] at hz; cases hz
  obtain ⟨Z1, t1, t2, t3, t4, t5, t6⟩ := tr_pattern (h' := hup h9 (Z.da (100 + c)) (ob 0 [.int (nI c), va_rf (cz Z (Ar 2 c)), .int (Ar 3 c), .int (Ar 4 c), .int (Ar 5 c), .ref q])) (kD.of (I := (va_up (va_up I 28 0) 32 (-1))) (Ar := Ar) (T := T9) (A := A9) (Lg := Lg9) (h0 := h) D) HQ hc u1 u2 u3 u4 u5 u6 pR_len ((hup_n (nC u1)).trans eP) ((hup_n (nC u2)).trans eJ) ((hup_n (nC u3)).trans eI) hup_s (fun b b1 b2 b3 b4 => (hup_n b1).trans (hfr b b2 b3 b4))
  obtain ⟨q1, q2, q3, q4⟩ := t2
  have hnp : kNP c Z Z1 T (va_up T9 (200 + c) (T9 5)) A (va_up A9 (400 + c) gI) Lg (va_up Lg9 (300 + c) gJ) (Ar 27) (pR Ar N).2 := by
    refine ⟨fun j _ hj => t3 j hj, t4, fun j h8 hj => ?_, fun j h15 hj => ?_, fun j h15 hj => ?_, ?_⟩
    · rw [va_up_ne _ _ hj]; exact hfT j (by omega)
    · rw [va_up_ne _ _ hj]; exact hf2 j (by omega)
    · rw [va_up_ne _ _ hj]; exact hf3 j (by omega)
    · rw [va_up_self, va_up_self, va_up_self]; exact hpw
  obtain ⟨r1, r2⟩ := hrel Z1 _ _ _ ⟨q1, q2, q3, q4⟩ hnp
  have hag : ∀ j, j ∈ [2, 3, 4, 5, 12, 13, 14, 22, 23, 24, 25, 27] → Ar2 j = Ar j := fun j hj => hAr j (fun e => by rw [e] at hj; revert hj; decide) (fun e => by rw [e] at hj; revert hj; decide) (fun e => by rw [e] at hj; revert hj; decide) (fun e => by rw [e] at hj; revert hj; decide) (fun e => by rw [e] at hj; revert hj; decide)
  have V1 : kV Z1 (va_up (va_up I 28 0) 32 (-1)) Ar2 := by
    unfold kV
    rw [q1, q2, q3, q4, hAr 15 (by decide) (by decide) (by decide) (by decide) (by decide), hAr 22 (by decide) (by decide) (by decide) (by decide) (by decide), hAr 24 (by decide) (by decide) (by decide) (by decide) (by decide), hAr 2 (by decide) (by decide) (by decide) (by decide) (by decide), hAr 5 (by decide) (by decide) (by decide) (by decide) (by decide)]
    exact V
  refine g_h (t1.self.trans (kH_Ar hag).symm) ?_
  refine g_aload_n X dX6_pattern_21 1 rfl ?_
  refine g_st (st' := [.ref (Z1.da 1)]) (by rw [t6]) ?_
  refine g_cV X ml_X6_114 (c_X6_sortAnew t1.1 V1 (fun c2 hc2 => (r1 c2 hc2).1) (fun c2 hc2 => (r1 c2 hc2).2) r2) ⟨6, _, kL1 t1.1, rfl⟩ (Nat.le_of_ble_eq_true rfl) rfl rfl (Nat.le_of_ble_eq_true rfl) (Nat.le_of_ble_eq_true rfl) (Nat.le_of_ble_eq_true rfl) dX6_pattern_22 ?_
  refine g_iret X F rfl rfl dX6_pattern_25 (Nat.le_of_ble_eq_true rfl) (Nat.le_of_ble_eq_true rfl) ?_
  rw [q2]
  exact ⟨rfl, Z1, _, _, _, ⟨q1, q2, q3, q4⟩, hnp, kD.of t1.1, (kF.H.tr t5).tr kF.H, t6⟩
end K35
