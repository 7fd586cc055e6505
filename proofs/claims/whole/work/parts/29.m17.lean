section M17
variable {G : gG} {l : Launch} {ix : Nat → Nat} {m : Nat} {ad : Nat → Nat} {I : Nat → Int32} {Ar : Nat → Nat → Int32} {h0 h : hW}
theorem lp_X7_pattern_48 {E : gE} (X : Gc G E "ComplaintDeskModel" cX7_pattern 6 9 0 0) {Q : State → Prop} (D : md ix m ad) (c : Int32) (hI : okN (I 11) 12) (hP : PV Ar) (hA : abvP I Ar) (hN : okN (I 21) 80) (hL : ∀ a, a < 80 → LV Ar a) (hpt : ∀ a, a < 80 → okN (Ar 15 a) 6) (K : GW G E Q 6 141 [(0, .ref m), (1, .int c), (2, .int (nI (paL I Ar (cl (I 21))).2)), (3, .int (nI (cl (I 21))))] [] (mH G ix ad I (paL I Ar (cl (I 21))).1 h0) 0 0) : ∀ (f : Nat) (a : Nat), a ≤ cl (I 21) → cl (I 21) - a < f → GW G E Q 6 48 [(0, .ref m), (1, .int c), (2, .int (nI (paL I Ar a).2)), (3, .int (nI a))] [] (mH G ix ad I (paL I Ar a).1 h0) 0 0 := by
  intro f
  induction f with
  | zero => intro a haa hf; exact absurd hf (Nat.not_lt_zero _)
  | succ f ih =>
    intro a haa hf
    have hL1 := hN.le
    refine g_iload_n X dX7_pattern_48 3 rfl ?_
    refine g_aload_n X dX7_pattern_49 0 rfl ?_
    refine g_getfield X fl_X7_101 dX7_pattern_50 (mLm D) rfl ?_
    refine g_icmp_ge X 141 dX7_pattern_53 (by decide) (fun c_53 => ?_) (fun c_53 => ?_)
    · have hqe : a = cl (I 21) := by have := hN.ge c_53 (by omega); omega
      subst hqe
      refine g_L [0, 1, 2, 3] (L' := [(0, _), (1, _), (2, _), (3, _)]) rfl ?_
      exact K
    · have hqe : a < cl (I 21) := hN.lt (Int32.not_le.mp c_53) (by omega)
      refine g_iconst X (v := 0) dX7_pattern_56 ki_0 ?_
      refine g_istore X dX7_pattern_57 (Nat.le_of_ble_eq_true rfl) [(4, _), (0, _), (1, _), (2, _), (3, _)] rfl ?_
      refine g_L [1, 2, 3, 4, 0] (L' := [(0, _), (1, _), (2, _), (3, _), (4, _)]) rfl ?_
      have e15 : (paL I Ar a).1 15 = Ar 15 := paL_off (by decide) (by decide) a
      have es : paL I Ar (a + 1) = paP I a ((paL I Ar a).1, (paL I Ar a).2) (cl ((paL I Ar a).1 15 a)) := by rw [paL_s, e15]
      have hA1 : abvP I (paL I Ar a).1 := hA.cg (paL_off (by decide) (by decide) a)
      refine g_L [0, 1, 2, 3, 4] (L' := [(0, _), (1, _), (2, .int (nI (paP I a ((paL I Ar a).1, (paL I Ar a).2) 0).2)), (3, _), (4, .int (nI 0))]) (by rw [paP_0]; rfl) ?_
      refine g_h (h' := mH G ix ad I (paP I a ((paL I Ar a).1, (paL I Ar a).2) 0).1 h0) (by rw [paP_0]) ?_
      refine lp_X7_pattern_59 X D c (paL I Ar a).2 a (by omega) hI (hP.cg (paL_off (by decide) (by decide) a) (paL_off (by decide) (by decide) a)) ((hL a (by omega)).cg (paL_off (by decide) (by decide) a) (paL_off (by decide) (by decide) a) (paL_off (by decide) (by decide) a)) hA1 (by rw [e15]; exact hpt a (by omega)) ?_ _ 0 (Nat.zero_le _) (Nat.lt_succ_self _)
      rw [← es]
      refine g_iinc X (v := nI (a + 1)) dX7_pattern_135 3 rfl (nI_1 a) (Nat.le_of_ble_eq_true rfl) [(3, _), (0, _), (1, _), (2, _)] rfl ?_
      refine g_goto X 48 dX7_pattern_138 (by decide) ?_
      refine g_L [1, 2, 3, 0] (L' := [(0, _), (1, _), (2, _), (3, _)]) rfl ?_
      exact ih (a + 1) (by omega) (by omega)
theorem c_X7_pattern_e1 (D : md ix m ad) (c : Int32) (hd : ¬ inR c 0 (I 11 - 1)) : Ct G l 9 0 0 M_X7_pattern [.ref m, .int c] (mH G ix ad I Ar h0) (rX (some (.int 0)) (mH G ix ad (va_up (usI I) 0 1) Ar h0)) := by
  refine Ct.of (by decide +kernel) (Nat.le_of_ble_eq_true rfl) (fun E hE X F => ?_)
  have X : Gc G E "ComplaintDeskModel" cX7_pattern 6 9 0 0 := X
  show GW G E _ 6 0 [(0, _), (1, _)] [] _ 0 0
  refine g_aload_n X dX7_pattern_0 0 rfl ?_
  refine g_cV0 X ml_X7_170 (c_X7_uses D) ⟨7, _, mLm D, rfl⟩ (Nat.le_of_ble_eq_true rfl) rfl rfl (Nat.le_of_ble_eq_true rfl) (Nat.zero_le _) (Nat.zero_le _) dX7_pattern_1 ?_
  refine g_aload_n X dX7_pattern_4 0 rfl ?_
  refine g_aload_n X dX7_pattern_5 0 rfl ?_
  refine g_iload_n X dX7_pattern_6 1 rfl ?_
  refine g_cV X ml_X7_173 (c_X7_noCause (I := usI I) D _) ⟨7, _, mLm D, rfl⟩ (Nat.le_of_ble_eq_true rfl) rfl rfl (Nat.le_of_ble_eq_true rfl) (Nat.zero_le _) (Nat.zero_le _) dX7_pattern_7 ?_
  refine g_eqi (y := (1 : Int32)) (b2_t hd) ?_
  refine g_iconst X (v := 1) dX7_pattern_10 ki_1 ?_
  refine g_cV X ml_X7_179 (c_X7_throwsIf1 D _) ⟨7, _, mLm D, rfl⟩ (Nat.le_of_ble_eq_true rfl) rfl rfl (Nat.le_of_ble_eq_true rfl) (Nat.zero_le _) (Nat.zero_le _) dX7_pattern_11 ?_
  refine g_if_ne X 37 dX7_pattern_14 (by decide) (fun c_14 => ?_) (fun c_14 => absurd c_14 (by decide))
  refine g_iconst X (v := 0) dX7_pattern_37 ki_0 ?_
  refine g_iret X F rfl rfl dX7_pattern_38 (Nat.zero_le _) (Nat.zero_le _) ?_
  exact ⟨rfl, rfl⟩
/-- what pattern has done, once its text is read -/
abbrev ptQ (G : gG) (ix : Nat → Nat) (ad : Nat → Nat) (I : Nat → Int32) (Ar : Nat → Nat → Int32) (h0 : hW) (R : Option Nat × List pW) (c : Nat) : Option Value → hW → Prop := fun v h' => ∃ (b' p' : Nat) (A' : Nat → Nat → Int32), AGp Ar A' ∧ (R.1 = none → RW A' R.2 ∧ A' 6 12 = nI R.2.length) ∧
  ((¬ R.1 = none ∧ v = some (.int 0) ∧ h' = mH G ix ad (va_up (va_up (wI (usI I) b' p') 32 (enO R.1)) 0 2) A' h0) ∨
   (R.1 = none ∧ v = some (.int (nI (paL I (spN A' c R.2.length) (cl (I 21))).2)) ∧ h' = mH G ix ad (va_up (wI (usI I) b' p') 32 (-1)) (paL I (spN A' c R.2.length) (cl (I 21))).1 h0))
theorem srF_cg {Ar : Nat → Nat → Int32} {a p nc : Nat} {f : Nat} {c : Int32} : srF Ar a p nc f c = srF Ar a p nc f c := rfl
theorem paS_I {I I' : Nat → Int32} {a p : Nat} {s : (Nat → Nat → Int32) × Nat} (h : I' 11 = I 11) : paS I' a p s = paS I a p s := by
  unfold paS srC; rw [h]
theorem paP_I {I I' : Nat → Int32} {a : Nat} {s : (Nat → Nat → Int32) × Nat} (h : I' 11 = I 11) : ∀ n, paP I' a s n = paP I a s n
  | 0 => by rw [paP_0, paP_0]
  | n + 1 => by rw [paP_s, paP_s, paP_I h n, paS_I h]
theorem paL_I {I I' : Nat → Int32} {A : Nat → Nat → Int32} (h : I' 11 = I 11) : ∀ n, paL I' A n = paL I A n
  | 0 => by rw [paL_0, paL_0]
  | n + 1 => by rw [paL_s, paL_s, paL_I h n, paP_I h]
theorem c_X7_pattern (D : md ix m ad) (c : Nat) (hd : inR (nI c) 0 (I 11 - 1)) (N b0 : Nat) (hN : I 28 = nI N) (hN4 : N ≤ 400) (hb0 : I 31 = nI b0) (hby : ∀ i, vp_nar .byte (Ar 27 i) = Ar 27 i) (hI : okN (I 11) 12) (hc : c < 12) (hP : PV Ar) (hA : abvP I Ar) (hNL : okN (I 21) 80) (hL : ∀ a, a < 80 → LV Ar a) (hpt : ∀ a, a < 80 → okN (Ar 15 a) 6)  : Ct G l 9 0 0 M_X7_pattern [.ref m, .int (nI c)] (mH G ix ad I Ar h0) (ptQ G ix ad I Ar h0 (pR Ar N) c) := by
  refine Ct.of (by decide +kernel) (Nat.le_of_ble_eq_true rfl) (fun E hE X F => ?_)
  have X : Gc G E "ComplaintDeskModel" cX7_pattern 6 9 0 0 := X
  show GW G E _ 6 0 [(0, _), (1, _)] [] _ 0 0
  refine g_aload_n X dX7_pattern_0 0 rfl ?_
  refine g_cV0 X ml_X7_170 (c_X7_uses D) ⟨7, _, mLm D, rfl⟩ (Nat.le_of_ble_eq_true rfl) rfl rfl (Nat.le_of_ble_eq_true rfl) (Nat.zero_le _) (Nat.zero_le _) dX7_pattern_1 ?_
  refine g_aload_n X dX7_pattern_4 0 rfl ?_
  refine g_aload_n X dX7_pattern_5 0 rfl ?_
  refine g_iload_n X dX7_pattern_6 1 rfl ?_
  refine g_cV X ml_X7_173 (c_X7_noCause (I := usI I) D _) ⟨7, _, mLm D, rfl⟩ (Nat.le_of_ble_eq_true rfl) rfl rfl (Nat.le_of_ble_eq_true rfl) (Nat.zero_le _) (Nat.zero_le _) dX7_pattern_7 ?_
  refine g_eqi (y := (0 : Int32)) (b2_f (fun q => q hd)) ?_
  refine g_iconst X (v := 1) dX7_pattern_10 ki_1 ?_
  refine g_cV X ml_X7_179 (c_X7_throwsIf0 D _) ⟨7, _, mLm D, rfl⟩ (Nat.le_of_ble_eq_true rfl) rfl rfl (Nat.le_of_ble_eq_true rfl) (Nat.zero_le _) (Nat.zero_le _) dX7_pattern_11 ?_
  refine g_if_ne X 37 dX7_pattern_14 (by decide) (fun c_14 => absurd rfl c_14) (fun c_14 => ?_)
  refine g_aload_n X dX7_pattern_17 0 rfl ?_
  refine g_aload_n X dX7_pattern_18 0 rfl ?_
  refine g_cVx X ml_X7_183 (c_X7_readsPattern (I := usI I) D N 0 b0 hN hN4 rfl hb0 (Nat.zero_le _) hby) ⟨7, _, mLm D, rfl⟩ (Nat.le_of_ble_eq_true rfl) rfl rfl (Nat.le_of_ble_eq_true rfl) (Nat.zero_le _) (Nat.zero_le _) dX7_pattern_19 ?_
  rintro v h1 ⟨b1, p1, A1, rfl, hag, rfl, hok⟩
  refine g_st (st' := [.int (b2 ((pR Ar N).1 = none)), .ref m]) rfl ?_
  refine g_if_ne X 29 dX7_pattern_22 (by decide) (fun c_22 => ?_) (fun c_22 => ?_)
  · have hR : (pR Ar N).1 = none := Decidable.not_not.mp (fun q => c_22 (b2_0.mpr q))
    refine g_iconst X (v := 0) dX7_pattern_29 ki_0 ?_
    refine g_iconst X (v := 2) dX7_pattern_30 ki_2 ?_
    refine g_cV X ml_X7_179 (c_X7_throwsIf0 D _) ⟨7, _, mLm D, rfl⟩ (Nat.le_of_ble_eq_true rfl) rfl rfl (Nat.le_of_ble_eq_true rfl) (Nat.zero_le _) (Nat.zero_le _) dX7_pattern_31 ?_
    refine g_if_eq X 39 dX7_pattern_34 (by decide) (fun c_34 => ?_) (fun c_34 => absurd rfl c_34)
    refine g_aload_n X dX7_pattern_39 0 rfl ?_
    refine g_iload_n X dX7_pattern_40 1 rfl ?_
    refine g_cV0 X ml_X7_186 (c_X7_setsPattern (I := (va_up (wI (usI I) b1 p1) 32 (enO (pR Ar N).1))) (Ar := A1) D c (pR Ar N).2.length hc (pP_len 13 0 0 [] (by decide)) (hok hR).2 (hok hR).1.sz) ⟨7, _, mLm D, rfl⟩ (Nat.le_of_ble_eq_true rfl) rfl rfl (Nat.le_of_ble_eq_true rfl) (Nat.zero_le _) (Nat.zero_le _) dX7_pattern_41 ?_
    refine g_iconst X (v := 0) dX7_pattern_44 ki_0 ?_
    refine g_istore_n X dX7_pattern_45 (Nat.le_of_ble_eq_true rfl) [(2, _), (0, _), (1, _)] rfl ?_
    refine g_iconst X (v := 0) dX7_pattern_46 ki_0 ?_
    refine g_istore_n X dX7_pattern_47 (Nat.le_of_ble_eq_true rfl) [(3, _), (2, _), (0, _), (1, _)] rfl ?_
    refine g_L [2, 3, 1, 0] (L' := [(0, _), (1, _), (2, _), (3, _)]) rfl ?_
    have hln : (pR Ar N).2.length ≤ 12 := pP_len 13 0 0 [] (by decide)
    obtain ⟨g1, -, -, -⟩ := spN_at (A := A1) hc (pR Ar N).2.length hln (fun i hi => ((hok hR).1.sz i hi).le)
    have e2 : ∀ j, j ≠ 6 → j ≠ 7 → j ≠ 8 → j ≠ 9 → j ≠ 10 → spN A1 c (pR Ar N).2.length j = Ar j := fun j a1 a2 a3 a4 a5 => (g1 j a1 a2 a3 a4 a5).trans (hag.1 j a1 a2 a3 a4 a5)
    have hP2 : PV (spN A1 c (pR Ar N).2.length) := (hP.ag hag).sp hc hln (hok hR).2 (hok hR).1.sz
    refine g_L [0, 1, 2, 3] (L' := [(0, _), (1, _), (2, .int (nI (paL (va_up (wI (usI I) b1 p1) 32 (enO (pR Ar N).1)) (spN A1 c (pR Ar N).2.length) 0).2)), (3, .int (nI 0))]) (by rw [paL_0]; rfl) ?_
    refine g_h (h' := mH G ix ad (va_up (wI (usI I) b1 p1) 32 (enO (pR Ar N).1)) (paL (va_up (wI (usI I) b1 p1) 32 (enO (pR Ar N).1)) (spN A1 c (pR Ar N).2.length) 0).1 h0) (by rw [paL_0]) ?_
    refine lp_X7_pattern_48 (I := (va_up (wI (usI I) b1 p1) 32 (enO (pR Ar N).1))) X D (nI c) hI hP2 (hA.cg (e2 2 (by decide) (by decide) (by decide) (by decide) (by decide))) hNL (fun a ha => (hL a ha).cg (e2 16 (by decide) (by decide) (by decide) (by decide) (by decide)) (e2 18 (by decide) (by decide) (by decide) (by decide) (by decide)) (e2 19 (by decide) (by decide) (by decide) (by decide) (by decide))) (fun a ha => by rw [e2 15 (by decide) (by decide) (by decide) (by decide) (by decide)]; exact hpt a ha) ?_ _ 0 (Nat.zero_le _) (Nat.lt_succ_self _)
    refine g_iload_n X dX7_pattern_141 2 rfl ?_
    refine g_iret X F rfl rfl dX7_pattern_142 (Nat.zero_le _) (Nat.zero_le _) ?_
    refine ⟨b1, p1, A1, hag, hok, Or.inr ⟨hR, ?_, ?_⟩⟩
    · rw [paL_I (I := I) (I' := (va_up (wI (usI I) b1 p1) 32 (enO (pR Ar N).1))) rfl]; rfl
    · rw [paL_I (I := I) (I' := (va_up (wI (usI I) b1 p1) 32 (enO (pR Ar N).1))) rfl, hR]; rfl
  · have hR0 : ¬ (pR Ar N).1 = none := b2_0.mp (by first | exact c_22 | exact Decidable.not_not.mp c_22)
    refine g_iconst X (v := 1) dX7_pattern_25 ki_1 ?_
    refine g_goto X 30 dX7_pattern_26 (by decide) ?_
    refine g_iconst X (v := 2) dX7_pattern_30 ki_2 ?_
    refine g_cV X ml_X7_179 (c_X7_throwsIf1 D _) ⟨7, _, mLm D, rfl⟩ (Nat.le_of_ble_eq_true rfl) rfl rfl (Nat.le_of_ble_eq_true rfl) (Nat.zero_le _) (Nat.zero_le _) dX7_pattern_31 ?_
    refine g_if_eq X 39 dX7_pattern_34 (by decide) (fun c_34 => absurd c_34 (by decide)) (fun c_34 => ?_)
    refine g_iconst X (v := 0) dX7_pattern_37 ki_0 ?_
    refine g_iret X F rfl rfl dX7_pattern_38 (Nat.zero_le _) (Nat.zero_le _) ?_
    exact ⟨b1, p1, A1, hag, hok, Or.inl ⟨hR0, rfl, rfl⟩⟩
end M17
