section M3
variable {G : gG} {l : Launch} {ix : Nat → Nat} {m : Nat} {ad : Nat → Nat} {I : Nat → Int32} {Ar : Nat → Nat → Int32} {h0 h : hW}
theorem lp_X7_waits_23 {E : gE} (X : Gc G E "ComplaintDeskModel" cX7_waits 4 2 0 0) (F : gF E M_X7_waits) (D : md ix m ad) (d : Int32) (hC : ∀ k, k < 480 → Ar 22 k < 12)  : ∀ (f : Nat) (k : Nat), k ≤ 480 → 480 - k < f → GW G E (gMQ G E 0 0 (rX (some (.int (nI (cN (isOfP I Ar d) 480)))) (mH G ix ad (t0 I) Ar h0))) 4 23 [(0, .ref m), (1, .int d), (2, .int (nI (cN (isOfP I Ar d) k))), (3, .int (nI k))] [] (mH G ix ad (t0 I) Ar h0) 0 0 := by
  intro f
  induction f with
  | zero => intro k hk hf; exact absurd hf (Nat.not_lt_zero _)
  | succ f ih =>
    intro k hk hf
    refine g_iload_n X dX7_waits_23 3 rfl ?_
    refine g_sipush X (v := 480) dX7_waits_24 ks_480 ?_
    refine g_icmp_ge X 53 dX7_waits_27 (by decide) (fun c_27 => ?_) (fun c_27 => ?_)
    · have hk : k = 480 := by have := ge_lit (N := 480) rfl c_27 (by omega); omega
      subst hk
      refine g_iload_n X dX7_waits_53 2 rfl ?_
      refine g_iret X F rfl rfl dX7_waits_54 (Nat.zero_le _) (Nat.zero_le _) ?_
      exact ⟨rfl, rfl⟩
    · have hk8 : k < 480 := lt_lit (N := 480) rfl (Int32.not_le.mp c_27) (by omega)
      refine g_iload_n X dX7_waits_30 2 rfl ?_
      refine g_aload_n X dX7_waits_31 0 rfl ?_
      refine g_iload_n X dX7_waits_32 1 rfl ?_
      refine g_iload_n X dX7_waits_33 3 rfl ?_
      refine g_cV X ml_X7_204 (c_X7_isOf (I := t0 I) D d k hk8 (hC k hk8)) ⟨7, _, mLm D, rfl⟩ (Nat.le_of_ble_eq_true rfl) rfl rfl (Nat.le_of_ble_eq_true rfl) (Nat.zero_le _) (Nat.zero_le _) dX7_waits_34 ?_
      refine g_if_eq X 44 dX7_waits_37 (by decide) (fun c_37 => ?_) (fun c_37 => ?_)
      · have hp : ¬ isOfP I Ar d k := b2_0.mp c_37
        refine g_iconst X (v := 0) dX7_waits_44 ki_0 ?_
        refine g_iadd X dX7_waits_45 ?_
        refine g_eqi (y := nI (cN (isOfP I Ar d) (k + 1))) (by first | exact cN_t hp | exact cN_f hp) ?_
        refine g_istore_n X dX7_waits_46 (Nat.le_of_ble_eq_true rfl) [(2, _), (0, _), (1, _), (3, _)] rfl ?_
        refine g_iinc X (v := nI (k + 1)) dX7_waits_47 3 rfl (nI_1 k) (Nat.le_of_ble_eq_true rfl) [(3, _), (2, _), (0, _), (1, _)] rfl ?_
        refine g_goto X 23 dX7_waits_50 (by decide) ?_
        refine g_L [2, 3, 1, 0] (L' := [(0, _), (1, _), (2, _), (3, _)]) rfl ?_
        exact ih (k + 1) (by omega) (by omega)
      · have hp : isOfP I Ar d k := Decidable.not_not.mp (fun q => c_37 (b2_0.mpr q))
        refine g_iconst X (v := 1) dX7_waits_40 ki_1 ?_
        refine g_goto X 45 dX7_waits_41 (by decide) ?_
        refine g_iadd X dX7_waits_45 ?_
        refine g_eqi (y := nI (cN (isOfP I Ar d) (k + 1))) (by first | exact cN_t hp | exact cN_f hp) ?_
        refine g_istore_n X dX7_waits_46 (Nat.le_of_ble_eq_true rfl) [(2, _), (0, _), (1, _), (3, _)] rfl ?_
        refine g_iinc X (v := nI (k + 1)) dX7_waits_47 3 rfl (nI_1 k) (Nat.le_of_ble_eq_true rfl) [(3, _), (2, _), (0, _), (1, _)] rfl ?_
        refine g_goto X 23 dX7_waits_50 (by decide) ?_
        refine g_L [2, 3, 1, 0] (L' := [(0, _), (1, _), (2, _), (3, _)]) rfl ?_
        exact ih (k + 1) (by omega) (by omega)
theorem c_X7_waits_e1 (D : md ix m ad) (d : Int32) (hd : ¬ inR d 0 3)  : Ct G l 2 0 0 M_X7_waits [.ref m, .int d] (mH G ix ad I Ar h0) (rX (some (.int 0)) (mH G ix ad (va_up (t0 I) 0 1) Ar h0)) := by
  refine Ct.of (by decide +kernel) (Nat.le_of_ble_eq_true rfl) (fun E hE X F => ?_)
  have X : Gc G E "ComplaintDeskModel" cX7_waits 4 2 0 0 := X
  show GW G E _ 4 0 [(0, _), (1, _)] [] _ 0 0
  refine g_aload_n X dX7_waits_0 0 rfl ?_
  refine g_iconst X (v := 0) dX7_waits_1 ki_0 ?_
  refine m_put X D 0 (by decide) fp_X7_91 dX7_waits_2 (mset_0 _ _ _) ?_
  refine g_aload_n X dX7_waits_5 0 rfl ?_
  refine g_iload_n X dX7_waits_6 1 rfl ?_
  refine g_cS X ml_X7_176 (c_X7_noDesk _) (Nat.le_of_ble_eq_true rfl) rfl rfl (Nat.le_of_ble_eq_true rfl) (Nat.zero_le _) (Nat.zero_le _) dX7_waits_7 ?_
  refine g_eqi (y := (1 : Int32)) (b2_t hd) ?_
  refine g_iconst X (v := 1) dX7_waits_10 ki_1 ?_
  refine g_cV X ml_X7_179 (c_X7_throwsIf1 D _) ⟨7, _, mLm D, rfl⟩ (Nat.le_of_ble_eq_true rfl) rfl rfl (Nat.le_of_ble_eq_true rfl) (Nat.zero_le _) (Nat.zero_le _) dX7_waits_11 ?_
  refine g_if_eq X 19 dX7_waits_14 (by decide) (fun c_14 => absurd c_14 (by decide)) (fun c_14 => ?_)
  refine g_iconst X (v := 0) dX7_waits_17 ki_0 ?_
  refine g_iret X F rfl rfl dX7_waits_18 (Nat.zero_le _) (Nat.zero_le _) ?_
  exact ⟨rfl, rfl⟩
theorem c_X7_waits (D : md ix m ad) (d : Int32) (hd : inR d 0 3) (hC : ∀ k, k < 480 → Ar 22 k < 12)  : Ct G l 2 0 0 M_X7_waits [.ref m, .int d] (mH G ix ad I Ar h0) (rX (some (.int (nI (cN (isOfP I Ar d) 480)))) (mH G ix ad (t0 I) Ar h0)) := by
  refine Ct.of (by decide +kernel) (Nat.le_of_ble_eq_true rfl) (fun E hE X F => ?_)
  have X : Gc G E "ComplaintDeskModel" cX7_waits 4 2 0 0 := X
  show GW G E _ 4 0 [(0, _), (1, _)] [] _ 0 0
  refine g_aload_n X dX7_waits_0 0 rfl ?_
  refine g_iconst X (v := 0) dX7_waits_1 ki_0 ?_
  refine m_put X D 0 (by decide) fp_X7_91 dX7_waits_2 (mset_0 _ _ _) ?_
  refine g_aload_n X dX7_waits_5 0 rfl ?_
  refine g_iload_n X dX7_waits_6 1 rfl ?_
  refine g_cS X ml_X7_176 (c_X7_noDesk _) (Nat.le_of_ble_eq_true rfl) rfl rfl (Nat.le_of_ble_eq_true rfl) (Nat.zero_le _) (Nat.zero_le _) dX7_waits_7 ?_
  refine g_eqi (y := (0 : Int32)) (b2_f (Decidable.not_not.mpr hd)) ?_
  refine g_iconst X (v := 1) dX7_waits_10 ki_1 ?_
  refine g_cV X ml_X7_179 (c_X7_throwsIf0 D _) ⟨7, _, mLm D, rfl⟩ (Nat.le_of_ble_eq_true rfl) rfl rfl (Nat.le_of_ble_eq_true rfl) (Nat.zero_le _) (Nat.zero_le _) dX7_waits_11 ?_
  refine g_if_eq X 19 dX7_waits_14 (by decide) (fun c_14 => ?_) (fun c_14 => absurd rfl c_14)
  refine g_iconst X (v := 0) dX7_waits_19 ki_0 ?_
  refine g_istore_n X dX7_waits_20 (Nat.le_of_ble_eq_true rfl) [(2, _), (0, _), (1, _)] rfl ?_
  refine g_iconst X (v := 0) dX7_waits_21 ki_0 ?_
  refine g_istore_n X dX7_waits_22 (Nat.le_of_ble_eq_true rfl) [(3, _), (2, _), (0, _), (1, _)] rfl ?_
  refine g_L [2, 3, 1, 0] (L' := [(0, _), (1, _), (2, _), (3, _)]) rfl ?_
  refine g_L [0, 1, 2, 3] (L' := [(0, _), (1, _), (2, .int (nI (cN (isOfP I Ar d) 0))), (3, _)]) (by rw [cN_0]; rfl) ?_
  exact lp_X7_waits_23 X F D d hC 481 0 (by omega) (by omega)
theorem c_X7_hours_e1 (D : md ix m ad) (d n : Int32) (hd : ¬ inR d 0 3)  : Ct G l 2 0 0 M_X7_hours [.ref m, .int d, .int n] (mH G ix ad I Ar h0) (rX (none) (mH G ix ad (va_up (t0 I) 0 1) Ar h0)) := by
  refine Ct.of (by decide +kernel) (Nat.le_of_ble_eq_true rfl) (fun E hE X F => ?_)
  have X : Gc G E "ComplaintDeskModel" cX7_hours 3 2 0 0 := X
  show GW G E _ 3 0 [(0, _), (1, _), (2, _)] [] _ 0 0
  refine g_aload_n X dX7_hours_0 0 rfl ?_
  refine g_iconst X (v := 0) dX7_hours_1 ki_0 ?_
  refine m_put X D 0 (by decide) fp_X7_91 dX7_hours_2 (mset_0 _ _ _) ?_
  refine g_aload_n X dX7_hours_5 0 rfl ?_
  refine g_iload_n X dX7_hours_6 1 rfl ?_
  refine g_cS X ml_X7_176 (c_X7_noDesk _) (Nat.le_of_ble_eq_true rfl) rfl rfl (Nat.le_of_ble_eq_true rfl) (Nat.zero_le _) (Nat.zero_le _) dX7_hours_7 ?_
  refine g_eqi (y := (1 : Int32)) (b2_t hd) ?_
  refine g_iconst X (v := 1) dX7_hours_10 ki_1 ?_
  refine g_cV X ml_X7_179 (c_X7_throwsIf1 D _) ⟨7, _, mLm D, rfl⟩ (Nat.le_of_ble_eq_true rfl) rfl rfl (Nat.le_of_ble_eq_true rfl) (Nat.zero_le _) (Nat.zero_le _) dX7_hours_11 ?_
  refine g_if_ne X 40 dX7_hours_14 (by decide) (fun c_14 => ?_) (fun c_14 => absurd c_14 (by decide))
  refine g_ret0 X F rfl dX7_hours_40 (Nat.zero_le _) (Nat.zero_le _) ?_
  exact ⟨rfl, rfl⟩
theorem c_X7_hours (D : md ix m ad) (d n : Int32) (hd : inR d 0 3) (hn : inR n 0 20) : Ct G l 2 0 0 M_X7_hours [.ref m, .int d, .int n] (mH G ix ad I Ar h0) (rX none (mH G ix ad (t0 I) (va_up Ar 12 (upd (Ar 12) (cl d) n)) h0)) := by
  refine Ct.of (by decide +kernel) (Nat.le_of_ble_eq_true rfl) (fun E hE X F => ?_)
  have X : Gc G E "ComplaintDeskModel" cX7_hours 3 2 0 0 := X
  show GW G E _ 3 0 [(0, _), (1, _), (2, _)] [] _ 0 0
  refine g_aload_n X dX7_hours_0 0 rfl ?_
  refine g_iconst X (v := 0) dX7_hours_1 ki_0 ?_
  refine m_put X D 0 (by decide) fp_X7_91 dX7_hours_2 (mset_0 _ _ _) ?_
  refine g_aload_n X dX7_hours_5 0 rfl ?_
  refine g_iload_n X dX7_hours_6 1 rfl ?_
  refine g_cS X ml_X7_176 (c_X7_noDesk _) (Nat.le_of_ble_eq_true rfl) rfl rfl (Nat.le_of_ble_eq_true rfl) (Nat.zero_le _) (Nat.zero_le _) dX7_hours_7 ?_
  refine g_eqi (y := (0 : Int32)) (b2_f (Decidable.not_not.mpr hd)) ?_
  refine g_iconst X (v := 1) dX7_hours_10 ki_1 ?_
  refine g_cV X ml_X7_179 (c_X7_throwsIf0 D _) ⟨7, _, mLm D, rfl⟩ (Nat.le_of_ble_eq_true rfl) rfl rfl (Nat.le_of_ble_eq_true rfl) (Nat.zero_le _) (Nat.zero_le _) dX7_hours_11 ?_
  refine g_if_ne X 40 dX7_hours_14 (by decide) (fun c_14 => absurd rfl c_14) (fun c_14 => ?_)
  refine g_aload_n X dX7_hours_17 0 rfl ?_
  refine g_iload_n X dX7_hours_18 2 rfl ?_
  refine g_iconst X (v := 0) dX7_hours_19 ki_0 ?_
  refine g_bipush X (v := 20) dX7_hours_20 kb_20 ?_
  refine g_cS X ml_X7_97 (c_X7_in _ _ _) (Nat.le_of_ble_eq_true rfl) rfl rfl (Nat.le_of_ble_eq_true rfl) (Nat.zero_le _) (Nat.zero_le _) dX7_hours_22 ?_
  refine g_eqi (y := (1 : Int32)) (b2_t hn) ?_
  refine g_if_ne X 32 dX7_hours_25 (by decide) (fun c_25 => ?_) (fun c_25 => absurd c_25 (by decide))
  refine g_iconst X (v := 0) dX7_hours_32 ki_0 ?_
  refine g_iconst X (v := 2) dX7_hours_33 ki_2 ?_
  refine g_cV X ml_X7_179 (c_X7_throwsIf0 D _) ⟨7, _, mLm D, rfl⟩ (Nat.le_of_ble_eq_true rfl) rfl rfl (Nat.le_of_ble_eq_true rfl) (Nat.zero_le _) (Nat.zero_le _) dX7_hours_34 ?_
  refine g_if_eq X 41 dX7_hours_37 (by decide) (fun c_37 => ?_) (fun c_37 => absurd rfl c_37)
  refine g_aload_n X dX7_hours_41 0 rfl ?_
  refine g_getfield X fl_X7_39 dX7_hours_42 (mLm D) rfl ?_
  refine g_iload_n X dX7_hours_45 1 rfl ?_
  refine g_iload_n X dX7_hours_46 2 rfl ?_
  refine g_iastore X dX7_hours_47 (mLa D 12 rfl) (by obtain ⟨j, q1, rfl⟩ := inR_nat (N := 3) (by decide) hd; exact vp_in_nI (by omega) (by decide)) (g_h (mUa D 12 rfl _) ?_)
  refine g_ret0 X F rfl dX7_hours_48 (Nat.zero_le _) (Nat.zero_le _) ?_
  exact ⟨rfl, rfl⟩
theorem c_X7_hours_e2 (D : md ix m ad) (d n : Int32) (hd : inR d 0 3) (hn : ¬ inR n 0 20) : Ct G l 2 0 0 M_X7_hours [.ref m, .int d, .int n] (mH G ix ad I Ar h0) (rX none (mH G ix ad (va_up (t0 I) 0 2) Ar h0)) := by
  refine Ct.of (by decide +kernel) (Nat.le_of_ble_eq_true rfl) (fun E hE X F => ?_)
  have X : Gc G E "ComplaintDeskModel" cX7_hours 3 2 0 0 := X
  show GW G E _ 3 0 [(0, _), (1, _), (2, _)] [] _ 0 0
  refine g_aload_n X dX7_hours_0 0 rfl ?_
  refine g_iconst X (v := 0) dX7_hours_1 ki_0 ?_
  refine m_put X D 0 (by decide) fp_X7_91 dX7_hours_2 (mset_0 _ _ _) ?_
  refine g_aload_n X dX7_hours_5 0 rfl ?_
  refine g_iload_n X dX7_hours_6 1 rfl ?_
  refine g_cS X ml_X7_176 (c_X7_noDesk _) (Nat.le_of_ble_eq_true rfl) rfl rfl (Nat.le_of_ble_eq_true rfl) (Nat.zero_le _) (Nat.zero_le _) dX7_hours_7 ?_
  refine g_eqi (y := (0 : Int32)) (b2_f (Decidable.not_not.mpr hd)) ?_
  refine g_iconst X (v := 1) dX7_hours_10 ki_1 ?_
  refine g_cV X ml_X7_179 (c_X7_throwsIf0 D _) ⟨7, _, mLm D, rfl⟩ (Nat.le_of_ble_eq_true rfl) rfl rfl (Nat.le_of_ble_eq_true rfl) (Nat.zero_le _) (Nat.zero_le _) dX7_hours_11 ?_
  refine g_if_ne X 40 dX7_hours_14 (by decide) (fun c_14 => absurd rfl c_14) (fun c_14 => ?_)
  refine g_aload_n X dX7_hours_17 0 rfl ?_
  refine g_iload_n X dX7_hours_18 2 rfl ?_
  refine g_iconst X (v := 0) dX7_hours_19 ki_0 ?_
  refine g_bipush X (v := 20) dX7_hours_20 kb_20 ?_
  refine g_cS X ml_X7_97 (c_X7_in _ _ _) (Nat.le_of_ble_eq_true rfl) rfl rfl (Nat.le_of_ble_eq_true rfl) (Nat.zero_le _) (Nat.zero_le _) dX7_hours_22 ?_
  refine g_eqi (y := (0 : Int32)) (b2_f hn) ?_
  refine g_if_ne X 32 dX7_hours_25 (by decide) (fun c_25 => absurd rfl c_25) (fun c_25 => ?_)
  refine g_iconst X (v := 1) dX7_hours_28 ki_1 ?_
  refine g_goto X 33 dX7_hours_29 (by decide) ?_
  refine g_iconst X (v := 2) dX7_hours_33 ki_2 ?_
  refine g_cV X ml_X7_179 (c_X7_throwsIf1 D _) ⟨7, _, mLm D, rfl⟩ (Nat.le_of_ble_eq_true rfl) rfl rfl (Nat.le_of_ble_eq_true rfl) (Nat.zero_le _) (Nat.zero_le _) dX7_hours_34 ?_
  refine g_if_eq X 41 dX7_hours_37 (by decide) (fun c_37 => absurd c_37 (by decide)) (fun c_37 => ?_)
  refine g_ret0 X F rfl dX7_hours_40 (Nat.zero_le _) (Nat.zero_le _) ?_
  exact ⟨rfl, rfl⟩
theorem ix6_480 {a b : Nat} (ha : a < 80) (hb : b < 6) : 6 * a + b < 480 := by omega
theorem c_X7_answer_e1 (D : md ix m ad) (lt p : Int32) (hl : inR lt 0 (I 21 - 1) → vp_in lt 81) (hd : noPt I Ar lt p)  : Ct G l 3 0 0 M_X7_answer [.ref m, .int lt, .int p] (mH G ix ad I Ar h0) (rX (some (.int 0)) (mH G ix ad (va_up (t0 I) 0 1) Ar h0)) := by
  refine Ct.of (by decide +kernel) (Nat.le_of_ble_eq_true rfl) (fun E hE X F => ?_)
  have X : Gc G E "ComplaintDeskModel" cX7_answer 3 3 0 0 := X
  show GW G E _ 3 0 [(0, _), (1, _), (2, _)] [] _ 0 0
  refine g_aload_n X dX7_answer_0 0 rfl ?_
  refine g_iconst X (v := 0) dX7_answer_1 ki_0 ?_
  refine m_put X D 0 (by decide) fp_X7_91 dX7_answer_2 (mset_0 _ _ _) ?_
  refine g_aload_n X dX7_answer_5 0 rfl ?_
  refine g_aload_n X dX7_answer_6 0 rfl ?_
  refine g_iload_n X dX7_answer_7 1 rfl ?_
  refine g_iload_n X dX7_answer_8 2 rfl ?_
  refine g_cV X ml_X7_214 (c_X7_noPoint (I := t0 I) D _ _ hl) ⟨7, _, mLm D, rfl⟩ (Nat.le_of_ble_eq_true rfl) rfl rfl (Nat.le_of_ble_eq_true rfl) (Nat.zero_le _) (Nat.zero_le _) dX7_answer_9 ?_
  refine g_eqi (y := (1 : Int32)) (b2_t hd) ?_
  refine g_iconst X (v := 1) dX7_answer_12 ki_1 ?_
  refine g_cV X ml_X7_179 (c_X7_throwsIf1 D _) ⟨7, _, mLm D, rfl⟩ (Nat.le_of_ble_eq_true rfl) rfl rfl (Nat.le_of_ble_eq_true rfl) (Nat.zero_le _) (Nat.zero_le _) dX7_answer_13 ?_
  refine g_if_ne X 33 dX7_answer_16 (by decide) (fun c_16 => ?_) (fun c_16 => absurd c_16 (by decide))
  refine g_iconst X (v := 0) dX7_answer_33 ki_0 ?_
  refine g_iret X F rfl rfl dX7_answer_34 (Nat.zero_le _) (Nat.zero_le _) ?_
  exact ⟨rfl, rfl⟩
theorem c_X7_answer (D : md ix m ad) (a b : Nat) (ha : a < 80) (hb : b < 6) (hl : inR (nI a) 0 (I 21 - 1) → vp_in (nI a) 81) (hd : ¬ noPt I Ar (nI a) (nI b))  : Ct G l 3 0 0 M_X7_answer [.ref m, .int (nI a), .int (nI b)] (mH G ix ad I Ar h0) (rX (some (.int (b2 (Ar 24 (6 * a + b) < 0)))) (mH G ix ad (t0 I) (if Ar 24 (6 * a + b) < 0 then va_up Ar 24 (upd (Ar 24) (6 * a + b) (I 1)) else Ar) h0)) := by
  refine Ct.of (by decide +kernel) (Nat.le_of_ble_eq_true rfl) (fun E hE X F => ?_)
  have X : Gc G E "ComplaintDeskModel" cX7_answer 3 3 0 0 := X
  show GW G E _ 3 0 [(0, _), (1, _), (2, _)] [] _ 0 0
  refine g_aload_n X dX7_answer_0 0 rfl ?_
  refine g_iconst X (v := 0) dX7_answer_1 ki_0 ?_
  refine m_put X D 0 (by decide) fp_X7_91 dX7_answer_2 (mset_0 _ _ _) ?_
  refine g_aload_n X dX7_answer_5 0 rfl ?_
  refine g_aload_n X dX7_answer_6 0 rfl ?_
  refine g_iload_n X dX7_answer_7 1 rfl ?_
  refine g_iload_n X dX7_answer_8 2 rfl ?_
  refine g_cV X ml_X7_214 (c_X7_noPoint (I := t0 I) D _ _ hl) ⟨7, _, mLm D, rfl⟩ (Nat.le_of_ble_eq_true rfl) rfl rfl (Nat.le_of_ble_eq_true rfl) (Nat.zero_le _) (Nat.zero_le _) dX7_answer_9 ?_
  refine g_eqi (y := (0 : Int32)) (b2_f hd) ?_
  refine g_iconst X (v := 1) dX7_answer_12 ki_1 ?_
  refine g_cV X ml_X7_179 (c_X7_throwsIf0 D _) ⟨7, _, mLm D, rfl⟩ (Nat.le_of_ble_eq_true rfl) rfl rfl (Nat.le_of_ble_eq_true rfl) (Nat.zero_le _) (Nat.zero_le _) dX7_answer_13 ?_
  refine g_if_ne X 33 dX7_answer_16 (by decide) (fun c_16 => absurd rfl c_16) (fun c_16 => ?_)
  refine g_aload_n X dX7_answer_19 0 rfl ?_
  refine g_getfield X fl_X7_72 dX7_answer_20 (mLm D) rfl ?_
  refine g_bipush X (v := 6) dX7_answer_23 kb_6 ?_
  refine g_iload_n X dX7_answer_25 1 rfl ?_
  refine g_imul X dX7_answer_26 ?_
  refine g_iload_n X dX7_answer_27 2 rfl ?_
  refine g_iadd X dX7_answer_28 ?_
  refine g_eqi (y := nI (6 * a + b)) (ix6 a b) ?_
  refine g_iaload X dX7_answer_29 (mLa D 24 rfl) (vp_in_nI (ix6_480 ha hb) (by decide)) ?_
  refine g_eqi (y := Ar 24 (6 * a + b)) (by rw [nI_clamp (by omega)]) ?_
  refine g_if_lt X 35 dX7_answer_30 (by decide) (fun c_30 => ?_) (fun c_30 => ?_)
  · refine g_aload_n X dX7_answer_35 0 rfl ?_
    refine g_getfield X fl_X7_72 dX7_answer_36 (mLm D) rfl ?_
    refine g_bipush X (v := 6) dX7_answer_39 kb_6 ?_
    refine g_iload_n X dX7_answer_41 1 rfl ?_
    refine g_imul X dX7_answer_42 ?_
    refine g_iload_n X dX7_answer_43 2 rfl ?_
    refine g_iadd X dX7_answer_44 ?_
    refine g_eqi (y := nI (6 * a + b)) (ix6 a b) ?_
    refine g_aload_n X dX7_answer_45 0 rfl ?_
    refine g_getfield X fl_X7_201 dX7_answer_46 (mLm D) rfl ?_
    refine g_iastore X dX7_answer_49 (mLa D 24 rfl) (vp_in_nI (ix6_480 ha hb) (by decide)) (g_h (mUa D 24 rfl _) ?_)
    refine g_iconst X (v := 1) dX7_answer_50 ki_1 ?_
    refine g_iret X F rfl rfl dX7_answer_51 (Nat.zero_le _) (Nat.zero_le _) ?_
    first | exact ⟨by rw [b2_t c_30], by rw [if_pos c_30, nI_clamp (by omega)]; rfl⟩ | exact ⟨by rw [b2_f c_30], by rw [if_neg c_30]⟩
  · refine g_iconst X (v := 0) dX7_answer_33 ki_0 ?_
    refine g_iret X F rfl rfl dX7_answer_34 (Nat.zero_le _) (Nat.zero_le _) ?_
    first | exact ⟨by rw [b2_t c_30], by rw [if_pos c_30, nI_clamp (by omega)]; rfl⟩ | exact ⟨by rw [b2_f c_30], by rw [if_neg c_30]⟩
theorem c_X7_template_e1 (D : md ix m ad) (q : Int32) (hd : (q ≤ 0 ∨ (1 : Int32) <<< (I 11 &&& 31) ≤ q)) : Ct G l 1 0 0 M_X7_template [.ref m, .int q] (mH G ix ad I Ar h0) (rX (some (.int 0)) (mH G ix ad (va_up (t0 I) 0 1) Ar h0)) := by
  refine Ct.of (by decide +kernel) (Nat.le_of_ble_eq_true rfl) (fun E hE X F => ?_)
  have X : Gc G E "ComplaintDeskModel" cX7_template 2 1 0 0 := X
  show GW G E _ 2 0 [(0, _), (1, _)] [] _ 0 0
  refine g_aload_n X dX7_template_0 0 rfl ?_
  refine g_iconst X (v := 0) dX7_template_1 ki_0 ?_
  refine m_put X D 0 (by decide) fp_X7_91 dX7_template_2 (mset_0 _ _ _) ?_
  refine g_aload_n X dX7_template_5 0 rfl ?_
  refine g_iload_n X dX7_template_6 1 rfl ?_
  refine g_if_le X 20 dX7_template_7 (by decide) (fun c_7 => ?_) (fun c_7 => ?_)
  · refine g_iconst X (v := 1) dX7_template_20 ki_1 ?_
    refine g_goto X 25 dX7_template_21 (by decide) ?_
    refine g_iconst X (v := 1) dX7_template_25 ki_1 ?_
    refine g_cV X ml_X7_179 (c_X7_throwsIf1 D _) ⟨7, _, mLm D, rfl⟩ (Nat.le_of_ble_eq_true rfl) rfl rfl (Nat.le_of_ble_eq_true rfl) (Nat.zero_le _) (Nat.zero_le _) dX7_template_26 ?_
    refine g_if_eq X 34 dX7_template_29 (by decide) (fun c_29 => absurd c_29 (by decide)) (fun c_29 => ?_)
    refine g_iconst X (v := 0) dX7_template_32 ki_0 ?_
    refine g_iret X F rfl rfl dX7_template_33 (Nat.zero_le _) (Nat.zero_le _) ?_
    exact ⟨rfl, rfl⟩
  · have hd := hd.resolve_left c_7
    refine g_iload_n X dX7_template_10 1 rfl ?_
    refine g_iconst X (v := 1) dX7_template_11 ki_1 ?_
    refine g_aload_n X dX7_template_12 0 rfl ?_
    refine g_getfield X fl_X7_94 dX7_template_13 (mLm D) rfl ?_
    refine g_ishl X dX7_template_16 ?_
    refine g_icmp_lt X 24 dX7_template_17 (by decide) (fun c_17 => ?_) (fun c_17 => ?_)
    · exact absurd hd (Int32.not_le.mpr c_17)
    · refine g_iconst X (v := 1) dX7_template_20 ki_1 ?_
      refine g_goto X 25 dX7_template_21 (by decide) ?_
      refine g_iconst X (v := 1) dX7_template_25 ki_1 ?_
      refine g_cV X ml_X7_179 (c_X7_throwsIf1 D _) ⟨7, _, mLm D, rfl⟩ (Nat.le_of_ble_eq_true rfl) rfl rfl (Nat.le_of_ble_eq_true rfl) (Nat.zero_le _) (Nat.zero_le _) dX7_template_26 ?_
      refine g_if_eq X 34 dX7_template_29 (by decide) (fun c_29 => absurd c_29 (by decide)) (fun c_29 => ?_)
      refine g_iconst X (v := 0) dX7_template_32 ki_0 ?_
      refine g_iret X F rfl rfl dX7_template_33 (Nat.zero_le _) (Nat.zero_le _) ?_
      exact ⟨rfl, rfl⟩
theorem c_X7_template (D : md ix m ad) (q : Int32) (hd : ¬ (q ≤ 0 ∨ (1 : Int32) <<< (I 11 &&& 31) ≤ q)) (hn : okN (I 26) 10) : Ct G l 1 0 0 M_X7_template [.ref m, .int q] (mH G ix ad I Ar h0) (rX (some (.int (if I 26 = 10 then -1 else I 26))) (mH G ix ad (if I 26 = 10 then t0 I else va_up (t0 I) 26 (I 26 + 1)) (if I 26 = 10 then Ar else va_up Ar 25 (upd (Ar 25) (cl (I 26)) q)) h0)) := by
  refine Ct.of (by decide +kernel) (Nat.le_of_ble_eq_true rfl) (fun E hE X F => ?_)
  have X : Gc G E "ComplaintDeskModel" cX7_template 2 1 0 0 := X
  show GW G E _ 2 0 [(0, _), (1, _)] [] _ 0 0
  refine g_aload_n X dX7_template_0 0 rfl ?_
  refine g_iconst X (v := 0) dX7_template_1 ki_0 ?_
  refine m_put X D 0 (by decide) fp_X7_91 dX7_template_2 (mset_0 _ _ _) ?_
  refine g_aload_n X dX7_template_5 0 rfl ?_
  refine g_iload_n X dX7_template_6 1 rfl ?_
  refine g_if_le X 20 dX7_template_7 (by decide) (fun c_7 => ?_) (fun c_7 => ?_)
  · exact absurd (by first | exact Or.inl c_7 | exact Or.inr (Int32.not_lt.mp c_17)) hd
  · refine g_iload_n X dX7_template_10 1 rfl ?_
    refine g_iconst X (v := 1) dX7_template_11 ki_1 ?_
    refine g_aload_n X dX7_template_12 0 rfl ?_
    refine g_getfield X fl_X7_94 dX7_template_13 (mLm D) rfl ?_
    refine g_ishl X dX7_template_16 ?_
    refine g_icmp_lt X 24 dX7_template_17 (by decide) (fun c_17 => ?_) (fun c_17 => ?_)
    · refine g_iconst X (v := 0) dX7_template_24 ki_0 ?_
      refine g_iconst X (v := 1) dX7_template_25 ki_1 ?_
      refine g_cV X ml_X7_179 (c_X7_throwsIf0 D _) ⟨7, _, mLm D, rfl⟩ (Nat.le_of_ble_eq_true rfl) rfl rfl (Nat.le_of_ble_eq_true rfl) (Nat.zero_le _) (Nat.zero_le _) dX7_template_26 ?_
      refine g_if_eq X 34 dX7_template_29 (by decide) (fun c_29 => ?_) (fun c_29 => absurd rfl c_29)
      refine g_aload_n X dX7_template_34 0 rfl ?_
      refine g_getfield X fl_X7_217 dX7_template_35 (mLm D) rfl ?_
      refine g_bipush X (v := 10) dX7_template_38 kb_10 ?_
      refine g_icmp_ne X 45 dX7_template_40 (by decide) (fun c_40 => ?_) (fun c_40 => ?_)
      · refine g_aload_n X dX7_template_45 0 rfl ?_
        refine g_getfield X fl_X7_75 dX7_template_46 (mLm D) rfl ?_
        refine g_aload_n X dX7_template_49 0 rfl ?_
        refine g_getfield X fl_X7_217 dX7_template_50 (mLm D) rfl ?_
        refine g_iload_n X dX7_template_53 1 rfl ?_
        refine g_iastore X dX7_template_54 (mLa D 25 rfl) (by obtain ⟨j, q1, q2⟩ := hn; have : j ≠ 10 := fun z => c_40 (by show I 26 = 10; rw [q2, z]; rfl); rw [show va_up I 0 0 26 = nI j from q2]; exact vp_in_nI (by omega) (by decide)) (g_h (mUa D 25 rfl _) ?_)
        refine g_aload_n X dX7_template_55 0 rfl ?_
        refine g_dup X dX7_template_56 rfl ?_
        refine g_getfield X fl_X7_217 dX7_template_57 (mLm D) rfl ?_
        refine g_iconst X (v := 1) dX7_template_60 ki_1 ?_
        refine g_iadd X dX7_template_61 ?_
        refine m_put X D 26 (by decide) fp_X7_217 dX7_template_62 (mset_26 _ _ _) ?_
        refine g_aload_n X dX7_template_65 0 rfl ?_
        refine g_getfield X fl_X7_217 dX7_template_66 (mLm D) rfl ?_
        refine g_iconst X (v := 1) dX7_template_69 ki_1 ?_
        refine g_isub X dX7_template_70 ?_
        refine g_iret X F rfl rfl dX7_template_71 (Nat.zero_le _) (Nat.zero_le _) ?_
        first
          | (have c : I 26 = 10 := c_40
             exact ⟨by rw [if_pos c], by rw [if_pos c, if_pos c]⟩)
          | (have c : ¬ I 26 = 10 := c_40
             refine ⟨?_, ?_⟩
             · rw [if_neg c]
               exact congrArg (fun z => some (Value.int z)) (by show I 26 + 1 - 1 = I 26; exact Int32.add_sub_cancel (I 26) 1)
             · rw [if_neg c, if_neg c]; rfl)
      · refine g_iconst X (v := (-1)) dX7_template_43 ki_m1 ?_
        refine g_iret X F rfl rfl dX7_template_44 (Nat.zero_le _) (Nat.zero_le _) ?_
        first
          | (have c : I 26 = 10 := c_40
             exact ⟨by rw [if_pos c], by rw [if_pos c, if_pos c]⟩)
          | (have c : ¬ I 26 = 10 := c_40
             refine ⟨?_, ?_⟩
             · rw [if_neg c]
               exact congrArg (fun z => some (Value.int z)) (by show I 26 + 1 - 1 = I 26; exact Int32.add_sub_cancel (I 26) 1)
             · rw [if_neg c, if_neg c]; rfl)
    · exact absurd (by first | exact Or.inl c_7 | exact Or.inr (Int32.not_lt.mp c_17)) hd
end M3
