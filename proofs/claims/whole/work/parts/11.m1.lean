section M1
variable {G : gG} {l : Launch} {ix : Nat → Nat} {m : Nat} {ad : Nat → Nat} {I : Nat → Int32} {Ar : Nat → Nat → Int32} {h0 h : hW}
abbrev inR (v lo hi : Int32) : Prop := ¬ v < lo ∧ ¬ hi < v
/-- thrown is put to 0 -/
abbrev t0 (I : Nat → Int32) : Nat → Int32 := va_up I 0 0
theorem c_X7_in (v lo hi : Int32) : Ct G l 0 0 0 M_X7_in [.int v, .int lo, .int hi] h (rX (some (.int (b2 (inR v lo hi)))) h) := by
  refine Ct.of (by decide +kernel) (Nat.le_of_ble_eq_true rfl) (fun E hE X F => ?_)
  have X : Gc G E "ComplaintDeskModel" cX7_in 3 0 0 0 := X
  show GW G E _ 3 0 [(0, _), (1, _), (2, _)] [] _ 0 0
  refine g_iload_n X dX7_in_0 0 rfl ?_
  refine g_iload_n X dX7_in_1 1 rfl ?_
  refine g_icmp_lt X 14 dX7_in_2 (by decide) (fun c_2 => ?_) (fun c_2 => ?_)
  · refine g_iconst X (v := 0) dX7_in_14 ki_0 ?_
    refine g_iret X F rfl rfl dX7_in_15 (Nat.zero_le _) (Nat.zero_le _) ?_
    exact ⟨by simp_all [b2], rfl⟩
  · refine g_iload_n X dX7_in_5 0 rfl ?_
    refine g_iload_n X dX7_in_6 2 rfl ?_
    refine g_icmp_gt X 14 dX7_in_7 (by decide) (fun c_7 => ?_) (fun c_7 => ?_)
    · refine g_iconst X (v := 0) dX7_in_14 ki_0 ?_
      refine g_iret X F rfl rfl dX7_in_15 (Nat.zero_le _) (Nat.zero_le _) ?_
      exact ⟨by simp_all [b2], rfl⟩
    · refine g_iconst X (v := 1) dX7_in_10 ki_1 ?_
      refine g_goto X 15 dX7_in_11 (by decide) ?_
      refine g_iret X F rfl rfl dX7_in_15 (Nat.zero_le _) (Nat.zero_le _) ?_
      exact ⟨by simp_all [b2], rfl⟩
theorem c_X7_thrown (D : md ix m ad)  : Ct G l 0 0 0 M_X7_thrown [.ref m] (mH G ix ad I Ar h0) (rX (some (.int (I 0))) (mH G ix ad I Ar h0)) := by
  refine Ct.of (by decide +kernel) (Nat.le_of_ble_eq_true rfl) (fun E hE X F => ?_)
  have X : Gc G E "ComplaintDeskModel" cX7_thrown 1 0 0 0 := X
  show GW G E _ 1 0 [(0, _)] [] _ 0 0
  refine g_aload_n X dX7_thrown_0 0 rfl ?_
  refine g_getfield X fl_X7_91 dX7_thrown_1 (mLm D) rfl ?_
  refine g_iret X F rfl rfl dX7_thrown_4 (Nat.zero_le _) (Nat.zero_le _) ?_
  exact ⟨rfl, rfl⟩
theorem c_X7_throwsIf (D : md ix m ad) (x code : Int32) (hx : x = 0 ∨ x = 1) : Ct G l 0 0 0 M_X7_throwsIf [.ref m, .int x, .int code] (mH G ix ad I Ar h0) (rX (some (.int x)) (mH G ix ad (if x = 0 then I else va_up I 0 code) Ar h0)) := by
  refine Ct.of (by decide +kernel) (Nat.le_of_ble_eq_true rfl) (fun E hE X F => ?_)
  have X : Gc G E "ComplaintDeskModel" cX7_throwsIf 3 0 0 0 := X
  show GW G E _ 3 0 [(0, _), (1, _), (2, _)] [] _ 0 0
  refine g_iload_n X dX7_throwsIf_0 1 rfl ?_
  refine g_if_eq X 9 dX7_throwsIf_1 (by decide) (fun c_1 => ?_) (fun c_1 => ?_)
  · refine g_iload_n X dX7_throwsIf_9 1 rfl ?_
    refine g_iret X F rfl (by rcases hx with rfl | rfl <;> rfl) dX7_throwsIf_10 (Nat.zero_le _) (Nat.zero_le _) ?_
    exact ⟨rfl, by simp [*]⟩
  · refine g_aload_n X dX7_throwsIf_4 0 rfl ?_
    refine g_iload_n X dX7_throwsIf_5 2 rfl ?_
    refine m_put X D 0 (by decide) fp_X7_91 dX7_throwsIf_6 (mset_0 _ _ _) ?_
    refine g_iload_n X dX7_throwsIf_9 1 rfl ?_
    refine g_iret X F rfl (by rcases hx with rfl | rfl <;> rfl) dX7_throwsIf_10 (Nat.zero_le _) (Nat.zero_le _) ?_
    exact ⟨rfl, by simp [*]⟩
theorem c_X7_noCause (D : md ix m ad) (c : Int32) : Ct G l 1 0 0 M_X7_noCause [.ref m, .int c] (mH G ix ad I Ar h0) (rX (some (.int (b2 (¬ inR c 0 (I 11 - 1))))) (mH G ix ad I Ar h0)) := by
  refine Ct.of (by decide +kernel) (Nat.le_of_ble_eq_true rfl) (fun E hE X F => ?_)
  have X : Gc G E "ComplaintDeskModel" cX7_noCause 2 1 0 0 := X
  show GW G E _ 2 0 [(0, _), (1, _)] [] _ 0 0
  refine g_iload_n X dX7_noCause_0 1 rfl ?_
  refine g_iconst X (v := 0) dX7_noCause_1 ki_0 ?_
  refine g_aload_n X dX7_noCause_2 0 rfl ?_
  refine g_getfield X fl_X7_94 dX7_noCause_3 (mLm D) rfl ?_
  refine g_iconst X (v := 1) dX7_noCause_6 ki_1 ?_
  refine g_isub X dX7_noCause_7 ?_
  refine g_cS X ml_X7_97 (c_X7_in _ _ _) (Nat.le_of_ble_eq_true rfl) rfl rfl (Nat.le_of_ble_eq_true rfl) (Nat.zero_le _) (Nat.zero_le _) dX7_noCause_8 ?_
  refine g_if_ne X 18 dX7_noCause_11 (by decide) (fun c_11 => ?_) (fun c_11 => ?_)
  · refine g_iconst X (v := 0) dX7_noCause_18 ki_0 ?_
    refine g_iret X F rfl rfl dX7_noCause_19 (Nat.zero_le _) (Nat.zero_le _) ?_
    exact ⟨by simp_all [b2], rfl⟩
  · refine g_iconst X (v := 1) dX7_noCause_14 ki_1 ?_
    refine g_goto X 19 dX7_noCause_15 (by decide) ?_
    refine g_iret X F rfl rfl dX7_noCause_19 (Nat.zero_le _) (Nat.zero_le _) ?_
    exact ⟨by simp_all [b2], rfl⟩
theorem c_X7_noLetter (D : md ix m ad) (c : Int32) : Ct G l 1 0 0 M_X7_noLetter [.ref m, .int c] (mH G ix ad I Ar h0) (rX (some (.int (b2 (¬ inR c 0 (I 21 - 1))))) (mH G ix ad I Ar h0)) := by
  refine Ct.of (by decide +kernel) (Nat.le_of_ble_eq_true rfl) (fun E hE X F => ?_)
  have X : Gc G E "ComplaintDeskModel" cX7_noLetter 2 1 0 0 := X
  show GW G E _ 2 0 [(0, _), (1, _)] [] _ 0 0
  refine g_iload_n X dX7_noLetter_0 1 rfl ?_
  refine g_iconst X (v := 0) dX7_noLetter_1 ki_0 ?_
  refine g_aload_n X dX7_noLetter_2 0 rfl ?_
  refine g_getfield X fl_X7_101 dX7_noLetter_3 (mLm D) rfl ?_
  refine g_iconst X (v := 1) dX7_noLetter_6 ki_1 ?_
  refine g_isub X dX7_noLetter_7 ?_
  refine g_cS X ml_X7_97 (c_X7_in _ _ _) (Nat.le_of_ble_eq_true rfl) rfl rfl (Nat.le_of_ble_eq_true rfl) (Nat.zero_le _) (Nat.zero_le _) dX7_noLetter_8 ?_
  refine g_if_ne X 18 dX7_noLetter_11 (by decide) (fun c_11 => ?_) (fun c_11 => ?_)
  · refine g_iconst X (v := 0) dX7_noLetter_18 ki_0 ?_
    refine g_iret X F rfl rfl dX7_noLetter_19 (Nat.zero_le _) (Nat.zero_le _) ?_
    exact ⟨by simp_all [b2], rfl⟩
  · refine g_iconst X (v := 1) dX7_noLetter_14 ki_1 ?_
    refine g_goto X 19 dX7_noLetter_15 (by decide) ?_
    refine g_iret X F rfl rfl dX7_noLetter_19 (Nat.zero_le _) (Nat.zero_le _) ?_
    exact ⟨by simp_all [b2], rfl⟩
theorem c_X7_noDesk (c : Int32) : Ct G l 1 0 0 M_X7_noDesk [.int c] h (rX (some (.int (b2 (¬ inR c 0 3)))) h) := by
  refine Ct.of (by decide +kernel) (Nat.le_of_ble_eq_true rfl) (fun E hE X F => ?_)
  have X : Gc G E "ComplaintDeskModel" cX7_noDesk 1 1 0 0 := X
  show GW G E _ 1 0 [(0, _)] [] _ 0 0
  refine g_iload_n X dX7_noDesk_0 0 rfl ?_
  refine g_iconst X (v := 0) dX7_noDesk_1 ki_0 ?_
  refine g_iconst X (v := 3) dX7_noDesk_2 ki_3 ?_
  refine g_cS X ml_X7_97 (c_X7_in _ _ _) (Nat.le_of_ble_eq_true rfl) rfl rfl (Nat.le_of_ble_eq_true rfl) (Nat.zero_le _) (Nat.zero_le _) dX7_noDesk_3 ?_
  refine g_if_ne X 13 dX7_noDesk_6 (by decide) (fun c_6 => ?_) (fun c_6 => ?_)
  · refine g_iconst X (v := 0) dX7_noDesk_13 ki_0 ?_
    refine g_iret X F rfl rfl dX7_noDesk_14 (Nat.zero_le _) (Nat.zero_le _) ?_
    exact ⟨by simp_all [b2], rfl⟩
  · refine g_iconst X (v := 1) dX7_noDesk_9 ki_1 ?_
    refine g_goto X 14 dX7_noDesk_10 (by decide) ?_
    refine g_iret X F rfl rfl dX7_noDesk_14 (Nat.zero_le _) (Nat.zero_le _) ?_
    exact ⟨by simp_all [b2], rfl⟩
abbrev noPt (I : Nat → Int32) (Ar : Nat → Nat → Int32) (l p : Int32) : Prop := ¬ inR l 0 (I 21 - 1) ∨ ¬ inR p 0 (Ar 15 l.toNatClampNeg - 1)
theorem c_X7_noPoint (D : md ix m ad) (lt p : Int32) (hl : inR lt 0 (I 21 - 1) → vp_in lt 81) : Ct G l 2 0 0 M_X7_noPoint [.ref m, .int lt, .int p] (mH G ix ad I Ar h0) (rX (some (.int (b2 (noPt I Ar lt p)))) (mH G ix ad I Ar h0)) := by
  refine Ct.of (by decide +kernel) (Nat.le_of_ble_eq_true rfl) (fun E hE X F => ?_)
  have X : Gc G E "ComplaintDeskModel" cX7_noPoint 3 2 0 0 := X
  show GW G E _ 3 0 [(0, _), (1, _), (2, _)] [] _ 0 0
  refine g_aload_n X dX7_noPoint_0 0 rfl ?_
  refine g_iload_n X dX7_noPoint_1 1 rfl ?_
  refine g_cV X ml_X7_104 (c_X7_noLetter D _) ⟨7, _, mLm D, rfl⟩ (Nat.le_of_ble_eq_true rfl) rfl rfl (Nat.le_of_ble_eq_true rfl) (Nat.zero_le _) (Nat.zero_le _) dX7_noPoint_2 ?_
  refine g_if_ne X 24 dX7_noPoint_5 (by decide) (fun c_5 => ?_) (fun c_5 => ?_)
  · refine g_iconst X (v := 1) dX7_noPoint_24 ki_1 ?_
    refine g_goto X 29 dX7_noPoint_25 (by decide) ?_
    refine g_iret X F rfl rfl dX7_noPoint_29 (Nat.zero_le _) (Nat.zero_le _) ?_
    exact ⟨by simp_all [b2, noPt], rfl⟩
  · refine g_iload_n X dX7_noPoint_8 2 rfl ?_
    refine g_iconst X (v := 0) dX7_noPoint_9 ki_0 ?_
    refine g_aload_n X dX7_noPoint_10 0 rfl ?_
    refine g_getfield X fl_X7_48 dX7_noPoint_11 (mLm D) rfl ?_
    refine g_iload_n X dX7_noPoint_14 1 rfl ?_
    refine g_iaload X dX7_noPoint_15 (mLa D 15 rfl) (hl (Decidable.not_not.mp (b2_0.mp c_5))) ?_
    refine g_iconst X (v := 1) dX7_noPoint_16 ki_1 ?_
    refine g_isub X dX7_noPoint_17 ?_
    refine g_cS X ml_X7_97 (c_X7_in _ _ _) (Nat.le_of_ble_eq_true rfl) rfl rfl (Nat.le_of_ble_eq_true rfl) (Nat.zero_le _) (Nat.zero_le _) dX7_noPoint_18 ?_
    refine g_if_ne X 28 dX7_noPoint_21 (by decide) (fun c_21 => ?_) (fun c_21 => ?_)
    · refine g_iconst X (v := 0) dX7_noPoint_28 ki_0 ?_
      refine g_iret X F rfl rfl dX7_noPoint_29 (Nat.zero_le _) (Nat.zero_le _) ?_
      exact ⟨by simp_all [b2, noPt], rfl⟩
    · refine g_iconst X (v := 1) dX7_noPoint_24 ki_1 ?_
      refine g_goto X 29 dX7_noPoint_25 (by decide) ?_
      refine g_iret X F rfl rfl dX7_noPoint_29 (Nat.zero_le _) (Nat.zero_le _) ?_
      exact ⟨by simp_all [b2, noPt], rfl⟩
theorem c_X7_fault (D : md ix m ad)  : Ct G l 0 0 0 M_X7_fault [.ref m] (mH G ix ad I Ar h0) (rX (some (.int (I 32))) (mH G ix ad (t0 I) Ar h0)) := by
  refine Ct.of (by decide +kernel) (Nat.le_of_ble_eq_true rfl) (fun E hE X F => ?_)
  have X : Gc G E "ComplaintDeskModel" cX7_fault 1 0 0 0 := X
  show GW G E _ 1 0 [(0, _)] [] _ 0 0
  refine g_aload_n X dX7_fault_0 0 rfl ?_
  refine g_iconst X (v := 0) dX7_fault_1 ki_0 ?_
  refine m_put X D 0 (by decide) fp_X7_91 dX7_fault_2 (mset_0 _ _ _) ?_
  refine g_aload_n X dX7_fault_5 0 rfl ?_
  refine g_getfield X fl_X7_81 dX7_fault_6 (mLm D) rfl ?_
  refine g_iret X F rfl rfl dX7_fault_9 (Nat.zero_le _) (Nat.zero_le _) ?_
  exact ⟨rfl, rfl⟩
theorem c_X7_end (D : md ix m ad) (n : Int32) : Ct G l 0 0 0 M_X7_end [.ref m, .int n] (mH G ix ad I Ar h0) (rX (some (.int (b2 (¬ n < 0 ∧ ¬ I 28 < n)))) (mH G ix ad (if ¬ n < 0 ∧ ¬ I 28 < n then va_up (t0 I) 28 n else t0 I) Ar h0)) := by
  refine Ct.of (by decide +kernel) (Nat.le_of_ble_eq_true rfl) (fun E hE X F => ?_)
  have X : Gc G E "ComplaintDeskModel" cX7_end 2 0 0 0 := X
  show GW G E _ 2 0 [(0, _), (1, _)] [] _ 0 0
  refine g_aload_n X dX7_end_0 0 rfl ?_
  refine g_iconst X (v := 0) dX7_end_1 ki_0 ?_
  refine m_put X D 0 (by decide) fp_X7_91 dX7_end_2 (mset_0 _ _ _) ?_
  refine g_iload_n X dX7_end_5 1 rfl ?_
  refine g_if_lt X 17 dX7_end_6 (by decide) (fun c_6 => ?_) (fun c_6 => ?_)
  · refine g_iconst X (v := 0) dX7_end_17 ki_0 ?_
    refine g_iret X F rfl rfl dX7_end_18 (Nat.zero_le _) (Nat.zero_le _) ?_
    exact ⟨by simp_all [b2, va_up], by simp_all [va_up]⟩
  · refine g_iload_n X dX7_end_9 1 rfl ?_
    refine g_aload_n X dX7_end_10 0 rfl ?_
    refine g_getfield X fl_X7_108 dX7_end_11 (mLm D) rfl ?_
    refine g_icmp_le X 19 dX7_end_14 (by decide) (fun c_14 => ?_) (fun c_14 => ?_)
    · refine g_aload_n X dX7_end_19 0 rfl ?_
      refine g_iload_n X dX7_end_20 1 rfl ?_
      refine m_put X D 28 (by decide) fp_X7_108 dX7_end_21 (mset_28 _ _ _) ?_
      refine g_iconst X (v := 1) dX7_end_24 ki_1 ?_
      refine g_iret X F rfl rfl dX7_end_25 (Nat.zero_le _) (Nat.zero_le _) ?_
      exact ⟨by simp_all [b2, va_up], by simp_all [va_up]⟩
    · refine g_iconst X (v := 0) dX7_end_17 ki_0 ?_
      refine g_iret X F rfl rfl dX7_end_18 (Nat.zero_le _) (Nat.zero_le _) ?_
      exact ⟨by simp_all [b2, va_up], by simp_all [va_up]⟩
theorem c_X7_uses (D : md ix m ad)  : Ct G l 0 0 0 M_X7_uses [.ref m] (mH G ix ad I Ar h0) (rX none (mH G ix ad (va_up (va_up (va_up (t0 I) 30 (I 28)) 28 0) 29 0) Ar h0)) := by
  refine Ct.of (by decide +kernel) (Nat.le_of_ble_eq_true rfl) (fun E hE X F => ?_)
  have X : Gc G E "ComplaintDeskModel" cX7_uses 1 0 0 0 := X
  show GW G E _ 1 0 [(0, _)] [] _ 0 0
  refine g_aload_n X dX7_uses_0 0 rfl ?_
  refine g_iconst X (v := 0) dX7_uses_1 ki_0 ?_
  refine m_put X D 0 (by decide) fp_X7_91 dX7_uses_2 (mset_0 _ _ _) ?_
  refine g_aload_n X dX7_uses_5 0 rfl ?_
  refine g_aload_n X dX7_uses_6 0 rfl ?_
  refine g_getfield X fl_X7_108 dX7_uses_7 (mLm D) rfl ?_
  refine m_put X D 30 (by decide) fp_X7_111 dX7_uses_10 (mset_30 _ _ _) ?_
  refine g_aload_n X dX7_uses_13 0 rfl ?_
  refine g_iconst X (v := 0) dX7_uses_14 ki_0 ?_
  refine m_put X D 28 (by decide) fp_X7_108 dX7_uses_15 (mset_28 _ _ _) ?_
  refine g_aload_n X dX7_uses_18 0 rfl ?_
  refine g_iconst X (v := 0) dX7_uses_19 ki_0 ?_
  refine m_put X D 29 (by decide) fp_X7_114 dX7_uses_20 (mset_29 _ _ _) ?_
  refine g_ret0 X F rfl dX7_uses_23 (Nat.zero_le _) (Nat.zero_le _) ?_
  exact ⟨rfl, rfl⟩
end M1
