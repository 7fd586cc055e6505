section M15
variable {G : gG} {l : Launch} {ix : Nat → Nat} {m : Nat} {ad : Nat → Nat} {I : Nat → Int32} {Ar : Nat → Nat → Int32} {h0 h : hW}
/-- behind uses() -/
abbrev usI (I : Nat → Int32) : Nat → Int32 := va_up (va_up (va_up (t0 I) 30 (I 28)) 28 0) 29 0
abbrev caB (I : Nat → Int32) (ab dk : Int32) : Prop := (¬ ab = -1 ∧ ¬ inR ab 0 (I 11 - 1)) ∨ ¬ inR dk 0 3
abbrev pR (Ar : Nat → Nat → Int32) (N : Nat) : Option Nat × List pW := pP (Ar 27) N 13 0 0 []
theorem pP_len {B : Nat → Int32} {N : Nat} : ∀ (f i : Nat) (o : Int32) (L : List pW), L.length ≤ 12 → (pP B N f i o L).2.length ≤ 12 := by
  intro f
  induction f with
  | zero => intro i o L hL; rw [pP]; exact hL
  | succ f ih =>
    intro i o L hL
    rw [pP_s]
    by_cases hb : badW B (wb B N i) (wp B N i) L.length
    · rw [if_pos hb]; exact hL
    · rw [if_neg hb]
      have hne : ¬ L.length = 12 := fun q => hb (Or.inr (Or.inr (Or.inl q)))
      have hl1 : (L ++ [wW B N i o]).length ≤ 12 := by simp; omega
      split
      · exact hl1
      · split
        · exact ih _ _ _ hl1
        · exact hl1
theorem RW.sz {A : Nat → Nat → Int32} {L : List pW} (h : RW A L) : ∀ k, k < L.length → okN (A 8 (144 + k)) 12 := fun k hk => by
  obtain ⟨h1, h2, -⟩ := h k _ (List.getElem?_eq_getElem hk)
  exact ⟨_, h2, h1⟩
theorem c_X7_cause_e1 (D : md ix m ad) (ab dk dd th : Int32) (hd : caB I ab dk) : Ct G l 8 0 0 M_X7_cause [.ref m, .int ab, .int dk, .int dd, .int th] (mH G ix ad I Ar h0) (rX (some (.int 0)) (mH G ix ad (va_up (usI I) 0 1) Ar h0)) := by
  refine Ct.of (by decide +kernel) (Nat.le_of_ble_eq_true rfl) (fun E hE X F => ?_)
  have X : Gc G E "ComplaintDeskModel" cX7_cause 5 8 0 0 := X
  show GW G E _ 5 0 [(0, _), (1, _), (2, _), (3, _), (4, _)] [] _ 0 0
  refine g_aload_n X dX7_cause_0 0 rfl ?_
  refine g_cV0 X ml_X7_170 (c_X7_uses D) ⟨7, _, mLm D, rfl⟩ (Nat.le_of_ble_eq_true rfl) rfl rfl (Nat.le_of_ble_eq_true rfl) (Nat.zero_le _) (Nat.zero_le _) dX7_cause_1 ?_
  refine g_aload_n X dX7_cause_4 0 rfl ?_
  refine g_iload_n X dX7_cause_5 1 rfl ?_
  refine g_iconst X (v := (-1)) dX7_cause_6 ki_m1 ?_
  refine g_icmp_eq X 18 dX7_cause_7 (by decide) (fun c_7 => ?_) (fun c_7 => ?_)
  · have hx1 : ¬ inR dk 0 3 := hd.resolve_left (fun q => q.1 c_7)
    refine g_iload_n X dX7_cause_18 2 rfl ?_
    refine g_cS X ml_X7_176 (c_X7_noDesk _) (Nat.le_of_ble_eq_true rfl) rfl rfl (Nat.le_of_ble_eq_true rfl) (Nat.zero_le _) (Nat.zero_le _) dX7_cause_19 ?_
    refine g_if_eq X 29 dX7_cause_22 (by decide) (fun c_22 => ?_) (fun c_22 => ?_)
    · exact absurd (b2_0.mp c_22) (fun q => q hx1)
    · refine g_iconst X (v := 1) dX7_cause_25 ki_1 ?_
      refine g_goto X 30 dX7_cause_26 (by decide) ?_
      refine g_iconst X (v := 1) dX7_cause_30 ki_1 ?_
      refine g_cV X ml_X7_179 (c_X7_throwsIf1 D _) ⟨7, _, mLm D, rfl⟩ (Nat.le_of_ble_eq_true rfl) rfl rfl (Nat.le_of_ble_eq_true rfl) (Nat.zero_le _) (Nat.zero_le _) dX7_cause_31 ?_
      refine g_if_ne X 60 dX7_cause_34 (by decide) (fun c_34 => ?_) (fun c_34 => absurd c_34 (by decide))
      refine g_iconst X (v := 0) dX7_cause_60 ki_0 ?_
      refine g_iret X F rfl rfl dX7_cause_61 (Nat.zero_le _) (Nat.zero_le _) ?_
      exact ⟨rfl, rfl⟩
  · refine g_aload_n X dX7_cause_10 0 rfl ?_
    refine g_iload_n X dX7_cause_11 1 rfl ?_
    refine g_cV X ml_X7_173 (c_X7_noCause (I := usI I) D _) ⟨7, _, mLm D, rfl⟩ (Nat.le_of_ble_eq_true rfl) rfl rfl (Nat.le_of_ble_eq_true rfl) (Nat.zero_le _) (Nat.zero_le _) dX7_cause_12 ?_
    refine g_if_ne X 25 dX7_cause_15 (by decide) (fun c_15 => ?_) (fun c_15 => ?_)
    · refine g_iconst X (v := 1) dX7_cause_25 ki_1 ?_
      refine g_goto X 30 dX7_cause_26 (by decide) ?_
      refine g_iconst X (v := 1) dX7_cause_30 ki_1 ?_
      refine g_cV X ml_X7_179 (c_X7_throwsIf1 D _) ⟨7, _, mLm D, rfl⟩ (Nat.le_of_ble_eq_true rfl) rfl rfl (Nat.le_of_ble_eq_true rfl) (Nat.zero_le _) (Nat.zero_le _) dX7_cause_31 ?_
      refine g_if_ne X 60 dX7_cause_34 (by decide) (fun c_34 => ?_) (fun c_34 => absurd c_34 (by decide))
      refine g_iconst X (v := 0) dX7_cause_60 ki_0 ?_
      refine g_iret X F rfl rfl dX7_cause_61 (Nat.zero_le _) (Nat.zero_le _) ?_
      exact ⟨rfl, rfl⟩
    · have hx2 : inR ab 0 (I 11 - 1) := Decidable.not_not.mp (b2_0.mp (by first | exact c_15 | exact Decidable.not_not.mp c_15))
      have hx1 : ¬ inR dk 0 3 := hd.resolve_left (fun q => q.2 hx2)
      refine g_iload_n X dX7_cause_18 2 rfl ?_
      refine g_cS X ml_X7_176 (c_X7_noDesk _) (Nat.le_of_ble_eq_true rfl) rfl rfl (Nat.le_of_ble_eq_true rfl) (Nat.zero_le _) (Nat.zero_le _) dX7_cause_19 ?_
      refine g_if_eq X 29 dX7_cause_22 (by decide) (fun c_22 => ?_) (fun c_22 => ?_)
      · exact absurd (b2_0.mp c_22) (fun q => q hx1)
      · refine g_iconst X (v := 1) dX7_cause_25 ki_1 ?_
        refine g_goto X 30 dX7_cause_26 (by decide) ?_
        refine g_iconst X (v := 1) dX7_cause_30 ki_1 ?_
        refine g_cV X ml_X7_179 (c_X7_throwsIf1 D _) ⟨7, _, mLm D, rfl⟩ (Nat.le_of_ble_eq_true rfl) rfl rfl (Nat.le_of_ble_eq_true rfl) (Nat.zero_le _) (Nat.zero_le _) dX7_cause_31 ?_
        refine g_if_ne X 60 dX7_cause_34 (by decide) (fun c_34 => ?_) (fun c_34 => absurd c_34 (by decide))
        refine g_iconst X (v := 0) dX7_cause_60 ki_0 ?_
        refine g_iret X F rfl rfl dX7_cause_61 (Nat.zero_le _) (Nat.zero_le _) ?_
        exact ⟨rfl, rfl⟩
theorem c_X7_cause_e2 (D : md ix m ad) (ab dk dd th : Int32) (hd : ¬ caB I ab dk) (hd2 : ¬ inR dd 0 60) : Ct G l 8 0 0 M_X7_cause [.ref m, .int ab, .int dk, .int dd, .int th] (mH G ix ad I Ar h0) (rX (some (.int 0)) (mH G ix ad (va_up (usI I) 0 2) Ar h0)) := by
  refine Ct.of (by decide +kernel) (Nat.le_of_ble_eq_true rfl) (fun E hE X F => ?_)
  have X : Gc G E "ComplaintDeskModel" cX7_cause 5 8 0 0 := X
  show GW G E _ 5 0 [(0, _), (1, _), (2, _), (3, _), (4, _)] [] _ 0 0
  refine g_aload_n X dX7_cause_0 0 rfl ?_
  refine g_cV0 X ml_X7_170 (c_X7_uses D) ⟨7, _, mLm D, rfl⟩ (Nat.le_of_ble_eq_true rfl) rfl rfl (Nat.le_of_ble_eq_true rfl) (Nat.zero_le _) (Nat.zero_le _) dX7_cause_1 ?_
  refine g_aload_n X dX7_cause_4 0 rfl ?_
  refine g_iload_n X dX7_cause_5 1 rfl ?_
  refine g_iconst X (v := (-1)) dX7_cause_6 ki_m1 ?_
  refine g_icmp_eq X 18 dX7_cause_7 (by decide) (fun c_7 => ?_) (fun c_7 => ?_)
  · refine g_iload_n X dX7_cause_18 2 rfl ?_
    refine g_cS X ml_X7_176 (c_X7_noDesk _) (Nat.le_of_ble_eq_true rfl) rfl rfl (Nat.le_of_ble_eq_true rfl) (Nat.zero_le _) (Nat.zero_le _) dX7_cause_19 ?_
    refine g_if_eq X 29 dX7_cause_22 (by decide) (fun c_22 => ?_) (fun c_22 => ?_)
    · refine g_iconst X (v := 0) dX7_cause_29 ki_0 ?_
      refine g_iconst X (v := 1) dX7_cause_30 ki_1 ?_
      refine g_cV X ml_X7_179 (c_X7_throwsIf0 D _) ⟨7, _, mLm D, rfl⟩ (Nat.le_of_ble_eq_true rfl) rfl rfl (Nat.le_of_ble_eq_true rfl) (Nat.zero_le _) (Nat.zero_le _) dX7_cause_31 ?_
      refine g_if_ne X 60 dX7_cause_34 (by decide) (fun c_34 => absurd rfl c_34) (fun c_34 => ?_)
      refine g_aload_n X dX7_cause_37 0 rfl ?_
      refine g_iload_n X dX7_cause_38 3 rfl ?_
      refine g_iconst X (v := 0) dX7_cause_39 ki_0 ?_
      refine g_bipush X (v := 60) dX7_cause_40 kb_60 ?_
      refine g_cS X ml_X7_97 (c_X7_in _ _ _) (Nat.le_of_ble_eq_true rfl) rfl rfl (Nat.le_of_ble_eq_true rfl) (Nat.zero_le _) (Nat.zero_le _) dX7_cause_42 ?_
      refine g_eqi (y := (0 : Int32)) (b2_f hd2) ?_
      refine g_if_ne X 52 dX7_cause_45 (by decide) (fun c_45 => absurd rfl c_45) (fun c_45 => ?_)
      refine g_iconst X (v := 1) dX7_cause_48 ki_1 ?_
      refine g_goto X 53 dX7_cause_49 (by decide) ?_
      refine g_iconst X (v := 2) dX7_cause_53 ki_2 ?_
      refine g_cV X ml_X7_179 (c_X7_throwsIf1 D _) ⟨7, _, mLm D, rfl⟩ (Nat.le_of_ble_eq_true rfl) rfl rfl (Nat.le_of_ble_eq_true rfl) (Nat.zero_le _) (Nat.zero_le _) dX7_cause_54 ?_
      refine g_if_eq X 62 dX7_cause_57 (by decide) (fun c_57 => absurd c_57 (by decide)) (fun c_57 => ?_)
      refine g_iconst X (v := 0) dX7_cause_60 ki_0 ?_
      refine g_iret X F rfl rfl dX7_cause_61 (Nat.zero_le _) (Nat.zero_le _) ?_
      exact ⟨rfl, rfl⟩
    · exact absurd (Or.inr (Decidable.not_not.mp (fun q => c_22 (b2_0.mpr q)))) hd
  · refine g_aload_n X dX7_cause_10 0 rfl ?_
    refine g_iload_n X dX7_cause_11 1 rfl ?_
    refine g_cV X ml_X7_173 (c_X7_noCause (I := usI I) D _) ⟨7, _, mLm D, rfl⟩ (Nat.le_of_ble_eq_true rfl) rfl rfl (Nat.le_of_ble_eq_true rfl) (Nat.zero_le _) (Nat.zero_le _) dX7_cause_12 ?_
    refine g_if_ne X 25 dX7_cause_15 (by decide) (fun c_15 => ?_) (fun c_15 => ?_)
    · have hx2 : ¬ inR ab 0 (I 11 - 1) := Decidable.not_not.mp (fun q => c_15 (b2_0.mpr q))
      exact absurd (Or.inl ⟨c_7, hx2⟩) hd
    · refine g_iload_n X dX7_cause_18 2 rfl ?_
      refine g_cS X ml_X7_176 (c_X7_noDesk _) (Nat.le_of_ble_eq_true rfl) rfl rfl (Nat.le_of_ble_eq_true rfl) (Nat.zero_le _) (Nat.zero_le _) dX7_cause_19 ?_
      refine g_if_eq X 29 dX7_cause_22 (by decide) (fun c_22 => ?_) (fun c_22 => ?_)
      · refine g_iconst X (v := 0) dX7_cause_29 ki_0 ?_
        refine g_iconst X (v := 1) dX7_cause_30 ki_1 ?_
        refine g_cV X ml_X7_179 (c_X7_throwsIf0 D _) ⟨7, _, mLm D, rfl⟩ (Nat.le_of_ble_eq_true rfl) rfl rfl (Nat.le_of_ble_eq_true rfl) (Nat.zero_le _) (Nat.zero_le _) dX7_cause_31 ?_
        refine g_if_ne X 60 dX7_cause_34 (by decide) (fun c_34 => absurd rfl c_34) (fun c_34 => ?_)
        refine g_aload_n X dX7_cause_37 0 rfl ?_
        refine g_iload_n X dX7_cause_38 3 rfl ?_
        refine g_iconst X (v := 0) dX7_cause_39 ki_0 ?_
        refine g_bipush X (v := 60) dX7_cause_40 kb_60 ?_
        refine g_cS X ml_X7_97 (c_X7_in _ _ _) (Nat.le_of_ble_eq_true rfl) rfl rfl (Nat.le_of_ble_eq_true rfl) (Nat.zero_le _) (Nat.zero_le _) dX7_cause_42 ?_
        refine g_eqi (y := (0 : Int32)) (b2_f hd2) ?_
        refine g_if_ne X 52 dX7_cause_45 (by decide) (fun c_45 => absurd rfl c_45) (fun c_45 => ?_)
        refine g_iconst X (v := 1) dX7_cause_48 ki_1 ?_
        refine g_goto X 53 dX7_cause_49 (by decide) ?_
        refine g_iconst X (v := 2) dX7_cause_53 ki_2 ?_
        refine g_cV X ml_X7_179 (c_X7_throwsIf1 D _) ⟨7, _, mLm D, rfl⟩ (Nat.le_of_ble_eq_true rfl) rfl rfl (Nat.le_of_ble_eq_true rfl) (Nat.zero_le _) (Nat.zero_le _) dX7_cause_54 ?_
        refine g_if_eq X 62 dX7_cause_57 (by decide) (fun c_57 => absurd c_57 (by decide)) (fun c_57 => ?_)
        refine g_iconst X (v := 0) dX7_cause_60 ki_0 ?_
        refine g_iret X F rfl rfl dX7_cause_61 (Nat.zero_le _) (Nat.zero_le _) ?_
        exact ⟨rfl, rfl⟩
      · exact absurd (Or.inr (Decidable.not_not.mp (fun q => c_22 (b2_0.mpr q)))) hd
abbrev caA (A : Nat → Nat → Int32) (nc : Nat) (ab dk dd th : Int32) : Nat → Nat → Int32 := va_up (va_up (va_up (va_up A 2 (upd (A 2) nc ab)) 3 (upd (A 3) nc dk)) 4 (upd (A 4) nc dd)) 5 (upd (A 5) nc (vp_nar .boolean th))
/-- what cause has done, once its text is read -/
abbrev caQ (G : gG) (ix : Nat → Nat) (ad : Nat → Nat) (I : Nat → Int32) (Ar : Nat → Nat → Int32) (h0 : hW) (R : Option Nat × List pW) (nc : Nat) (ab dk dd th : Int32) : Option Value → hW → Prop := fun v h' => ∃ (b' p' : Nat) (A' : Nat → Nat → Int32), AGp Ar A' ∧ (R.1 = none → RW A' R.2 ∧ A' 6 12 = nI R.2.length) ∧
  ((¬ R.1 = none ∧ v = some (.int 0) ∧ h' = mH G ix ad (va_up (va_up (wI (usI I) b' p') 32 (enO R.1)) 0 2) A' h0) ∨
   (R.1 = none ∧ nc = 12 ∧ v = some (.int 0) ∧ h' = mH G ix ad (va_up (va_up (wI (usI I) b' p') 32 (-1)) 0 3) A' h0) ∨
   (R.1 = none ∧ nc < 12 ∧ v = some (.int (nI nc)) ∧ h' = mH G ix ad (va_up (va_up (wI (usI I) b' p') 32 (-1)) 11 (nI (nc + 1))) (spN (caA A' nc ab dk dd th) nc R.2.length) h0))
theorem c_X7_cause (D : md ix m ad) (ab dk dd th : Int32) (hd : ¬ caB I ab dk) (hd2 : inR dd 0 60) (N b0 nc : Nat) (hN : I 28 = nI N) (hN4 : N ≤ 400) (hb0 : I 31 = nI b0) (hby : ∀ i, vp_nar .byte (Ar 27 i) = Ar 27 i) (hnc : nc ≤ 12) (hI : I 11 = nI nc)  : Ct G l 8 0 0 M_X7_cause [.ref m, .int ab, .int dk, .int dd, .int th] (mH G ix ad I Ar h0) (caQ G ix ad I Ar h0 (pR Ar N) nc ab dk dd th) := by
  refine Ct.of (by decide +kernel) (Nat.le_of_ble_eq_true rfl) (fun E hE X F => ?_)
  have X : Gc G E "ComplaintDeskModel" cX7_cause 5 8 0 0 := X
  show GW G E _ 5 0 [(0, _), (1, _), (2, _), (3, _), (4, _)] [] _ 0 0
  refine g_aload_n X dX7_cause_0 0 rfl ?_
  refine g_cV0 X ml_X7_170 (c_X7_uses D) ⟨7, _, mLm D, rfl⟩ (Nat.le_of_ble_eq_true rfl) rfl rfl (Nat.le_of_ble_eq_true rfl) (Nat.zero_le _) (Nat.zero_le _) dX7_cause_1 ?_
  refine g_aload_n X dX7_cause_4 0 rfl ?_
  refine g_iload_n X dX7_cause_5 1 rfl ?_
  refine g_iconst X (v := (-1)) dX7_cause_6 ki_m1 ?_
  refine g_icmp_eq X 18 dX7_cause_7 (by decide) (fun c_7 => ?_) (fun c_7 => ?_)
  · refine g_iload_n X dX7_cause_18 2 rfl ?_
    refine g_cS X ml_X7_176 (c_X7_noDesk _) (Nat.le_of_ble_eq_true rfl) rfl rfl (Nat.le_of_ble_eq_true rfl) (Nat.zero_le _) (Nat.zero_le _) dX7_cause_19 ?_
    refine g_if_eq X 29 dX7_cause_22 (by decide) (fun c_22 => ?_) (fun c_22 => ?_)
    · refine g_iconst X (v := 0) dX7_cause_29 ki_0 ?_
      refine g_iconst X (v := 1) dX7_cause_30 ki_1 ?_
      refine g_cV X ml_X7_179 (c_X7_throwsIf0 D _) ⟨7, _, mLm D, rfl⟩ (Nat.le_of_ble_eq_true rfl) rfl rfl (Nat.le_of_ble_eq_true rfl) (Nat.zero_le _) (Nat.zero_le _) dX7_cause_31 ?_
      refine g_if_ne X 60 dX7_cause_34 (by decide) (fun c_34 => absurd rfl c_34) (fun c_34 => ?_)
      refine g_aload_n X dX7_cause_37 0 rfl ?_
      refine g_iload_n X dX7_cause_38 3 rfl ?_
      refine g_iconst X (v := 0) dX7_cause_39 ki_0 ?_
      refine g_bipush X (v := 60) dX7_cause_40 kb_60 ?_
      refine g_cS X ml_X7_97 (c_X7_in _ _ _) (Nat.le_of_ble_eq_true rfl) rfl rfl (Nat.le_of_ble_eq_true rfl) (Nat.zero_le _) (Nat.zero_le _) dX7_cause_42 ?_
      refine g_eqi (y := (1 : Int32)) (b2_t hd2) ?_
      refine g_if_ne X 52 dX7_cause_45 (by decide) (fun c_45 => ?_) (fun c_45 => absurd c_45 (by decide))
      refine g_iconst X (v := 0) dX7_cause_52 ki_0 ?_
      refine g_iconst X (v := 2) dX7_cause_53 ki_2 ?_
      refine g_cV X ml_X7_179 (c_X7_throwsIf0 D _) ⟨7, _, mLm D, rfl⟩ (Nat.le_of_ble_eq_true rfl) rfl rfl (Nat.le_of_ble_eq_true rfl) (Nat.zero_le _) (Nat.zero_le _) dX7_cause_54 ?_
      refine g_if_eq X 62 dX7_cause_57 (by decide) (fun c_57 => ?_) (fun c_57 => absurd rfl c_57)
      refine g_aload_n X dX7_cause_62 0 rfl ?_
      refine g_aload_n X dX7_cause_63 0 rfl ?_
      refine g_cVx X ml_X7_183 (c_X7_readsPattern (I := usI I) D N 0 b0 hN hN4 rfl hb0 (Nat.zero_le _) hby) ⟨7, _, mLm D, rfl⟩ (Nat.le_of_ble_eq_true rfl) rfl rfl (Nat.le_of_ble_eq_true rfl) (Nat.zero_le _) (Nat.zero_le _) dX7_cause_64 ?_
      rintro v h1 ⟨b1, p1, A1, rfl, hag, rfl, hok⟩
      refine g_st (st' := [.int (b2 ((pR Ar N).1 = none)), .ref m]) rfl ?_
      refine g_if_ne X 74 dX7_cause_67 (by decide) (fun c_67 => ?_) (fun c_67 => ?_)
      · have hR : (pR Ar N).1 = none := Decidable.not_not.mp (fun q => c_67 (b2_0.mpr q))
        refine g_iconst X (v := 0) dX7_cause_74 ki_0 ?_
        refine g_iconst X (v := 2) dX7_cause_75 ki_2 ?_
        refine g_cV X ml_X7_179 (c_X7_throwsIf0 D _) ⟨7, _, mLm D, rfl⟩ (Nat.le_of_ble_eq_true rfl) rfl rfl (Nat.le_of_ble_eq_true rfl) (Nat.zero_le _) (Nat.zero_le _) dX7_cause_76 ?_
        refine g_if_ne X 104 dX7_cause_79 (by decide) (fun c_79 => absurd rfl c_79) (fun c_79 => ?_)
        refine g_aload_n X dX7_cause_82 0 rfl ?_
        refine g_aload_n X dX7_cause_83 0 rfl ?_
        refine g_getfield X fl_X7_94 dX7_cause_84 (mLm D) rfl ?_
        refine g_eqi (y := nI nc) (hI) ?_
        refine g_bipush X (v := 12) dX7_cause_87 kb_12 ?_
        refine g_icmp_ne X 96 dX7_cause_89 (by decide) (fun c_89 => ?_) (fun c_89 => ?_)
        · have hlt : nc < 12 := Nat.lt_of_le_of_ne hnc (fun q => c_89 (by rw [q]; rfl))
          refine g_iconst X (v := 0) dX7_cause_96 ki_0 ?_
          refine g_iconst X (v := 3) dX7_cause_97 ki_3 ?_
          refine g_cV X ml_X7_179 (c_X7_throwsIf0 D _) ⟨7, _, mLm D, rfl⟩ (Nat.le_of_ble_eq_true rfl) rfl rfl (Nat.le_of_ble_eq_true rfl) (Nat.zero_le _) (Nat.zero_le _) dX7_cause_98 ?_
          refine g_if_eq X 106 dX7_cause_101 (by decide) (fun c_101 => ?_) (fun c_101 => absurd rfl c_101)
          refine g_aload_n X dX7_cause_106 0 rfl ?_
          refine g_getfield X fl_X7_9 dX7_cause_107 (mLm D) rfl ?_
          refine g_aload_n X dX7_cause_110 0 rfl ?_
          refine g_getfield X fl_X7_94 dX7_cause_111 (mLm D) rfl ?_
          refine g_eqi (y := nI nc) (hI) ?_
          refine g_iload_n X dX7_cause_114 1 rfl ?_
          refine g_iastore X dX7_cause_115 (mLa D 2 rfl) (vp_in_nI (by omega) (by decide)) (g_h (mUa D 2 rfl _) ?_)
          refine g_aload_n X dX7_cause_116 0 rfl ?_
          refine g_getfield X fl_X7_13 dX7_cause_117 (mLm D) rfl ?_
          refine g_aload_n X dX7_cause_120 0 rfl ?_
          refine g_getfield X fl_X7_94 dX7_cause_121 (mLm D) rfl ?_
          refine g_eqi (y := nI nc) (hI) ?_
          refine g_iload_n X dX7_cause_124 2 rfl ?_
          refine g_iastore X dX7_cause_125 (mLa D 3 rfl) (vp_in_nI (by omega) (by decide)) (g_h (mUa D 3 rfl _) ?_)
          refine g_aload_n X dX7_cause_126 0 rfl ?_
          refine g_getfield X fl_X7_16 dX7_cause_127 (mLm D) rfl ?_
          refine g_aload_n X dX7_cause_130 0 rfl ?_
          refine g_getfield X fl_X7_94 dX7_cause_131 (mLm D) rfl ?_
          refine g_eqi (y := nI nc) (hI) ?_
          refine g_iload_n X dX7_cause_134 3 rfl ?_
          refine g_iastore X dX7_cause_135 (mLa D 4 rfl) (vp_in_nI (by omega) (by decide)) (g_h (mUa D 4 rfl _) ?_)
          refine g_aload_n X dX7_cause_136 0 rfl ?_
          refine g_getfield X fl_X7_19 dX7_cause_137 (mLm D) rfl ?_
          refine g_aload_n X dX7_cause_140 0 rfl ?_
          refine g_getfield X fl_X7_94 dX7_cause_141 (mLm D) rfl ?_
          refine g_eqi (y := nI nc) (hI) ?_
          refine g_iload X dX7_cause_144 4 rfl ?_
          refine g_zastore X dX7_cause_146 (mLa D 5 rfl) (vp_in_nI (by omega) (by decide)) (g_h (mUa D 5 rfl _) ?_)
          refine g_h (h' := mH G ix ad (va_up (wI (usI I) b1 p1) 32 (enO (pR Ar N).1)) (caA A1 nc ab dk dd th) h0) (by simp only [nI_clamp (show nc < 2 ^ 31 by omega)]; rfl) ?_
          refine g_aload_n X dX7_cause_147 0 rfl ?_
          refine g_aload_n X dX7_cause_148 0 rfl ?_
          refine g_getfield X fl_X7_94 dX7_cause_149 (mLm D) rfl ?_
          refine g_eqi (y := nI nc) (hI) ?_
          refine g_cV0 X ml_X7_186 (c_X7_setsPattern (I := (va_up (wI (usI I) b1 p1) 32 (enO (pR Ar N).1))) (Ar := caA A1 nc ab dk dd th) D nc (pR Ar N).2.length (by omega) (pP_len 13 0 0 [] (by decide)) (hok hR).2 (hok hR).1.sz) ⟨7, _, mLm D, rfl⟩ (Nat.le_of_ble_eq_true rfl) rfl rfl (Nat.le_of_ble_eq_true rfl) (Nat.zero_le _) (Nat.zero_le _) dX7_cause_152 ?_
          refine g_aload_n X dX7_cause_155 0 rfl ?_
          refine g_dup X dX7_cause_156 rfl ?_
          refine g_getfield X fl_X7_94 dX7_cause_157 (mLm D) rfl ?_
          refine g_eqi (y := nI nc) (hI) ?_
          refine g_iconst X (v := 1) dX7_cause_160 ki_1 ?_
          refine g_iadd X dX7_cause_161 ?_
          refine g_eqi (y := nI (nc + 1)) (nI_1 nc) ?_
          refine m_put X D 11 (by decide) fp_X7_94 dX7_cause_162 (mset_11 _ _ _) ?_
          refine g_aload_n X dX7_cause_165 0 rfl ?_
          refine g_getfield X fl_X7_94 dX7_cause_166 (mLm D) rfl ?_
          refine g_eqi (y := nI (nc + 1)) (rfl) ?_
          refine g_iconst X (v := 1) dX7_cause_169 ki_1 ?_
          refine g_isub X dX7_cause_170 ?_
          refine g_eqi (y := nI nc) (nI_pred nc) ?_
          refine g_iret X F rfl rfl dX7_cause_171 (Nat.zero_le _) (Nat.zero_le _) ?_
          refine ⟨b1, p1, A1, hag, hok, Or.inr (Or.inr ⟨hR, hlt, rfl, ?_⟩)⟩
          rw [hR]; rfl
        · have hlt0 : nc = 12 := (nI_eq (b := 12) (by omega) (by decide)).mp c_89
          refine g_iconst X (v := 1) dX7_cause_92 ki_1 ?_
          refine g_goto X 97 dX7_cause_93 (by decide) ?_
          refine g_iconst X (v := 3) dX7_cause_97 ki_3 ?_
          refine g_cV X ml_X7_179 (c_X7_throwsIf1 D _) ⟨7, _, mLm D, rfl⟩ (Nat.le_of_ble_eq_true rfl) rfl rfl (Nat.le_of_ble_eq_true rfl) (Nat.zero_le _) (Nat.zero_le _) dX7_cause_98 ?_
          refine g_if_eq X 106 dX7_cause_101 (by decide) (fun c_101 => absurd c_101 (by decide)) (fun c_101 => ?_)
          refine g_iconst X (v := 0) dX7_cause_104 ki_0 ?_
          refine g_iret X F rfl rfl dX7_cause_105 (Nat.zero_le _) (Nat.zero_le _) ?_
          refine ⟨b1, p1, A1, hag, hok, Or.inr (Or.inl ⟨hR, hlt0, rfl, ?_⟩)⟩
          rw [hR]; rfl
      · have hR0 : ¬ (pR Ar N).1 = none := b2_0.mp (by first | exact c_67 | exact Decidable.not_not.mp c_67)
        refine g_iconst X (v := 1) dX7_cause_70 ki_1 ?_
        refine g_goto X 75 dX7_cause_71 (by decide) ?_
        refine g_iconst X (v := 2) dX7_cause_75 ki_2 ?_
        refine g_cV X ml_X7_179 (c_X7_throwsIf1 D _) ⟨7, _, mLm D, rfl⟩ (Nat.le_of_ble_eq_true rfl) rfl rfl (Nat.le_of_ble_eq_true rfl) (Nat.zero_le _) (Nat.zero_le _) dX7_cause_76 ?_
        refine g_if_ne X 104 dX7_cause_79 (by decide) (fun c_79 => ?_) (fun c_79 => absurd c_79 (by decide))
        refine g_iconst X (v := 0) dX7_cause_104 ki_0 ?_
        refine g_iret X F rfl rfl dX7_cause_105 (Nat.zero_le _) (Nat.zero_le _) ?_
        refine ⟨b1, p1, A1, hag, hok, Or.inl ⟨hR0, rfl, rfl⟩⟩
    · exact absurd (Or.inr (Decidable.not_not.mp (fun q => c_22 (b2_0.mpr q)))) hd
  · refine g_aload_n X dX7_cause_10 0 rfl ?_
    refine g_iload_n X dX7_cause_11 1 rfl ?_
    refine g_cV X ml_X7_173 (c_X7_noCause (I := usI I) D _) ⟨7, _, mLm D, rfl⟩ (Nat.le_of_ble_eq_true rfl) rfl rfl (Nat.le_of_ble_eq_true rfl) (Nat.zero_le _) (Nat.zero_le _) dX7_cause_12 ?_
    refine g_if_ne X 25 dX7_cause_15 (by decide) (fun c_15 => ?_) (fun c_15 => ?_)
    · have hx2 : ¬ inR ab 0 (I 11 - 1) := Decidable.not_not.mp (fun q => c_15 (b2_0.mpr q))
      exact absurd (Or.inl ⟨c_7, hx2⟩) hd
    · refine g_iload_n X dX7_cause_18 2 rfl ?_
      refine g_cS X ml_X7_176 (c_X7_noDesk _) (Nat.le_of_ble_eq_true rfl) rfl rfl (Nat.le_of_ble_eq_true rfl) (Nat.zero_le _) (Nat.zero_le _) dX7_cause_19 ?_
      refine g_if_eq X 29 dX7_cause_22 (by decide) (fun c_22 => ?_) (fun c_22 => ?_)
      · refine g_iconst X (v := 0) dX7_cause_29 ki_0 ?_
        refine g_iconst X (v := 1) dX7_cause_30 ki_1 ?_
        refine g_cV X ml_X7_179 (c_X7_throwsIf0 D _) ⟨7, _, mLm D, rfl⟩ (Nat.le_of_ble_eq_true rfl) rfl rfl (Nat.le_of_ble_eq_true rfl) (Nat.zero_le _) (Nat.zero_le _) dX7_cause_31 ?_
        refine g_if_ne X 60 dX7_cause_34 (by decide) (fun c_34 => absurd rfl c_34) (fun c_34 => ?_)
        refine g_aload_n X dX7_cause_37 0 rfl ?_
        refine g_iload_n X dX7_cause_38 3 rfl ?_
        refine g_iconst X (v := 0) dX7_cause_39 ki_0 ?_
        refine g_bipush X (v := 60) dX7_cause_40 kb_60 ?_
        refine g_cS X ml_X7_97 (c_X7_in _ _ _) (Nat.le_of_ble_eq_true rfl) rfl rfl (Nat.le_of_ble_eq_true rfl) (Nat.zero_le _) (Nat.zero_le _) dX7_cause_42 ?_
        refine g_eqi (y := (1 : Int32)) (b2_t hd2) ?_
        refine g_if_ne X 52 dX7_cause_45 (by decide) (fun c_45 => ?_) (fun c_45 => absurd c_45 (by decide))
        refine g_iconst X (v := 0) dX7_cause_52 ki_0 ?_
        refine g_iconst X (v := 2) dX7_cause_53 ki_2 ?_
        refine g_cV X ml_X7_179 (c_X7_throwsIf0 D _) ⟨7, _, mLm D, rfl⟩ (Nat.le_of_ble_eq_true rfl) rfl rfl (Nat.le_of_ble_eq_true rfl) (Nat.zero_le _) (Nat.zero_le _) dX7_cause_54 ?_
        refine g_if_eq X 62 dX7_cause_57 (by decide) (fun c_57 => ?_) (fun c_57 => absurd rfl c_57)
        refine g_aload_n X dX7_cause_62 0 rfl ?_
        refine g_aload_n X dX7_cause_63 0 rfl ?_
        refine g_cVx X ml_X7_183 (c_X7_readsPattern (I := usI I) D N 0 b0 hN hN4 rfl hb0 (Nat.zero_le _) hby) ⟨7, _, mLm D, rfl⟩ (Nat.le_of_ble_eq_true rfl) rfl rfl (Nat.le_of_ble_eq_true rfl) (Nat.zero_le _) (Nat.zero_le _) dX7_cause_64 ?_
        rintro v h1 ⟨b1, p1, A1, rfl, hag, rfl, hok⟩
        refine g_st (st' := [.int (b2 ((pR Ar N).1 = none)), .ref m]) rfl ?_
        refine g_if_ne X 74 dX7_cause_67 (by decide) (fun c_67 => ?_) (fun c_67 => ?_)
        · have hR : (pR Ar N).1 = none := Decidable.not_not.mp (fun q => c_67 (b2_0.mpr q))
          refine g_iconst X (v := 0) dX7_cause_74 ki_0 ?_
          refine g_iconst X (v := 2) dX7_cause_75 ki_2 ?_
          refine g_cV X ml_X7_179 (c_X7_throwsIf0 D _) ⟨7, _, mLm D, rfl⟩ (Nat.le_of_ble_eq_true rfl) rfl rfl (Nat.le_of_ble_eq_true rfl) (Nat.zero_le _) (Nat.zero_le _) dX7_cause_76 ?_
          refine g_if_ne X 104 dX7_cause_79 (by decide) (fun c_79 => absurd rfl c_79) (fun c_79 => ?_)
          refine g_aload_n X dX7_cause_82 0 rfl ?_
          refine g_aload_n X dX7_cause_83 0 rfl ?_
          refine g_getfield X fl_X7_94 dX7_cause_84 (mLm D) rfl ?_
          refine g_eqi (y := nI nc) (hI) ?_
          refine g_bipush X (v := 12) dX7_cause_87 kb_12 ?_
          refine g_icmp_ne X 96 dX7_cause_89 (by decide) (fun c_89 => ?_) (fun c_89 => ?_)
          · have hlt : nc < 12 := Nat.lt_of_le_of_ne hnc (fun q => c_89 (by rw [q]; rfl))
            refine g_iconst X (v := 0) dX7_cause_96 ki_0 ?_
            refine g_iconst X (v := 3) dX7_cause_97 ki_3 ?_
            refine g_cV X ml_X7_179 (c_X7_throwsIf0 D _) ⟨7, _, mLm D, rfl⟩ (Nat.le_of_ble_eq_true rfl) rfl rfl (Nat.le_of_ble_eq_true rfl) (Nat.zero_le _) (Nat.zero_le _) dX7_cause_98 ?_
            refine g_if_eq X 106 dX7_cause_101 (by decide) (fun c_101 => ?_) (fun c_101 => absurd rfl c_101)
            refine g_aload_n X dX7_cause_106 0 rfl ?_
            refine g_getfield X fl_X7_9 dX7_cause_107 (mLm D) rfl ?_
            refine g_aload_n X dX7_cause_110 0 rfl ?_
            refine g_getfield X fl_X7_94 dX7_cause_111 (mLm D) rfl ?_
            refine g_eqi (y := nI nc) (hI) ?_
            refine g_iload_n X dX7_cause_114 1 rfl ?_
            refine g_iastore X dX7_cause_115 (mLa D 2 rfl) (vp_in_nI (by omega) (by decide)) (g_h (mUa D 2 rfl _) ?_)
            refine g_aload_n X dX7_cause_116 0 rfl ?_
            refine g_getfield X fl_X7_13 dX7_cause_117 (mLm D) rfl ?_
            refine g_aload_n X dX7_cause_120 0 rfl ?_
            refine g_getfield X fl_X7_94 dX7_cause_121 (mLm D) rfl ?_
            refine g_eqi (y := nI nc) (hI) ?_
            refine g_iload_n X dX7_cause_124 2 rfl ?_
            refine g_iastore X dX7_cause_125 (mLa D 3 rfl) (vp_in_nI (by omega) (by decide)) (g_h (mUa D 3 rfl _) ?_)
            refine g_aload_n X dX7_cause_126 0 rfl ?_
            refine g_getfield X fl_X7_16 dX7_cause_127 (mLm D) rfl ?_
            refine g_aload_n X dX7_cause_130 0 rfl ?_
            refine g_getfield X fl_X7_94 dX7_cause_131 (mLm D) rfl ?_
            refine g_eqi (y := nI nc) (hI) ?_
            refine g_iload_n X dX7_cause_134 3 rfl ?_
            refine g_iastore X dX7_cause_135 (mLa D 4 rfl) (vp_in_nI (by omega) (by decide)) (g_h (mUa D 4 rfl _) ?_)
            refine g_aload_n X dX7_cause_136 0 rfl ?_
            refine g_getfield X fl_X7_19 dX7_cause_137 (mLm D) rfl ?_
            refine g_aload_n X dX7_cause_140 0 rfl ?_
            refine g_getfield X fl_X7_94 dX7_cause_141 (mLm D) rfl ?_
            refine g_eqi (y := nI nc) (hI) ?_
            refine g_iload X dX7_cause_144 4 rfl ?_
            refine g_zastore X dX7_cause_146 (mLa D 5 rfl) (vp_in_nI (by omega) (by decide)) (g_h (mUa D 5 rfl _) ?_)
            refine g_h (h' := mH G ix ad (va_up (wI (usI I) b1 p1) 32 (enO (pR Ar N).1)) (caA A1 nc ab dk dd th) h0) (by simp only [nI_clamp (show nc < 2 ^ 31 by omega)]; rfl) ?_
            refine g_aload_n X dX7_cause_147 0 rfl ?_
            refine g_aload_n X dX7_cause_148 0 rfl ?_
            refine g_getfield X fl_X7_94 dX7_cause_149 (mLm D) rfl ?_
            refine g_eqi (y := nI nc) (hI) ?_
            refine g_cV0 X ml_X7_186 (c_X7_setsPattern (I := (va_up (wI (usI I) b1 p1) 32 (enO (pR Ar N).1))) (Ar := caA A1 nc ab dk dd th) D nc (pR Ar N).2.length (by omega) (pP_len 13 0 0 [] (by decide)) (hok hR).2 (hok hR).1.sz) ⟨7, _, mLm D, rfl⟩ (Nat.le_of_ble_eq_true rfl) rfl rfl (Nat.le_of_ble_eq_true rfl) (Nat.zero_le _) (Nat.zero_le _) dX7_cause_152 ?_
            refine g_aload_n X dX7_cause_155 0 rfl ?_
            refine g_dup X dX7_cause_156 rfl ?_
            refine g_getfield X fl_X7_94 dX7_cause_157 (mLm D) rfl ?_
            refine g_eqi (y := nI nc) (hI) ?_
            refine g_iconst X (v := 1) dX7_cause_160 ki_1 ?_
            refine g_iadd X dX7_cause_161 ?_
            refine g_eqi (y := nI (nc + 1)) (nI_1 nc) ?_
            refine m_put X D 11 (by decide) fp_X7_94 dX7_cause_162 (mset_11 _ _ _) ?_
            refine g_aload_n X dX7_cause_165 0 rfl ?_
            refine g_getfield X fl_X7_94 dX7_cause_166 (mLm D) rfl ?_
            refine g_eqi (y := nI (nc + 1)) (rfl) ?_
            refine g_iconst X (v := 1) dX7_cause_169 ki_1 ?_
            refine g_isub X dX7_cause_170 ?_
            refine g_eqi (y := nI nc) (nI_pred nc) ?_
            refine g_iret X F rfl rfl dX7_cause_171 (Nat.zero_le _) (Nat.zero_le _) ?_
            refine ⟨b1, p1, A1, hag, hok, Or.inr (Or.inr ⟨hR, hlt, rfl, ?_⟩)⟩
            rw [hR]; rfl
          · have hlt0 : nc = 12 := (nI_eq (b := 12) (by omega) (by decide)).mp c_89
            refine g_iconst X (v := 1) dX7_cause_92 ki_1 ?_
            refine g_goto X 97 dX7_cause_93 (by decide) ?_
            refine g_iconst X (v := 3) dX7_cause_97 ki_3 ?_
            refine g_cV X ml_X7_179 (c_X7_throwsIf1 D _) ⟨7, _, mLm D, rfl⟩ (Nat.le_of_ble_eq_true rfl) rfl rfl (Nat.le_of_ble_eq_true rfl) (Nat.zero_le _) (Nat.zero_le _) dX7_cause_98 ?_
            refine g_if_eq X 106 dX7_cause_101 (by decide) (fun c_101 => absurd c_101 (by decide)) (fun c_101 => ?_)
            refine g_iconst X (v := 0) dX7_cause_104 ki_0 ?_
            refine g_iret X F rfl rfl dX7_cause_105 (Nat.zero_le _) (Nat.zero_le _) ?_
            refine ⟨b1, p1, A1, hag, hok, Or.inr (Or.inl ⟨hR, hlt0, rfl, ?_⟩)⟩
            rw [hR]; rfl
        · have hR0 : ¬ (pR Ar N).1 = none := b2_0.mp (by first | exact c_67 | exact Decidable.not_not.mp c_67)
          refine g_iconst X (v := 1) dX7_cause_70 ki_1 ?_
          refine g_goto X 75 dX7_cause_71 (by decide) ?_
          refine g_iconst X (v := 2) dX7_cause_75 ki_2 ?_
          refine g_cV X ml_X7_179 (c_X7_throwsIf1 D _) ⟨7, _, mLm D, rfl⟩ (Nat.le_of_ble_eq_true rfl) rfl rfl (Nat.le_of_ble_eq_true rfl) (Nat.zero_le _) (Nat.zero_le _) dX7_cause_76 ?_
          refine g_if_ne X 104 dX7_cause_79 (by decide) (fun c_79 => ?_) (fun c_79 => absurd c_79 (by decide))
          refine g_iconst X (v := 0) dX7_cause_104 ki_0 ?_
          refine g_iret X F rfl rfl dX7_cause_105 (Nat.zero_le _) (Nat.zero_le _) ?_
          refine ⟨b1, p1, A1, hag, hok, Or.inl ⟨hR0, rfl, rfl⟩⟩
      · exact absurd (Or.inr (Decidable.not_not.mp (fun q => c_22 (b2_0.mpr q)))) hd
end M15
