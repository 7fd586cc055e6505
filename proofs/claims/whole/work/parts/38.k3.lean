section K3
variable {G : gG} {l : Launch} {h h0 : hW} {Z : kZ} {I : Nat → Int32} {Ar : Nat → Nat → Int32} {T : Nat → Int32} {A : Nat → Nat → Int32} {Lg : Nat → Nat → Int64}
theorem c_X3_isAnswered (D : kW G Z) (a p : Nat) (ha : a < Z.nX) (hp : p < Z.np a)  : Ct G l 0 0 0 M_X3_isAnswered [.ref (Z.da (2000 + (6 * a + p)))] (kH G Z I Ar T A Lg h0) (rX (some (.int (b2 (¬ Ar 24 (6 * a + p) = -1)))) (kH G Z I Ar T A Lg h0)) := by
  refine Ct.of (by decide +kernel) (Nat.le_of_ble_eq_true rfl) (fun E hE X F => ?_)
  have X : Gc G E "ComplaintDesk$Point" cX3_isAnswered 1 0 0 0 := X
  show GW G E _ 1 0 [(0, _)] [] _ 0 0
  refine g_aload_n X dX3_isAnswered_0 0 rfl ?_
  refine g_getfield X fl_X3_19 dX3_isAnswered_1 (kLQ D ha hp) rfl ?_
  refine g_iconst X (v := (-1)) dX3_isAnswered_4 ki_m1 ?_
  refine g_icmp_eq X 12 dX3_isAnswered_5 (by decide) (fun c_5 => ?_) (fun c_5 => ?_)
  · refine g_iconst X (v := 0) dX3_isAnswered_12 ki_0 ?_
    refine g_iret X F rfl rfl dX3_isAnswered_13 (Nat.zero_le _) (Nat.zero_le _) ?_
    exact ⟨by rw [b2_f (fun q => q c_5)], rfl⟩
  · refine g_iconst X (v := 1) dX3_isAnswered_8 ki_1 ?_
    refine g_goto X 13 dX3_isAnswered_9 (by decide) ?_
    refine g_iret X F rfl rfl dX3_isAnswered_13 (Nat.zero_le _) (Nat.zero_le _) ?_
    exact ⟨by rw [b2_t c_5], rfl⟩
abbrev thP (Ar : Nat → Nat → Int32) (m : Nat) : Prop := ¬ Ar 22 m = -1 ∧ ¬ Ar 5 (cl (Ar 22 m)) = 0
abbrev wtP (Ar : Nat → Nat → Int32) (dk : Int32) (m : Nat) : Prop := Ar 24 m = -1 ∧ ¬ Ar 22 m = -1 ∧ Ar 3 (cl (Ar 22 m)) = dk
abbrev mpP (Ar : Nat → Nat → Int32) (m o : Nat) : Prop := if b2 (thP Ar m) = b2 (thP Ar o) then Ar 23 m < Ar 23 o else thP Ar m
theorem c_X3_isThreat (D : kW G Z) (a p : Nat) (ha : a < Z.nX) (hp : p < Z.np a) (hk : kN Z.nC (Ar 22 (6 * a + p)))  : Ct G l 0 0 0 M_X3_isThreat [.ref (Z.da (2000 + (6 * a + p)))] (kH G Z I Ar T A Lg h0) (rX (some (.int (b2 (thP Ar (6 * a + p))))) (kH G Z I Ar T A Lg h0)) := by
  refine Ct.of (by decide +kernel) (Nat.le_of_ble_eq_true rfl) (fun E hE X F => ?_)
  have X : Gc G E "ComplaintDesk$Point" cX3_isThreat 1 0 0 0 := X
  show GW G E _ 1 0 [(0, _)] [] _ 0 0
  refine g_aload_n X dX3_isThreat_0 0 rfl ?_
  refine g_getfield X fl_X3_9 dX3_isThreat_1 (kLQ D ha hp) rfl ?_
  refine g_ifnull X 21 dX3_isThreat_4 (by decide) rfl (fun c_4 => ?_) (fun y c_4 => ?_)
  · refine g_iconst X (v := 0) dX3_isThreat_21 ki_0 ?_
    refine g_iret X F rfl rfl dX3_isThreat_22 (Nat.zero_le _) (Nat.zero_le _) ?_
    exact ⟨by rw [b2_f (fun q => q.1 (kLn hk c_4))], rfl⟩
  · refine g_aload_n X dX3_isThreat_7 0 rfl ?_
    refine g_getfield X fl_X3_9 dX3_isThreat_8 (kLQ D ha hp) rfl ?_
    obtain ⟨hz1, hz2, hz3, hz4, hz5⟩ := kLz (I := I) (Ar := Ar) (T := T) (A := A) (Lg := Lg) (h0 := h0) D hk c_4
    refine g_st (st' := [.ref y]) (by rw [c_4]; rfl) ?_
    refine g_getfield X fl_X3_38 dX3_isThreat_11 hz5 rfl ?_
    refine g_if_eq X 21 dX3_isThreat_14 (by decide) (fun c_14 => ?_) (fun c_14 => ?_)
    · refine g_iconst X (v := 0) dX3_isThreat_21 ki_0 ?_
      refine g_iret X F rfl rfl dX3_isThreat_22 (Nat.zero_le _) (Nat.zero_le _) ?_
      exact ⟨by rw [b2_f (fun q => q.2 c_14)], rfl⟩
    · refine g_iconst X (v := 1) dX3_isThreat_17 ki_1 ?_
      refine g_goto X 22 dX3_isThreat_18 (by decide) ?_
      refine g_iret X F rfl rfl dX3_isThreat_22 (Nat.zero_le _) (Nat.zero_le _) ?_
      exact ⟨by rw [b2_t ⟨hz4, c_14⟩], rfl⟩
theorem c_X3_isWaitingAt (D : kW G Z) (a p : Nat) (ha : a < Z.nX) (hp : p < Z.np a) (hk : kN Z.nC (Ar 22 (6 * a + p))) (dk : Int32)  : Ct G l 0 0 0 M_X3_isWaitingAt [.ref (Z.da (2000 + (6 * a + p))), .int dk] (kH G Z I Ar T A Lg h0) (rX (some (.int (b2 (wtP Ar dk (6 * a + p))))) (kH G Z I Ar T A Lg h0)) := by
  refine Ct.of (by decide +kernel) (Nat.le_of_ble_eq_true rfl) (fun E hE X F => ?_)
  have X : Gc G E "ComplaintDesk$Point" cX3_isWaitingAt 2 0 0 0 := X
  show GW G E _ 2 0 [(0, _), (1, _)] [] _ 0 0
  refine g_aload_n X dX3_isWaitingAt_0 0 rfl ?_
  refine g_getfield X fl_X3_19 dX3_isWaitingAt_1 (kLQ D ha hp) rfl ?_
  refine g_iconst X (v := (-1)) dX3_isWaitingAt_4 ki_m1 ?_
  refine g_icmp_ne X 30 dX3_isWaitingAt_5 (by decide) (fun c_5 => ?_) (fun c_5 => ?_)
  · refine g_iconst X (v := 0) dX3_isWaitingAt_30 ki_0 ?_
    refine g_iret X F rfl rfl dX3_isWaitingAt_31 (Nat.zero_le _) (Nat.zero_le _) ?_
    exact ⟨by rw [b2_f (fun q => c_5 q.1)], rfl⟩
  · refine g_aload_n X dX3_isWaitingAt_8 0 rfl ?_
    refine g_getfield X fl_X3_9 dX3_isWaitingAt_9 (kLQ D ha hp) rfl ?_
    refine g_ifnull X 30 dX3_isWaitingAt_12 (by decide) rfl (fun c_12 => ?_) (fun y c_12 => ?_)
    · refine g_iconst X (v := 0) dX3_isWaitingAt_30 ki_0 ?_
      refine g_iret X F rfl rfl dX3_isWaitingAt_31 (Nat.zero_le _) (Nat.zero_le _) ?_
      exact ⟨by rw [b2_f (fun q => q.2.1 (kLn hk c_12))], rfl⟩
    · refine g_aload_n X dX3_isWaitingAt_15 0 rfl ?_
      refine g_getfield X fl_X3_9 dX3_isWaitingAt_16 (kLQ D ha hp) rfl ?_
      obtain ⟨hz1, hz2, hz3, hz4, hz5⟩ := kLz (I := I) (Ar := Ar) (T := T) (A := A) (Lg := Lg) (h0 := h0) D hk c_12
      refine g_st (st' := [.ref y]) (by rw [c_12]; rfl) ?_
      refine g_getfield X fl_X3_31 dX3_isWaitingAt_19 hz5 rfl ?_
      refine g_iload_n X dX3_isWaitingAt_22 1 rfl ?_
      refine g_icmp_ne X 30 dX3_isWaitingAt_23 (by decide) (fun c_23 => ?_) (fun c_23 => ?_)
      · refine g_iconst X (v := 0) dX3_isWaitingAt_30 ki_0 ?_
        refine g_iret X F rfl rfl dX3_isWaitingAt_31 (Nat.zero_le _) (Nat.zero_le _) ?_
        exact ⟨by rw [b2_f (fun q => c_23 q.2.2)], rfl⟩
      · refine g_iconst X (v := 1) dX3_isWaitingAt_26 ki_1 ?_
        refine g_goto X 31 dX3_isWaitingAt_27 (by decide) ?_
        refine g_iret X F rfl rfl dX3_isWaitingAt_31 (Nat.zero_le _) (Nat.zero_le _) ?_
        exact ⟨by rw [b2_t ⟨c_5, hz4, c_23⟩], rfl⟩
theorem c_X3_isMorePressing (D : kW G Z) (a p : Nat) (ha : a < Z.nX) (hp : p < Z.np a) (hk : kN Z.nC (Ar 22 (6 * a + p))) (a2 p2 : Nat) (ha2 : a2 < Z.nX) (hp2 : p2 < Z.np a2) (hk2 : kN Z.nC (Ar 22 (6 * a2 + p2)))  : Ct G l 1 0 0 M_X3_isMorePressing [.ref (Z.da (2000 + (6 * a + p))), .ref (Z.da (2000 + (6 * a2 + p2)))] (kH G Z I Ar T A Lg h0) (rX (some (.int (b2 (mpP Ar (6 * a + p) (6 * a2 + p2))))) (kH G Z I Ar T A Lg h0)) := by
  refine Ct.of (by decide +kernel) (Nat.le_of_ble_eq_true rfl) (fun E hE X F => ?_)
  have X : Gc G E "ComplaintDesk$Point" cX3_isMorePressing 2 1 0 0 := X
  show GW G E _ 2 0 [(0, _), (1, _)] [] _ 0 0
  refine g_aload_n X dX3_isMorePressing_0 0 rfl ?_
  refine g_cV X ml_X3_34 (c_X3_isThreat D a p ha hp hk) ⟨3, _, kLQ D ha hp, rfl⟩ (Nat.le_of_ble_eq_true rfl) rfl rfl (Nat.le_of_ble_eq_true rfl) (Nat.zero_le _) (Nat.zero_le _) dX3_isMorePressing_1 ?_
  refine g_aload_n X dX3_isMorePressing_4 1 rfl ?_
  refine g_cV X ml_X3_34 (c_X3_isThreat D a2 p2 ha2 hp2 hk2) ⟨3, _, kLQ D ha2 hp2, rfl⟩ (Nat.le_of_ble_eq_true rfl) rfl rfl (Nat.le_of_ble_eq_true rfl) (Nat.zero_le _) (Nat.zero_le _) dX3_isMorePressing_5 ?_
  refine g_icmp_eq X 16 dX3_isMorePressing_8 (by decide) (fun c_8 => ?_) (fun c_8 => ?_)
  · refine g_aload_n X dX3_isMorePressing_16 0 rfl ?_
    refine g_getfield X fl_X3_15 dX3_isMorePressing_17 (kLQ D ha hp) rfl ?_
    refine g_aload_n X dX3_isMorePressing_20 1 rfl ?_
    refine g_getfield X fl_X3_15 dX3_isMorePressing_21 (kLQ D ha2 hp2) rfl ?_
    refine g_icmp_ge X 31 dX3_isMorePressing_24 (by decide) (fun c_24 => ?_) (fun c_24 => ?_)
    · refine g_iconst X (v := 0) dX3_isMorePressing_31 ki_0 ?_
      refine g_iret X F rfl rfl dX3_isMorePressing_32 (Nat.zero_le _) (Nat.zero_le _) ?_
      exact ⟨by rw [b2_f (by unfold mpP; rw [if_pos c_8]; exact Int32.not_lt.mpr c_24)], rfl⟩
    · refine g_iconst X (v := 1) dX3_isMorePressing_27 ki_1 ?_
      refine g_goto X 32 dX3_isMorePressing_28 (by decide) ?_
      refine g_iret X F rfl rfl dX3_isMorePressing_32 (Nat.zero_le _) (Nat.zero_le _) ?_
      exact ⟨by rw [b2_t (by unfold mpP; rw [if_pos c_8]; exact Int32.not_le.mp c_24)], rfl⟩
  · refine g_aload_n X dX3_isMorePressing_11 0 rfl ?_
    refine g_cV X ml_X3_34 (c_X3_isThreat D a p ha hp hk) ⟨3, _, kLQ D ha hp, rfl⟩ (Nat.le_of_ble_eq_true rfl) rfl rfl (Nat.le_of_ble_eq_true rfl) (Nat.zero_le _) (Nat.zero_le _) dX3_isMorePressing_12 ?_
    refine g_iret X F rfl b2_n dX3_isMorePressing_15 (Nat.zero_le _) (Nat.zero_le _) ?_
    exact ⟨by rw [b2_iff (show mpP Ar (6 * a + p) (6 * a2 + p2) ↔ thP Ar (6 * a + p) by unfold mpP; rw [if_neg c_8])], rfl⟩
abbrev icP (Ar : Nat → Nat → Int32) (w : Int32) (m : Nat) : Prop := if w = 4 then True else if w = 5 then Ar 22 m = -1 ∧ Ar 24 m = -1 else if w = 6 then ¬ Ar 24 m = -1 else ¬ Ar 24 m = -1 ∧ ¬ Ar 23 m = -1 ∧ Ar 23 m < Ar 24 m
theorem c_X3_isCountedAs_4 (D : kW G Z) (a p : Nat) (ha : a < Z.nX) (hp : p < Z.np a) (hk : kN Z.nC (Ar 22 (6 * a + p)))  : Ct G l 0 0 0 M_X3_isCountedAs [.ref (Z.da (2000 + (6 * a + p))), .int 4] (kH G Z I Ar T A Lg h0) (rX (some (.int (b2 (icP Ar 4 (6 * a + p))))) (kH G Z I Ar T A Lg h0)) := by
  refine Ct.of (by decide +kernel) (Nat.le_of_ble_eq_true rfl) (fun E hE X F => ?_)
  have X : Gc G E "ComplaintDesk$Point" cX3_isCountedAs 2 0 0 0 := X
  show GW G E _ 2 0 [(0, _), (1, _)] [] _ 0 0
  refine g_iload_n X dX3_isCountedAs_0 1 rfl ?_
  refine g_tswIn X (off := 31) 32 dX3_isCountedAs_1 (by decide) (by decide) (by decide) (by decide) ?_
  refine g_iconst X (v := 1) dX3_isCountedAs_32 ki_1 ?_
  refine g_iret X F rfl rfl dX3_isCountedAs_33 (Nat.zero_le _) (Nat.zero_le _) ?_
  exact ⟨by rw [b2_t (show icP Ar 4 (6 * a + p) from trivial)], rfl⟩
theorem c_X3_isCountedAs_5 (D : kW G Z) (a p : Nat) (ha : a < Z.nX) (hp : p < Z.np a) (hk : kN Z.nC (Ar 22 (6 * a + p)))  : Ct G l 0 0 0 M_X3_isCountedAs [.ref (Z.da (2000 + (6 * a + p))), .int 5] (kH G Z I Ar T A Lg h0) (rX (some (.int (b2 (icP Ar 5 (6 * a + p))))) (kH G Z I Ar T A Lg h0)) := by
  refine Ct.of (by decide +kernel) (Nat.le_of_ble_eq_true rfl) (fun E hE X F => ?_)
  have X : Gc G E "ComplaintDesk$Point" cX3_isCountedAs 2 0 0 0 := X
  show GW G E _ 2 0 [(0, _), (1, _)] [] _ 0 0
  refine g_iload_n X dX3_isCountedAs_0 1 rfl ?_
  refine g_tswIn X (off := 33) 34 dX3_isCountedAs_1 (by decide) (by decide) (by decide) (by decide) ?_
  refine g_aload_n X dX3_isCountedAs_34 0 rfl ?_
  refine g_getfield X fl_X3_9 dX3_isCountedAs_35 (kLQ D ha hp) rfl ?_
  refine g_ifnonnull X 53 dX3_isCountedAs_38 (by decide) rfl (fun y c_38 => ?_) (fun c_38 => ?_)
  · refine g_iconst X (v := 0) dX3_isCountedAs_53 ki_0 ?_
    refine g_iret X F rfl rfl dX3_isCountedAs_54 (Nat.zero_le _) (Nat.zero_le _) ?_
    exact ⟨by rw [b2_f (show ¬ icP Ar 5 (6 * a + p) from fun q => by rw [q.1, cz_n] at c_38; cases c_38)], rfl⟩
  · refine g_aload_n X dX3_isCountedAs_41 0 rfl ?_
    refine g_getfield X fl_X3_19 dX3_isCountedAs_42 (kLQ D ha hp) rfl ?_
    refine g_iconst X (v := (-1)) dX3_isCountedAs_45 ki_m1 ?_
    refine g_icmp_ne X 53 dX3_isCountedAs_46 (by decide) (fun c_46 => ?_) (fun c_46 => ?_)
    · refine g_iconst X (v := 0) dX3_isCountedAs_53 ki_0 ?_
      refine g_iret X F rfl rfl dX3_isCountedAs_54 (Nat.zero_le _) (Nat.zero_le _) ?_
      exact ⟨by rw [b2_f (show ¬ icP Ar 5 (6 * a + p) from fun q => c_46 q.2)], rfl⟩
    · refine g_iconst X (v := 1) dX3_isCountedAs_49 ki_1 ?_
      refine g_goto X 54 dX3_isCountedAs_50 (by decide) ?_
      refine g_iret X F rfl rfl dX3_isCountedAs_54 (Nat.zero_le _) (Nat.zero_le _) ?_
      exact ⟨by rw [b2_t (show icP Ar 5 (6 * a + p) from ⟨kLn hk c_38, c_46⟩)], rfl⟩
theorem c_X3_isCountedAs_6 (D : kW G Z) (a p : Nat) (ha : a < Z.nX) (hp : p < Z.np a) (hk : kN Z.nC (Ar 22 (6 * a + p)))  : Ct G l 0 0 0 M_X3_isCountedAs [.ref (Z.da (2000 + (6 * a + p))), .int 6] (kH G Z I Ar T A Lg h0) (rX (some (.int (b2 (icP Ar 6 (6 * a + p))))) (kH G Z I Ar T A Lg h0)) := by
  refine Ct.of (by decide +kernel) (Nat.le_of_ble_eq_true rfl) (fun E hE X F => ?_)
  have X : Gc G E "ComplaintDesk$Point" cX3_isCountedAs 2 0 0 0 := X
  show GW G E _ 2 0 [(0, _), (1, _)] [] _ 0 0
  refine g_iload_n X dX3_isCountedAs_0 1 rfl ?_
  refine g_tswIn X (off := 54) 55 dX3_isCountedAs_1 (by decide) (by decide) (by decide) (by decide) ?_
  refine g_aload_n X dX3_isCountedAs_55 0 rfl ?_
  refine g_getfield X fl_X3_19 dX3_isCountedAs_56 (kLQ D ha hp) rfl ?_
  refine g_iconst X (v := (-1)) dX3_isCountedAs_59 ki_m1 ?_
  refine g_icmp_eq X 67 dX3_isCountedAs_60 (by decide) (fun c_60 => ?_) (fun c_60 => ?_)
  · refine g_iconst X (v := 0) dX3_isCountedAs_67 ki_0 ?_
    refine g_iret X F rfl rfl dX3_isCountedAs_68 (Nat.zero_le _) (Nat.zero_le _) ?_
    exact ⟨by rw [b2_f (show ¬ icP Ar 6 (6 * a + p) from fun q => q c_60)], rfl⟩
  · refine g_iconst X (v := 1) dX3_isCountedAs_63 ki_1 ?_
    refine g_goto X 68 dX3_isCountedAs_64 (by decide) ?_
    refine g_iret X F rfl rfl dX3_isCountedAs_68 (Nat.zero_le _) (Nat.zero_le _) ?_
    exact ⟨by rw [b2_t (show icP Ar 6 (6 * a + p) from c_60)], rfl⟩
theorem c_X3_isCountedAs_7 (D : kW G Z) (a p : Nat) (ha : a < Z.nX) (hp : p < Z.np a) (hk : kN Z.nC (Ar 22 (6 * a + p)))  : Ct G l 0 0 0 M_X3_isCountedAs [.ref (Z.da (2000 + (6 * a + p))), .int 7] (kH G Z I Ar T A Lg h0) (rX (some (.int (b2 (icP Ar 7 (6 * a + p))))) (kH G Z I Ar T A Lg h0)) := by
  refine Ct.of (by decide +kernel) (Nat.le_of_ble_eq_true rfl) (fun E hE X F => ?_)
  have X : Gc G E "ComplaintDesk$Point" cX3_isCountedAs 2 0 0 0 := X
  show GW G E _ 2 0 [(0, _), (1, _)] [] _ 0 0
  refine g_iload_n X dX3_isCountedAs_0 1 rfl ?_
  refine g_tswIn X (off := 68) 69 dX3_isCountedAs_1 (by decide) (by decide) (by decide) (by decide) ?_
  refine g_aload_n X dX3_isCountedAs_69 0 rfl ?_
  refine g_getfield X fl_X3_19 dX3_isCountedAs_70 (kLQ D ha hp) rfl ?_
  refine g_iconst X (v := (-1)) dX3_isCountedAs_73 ki_m1 ?_
  refine g_icmp_eq X 100 dX3_isCountedAs_74 (by decide) (fun c_74 => ?_) (fun c_74 => ?_)
  · refine g_iconst X (v := 0) dX3_isCountedAs_100 ki_0 ?_
    refine g_iret X F rfl rfl dX3_isCountedAs_101 (Nat.zero_le _) (Nat.zero_le _) ?_
    exact ⟨by rw [b2_f (show ¬ icP Ar 7 (6 * a + p) from fun q => q.1 c_74)], rfl⟩
  · refine g_aload_n X dX3_isCountedAs_77 0 rfl ?_
    refine g_getfield X fl_X3_15 dX3_isCountedAs_78 (kLQ D ha hp) rfl ?_
    refine g_iconst X (v := (-1)) dX3_isCountedAs_81 ki_m1 ?_
    refine g_icmp_eq X 100 dX3_isCountedAs_82 (by decide) (fun c_82 => ?_) (fun c_82 => ?_)
    · refine g_iconst X (v := 0) dX3_isCountedAs_100 ki_0 ?_
      refine g_iret X F rfl rfl dX3_isCountedAs_101 (Nat.zero_le _) (Nat.zero_le _) ?_
      exact ⟨by rw [b2_f (show ¬ icP Ar 7 (6 * a + p) from fun q => q.2.1 c_82)], rfl⟩
    · refine g_aload_n X dX3_isCountedAs_85 0 rfl ?_
      refine g_getfield X fl_X3_19 dX3_isCountedAs_86 (kLQ D ha hp) rfl ?_
      refine g_aload_n X dX3_isCountedAs_89 0 rfl ?_
      refine g_getfield X fl_X3_15 dX3_isCountedAs_90 (kLQ D ha hp) rfl ?_
      refine g_icmp_le X 100 dX3_isCountedAs_93 (by decide) (fun c_93 => ?_) (fun c_93 => ?_)
      · refine g_iconst X (v := 0) dX3_isCountedAs_100 ki_0 ?_
        refine g_iret X F rfl rfl dX3_isCountedAs_101 (Nat.zero_le _) (Nat.zero_le _) ?_
        exact ⟨by rw [b2_f (show ¬ icP Ar 7 (6 * a + p) from fun q => Int32.not_lt.mpr c_93 q.2.2)], rfl⟩
      · refine g_iconst X (v := 1) dX3_isCountedAs_96 ki_1 ?_
        refine g_goto X 101 dX3_isCountedAs_97 (by decide) ?_
        refine g_iret X F rfl rfl dX3_isCountedAs_101 (Nat.zero_le _) (Nat.zero_le _) ?_
        exact ⟨by rw [b2_t (show icP Ar 7 (6 * a + p) from ⟨c_74, c_82, Int32.not_le.mp c_93⟩)], rfl⟩
abbrev ptB (Ar : Nat → Nat → Int32) (m : Nat) (x cm : Int32) : Nat → Nat → Int32 := va_up (va_up Ar 22 (upd (Ar 22) m x)) 23 (upd (Ar 23) m (if x = -1 then -1 else cm + Ar 4 (cl x)))
theorem c_X3_putTo_n (D : kW G Z) (a p : Nat) (ha : a < Z.nX) (hp : p < Z.np a) (hk : kN Z.nC (Ar 22 (6 * a + p))) (cm : Int32)  : Ct G l 0 0 0 M_X3_putTo [.ref (Z.da (2000 + (6 * a + p))), .null, .int cm] (kH G Z I Ar T A Lg h0) (rX (some (.int (b2 (¬ -1 = Ar 22 (6 * a + p))))) (kH G Z I (if -1 = Ar 22 (6 * a + p) then Ar else ptB Ar (6 * a + p) (-1) cm) T A Lg h0)) := by
  refine Ct.of (by decide +kernel) (Nat.le_of_ble_eq_true rfl) (fun E hE X F => ?_)
  have X : Gc G E "ComplaintDesk$Point" cX3_putTo 3 0 0 0 := X
  show GW G E _ 3 0 [(0, _), (1, _), (2, _)] [] _ 0 0
  have hx : kN Z.nC (-1) := Or.inl rfl
  have hcz : cz Z (-1) = none := cz_n
  refine g_aload_nQ X (x := none) dX3_putTo_0 1 rfl ?_
  refine g_aload_n X dX3_putTo_1 0 rfl ?_
  refine g_getfield X fl_X3_9 dX3_putTo_2 (kLQ D ha hp) rfl ?_
  refine g_acmp_ne X 10 dX3_putTo_5 (by decide) (rx := none) rfl rfl (fun c_5 => ?_) (fun c_5 => ?_)
  · refine g_aload_n X dX3_putTo_10 0 rfl ?_
    refine g_aload_nQ X (x := none) dX3_putTo_11 1 rfl ?_
    refine g_putfield X fp_X3_9 dX3_putTo_12 (kLQ D ha hp) (Nat.le_of_ble_eq_true rfl) rfl rfl _ rfl ?_
    refine g_h (h' := (kH G Z I (va_up Ar 22 (upd (Ar 22) (6 * a + p) (-1))) T A Lg h0)) (by rw [← kuQ22 D ha hp]; rw [cz_n]; rfl) ?_
    refine g_aload_n X dX3_putTo_15 0 rfl ?_
    refine g_aload_nQ X (x := none) dX3_putTo_16 1 rfl ?_
    refine g_ifnonnull X 24 dX3_putTo_17 (by decide) (x := none) rfl (fun y c_17 => by cases c_17) (fun c_17 => ?_)
    refine g_iconst X (v := (-1)) dX3_putTo_20 ki_m1 ?_
    refine g_goto X 30 dX3_putTo_21 (by decide) ?_
    refine g_putfield X fp_X3_15 dX3_putTo_30 (kLQ D ha hp) (Nat.le_of_ble_eq_true rfl) rfl rfl _ rfl ?_
    refine g_h (kuQ23 D ha hp) ?_
    refine g_iconst X (v := 1) dX3_putTo_33 ki_1 ?_
    refine g_iret X F rfl rfl dX3_putTo_34 (Nat.zero_le _) (Nat.zero_le _) ?_
    have e1 : ¬ -1 = Ar 22 (6 * a + p) := fun q => c_5 (by rw [← q, hcz])
    refine ⟨by rw [b2_t e1], ?_⟩
    rw [if_neg e1]
    unfold ptB
    rw [if_pos rfl]
    rfl
  · refine g_iconst X (v := 0) dX3_putTo_8 ki_0 ?_
    refine g_iret X F rfl rfl dX3_putTo_9 (Nat.zero_le _) (Nat.zero_le _) ?_
    have e1 : -1 = Ar 22 (6 * a + p) := (cz_inj D hx hk).mp (hcz.trans c_5)
    exact ⟨by rw [b2_f (fun q => q e1)], by rw [if_pos e1]⟩
theorem c_X3_putTo_s (D : kW G Z) (a p : Nat) (ha : a < Z.nX) (hp : p < Z.np a) (hk : kN Z.nC (Ar 22 (6 * a + p))) (c : Nat) (hc : c < Z.nC) (cm : Int32)  : Ct G l 0 0 0 M_X3_putTo [.ref (Z.da (2000 + (6 * a + p))), .ref (Z.da (100 + c)), .int cm] (kH G Z I Ar T A Lg h0) (rX (some (.int (b2 (¬ nI c = Ar 22 (6 * a + p))))) (kH G Z I (if nI c = Ar 22 (6 * a + p) then Ar else ptB Ar (6 * a + p) (nI c) cm) T A Lg h0)) := by
  refine Ct.of (by decide +kernel) (Nat.le_of_ble_eq_true rfl) (fun E hE X F => ?_)
  have X : Gc G E "ComplaintDesk$Point" cX3_putTo 3 0 0 0 := X
  show GW G E _ 3 0 [(0, _), (1, _), (2, _)] [] _ 0 0
  have h31 : c < 2 ^ 31 := Nat.lt_of_lt_of_le hc (Nat.le_trans D.c12 (by decide))
  have hx : kN Z.nC (nI c) := Or.inr ⟨c, hc, rfl⟩
  have hcz : cz Z (nI c) = some (Z.da (100 + c)) := cz_s h31
  refine g_aload_nQ X (x := some (Z.da (100 + c))) dX3_putTo_0 1 rfl ?_
  refine g_aload_n X dX3_putTo_1 0 rfl ?_
  refine g_getfield X fl_X3_9 dX3_putTo_2 (kLQ D ha hp) rfl ?_
  refine g_acmp_ne X 10 dX3_putTo_5 (by decide) (rx := some (Z.da (100 + c))) rfl rfl (fun c_5 => ?_) (fun c_5 => ?_)
  · refine g_aload_n X dX3_putTo_10 0 rfl ?_
    refine g_aload_nQ X (x := some (Z.da (100 + c))) dX3_putTo_11 1 rfl ?_
    refine g_putfield X fp_X3_9 dX3_putTo_12 (kLQ D ha hp) (Nat.le_of_ble_eq_true rfl) rfl rfl _ rfl ?_
    refine g_h (h' := (kH G Z I (va_up Ar 22 (upd (Ar 22) (6 * a + p) (nI c))) T A Lg h0)) (by rw [← kuQ22 D ha hp]; rw [hcz]; rfl) ?_
    refine g_aload_n X dX3_putTo_15 0 rfl ?_
    refine g_aload_nQ X (x := some (Z.da (100 + c))) dX3_putTo_16 1 rfl ?_
    refine g_ifnonnull X 24 dX3_putTo_17 (by decide) (x := some (Z.da (100 + c))) rfl (fun y c_17 => ?_) (fun c_17 => by cases c_17)
    refine g_iload_n X dX3_putTo_24 2 rfl ?_
    refine g_aload_nQ X (x := some (Z.da (100 + c))) dX3_putTo_25 1 rfl ?_
    refine g_getfield X fl_X3_26 dX3_putTo_26 (kLC D hc) rfl ?_
    refine g_iadd X dX3_putTo_29 ?_
    refine g_putfield X fp_X3_15 dX3_putTo_30 (kLQ D ha hp) (Nat.le_of_ble_eq_true rfl) rfl rfl _ rfl ?_
    refine g_h (kuQ23 D ha hp) ?_
    refine g_iconst X (v := 1) dX3_putTo_33 ki_1 ?_
    refine g_iret X F rfl rfl dX3_putTo_34 (Nat.zero_le _) (Nat.zero_le _) ?_
    have e1 : ¬ nI c = Ar 22 (6 * a + p) := fun q => c_5 (by rw [← q, hcz])
    refine ⟨by rw [b2_t e1], ?_⟩
    rw [if_neg e1]
    unfold ptB
    rw [if_neg (nI_ne1 h31), show cl (nI c) = c from nI_clamp h31]
    rfl
  · refine g_iconst X (v := 0) dX3_putTo_8 ki_0 ?_
    refine g_iret X F rfl rfl dX3_putTo_9 (Nat.zero_le _) (Nat.zero_le _) ?_
    have e1 : nI c = Ar 22 (6 * a + p) := (cz_inj D hx hk).mp (hcz.trans c_5)
    exact ⟨by rw [b2_f (fun q => q e1)], by rw [if_pos e1]⟩
theorem c_X3_putTo (D : kW G Z) (a p : Nat) (ha : a < Z.nX) (hp : p < Z.np a) (hk : kN Z.nC (Ar 22 (6 * a + p))) (x cm : Int32) (hx : kN Z.nC x) : Ct G l 0 0 0 M_X3_putTo [.ref (Z.da (2000 + (6 * a + p))), va_rf (cz Z x), .int cm] (kH G Z I Ar T A Lg h0) (rX (some (.int (b2 (¬ x = Ar 22 (6 * a + p))))) (kH G Z I (if x = Ar 22 (6 * a + p) then Ar else ptB Ar (6 * a + p) x cm) T A Lg h0)) := by
  rcases hx with rfl | ⟨c, hc, rfl⟩
  · rw [cz_n]; exact c_X3_putTo_n D a p ha hp hk cm
  · rw [cz_s (by have := D.c12; omega)]; exact c_X3_putTo_s D a p ha hp hk c hc cm
end K3
