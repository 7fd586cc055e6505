section K34
variable {G : gG} {l : Launch} {h h0 : hW} {Z : kZ} {I : Nat → Int32} {Ar : Nat → Nat → Int32} {T : Nat → Int32} {A : Nat → Nat → Int32} {Lg : Nat → Nat → Int64}
theorem c_X6_cause_t1 (hs : l.stackTraces = false) (K : kD G Z I Ar T A Lg h) (ab dk dd th : Int32) (h1 : ¬ ab = -1) (hx : noI ab Z.nC)  : CtX G l 8 1 6 M_X6_cause [.ref (Z.da 1), .int ab, .int dk, .int dd, .int th] h (fun _ _ => False) (fun C h' => C = "java/lang/IndexOutOfBoundsException" ∧ h' = (kH G Z (va_up I 28 0) Ar (va_up (va_up (va_up T 0 (I 28)) 1 0) 2 0) A Lg h)) := by
  refine CtX.of (by decide +kernel) (Nat.le_of_ble_eq_true rfl) (fun E hE X F => ?_)
  have X : Gc G E "ComplaintDesk" cX6_cause 7 8 1 6 := X
  show GW G E _ 7 0 [(0, _), (1, _), (2, _), (3, _), (4, _)] [] _ 0 0
  have D := K.1
  refine g_h K.self ?_
  refine g_aload_n X dX6_cause_0 0 rfl ?_
  refine g_getfield X fl_X6_10 dX6_cause_1 (kL1 D) rfl ?_
  refine g_cV0 X ml_X6_71 (c_X4_useUp D) ⟨4, _, kL2 D, rfl⟩ (Nat.le_of_ble_eq_true rfl) rfl rfl (Nat.le_of_ble_eq_true rfl) (Nat.zero_le _) (Nat.zero_le _) dX6_cause_4 ?_
  refine g_iload_n X dX6_cause_7 1 rfl ?_
  refine g_iconst X (v := (-1)) dX6_cause_8 ki_m1 ?_
  refine g_icmp_ne X 16 dX6_cause_9 (by decide) (fun c_9 => ?_) (fun c_9 => absurd (by first | exact c_9 | exact Classical.not_not.mp c_9) h1)
  refine g_aload_n X dX6_cause_16 0 rfl ?_
  refine g_iload_n X dX6_cause_17 1 rfl ?_
  refine g_xV X F ml_X6_74 (c_X6_causeAt_t (by rw [hE]; exact hs) D ab hx) ⟨6, _, kL1 D, rfl⟩ (fun C9 h9 q9 => q9) (Nat.le_of_ble_eq_true rfl) rfl rfl (Nat.le_of_ble_eq_true rfl) (Nat.le_of_ble_eq_true rfl) (Nat.le_of_ble_eq_true rfl) (Nat.le_of_ble_eq_true rfl) (Nat.le_of_ble_eq_true rfl) dX6_cause_18 (fun v9 h9 q9 => q9.elim)
theorem c_X6_cause_t2n (hs : l.stackTraces = false) (K : kD G Z I Ar T A Lg h) (dk dd th : Int32) (hx : noI dk 4)  : CtX G l 8 1 6 M_X6_cause [.ref (Z.da 1), .int ((-1 : Int32)), .int dk, .int dd, .int th] h (fun _ _ => False) (fun C h' => C = "java/lang/IndexOutOfBoundsException" ∧ h' = (kH G Z (va_up I 28 0) Ar (va_up (va_up (va_up T 0 (I 28)) 1 0) 2 0) A Lg h)) := by
  refine CtX.of (by decide +kernel) (Nat.le_of_ble_eq_true rfl) (fun E hE X F => ?_)
  have X : Gc G E "ComplaintDesk" cX6_cause 7 8 1 6 := X
  show GW G E _ 7 0 [(0, _), (1, _), (2, _), (3, _), (4, _)] [] _ 0 0
  have D := K.1
  refine g_h K.self ?_
  refine g_aload_n X dX6_cause_0 0 rfl ?_
  refine g_getfield X fl_X6_10 dX6_cause_1 (kL1 D) rfl ?_
  refine g_cV0 X ml_X6_71 (c_X4_useUp D) ⟨4, _, kL2 D, rfl⟩ (Nat.le_of_ble_eq_true rfl) rfl rfl (Nat.le_of_ble_eq_true rfl) (Nat.zero_le _) (Nat.zero_le _) dX6_cause_4 ?_
  refine g_iload_n X dX6_cause_7 1 rfl ?_
  refine g_iconst X (v := (-1)) dX6_cause_8 ki_m1 ?_
  refine g_icmp_ne X 16 dX6_cause_9 (by decide) (fun c_9 => absurd rfl c_9) (fun c_9 => ?_)
  refine g_null X dX6_cause_12 ?_
  refine g_goto X 21 dX6_cause_13 (by decide) ?_
  refine g_astoreQ X (x := none) dX6_cause_21 (Nat.le_of_ble_eq_true rfl) [(5, .null), (0, _), (1, _), (2, _), (3, _), (4, _)] rfl ?_
  refine g_iload_n X dX6_cause_23 3 rfl ?_
  refine g_xS X F ml_X6_78 (c_X6_checkDesk_t (by rw [hE]; exact hs) dk hx) (fun C9 h9 q9 => q9) (Nat.le_of_ble_eq_true rfl) rfl rfl (Nat.le_of_ble_eq_true rfl) (Nat.le_of_ble_eq_true rfl) (Nat.le_of_ble_eq_true rfl) (Nat.le_of_ble_eq_true rfl) (Nat.le_of_ble_eq_true rfl) dX6_cause_24 (fun v9 h9 q9 => q9.elim)
theorem c_X6_cause_t3n (hs : l.stackTraces = false) (K : kD G Z I Ar T A Lg h) (dk : Nat) (hdk : dk < 4) (dd th : Int32) (hx : dd < 0 ∨ 60 < dd)  : CtX G l 8 1 6 M_X6_cause [.ref (Z.da 1), .int ((-1 : Int32)), .int (nI dk), .int dd, .int th] h (fun _ _ => False) (fun C h' => C = "java/lang/IllegalArgumentException" ∧ h' = (kH G Z (va_up I 28 0) Ar (va_up (va_up (va_up T 0 (I 28)) 1 0) 2 0) A Lg h)) := by
  refine CtX.of (by decide +kernel) (Nat.le_of_ble_eq_true rfl) (fun E hE X F => ?_)
  have X : Gc G E "ComplaintDesk" cX6_cause 7 8 1 6 := X
  show GW G E _ 7 0 [(0, _), (1, _), (2, _), (3, _), (4, _)] [] _ 0 0
  have D := K.1
  refine g_h K.self ?_
  refine g_aload_n X dX6_cause_0 0 rfl ?_
  refine g_getfield X fl_X6_10 dX6_cause_1 (kL1 D) rfl ?_
  refine g_cV0 X ml_X6_71 (c_X4_useUp D) ⟨4, _, kL2 D, rfl⟩ (Nat.le_of_ble_eq_true rfl) rfl rfl (Nat.le_of_ble_eq_true rfl) (Nat.zero_le _) (Nat.zero_le _) dX6_cause_4 ?_
  refine g_iload_n X dX6_cause_7 1 rfl ?_
  refine g_iconst X (v := (-1)) dX6_cause_8 ki_m1 ?_
  refine g_icmp_ne X 16 dX6_cause_9 (by decide) (fun c_9 => absurd rfl c_9) (fun c_9 => ?_)
  refine g_null X dX6_cause_12 ?_
  refine g_goto X 21 dX6_cause_13 (by decide) ?_
  refine g_astoreQ X (x := none) dX6_cause_21 (Nat.le_of_ble_eq_true rfl) [(5, .null), (0, _), (1, _), (2, _), (3, _), (4, _)] rfl ?_
  refine g_iload_n X dX6_cause_23 3 rfl ?_
  refine g_cS0 X ml_X6_78 (c_X6_checkDesk dk hdk) (Nat.le_of_ble_eq_true rfl) rfl rfl (Nat.le_of_ble_eq_true rfl) (Nat.zero_le _) (Nat.zero_le _) dX6_cause_24 ?_
  refine g_iload_n X dX6_cause_27 4 rfl ?_
  refine g_if_lt X 37 dX6_cause_28 (by decide) (fun c_28 => ?_) (fun c_28 => ?_)
  · refine g_throwS X F (by rw [hE]; exact hs) thr_X6_85_83 dX6_cause_37 dX6_cause_40 dX6_cause_41 dX6_cause_43 dX6_cause_46 (Nat.le_of_ble_eq_true rfl) (Nat.le_of_ble_eq_true rfl) (Nat.le_of_ble_eq_true rfl) (Nat.le_of_ble_eq_true rfl) (Nat.le_of_ble_eq_true rfl) ?_
    exact ⟨rfl, rfl⟩
  · refine g_iload_n X dX6_cause_31 4 rfl ?_
    refine g_bipush X (v := 60) dX6_cause_32 kb_60 ?_
    refine g_icmp_le X 47 dX6_cause_34 (by decide) (fun c_34 => absurd c_34 (Int32.not_le.mpr (hx.resolve_left c_28))) (fun c_34 => ?_)
    refine g_throwS X F (by rw [hE]; exact hs) thr_X6_85_83 dX6_cause_37 dX6_cause_40 dX6_cause_41 dX6_cause_43 dX6_cause_46 (Nat.le_of_ble_eq_true rfl) (Nat.le_of_ble_eq_true rfl) (Nat.le_of_ble_eq_true rfl) (Nat.le_of_ble_eq_true rfl) (Nat.le_of_ble_eq_true rfl) ?_
    exact ⟨rfl, rfl⟩
theorem c_X6_cause_t4n (hs : l.stackTraces = false) (K : kD G Z I Ar T A Lg h) (N : Nat) (hN4 : N ≤ 400) (hby : ∀ i, vp_nar .byte (Ar 27 i) = Ar 27 i) (hI28 : I 28 = nI N) (dk dd : Nat) (th : Int32) (hdk : dk < 4) (hdd : dd ≤ 60) (hR : ¬ (pR Ar N).1 = none)  : CtX G l 8 1 6 M_X6_cause [.ref (Z.da 1), .int ((-1 : Int32)), .int (nI dk), .int (nI dd), .int th] h (fun _ _ => False) (fun C h' => C = "java/lang/IllegalArgumentException" ∧ ∃ (T' : Nat → Int32) (A' : Nat → Nat → Int32) (Lg' : Nat → Nat → Int64), (kTf T T' ∧ kAf A A' ∧ kLf Lg Lg') ∧ kD G Z (va_up (va_up I 28 0) 32 (enO (pR Ar N).1)) Ar T' A' Lg' h' ∧ kF Z Z h h') := by
  refine CtX.of (by decide +kernel) (Nat.le_of_ble_eq_true rfl) (fun E hE X F => ?_)
  have X : Gc G E "ComplaintDesk" cX6_cause 7 8 1 6 := X
  show GW G E _ 7 0 [(0, _), (1, _), (2, _), (3, _), (4, _)] [] _ 0 0
  have D := K.1
  refine g_h K.self ?_
  refine g_aload_n X dX6_cause_0 0 rfl ?_
  refine g_getfield X fl_X6_10 dX6_cause_1 (kL1 D) rfl ?_
  refine g_cV0 X ml_X6_71 (c_X4_useUp D) ⟨4, _, kL2 D, rfl⟩ (Nat.le_of_ble_eq_true rfl) rfl rfl (Nat.le_of_ble_eq_true rfl) (Nat.zero_le _) (Nat.zero_le _) dX6_cause_4 ?_
  refine g_iload_n X dX6_cause_7 1 rfl ?_
  refine g_iconst X (v := (-1)) dX6_cause_8 ki_m1 ?_
  refine g_icmp_ne X 16 dX6_cause_9 (by decide) (fun c_9 => absurd rfl c_9) (fun c_9 => ?_)
  refine g_null X dX6_cause_12 ?_
  refine g_goto X 21 dX6_cause_13 (by decide) ?_
  refine g_astoreQ X (x := none) dX6_cause_21 (Nat.le_of_ble_eq_true rfl) [(5, .null), (0, _), (1, _), (2, _), (3, _), (4, _)] rfl ?_
  refine g_iload_n X dX6_cause_23 3 rfl ?_
  refine g_cS0 X ml_X6_78 (c_X6_checkDesk dk hdk) (Nat.le_of_ble_eq_true rfl) rfl rfl (Nat.le_of_ble_eq_true rfl) (Nat.zero_le _) (Nat.zero_le _) dX6_cause_24 ?_
  refine g_iload_n X dX6_cause_27 4 rfl ?_
  refine g_if_lt X 37 dX6_cause_28 (by decide) (fun c_28 => absurd c_28 (nI_pos (by omega))) (fun c_28 => ?_)
  refine g_iload_n X dX6_cause_31 4 rfl ?_
  refine g_bipush X (v := 60) dX6_cause_32 kb_60 ?_
  refine g_icmp_le X 47 dX6_cause_34 (by decide) (fun c_34 => ?_) (fun c_34 => absurd ((nI_leI (a := dd) (b := 60) (by omega) (by omega)).mpr hdd) c_34)
  refine g_aload_n X dX6_cause_47 1 rfl ?_
  refine g_xV X F ml_X6_88 (c_X6_readPattern_t (I := va_up I 28 0) (T := (va_up (va_up (va_up T 0 (I 28)) 1 0) 2 0)) (by rw [hE]; exact hs) D N hN4 hby hI28 rfl hR) ⟨6, _, kL1 D, rfl⟩ (by
    rintro C9 h9 ⟨rfl, T9, A9, Lg9, ⟨hf1, hf2, hf3⟩, rfl⟩
    refine ⟨rfl, T9, A9, Lg9, ⟨fun j hj => (hf1 j hj).trans (by rw [va_up_ne _ _ (by omega), va_up_ne _ _ (by omega), va_up_ne _ _ (by omega)]), hf2, hf3⟩, kD.of D, kF.H⟩) (Nat.le_of_ble_eq_true rfl) rfl rfl (Nat.le_of_ble_eq_true rfl) (Nat.le_of_ble_eq_true rfl) (Nat.le_of_ble_eq_true rfl) (Nat.le_of_ble_eq_true rfl) (Nat.le_of_ble_eq_true rfl) dX6_cause_48 (fun v9 h9 q9 => q9.elim)
theorem c_X6_cause_t5n (hs : l.stackTraces = false) (K : kD G Z I Ar T A Lg h) (N : Nat) (hN4 : N ≤ 400) (hby : ∀ i, vp_nar .byte (Ar 27 i) = Ar 27 i) (hI28 : I 28 = nI N) (dk dd : Nat) (th : Int32) (hdk : dk < 4) (hdd : dd ≤ 60) (hR : (pR Ar N).1 = none) (h12 : ¬ Z.nC < 12)  : CtX G l 8 5 559 M_X6_cause [.ref (Z.da 1), .int ((-1 : Int32)), .int (nI dk), .int (nI dd), .int th] h (fun _ _ => False) (fun C h' => C = "java/lang/UnsupportedOperationException" ∧ ∃ (T' : Nat → Int32) (A' : Nat → Nat → Int32) (Lg' : Nat → Nat → Int64), (kTf T T' ∧ kAf A A' ∧ kLf Lg Lg') ∧ kD G Z (va_up (va_up I 28 0) 32 (-1)) Ar T' A' Lg' h' ∧ kF Z Z h h') := by
  refine CtX.of (by decide +kernel) (Nat.le_of_ble_eq_true rfl) (fun E hE X F => ?_)
  have X : Gc G E "ComplaintDesk" cX6_cause 7 8 5 559 := X
  show GW G E _ 7 0 [(0, _), (1, _), (2, _), (3, _), (4, _)] [] _ 0 0
  have D := K.1
  refine g_h K.self ?_
  refine g_aload_n X dX6_cause_0 0 rfl ?_
  refine g_getfield X fl_X6_10 dX6_cause_1 (kL1 D) rfl ?_
  refine g_cV0 X ml_X6_71 (c_X4_useUp D) ⟨4, _, kL2 D, rfl⟩ (Nat.le_of_ble_eq_true rfl) rfl rfl (Nat.le_of_ble_eq_true rfl) (Nat.le_of_ble_eq_true rfl) (Nat.le_of_ble_eq_true rfl) dX6_cause_4 ?_
  refine g_iload_n X dX6_cause_7 1 rfl ?_
  refine g_iconst X (v := (-1)) dX6_cause_8 ki_m1 ?_
  refine g_icmp_ne X 16 dX6_cause_9 (by decide) (fun c_9 => absurd rfl c_9) (fun c_9 => ?_)
  refine g_null X dX6_cause_12 ?_
  refine g_goto X 21 dX6_cause_13 (by decide) ?_
  refine g_astoreQ X (x := none) dX6_cause_21 (Nat.le_of_ble_eq_true rfl) [(5, .null), (0, _), (1, _), (2, _), (3, _), (4, _)] rfl ?_
  refine g_iload_n X dX6_cause_23 3 rfl ?_
  refine g_cS0 X ml_X6_78 (c_X6_checkDesk dk hdk) (Nat.le_of_ble_eq_true rfl) rfl rfl (Nat.le_of_ble_eq_true rfl) (Nat.zero_le _) (Nat.zero_le _) dX6_cause_24 ?_
  refine g_iload_n X dX6_cause_27 4 rfl ?_
  refine g_if_lt X 37 dX6_cause_28 (by decide) (fun c_28 => absurd c_28 (nI_pos (by omega))) (fun c_28 => ?_)
  refine g_iload_n X dX6_cause_31 4 rfl ?_
  refine g_bipush X (v := 60) dX6_cause_32 kb_60 ?_
  refine g_icmp_le X 47 dX6_cause_34 (by decide) (fun c_34 => ?_) (fun c_34 => absurd ((nI_leI (a := dd) (b := 60) (by omega) (by omega)).mpr hdd) c_34)
  refine g_aload_n X dX6_cause_47 1 rfl ?_
  refine g_cVx X ml_X6_88 (c_X6_readPattern (I := va_up I 28 0) (T := (va_up (va_up (va_up T 0 (I 28)) 1 0) 2 0)) D N hN4 hby hI28 rfl hR) ⟨6, _, kL1 D, rfl⟩ (Nat.le_of_ble_eq_true rfl) rfl rfl (Nat.le_of_ble_eq_true rfl) (Nat.le_of_ble_eq_true rfl) (Nat.le_of_ble_eq_true rfl) dX6_cause_48 ?_
  rintro v9 h9 ⟨T9, A9, Lg9, q, qj, qi, gJ, gI, ⟨hf1, hf2, hf3⟩, rfl, ⟨u1, u2, u3, u4, u5, u6⟩, eP, eJ, eI, hfr, hpw⟩
  refine g_st (st' := [.ref q]) rfl ?_
  have kq : ∀ b x, (kH G Z (va_up (va_up I 28 0) 32 (-1)) Ar T9 A9 Lg9 h) b = some x → h9 b = some x := fun b x hb => (hfr b (fun z => by rw [z, u1] at hb; cases hb) (fun z => by rw [z, u2] at hb; cases hb) (fun z => by rw [z, u3] at hb; cases hb)).trans hb
  have hfT : kTf T T9 := fun j hj => (hf1 j hj).trans (by rw [va_up_ne _ _ (by omega), va_up_ne _ _ (by omega), va_up_ne _ _ (by omega)])
  refine g_astore X dX6_cause_51 (Nat.le_of_ble_eq_true rfl) [(6, _), (5, _), (0, _), (1, _), (2, _), (3, _), (4, _)] rfl ?_
  refine g_aload_n X dX6_cause_53 2 rfl ?_
  refine g_getfield X fl_X6_33 dX6_cause_54 (kq _ _ (kL1 D)) rfl ?_
  refine g_cV X ml_X6_92 (c_Jx4a65c_size_8abf5 _ _ Z.nC _ (kq _ _ (kL4 D))) ⟨8, _, kq _ _ (kL4 D), rfl⟩ (Nat.le_of_ble_eq_true rfl) rfl rfl (Nat.le_of_ble_eq_true rfl) (Nat.le_of_ble_eq_true rfl) (Nat.le_of_ble_eq_true rfl) dX6_cause_57 ?_
  refine g_bipush X (v := 12) dX6_cause_60 kb_12 ?_
  refine g_icmp_lt X 75 dX6_cause_62 (by decide) (fun c_62 => absurd ((nI_ltI (by have := D.c12; omega) (by decide)).mp c_62) h12) (fun c_62 => ?_)
  refine g_throwS X F (by rw [hE]; exact hs) thr_X6_100_98 dX6_cause_65 dX6_cause_68 dX6_cause_69 dX6_cause_71 dX6_cause_74 (Nat.le_of_ble_eq_true rfl) (Nat.le_of_ble_eq_true rfl) (Nat.le_of_ble_eq_true rfl) (Nat.le_of_ble_eq_true rfl) (Nat.le_of_ble_eq_true rfl) ?_
  refine ⟨rfl, T9, A9, Lg9, ⟨hfT, hf2, hf3⟩, ⟨D, fun k hk => kq _ _ (kH_at D hk)⟩, fun b hb hj => ?_⟩
  have e1 : (kH G Z (va_up (va_up I 28 0) 32 (-1)) Ar T9 A9 Lg9 h) b = h b := by unfold kH oH; rw [if_pos hj]
  have nq : ∀ {z}, (kH G Z (va_up (va_up I 28 0) 32 (-1)) Ar T9 A9 Lg9 h) z = none → b ≠ z := fun hz e => hb (by rw [← e1, e]; exact hz)
  exact ⟨(hfr b (nq u1) (nq u2) (nq u3)).trans e1, hj⟩
theorem c_X6_cause_t2s (hs : l.stackTraces = false) (K : kD G Z I Ar T A Lg h) (u : Nat) (hu : u < Z.nC) (dk dd th : Int32) (hx : noI dk 4)  : CtX G l 8 1 6 M_X6_cause [.ref (Z.da 1), .int (nI u), .int dk, .int dd, .int th] h (fun _ _ => False) (fun C h' => C = "java/lang/IndexOutOfBoundsException" ∧ h' = (kH G Z (va_up I 28 0) Ar (va_up (va_up (va_up T 0 (I 28)) 1 0) 2 0) A Lg h)) := by
  refine CtX.of (by decide +kernel) (Nat.le_of_ble_eq_true rfl) (fun E hE X F => ?_)
  have X : Gc G E "ComplaintDesk" cX6_cause 7 8 1 6 := X
  show GW G E _ 7 0 [(0, _), (1, _), (2, _), (3, _), (4, _)] [] _ 0 0
  have D := K.1
  refine g_h K.self ?_
  refine g_aload_n X dX6_cause_0 0 rfl ?_
  refine g_getfield X fl_X6_10 dX6_cause_1 (kL1 D) rfl ?_
  refine g_cV0 X ml_X6_71 (c_X4_useUp D) ⟨4, _, kL2 D, rfl⟩ (Nat.le_of_ble_eq_true rfl) rfl rfl (Nat.le_of_ble_eq_true rfl) (Nat.zero_le _) (Nat.zero_le _) dX6_cause_4 ?_
  refine g_iload_n X dX6_cause_7 1 rfl ?_
  refine g_iconst X (v := (-1)) dX6_cause_8 ki_m1 ?_
  refine g_icmp_ne X 16 dX6_cause_9 (by decide) (fun c_9 => ?_) (fun c_9 => absurd (by first | exact c_9 | exact Classical.not_not.mp c_9) (nI_ne1 (by have := D.c12; omega)))
  refine g_aload_n X dX6_cause_16 0 rfl ?_
  refine g_iload_n X dX6_cause_17 1 rfl ?_
  refine g_cV X ml_X6_74 (c_X6_causeAt D u hu) ⟨6, _, kL1 D, rfl⟩ (Nat.le_of_ble_eq_true rfl) rfl rfl (Nat.le_of_ble_eq_true rfl) (Nat.zero_le _) (Nat.zero_le _) dX6_cause_18 ?_
  refine g_astore X dX6_cause_21 (Nat.le_of_ble_eq_true rfl) [(5, _), (0, _), (1, _), (2, _), (3, _), (4, _)] rfl ?_
  refine g_iload_n X dX6_cause_23 3 rfl ?_
  refine g_xS X F ml_X6_78 (c_X6_checkDesk_t (by rw [hE]; exact hs) dk hx) (fun C9 h9 q9 => q9) (Nat.le_of_ble_eq_true rfl) rfl rfl (Nat.le_of_ble_eq_true rfl) (Nat.le_of_ble_eq_true rfl) (Nat.le_of_ble_eq_true rfl) (Nat.le_of_ble_eq_true rfl) (Nat.le_of_ble_eq_true rfl) dX6_cause_24 (fun v9 h9 q9 => q9.elim)
theorem c_X6_cause_t3s (hs : l.stackTraces = false) (K : kD G Z I Ar T A Lg h) (u : Nat) (hu : u < Z.nC) (dk : Nat) (hdk : dk < 4) (dd th : Int32) (hx : dd < 0 ∨ 60 < dd)  : CtX G l 8 1 6 M_X6_cause [.ref (Z.da 1), .int (nI u), .int (nI dk), .int dd, .int th] h (fun _ _ => False) (fun C h' => C = "java/lang/IllegalArgumentException" ∧ h' = (kH G Z (va_up I 28 0) Ar (va_up (va_up (va_up T 0 (I 28)) 1 0) 2 0) A Lg h)) := by
  refine CtX.of (by decide +kernel) (Nat.le_of_ble_eq_true rfl) (fun E hE X F => ?_)
  have X : Gc G E "ComplaintDesk" cX6_cause 7 8 1 6 := X
  show GW G E _ 7 0 [(0, _), (1, _), (2, _), (3, _), (4, _)] [] _ 0 0
  have D := K.1
  refine g_h K.self ?_
  refine g_aload_n X dX6_cause_0 0 rfl ?_
  refine g_getfield X fl_X6_10 dX6_cause_1 (kL1 D) rfl ?_
  refine g_cV0 X ml_X6_71 (c_X4_useUp D) ⟨4, _, kL2 D, rfl⟩ (Nat.le_of_ble_eq_true rfl) rfl rfl (Nat.le_of_ble_eq_true rfl) (Nat.zero_le _) (Nat.zero_le _) dX6_cause_4 ?_
  refine g_iload_n X dX6_cause_7 1 rfl ?_
  refine g_iconst X (v := (-1)) dX6_cause_8 ki_m1 ?_
  refine g_icmp_ne X 16 dX6_cause_9 (by decide) (fun c_9 => ?_) (fun c_9 => absurd (by first | exact c_9 | exact Classical.not_not.mp c_9) (nI_ne1 (by have := D.c12; omega)))
  refine g_aload_n X dX6_cause_16 0 rfl ?_
  refine g_iload_n X dX6_cause_17 1 rfl ?_
  refine g_cV X ml_X6_74 (c_X6_causeAt D u hu) ⟨6, _, kL1 D, rfl⟩ (Nat.le_of_ble_eq_true rfl) rfl rfl (Nat.le_of_ble_eq_true rfl) (Nat.zero_le _) (Nat.zero_le _) dX6_cause_18 ?_
  refine g_astore X dX6_cause_21 (Nat.le_of_ble_eq_true rfl) [(5, _), (0, _), (1, _), (2, _), (3, _), (4, _)] rfl ?_
  refine g_iload_n X dX6_cause_23 3 rfl ?_
  refine g_cS0 X ml_X6_78 (c_X6_checkDesk dk hdk) (Nat.le_of_ble_eq_true rfl) rfl rfl (Nat.le_of_ble_eq_true rfl) (Nat.zero_le _) (Nat.zero_le _) dX6_cause_24 ?_
  refine g_iload_n X dX6_cause_27 4 rfl ?_
  refine g_if_lt X 37 dX6_cause_28 (by decide) (fun c_28 => ?_) (fun c_28 => ?_)
  · refine g_throwS X F (by rw [hE]; exact hs) thr_X6_85_83 dX6_cause_37 dX6_cause_40 dX6_cause_41 dX6_cause_43 dX6_cause_46 (Nat.le_of_ble_eq_true rfl) (Nat.le_of_ble_eq_true rfl) (Nat.le_of_ble_eq_true rfl) (Nat.le_of_ble_eq_true rfl) (Nat.le_of_ble_eq_true rfl) ?_
    exact ⟨rfl, rfl⟩
  · refine g_iload_n X dX6_cause_31 4 rfl ?_
    refine g_bipush X (v := 60) dX6_cause_32 kb_60 ?_
    refine g_icmp_le X 47 dX6_cause_34 (by decide) (fun c_34 => absurd c_34 (Int32.not_le.mpr (hx.resolve_left c_28))) (fun c_34 => ?_)
    refine g_throwS X F (by rw [hE]; exact hs) thr_X6_85_83 dX6_cause_37 dX6_cause_40 dX6_cause_41 dX6_cause_43 dX6_cause_46 (Nat.le_of_ble_eq_true rfl) (Nat.le_of_ble_eq_true rfl) (Nat.le_of_ble_eq_true rfl) (Nat.le_of_ble_eq_true rfl) (Nat.le_of_ble_eq_true rfl) ?_
    exact ⟨rfl, rfl⟩
theorem c_X6_cause_t4s (hs : l.stackTraces = false) (K : kD G Z I Ar T A Lg h) (N : Nat) (hN4 : N ≤ 400) (hby : ∀ i, vp_nar .byte (Ar 27 i) = Ar 27 i) (hI28 : I 28 = nI N) (u : Nat) (hu : u < Z.nC) (dk dd : Nat) (th : Int32) (hdk : dk < 4) (hdd : dd ≤ 60) (hR : ¬ (pR Ar N).1 = none)  : CtX G l 8 1 6 M_X6_cause [.ref (Z.da 1), .int (nI u), .int (nI dk), .int (nI dd), .int th] h (fun _ _ => False) (fun C h' => C = "java/lang/IllegalArgumentException" ∧ ∃ (T' : Nat → Int32) (A' : Nat → Nat → Int32) (Lg' : Nat → Nat → Int64), (kTf T T' ∧ kAf A A' ∧ kLf Lg Lg') ∧ kD G Z (va_up (va_up I 28 0) 32 (enO (pR Ar N).1)) Ar T' A' Lg' h' ∧ kF Z Z h h') := by
  refine CtX.of (by decide +kernel) (Nat.le_of_ble_eq_true rfl) (fun E hE X F => ?_)
  have X : Gc G E "ComplaintDesk" cX6_cause 7 8 1 6 := X
  show GW G E _ 7 0 [(0, _), (1, _), (2, _), (3, _), (4, _)] [] _ 0 0
  have D := K.1
  refine g_h K.self ?_
  refine g_aload_n X dX6_cause_0 0 rfl ?_
  refine g_getfield X fl_X6_10 dX6_cause_1 (kL1 D) rfl ?_
  refine g_cV0 X ml_X6_71 (c_X4_useUp D) ⟨4, _, kL2 D, rfl⟩ (Nat.le_of_ble_eq_true rfl) rfl rfl (Nat.le_of_ble_eq_true rfl) (Nat.zero_le _) (Nat.zero_le _) dX6_cause_4 ?_
  refine g_iload_n X dX6_cause_7 1 rfl ?_
  refine g_iconst X (v := (-1)) dX6_cause_8 ki_m1 ?_
  refine g_icmp_ne X 16 dX6_cause_9 (by decide) (fun c_9 => ?_) (fun c_9 => absurd (by first | exact c_9 | exact Classical.not_not.mp c_9) (nI_ne1 (by have := D.c12; omega)))
  refine g_aload_n X dX6_cause_16 0 rfl ?_
  refine g_iload_n X dX6_cause_17 1 rfl ?_
  refine g_cV X ml_X6_74 (c_X6_causeAt D u hu) ⟨6, _, kL1 D, rfl⟩ (Nat.le_of_ble_eq_true rfl) rfl rfl (Nat.le_of_ble_eq_true rfl) (Nat.zero_le _) (Nat.zero_le _) dX6_cause_18 ?_
  refine g_astore X dX6_cause_21 (Nat.le_of_ble_eq_true rfl) [(5, _), (0, _), (1, _), (2, _), (3, _), (4, _)] rfl ?_
  refine g_iload_n X dX6_cause_23 3 rfl ?_
  refine g_cS0 X ml_X6_78 (c_X6_checkDesk dk hdk) (Nat.le_of_ble_eq_true rfl) rfl rfl (Nat.le_of_ble_eq_true rfl) (Nat.zero_le _) (Nat.zero_le _) dX6_cause_24 ?_
  refine g_iload_n X dX6_cause_27 4 rfl ?_
  refine g_if_lt X 37 dX6_cause_28 (by decide) (fun c_28 => absurd c_28 (nI_pos (by omega))) (fun c_28 => ?_)
  refine g_iload_n X dX6_cause_31 4 rfl ?_
  refine g_bipush X (v := 60) dX6_cause_32 kb_60 ?_
  refine g_icmp_le X 47 dX6_cause_34 (by decide) (fun c_34 => ?_) (fun c_34 => absurd ((nI_leI (a := dd) (b := 60) (by omega) (by omega)).mpr hdd) c_34)
  refine g_aload_n X dX6_cause_47 1 rfl ?_
  refine g_xV X F ml_X6_88 (c_X6_readPattern_t (I := va_up I 28 0) (T := (va_up (va_up (va_up T 0 (I 28)) 1 0) 2 0)) (by rw [hE]; exact hs) D N hN4 hby hI28 rfl hR) ⟨6, _, kL1 D, rfl⟩ (by
    rintro C9 h9 ⟨rfl, T9, A9, Lg9, ⟨hf1, hf2, hf3⟩, rfl⟩
    refine ⟨rfl, T9, A9, Lg9, ⟨fun j hj => (hf1 j hj).trans (by rw [va_up_ne _ _ (by omega), va_up_ne _ _ (by omega), va_up_ne _ _ (by omega)]), hf2, hf3⟩, kD.of D, kF.H⟩) (Nat.le_of_ble_eq_true rfl) rfl rfl (Nat.le_of_ble_eq_true rfl) (Nat.le_of_ble_eq_true rfl) (Nat.le_of_ble_eq_true rfl) (Nat.le_of_ble_eq_true rfl) (Nat.le_of_ble_eq_true rfl) dX6_cause_48 (fun v9 h9 q9 => q9.elim)
theorem c_X6_cause_t5s (hs : l.stackTraces = false) (K : kD G Z I Ar T A Lg h) (N : Nat) (hN4 : N ≤ 400) (hby : ∀ i, vp_nar .byte (Ar 27 i) = Ar 27 i) (hI28 : I 28 = nI N) (u : Nat) (hu : u < Z.nC) (dk dd : Nat) (th : Int32) (hdk : dk < 4) (hdd : dd ≤ 60) (hR : (pR Ar N).1 = none) (h12 : ¬ Z.nC < 12)  : CtX G l 8 5 559 M_X6_cause [.ref (Z.da 1), .int (nI u), .int (nI dk), .int (nI dd), .int th] h (fun _ _ => False) (fun C h' => C = "java/lang/UnsupportedOperationException" ∧ ∃ (T' : Nat → Int32) (A' : Nat → Nat → Int32) (Lg' : Nat → Nat → Int64), (kTf T T' ∧ kAf A A' ∧ kLf Lg Lg') ∧ kD G Z (va_up (va_up I 28 0) 32 (-1)) Ar T' A' Lg' h' ∧ kF Z Z h h') := by
  refine CtX.of (by decide +kernel) (Nat.le_of_ble_eq_true rfl) (fun E hE X F => ?_)
  have X : Gc G E "ComplaintDesk" cX6_cause 7 8 5 559 := X
  show GW G E _ 7 0 [(0, _), (1, _), (2, _), (3, _), (4, _)] [] _ 0 0
  have D := K.1
  refine g_h K.self ?_
  refine g_aload_n X dX6_cause_0 0 rfl ?_
  refine g_getfield X fl_X6_10 dX6_cause_1 (kL1 D) rfl ?_
  refine g_cV0 X ml_X6_71 (c_X4_useUp D) ⟨4, _, kL2 D, rfl⟩ (Nat.le_of_ble_eq_true rfl) rfl rfl (Nat.le_of_ble_eq_true rfl) (Nat.le_of_ble_eq_true rfl) (Nat.le_of_ble_eq_true rfl) dX6_cause_4 ?_
  refine g_iload_n X dX6_cause_7 1 rfl ?_
  refine g_iconst X (v := (-1)) dX6_cause_8 ki_m1 ?_
  refine g_icmp_ne X 16 dX6_cause_9 (by decide) (fun c_9 => ?_) (fun c_9 => absurd (by first | exact c_9 | exact Classical.not_not.mp c_9) (nI_ne1 (by have := D.c12; omega)))
  refine g_aload_n X dX6_cause_16 0 rfl ?_
  refine g_iload_n X dX6_cause_17 1 rfl ?_
  refine g_cV X ml_X6_74 (c_X6_causeAt D u hu) ⟨6, _, kL1 D, rfl⟩ (Nat.le_of_ble_eq_true rfl) rfl rfl (Nat.le_of_ble_eq_true rfl) (Nat.le_of_ble_eq_true rfl) (Nat.le_of_ble_eq_true rfl) dX6_cause_18 ?_
  refine g_astore X dX6_cause_21 (Nat.le_of_ble_eq_true rfl) [(5, _), (0, _), (1, _), (2, _), (3, _), (4, _)] rfl ?_
  refine g_iload_n X dX6_cause_23 3 rfl ?_
  refine g_cS0 X ml_X6_78 (c_X6_checkDesk dk hdk) (Nat.le_of_ble_eq_true rfl) rfl rfl (Nat.le_of_ble_eq_true rfl) (Nat.zero_le _) (Nat.zero_le _) dX6_cause_24 ?_
  refine g_iload_n X dX6_cause_27 4 rfl ?_
  refine g_if_lt X 37 dX6_cause_28 (by decide) (fun c_28 => absurd c_28 (nI_pos (by omega))) (fun c_28 => ?_)
  refine g_iload_n X dX6_cause_31 4 rfl ?_
  refine g_bipush X (v := 60) dX6_cause_32 kb_60 ?_
  refine g_icmp_le X 47 dX6_cause_34 (by decide) (fun c_34 => ?_) (fun c_34 => absurd ((nI_leI (a := dd) (b := 60) (by omega) (by omega)).mpr hdd) c_34)
  refine g_aload_n X dX6_cause_47 1 rfl ?_
  refine g_cVx X ml_X6_88 (c_X6_readPattern (I := va_up I 28 0) (T := (va_up (va_up (va_up T 0 (I 28)) 1 0) 2 0)) D N hN4 hby hI28 rfl hR) ⟨6, _, kL1 D, rfl⟩ (Nat.le_of_ble_eq_true rfl) rfl rfl (Nat.le_of_ble_eq_true rfl) (Nat.le_of_ble_eq_true rfl) (Nat.le_of_ble_eq_true rfl) dX6_cause_48 ?_
  rintro v9 h9 ⟨T9, A9, Lg9, q, qj, qi, gJ, gI, ⟨hf1, hf2, hf3⟩, rfl, ⟨u1, u2, u3, u4, u5, u6⟩, eP, eJ, eI, hfr, hpw⟩
  refine g_st (st' := [.ref q]) rfl ?_
  have kq : ∀ b x, (kH G Z (va_up (va_up I 28 0) 32 (-1)) Ar T9 A9 Lg9 h) b = some x → h9 b = some x := fun b x hb => (hfr b (fun z => by rw [z, u1] at hb; cases hb) (fun z => by rw [z, u2] at hb; cases hb) (fun z => by rw [z, u3] at hb; cases hb)).trans hb
  have hfT : kTf T T9 := fun j hj => (hf1 j hj).trans (by rw [va_up_ne _ _ (by omega), va_up_ne _ _ (by omega), va_up_ne _ _ (by omega)])
  refine g_astore X dX6_cause_51 (Nat.le_of_ble_eq_true rfl) [(6, _), (5, _), (0, _), (1, _), (2, _), (3, _), (4, _)] rfl ?_
  refine g_aload_n X dX6_cause_53 2 rfl ?_
  refine g_getfield X fl_X6_33 dX6_cause_54 (kq _ _ (kL1 D)) rfl ?_
  refine g_cV X ml_X6_92 (c_Jx4a65c_size_8abf5 _ _ Z.nC _ (kq _ _ (kL4 D))) ⟨8, _, kq _ _ (kL4 D), rfl⟩ (Nat.le_of_ble_eq_true rfl) rfl rfl (Nat.le_of_ble_eq_true rfl) (Nat.le_of_ble_eq_true rfl) (Nat.le_of_ble_eq_true rfl) dX6_cause_57 ?_
  refine g_bipush X (v := 12) dX6_cause_60 kb_12 ?_
  refine g_icmp_lt X 75 dX6_cause_62 (by decide) (fun c_62 => absurd ((nI_ltI (by have := D.c12; omega) (by decide)).mp c_62) h12) (fun c_62 => ?_)
  refine g_throwS X F (by rw [hE]; exact hs) thr_X6_100_98 dX6_cause_65 dX6_cause_68 dX6_cause_69 dX6_cause_71 dX6_cause_74 (Nat.le_of_ble_eq_true rfl) (Nat.le_of_ble_eq_true rfl) (Nat.le_of_ble_eq_true rfl) (Nat.le_of_ble_eq_true rfl) (Nat.le_of_ble_eq_true rfl) ?_
  refine ⟨rfl, T9, A9, Lg9, ⟨hfT, hf2, hf3⟩, ⟨D, fun k hk => kq _ _ (kH_at D hk)⟩, fun b hb hj => ?_⟩
  have e1 : (kH G Z (va_up (va_up I 28 0) 32 (-1)) Ar T9 A9 Lg9 h) b = h b := by unfold kH oH; rw [if_pos hj]
  have nq : ∀ {z}, (kH G Z (va_up (va_up I 28 0) 32 (-1)) Ar T9 A9 Lg9 h) z = none → b ≠ z := fun hz e => hb (by rw [← e1, e]; exact hz)
  exact ⟨(hfr b (nq u1) (nq u2) (nq u3)).trans e1, hj⟩
theorem c_X6_pattern_t1 (hs : l.stackTraces = false) (K : kD G Z I Ar T A Lg h) (x : Int32) (hx : noI x Z.nC)  : CtX G l 8 1 6 M_X6_pattern [.ref (Z.da 1), .int x] h (fun _ _ => False) (fun C h' => C = "java/lang/IndexOutOfBoundsException" ∧ h' = (kH G Z (va_up I 28 0) Ar (va_up (va_up (va_up T 0 (I 28)) 1 0) 2 0) A Lg h)) := by
  refine CtX.of (by decide +kernel) (Nat.le_of_ble_eq_true rfl) (fun E hE X F => ?_)
  have X : Gc G E "ComplaintDesk" cX6_pattern 3 8 1 6 := X
  show GW G E _ 3 0 [(0, _), (1, _)] [] _ 0 0
  have D := K.1
  refine g_h K.self ?_
  refine g_aload_n X dX6_pattern_0 0 rfl ?_
  refine g_getfield X fl_X6_10 dX6_pattern_1 (kL1 D) rfl ?_
  refine g_cV0 X ml_X6_71 (c_X4_useUp D) ⟨4, _, kL2 D, rfl⟩ (Nat.le_of_ble_eq_true rfl) rfl rfl (Nat.le_of_ble_eq_true rfl) (Nat.zero_le _) (Nat.zero_le _) dX6_pattern_4 ?_
  refine g_aload_n X dX6_pattern_7 0 rfl ?_
  refine g_iload_n X dX6_pattern_8 1 rfl ?_
  refine g_xV X F ml_X6_74 (c_X6_causeAt_t (by rw [hE]; exact hs) D x hx) ⟨6, _, kL1 D, rfl⟩ (fun C9 h9 q9 => q9) (Nat.le_of_ble_eq_true rfl) rfl rfl (Nat.le_of_ble_eq_true rfl) (Nat.le_of_ble_eq_true rfl) (Nat.le_of_ble_eq_true rfl) (Nat.le_of_ble_eq_true rfl) (Nat.le_of_ble_eq_true rfl) dX6_pattern_9 (fun v9 h9 q9 => q9.elim)
theorem c_X6_pattern_t2 (hs : l.stackTraces = false) (K : kD G Z I Ar T A Lg h) (N : Nat) (hN4 : N ≤ 400) (hby : ∀ i, vp_nar .byte (Ar 27 i) = Ar 27 i) (hI28 : I 28 = nI N) (c : Nat) (hc : c < Z.nC) (hR : ¬ (pR Ar N).1 = none)  : CtX G l 8 1 6 M_X6_pattern [.ref (Z.da 1), .int (nI c)] h (fun _ _ => False) (fun C h' => C = "java/lang/IllegalArgumentException" ∧ ∃ (T' : Nat → Int32) (A' : Nat → Nat → Int32) (Lg' : Nat → Nat → Int64), (kTf T T' ∧ kAf A A' ∧ kLf Lg Lg') ∧ kD G Z (va_up (va_up I 28 0) 32 (enO (pR Ar N).1)) Ar T' A' Lg' h' ∧ kF Z Z h h') := by
  refine CtX.of (by decide +kernel) (Nat.le_of_ble_eq_true rfl) (fun E hE X F => ?_)
  have X : Gc G E "ComplaintDesk" cX6_pattern 3 8 1 6 := X
  show GW G E _ 3 0 [(0, _), (1, _)] [] _ 0 0
  have D := K.1
  refine g_h K.self ?_
  refine g_aload_n X dX6_pattern_0 0 rfl ?_
  refine g_getfield X fl_X6_10 dX6_pattern_1 (kL1 D) rfl ?_
  refine g_cV0 X ml_X6_71 (c_X4_useUp D) ⟨4, _, kL2 D, rfl⟩ (Nat.le_of_ble_eq_true rfl) rfl rfl (Nat.le_of_ble_eq_true rfl) (Nat.zero_le _) (Nat.zero_le _) dX6_pattern_4 ?_
  refine g_aload_n X dX6_pattern_7 0 rfl ?_
  refine g_iload_n X dX6_pattern_8 1 rfl ?_
  refine g_cV X ml_X6_74 (c_X6_causeAt D c hc) ⟨6, _, kL1 D, rfl⟩ (Nat.le_of_ble_eq_true rfl) rfl rfl (Nat.le_of_ble_eq_true rfl) (Nat.zero_le _) (Nat.zero_le _) dX6_pattern_9 ?_
  refine g_astore_n X dX6_pattern_12 (Nat.le_of_ble_eq_true rfl) [(2, _), (0, _), (1, _)] rfl ?_
  refine g_aload_n X dX6_pattern_13 0 rfl ?_
  refine g_aload_n X dX6_pattern_14 1 rfl ?_
  refine g_xV X F ml_X6_88 (c_X6_readPattern_t (I := va_up I 28 0) (T := (va_up (va_up (va_up T 0 (I 28)) 1 0) 2 0)) (by rw [hE]; exact hs) D N hN4 hby hI28 rfl hR) ⟨6, _, kL1 D, rfl⟩ (by
    rintro C9 h9 ⟨rfl, T9, A9, Lg9, ⟨hf1, hf2, hf3⟩, rfl⟩
    refine ⟨rfl, T9, A9, Lg9, ⟨fun j hj => (hf1 j hj).trans (by rw [va_up_ne _ _ (by omega), va_up_ne _ _ (by omega), va_up_ne _ _ (by omega)]), hf2, hf3⟩, kD.of D, kF.H⟩) (Nat.le_of_ble_eq_true rfl) rfl rfl (Nat.le_of_ble_eq_true rfl) (Nat.le_of_ble_eq_true rfl) (Nat.le_of_ble_eq_true rfl) (Nat.le_of_ble_eq_true rfl) (Nat.le_of_ble_eq_true rfl) dX6_pattern_15 (fun v9 h9 q9 => q9.elim)
end K34
