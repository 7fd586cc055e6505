section K39
variable {G : gG} {l : Launch} {h h0 : hW} {Z : kZ} {I : Nat → Int32} {Ar : Nat → Nat → Int32} {T : Nat → Int32} {A : Nat → Nat → Int32} {Lg : Nat → Nat → Int64}
theorem c_X6_look_t2 (hs : l.stackTraces = false) (D : kW G Z) (a : Nat) (hla : a < Z.nL) (w : Int32) (hw : w.toInt < 0 ∨ 4 < w.toInt)  : CtX G l 7 1 6 M_X6_look [.ref (Z.da 1), .int (nI a), .int w] (kH G Z I Ar T A Lg h0) (fun _ _ => False) (tX "java/util/NoSuchElementException" (kH G Z I Ar T A Lg h0)) := by
  refine CtX.of (by decide +kernel) (Nat.le_of_ble_eq_true rfl) (fun E hE X F => ?_)
  have X : Gc G E "ComplaintDesk" cX6_look 4 7 1 6 := X
  show GW G E _ 4 0 [(0, _), (1, _), (2, _)] [] _ 0 0
  have hax : a < Z.nX := Nat.lt_of_lt_of_le hla D.lx
  refine g_aload_n X dX6_look_0 0 rfl ?_
  refine g_iload_n X dX6_look_1 1 rfl ?_
  refine g_cV X ml_X6_163 (c_X6_letterAt D a hla) ⟨6, _, kL1 D, rfl⟩ (Nat.le_of_ble_eq_true rfl) rfl rfl (Nat.le_of_ble_eq_true rfl) (Nat.zero_le _) (Nat.zero_le _) dX6_look_2 ?_
  refine g_astore_n X dX6_look_5 (Nat.le_of_ble_eq_true rfl) [(3, _), (0, _), (1, _), (2, _)] rfl ?_
  refine g_iload_n X dX6_look_6 3 rfl ?_
  refine g_tswOut X 80 dX6_look_7 hw (by decide) ?_
  exact ns_throw X F (by rw [hE]; exact hs) (text := "nothing else is told of a letter") (is := 213) (by decide +kernel) dX6_look_80 dX6_look_83 dX6_look_84 dX6_look_86 dX6_look_89 (Nat.le_of_ble_eq_true rfl) (Nat.le_of_ble_eq_true rfl) (Nat.le_of_ble_eq_true rfl) (Nat.le_of_ble_eq_true rfl) (Nat.le_of_ble_eq_true rfl) ⟨rfl, rfl⟩
theorem c_X6_point_t3 (hs : l.stackTraces = false) (D : kW G Z) (a p : Nat) (hla : a < Z.nL) (hp : p < Z.np a) (w : Int32) (hw : w.toInt < 0 ∨ 4 < w.toInt)  : CtX G l 7 1 6 M_X6_point [.ref (Z.da 1), .int (nI a), .int (nI p), .int w] (kH G Z I Ar T A Lg h0) (fun _ _ => False) (tX "java/util/NoSuchElementException" (kH G Z I Ar T A Lg h0)) := by
  refine CtX.of (by decide +kernel) (Nat.le_of_ble_eq_true rfl) (fun E hE X F => ?_)
  have X : Gc G E "ComplaintDesk" cX6_point 6 7 1 6 := X
  show GW G E _ 6 0 [(0, _), (1, _), (2, _), (3, _)] [] _ 0 0
  have hax : a < Z.nX := Nat.lt_of_lt_of_le hla D.lx
  refine g_aload_n X dX6_point_0 0 rfl ?_
  refine g_iload_n X dX6_point_1 1 rfl ?_
  refine g_cV X ml_X6_163 (c_X6_letterAt D a hla) ⟨6, _, kL1 D, rfl⟩ (Nat.le_of_ble_eq_true rfl) rfl rfl (Nat.le_of_ble_eq_true rfl) (Nat.zero_le _) (Nat.zero_le _) dX6_point_2 ?_
  refine g_astore X dX6_point_5 (Nat.le_of_ble_eq_true rfl) [(4, _), (0, _), (1, _), (2, _), (3, _)] rfl ?_
  refine g_aload X dX6_point_7 0 rfl ?_
  refine g_iload_n X dX6_point_9 3 rfl ?_
  refine g_cV X ml_X6_167 (c_X1_pointAt D a p hax hp) ⟨1, _, kLL D hax, rfl⟩ (Nat.le_of_ble_eq_true rfl) rfl rfl (Nat.le_of_ble_eq_true rfl) (Nat.zero_le _) (Nat.zero_le _) dX6_point_10 ?_
  refine g_astore X dX6_point_13 (Nat.le_of_ble_eq_true rfl) [(5, _), (4, _), (0, _), (1, _), (2, _), (3, _)] rfl ?_
  refine g_iload_n X dX6_point_15 5 rfl ?_
  refine g_tswOut X 107 dX6_point_16 hw (by decide) ?_
  exact ns_throw X F (by rw [hE]; exact hs) (text := "nothing else is told of a point") (is := 200) (by decide +kernel) dX6_point_107 dX6_point_110 dX6_point_111 dX6_point_113 dX6_point_116 (Nat.le_of_ble_eq_true rfl) (Nat.le_of_ble_eq_true rfl) (Nat.le_of_ble_eq_true rfl) (Nat.le_of_ble_eq_true rfl) (Nat.le_of_ble_eq_true rfl) ⟨rfl, rfl⟩
theorem lP_le {B : Nat → Int32} {N : Nat} : ∀ (f i c : Nat) (fr : Int32) (L0 : List lW) (z : Nat), i ≤ N → (lP B N f i c fr L0).1 = some z → z ≤ N
  | 0, i, c, fr, L0, z, _, h => by rw [lP] at h; cases h; exact Nat.zero_le _
  | f + 1, i, c, fr, L0, z, hi, h => by
    have hb1 : bgn B N i ≤ N := skp_le1 hi
    have hp1 : fin B N (bgn B N i) ≤ N := skp_le1 hb1
    rw [lP_s] at h
    split at h
    · rename_i e1
      split at h
      · split at h
        · cases h; exact hb1
        · cases h
      · rename_i e2
        split at h
        · cases h; exact hb1
        · exact lP_le f _ _ _ _ z (by omega) h
    · split at h
      · cases h; exact hb1
      · exact lP_le f _ _ _ _ z hp1 h
theorem lR_le {N z : Nat} (h : (lR Ar N).1 = some z) : z ≤ N := lP_le _ _ _ _ _ z (Nat.zero_le _) h
theorem g_post {E : gE} {mc ms nL pc k n : Nat} {L : List (Nat × Value)} {st : List Value} {post post' : Option Value → hW → Prop} (hp : ∀ v h', post v h' → post' v h') (K : GW G E (gMQ G E mc ms post) nL pc L st h k n) : GW G E (gMQ G E mc ms post') nL pc L st h k n := by
  intro H locs ls a b c T hT X
  obtain ⟨t, a1, o, b1, b2, ⟨⟨v, h', e1, e2, e3⟩, e4⟩, e5⟩ := K H locs ls a b c T hT X
  exact ⟨t, a1, o, b1, b2, ⟨⟨v, h', e1, hp v h' e2, e3⟩, e4⟩, e5⟩
theorem c_X6_letter_t1 (hs : l.stackTraces = false) (K : kD G Z I Ar T A Lg h) (x : Int32) (hx : noI x 50)  : CtX G l 8 1 6 M_X6_letter [.ref (Z.da 1), .int x] h (fun _ _ => False) (fun C h' => C = "java/lang/IllegalArgumentException" ∧ h' = (kH G Z (va_up I 28 0) Ar (va_up (va_up (va_up T 0 (I 28)) 1 0) 2 0) A Lg h)) := by
  refine CtX.of (by decide +kernel) (Nat.le_of_ble_eq_true rfl) (fun E hE X F => ?_)
  have X : Gc G E "ComplaintDesk" cX6_letter 5 8 1 6 := X
  show GW G E _ 5 0 [(0, _), (1, _)] [] _ 0 0
  have D := K.1
  refine g_h K.self ?_
  refine g_aload_n X dX6_letter_0 0 rfl ?_
  refine g_getfield X fl_X6_10 dX6_letter_1 (kL1 D) rfl ?_
  refine g_cV0 X ml_X6_71 (c_X4_useUp D) ⟨4, _, kL2 D, rfl⟩ (Nat.le_of_ble_eq_true rfl) rfl rfl (Nat.le_of_ble_eq_true rfl) (Nat.zero_le _) (Nat.zero_le _) dX6_letter_4 ?_
  refine g_iload_n X dX6_letter_7 1 rfl ?_
  refine g_if_lt X 17 dX6_letter_8 (by decide) (fun c_8 => ?_) (fun c_8 => ?_)
  · refine g_throwS X F (by rw [hE]; exact hs) thr_X6_85_117 dX6_letter_17 dX6_letter_20 dX6_letter_21 dX6_letter_23 dX6_letter_26 (Nat.le_of_ble_eq_true rfl) (Nat.le_of_ble_eq_true rfl) (Nat.le_of_ble_eq_true rfl) (Nat.le_of_ble_eq_true rfl) (Nat.le_of_ble_eq_true rfl) ?_
    exact ⟨rfl, rfl⟩
  · refine g_iload_n X dX6_letter_11 1 rfl ?_
    refine g_bipush X (v := 50) dX6_letter_12 kb_50 ?_
    refine g_icmp_lt X 27 dX6_letter_14 (by decide) (fun c_14 => absurd c_14 (hx.p c_8)) (fun c_14 => ?_)
    refine g_throwS X F (by rw [hE]; exact hs) thr_X6_85_117 dX6_letter_17 dX6_letter_20 dX6_letter_21 dX6_letter_23 dX6_letter_26 (Nat.le_of_ble_eq_true rfl) (Nat.le_of_ble_eq_true rfl) (Nat.le_of_ble_eq_true rfl) (Nat.le_of_ble_eq_true rfl) (Nat.le_of_ble_eq_true rfl) ?_
    exact ⟨rfl, rfl⟩
theorem c_X6_letter_t2 (hs : l.stackTraces = false) (K : kD G Z I Ar T A Lg h) (N : Nat) (hN4 : N ≤ 400) (hby : ∀ i, vp_nar .byte (Ar 27 i) = Ar 27 i) (hI28 : I 28 = nI N) (w : Nat) (hw : w < 50) (hR : ¬ (lR Ar N).1 = none)  : CtX G l 8 1 6 M_X6_letter [.ref (Z.da 1), .int (nI w)] h (fun _ _ => False) (fun C h' => C = "java/lang/IllegalArgumentException" ∧ ∃ (T' : Nat → Int32) (A' : Nat → Nat → Int32) (Lg' : Nat → Nat → Int64), (kTf T T' ∧ kAf A A' ∧ kLf Lg Lg') ∧ kD G Z (va_up (va_up I 28 0) 32 (enO (lR Ar N).1)) Ar T' A' Lg' h' ∧ kF Z Z h h') := by
  refine CtX.of (by decide +kernel) (Nat.le_of_ble_eq_true rfl) (fun E hE X F => ?_)
  have X : Gc G E "ComplaintDesk" cX6_letter 5 8 1 6 := X
  show GW G E _ 5 0 [(0, _), (1, _)] [] _ 0 0
  have D := K.1
  refine g_h K.self ?_
  refine g_aload_n X dX6_letter_0 0 rfl ?_
  refine g_getfield X fl_X6_10 dX6_letter_1 (kL1 D) rfl ?_
  refine g_cV0 X ml_X6_71 (c_X4_useUp D) ⟨4, _, kL2 D, rfl⟩ (Nat.le_of_ble_eq_true rfl) rfl rfl (Nat.le_of_ble_eq_true rfl) (Nat.zero_le _) (Nat.zero_le _) dX6_letter_4 ?_
  refine g_iload_n X dX6_letter_7 1 rfl ?_
  refine g_if_lt X 17 dX6_letter_8 (by decide) (fun c_8 => absurd c_8 (nI_pos (by omega))) (fun c_8 => ?_)
  refine g_iload_n X dX6_letter_11 1 rfl ?_
  refine g_bipush X (v := 50) dX6_letter_12 kb_50 ?_
  refine g_icmp_lt X 27 dX6_letter_14 (by decide) (fun c_14 => ?_) (fun c_14 => absurd ((nI_ltI (a := w) (b := 50) (by omega) (by omega)).mpr hw) c_14)
  refine g_aload_n X dX6_letter_27 0 rfl ?_
  refine g_aload_n X dX6_letter_28 0 rfl ?_
  refine g_getfield X fl_X6_10 dX6_letter_29 (kL1 D) rfl ?_
  refine g_aload_n X dX6_letter_32 0 rfl ?_
  refine g_getfield X fl_X6_19 dX6_letter_33 (kL1 D) rfl ?_
  refine g_cSx X ml_X6_119 (c_X1_firstWrong (I := va_up I 28 0) (T := (va_up (va_up (va_up T 0 (I 28)) 1 0) 2 0)) D N hN4 hby hI28 rfl) (Nat.le_of_ble_eq_true rfl) rfl rfl (Nat.le_of_ble_eq_true rfl) (Nat.zero_le _) (Nat.zero_le _) dX6_letter_36 ?_
  rintro v9 h9 ⟨T9, A9, Lg9, ⟨hf1, hf2, hf3⟩, rfl, rfl, hws⟩
  refine g_st (st' := [.int (enO (lR Ar N).1), .ref (Z.da 1)]) rfl ?_
  have hfT : kTf T T9 := fun j hj => (hf1 j hj).trans (by rw [va_up_ne _ _ (by omega), va_up_ne _ _ (by omega), va_up_ne _ _ (by omega)])
  refine g_putfield X fp_X6_23 dX6_letter_39 (kL1 D) (Nat.le_of_ble_eq_true rfl) rfl rfl _ rfl ?_
  refine g_h (h' := (kH G Z (va_up (va_up I 28 0) 32 (enO (lR Ar N).1)) Ar T9 A9 Lg9 h)) (kuI32 D) ?_
  refine g_aload_n X dX6_letter_42 0 rfl ?_
  refine g_getfield X fl_X6_23 dX6_letter_43 (kL1 D) rfl ?_
  refine g_eqi (y := (enO (lR Ar N).1)) (va_up_self _ _ _) ?_
  refine g_iconst X (v := (-1)) dX6_letter_46 ki_m1 ?_
  refine g_icmp_eq X 60 dX6_letter_47 (by decide) (fun c_47 => absurd ((enO_1 hN4 (fun z => lR_le)).mp c_47) hR) (fun c_47 => ?_)
  refine g_throwS X F (by rw [hE]; exact hs) thr_X6_85_125 dX6_letter_50 dX6_letter_53 dX6_letter_54 dX6_letter_56 dX6_letter_59 (Nat.le_of_ble_eq_true rfl) (Nat.le_of_ble_eq_true rfl) (Nat.le_of_ble_eq_true rfl) (Nat.le_of_ble_eq_true rfl) (Nat.le_of_ble_eq_true rfl) ?_
  exact ⟨rfl, T9, A9, Lg9, ⟨hfT, hf2, hf3⟩, kD.of D, kF.H⟩
theorem c_X6_letter_t3 (hs : l.stackTraces = false) (K : kD G Z I Ar T A Lg h) (N : Nat) (hN4 : N ≤ 400) (hby : ∀ i, vp_nar .byte (Ar 27 i) = Ar 27 i) (hI28 : I 28 = nI N) (w : Nat) (hw : w < 50) (hR : (lR Ar N).1 = none) (h80 : ¬ Z.nL < 80)  : CtX G l 8 1 6 M_X6_letter [.ref (Z.da 1), .int (nI w)] h (fun _ _ => False) (fun C h' => C = "java/lang/UnsupportedOperationException" ∧ ∃ (T' : Nat → Int32) (A' : Nat → Nat → Int32) (Lg' : Nat → Nat → Int64), (kTf T T' ∧ kAf A A' ∧ kLf Lg Lg') ∧ kD G Z (va_up (va_up I 28 0) 32 (-1)) Ar T' A' Lg' h' ∧ kF Z Z h h') := by
  refine CtX.of (by decide +kernel) (Nat.le_of_ble_eq_true rfl) (fun E hE X F => ?_)
  have X : Gc G E "ComplaintDesk" cX6_letter 5 8 1 6 := X
  show GW G E _ 5 0 [(0, _), (1, _)] [] _ 0 0
  have D := K.1
  refine g_h K.self ?_
  have hl8 := D.l80
  have hlx := D.lx
  refine g_aload_n X dX6_letter_0 0 rfl ?_
  refine g_getfield X fl_X6_10 dX6_letter_1 (kL1 D) rfl ?_
  refine g_cV0 X ml_X6_71 (c_X4_useUp D) ⟨4, _, kL2 D, rfl⟩ (Nat.le_of_ble_eq_true rfl) rfl rfl (Nat.le_of_ble_eq_true rfl) (Nat.zero_le _) (Nat.zero_le _) dX6_letter_4 ?_
  refine g_iload_n X dX6_letter_7 1 rfl ?_
  refine g_if_lt X 17 dX6_letter_8 (by decide) (fun c_8 => absurd c_8 (nI_pos (by omega))) (fun c_8 => ?_)
  refine g_iload_n X dX6_letter_11 1 rfl ?_
  refine g_bipush X (v := 50) dX6_letter_12 kb_50 ?_
  refine g_icmp_lt X 27 dX6_letter_14 (by decide) (fun c_14 => ?_) (fun c_14 => absurd ((nI_ltI (a := w) (b := 50) (by omega) (by omega)).mpr hw) c_14)
  refine g_aload_n X dX6_letter_27 0 rfl ?_
  refine g_aload_n X dX6_letter_28 0 rfl ?_
  refine g_getfield X fl_X6_10 dX6_letter_29 (kL1 D) rfl ?_
  refine g_aload_n X dX6_letter_32 0 rfl ?_
  refine g_getfield X fl_X6_19 dX6_letter_33 (kL1 D) rfl ?_
  refine g_cSx X ml_X6_119 (c_X1_firstWrong (I := va_up I 28 0) (T := (va_up (va_up (va_up T 0 (I 28)) 1 0) 2 0)) D N hN4 hby hI28 rfl) (Nat.le_of_ble_eq_true rfl) rfl rfl (Nat.le_of_ble_eq_true rfl) (Nat.zero_le _) (Nat.zero_le _) dX6_letter_36 ?_
  rintro v9 h9 ⟨T9, A9, Lg9, ⟨hf1, hf2, hf3⟩, rfl, rfl, hws⟩
  refine g_st (st' := [.int (enO (lR Ar N).1), .ref (Z.da 1)]) rfl ?_
  have hfT : kTf T T9 := fun j hj => (hf1 j hj).trans (by rw [va_up_ne _ _ (by omega), va_up_ne _ _ (by omega), va_up_ne _ _ (by omega)])
  refine g_putfield X fp_X6_23 dX6_letter_39 (kL1 D) (Nat.le_of_ble_eq_true rfl) rfl rfl _ rfl ?_
  refine g_h (h' := (kH G Z (va_up (va_up I 28 0) 32 (enO (lR Ar N).1)) Ar T9 A9 Lg9 h)) (kuI32 D) ?_
  rw [show enO (lR Ar N).1 = -1 by rw [hR]; rfl]
  refine g_aload_n X dX6_letter_42 0 rfl ?_
  refine g_getfield X fl_X6_23 dX6_letter_43 (kL1 D) rfl ?_
  refine g_eqi (y := (-1 : Int32)) (va_up_self _ _ _) ?_
  refine g_iconst X (v := (-1)) dX6_letter_46 ki_m1 ?_
  refine g_icmp_eq X 60 dX6_letter_47 (by decide) (fun c_47 => ?_) (fun c_47 => absurd rfl c_47)
  refine g_aload_n X dX6_letter_60 0 rfl ?_
  refine g_getfield X fl_X6_37 dX6_letter_61 (kL1 D) rfl ?_
  refine g_cV X ml_X6_92 (k_szL D) ⟨8, _, kL6 D, rfl⟩ (Nat.le_of_ble_eq_true rfl) rfl rfl (Nat.le_of_ble_eq_true rfl) (Nat.zero_le _) (Nat.zero_le _) dX6_letter_64 ?_
  refine g_bipush X (v := 80) dX6_letter_67 kb_80 ?_
  refine g_icmp_lt X 82 dX6_letter_69 (by decide) (fun c_69 => absurd ((nI_ltI (by omega) (by decide)).mp c_69) h80) (fun c_69 => ?_)
  refine g_throwS X F (by rw [hE]; exact hs) thr_X6_100_127 dX6_letter_72 dX6_letter_75 dX6_letter_76 dX6_letter_78 dX6_letter_81 (Nat.le_of_ble_eq_true rfl) (Nat.le_of_ble_eq_true rfl) (Nat.le_of_ble_eq_true rfl) (Nat.le_of_ble_eq_true rfl) (Nat.le_of_ble_eq_true rfl) ?_
  exact ⟨rfl, T9, A9, Lg9, ⟨hfT, hf2, hf3⟩, kD.of D, kF.H⟩
theorem c_X6_letter (K : kD G Z I Ar T A Lg h) (N : Nat) (hN4 : N ≤ 400) (hby : ∀ i, vp_nar .byte (Ar 27 i) = Ar 27 i) (hI28 : I 28 = nI N) (w : Nat) (hw : w < 50) (hR : (lR Ar N).1 = none) (HQ : kQ Z Ar) (hA : ∀ c, c < Z.nC → kN c (Ar 2 c)) (hX : Z.nX = Z.nL) (hL : Z.nL < 80) (IM : Nat → Int32) (Ar2 : Nat → Nat → Int32) (h11 : IM 11 = nI Z.nC) (hAr : ∀ j, j ∈ [2, 3, 4, 5, 12, 22, 23, 24, 25, 27] → Ar2 j = Ar j) (h13 : Ar2 13 = upd (Ar 13) Z.nL (nI w)) (h14 : Ar2 14 = upd (Ar 14) Z.nL (I 1)) (hS : ∀ c, c < Z.nC → Z.Sz (300 + c) = cl (Ar2 6 c)) (hRP : ∀ c, c < Z.nC → kRP Z Ar2 T A c) (hrel : ∀ p, p < (lR Ar N).2.1 → ∀ (n : Nat) (gw : Nat → Int64), (∀ x, (∃ j, j < n ∧ gw j = x) ↔ ptW (Ar 27) (lR Ar N).2.2 p x) → ∀ c, c < Z.nC → kRY Z Ar2 Lg c Z.nL p n gw)  : Ct G l 7 21 2280 M_X6_letter [.ref (Z.da 1), .int (nI w)] h (fun v h' => v = some (.int (nI Z.nL)) ∧ ∃ (Z' : kZ) (T' : Nat → Int32) (A' : Nat → Nat → Int32) (Lg' : Nat → Nat → Int64), kD G Z' (va_up (va_up I 28 0) 32 (-1)) (lpN IM Z.nL Ar2 (lR Ar N).2.1) T' A' Lg' h' ∧ (Z'.nC = Z.nC ∧ Z'.nL = Z.nL + 1 ∧ Z'.nX = Z.nX + 1 ∧ (∀ b, b ≠ Z.nL → Z'.np b = Z.np b) ∧ Z'.np Z.nL = (lR Ar N).2.1) ∧ ((∀ j, 300 ≤ j → j < 3000 + 6 * Z.nL → ¬ (1200 ≤ j ∧ j < 1300) → Z'.Sz j = Z.Sz j) ∧ (∀ j, 8 ≤ j → j < 1000 → T' j = T j) ∧ (∀ j, j ≠ 14 → A' j = A j) ∧ ∀ j, j ≠ 13 → j < 3000 + 6 * Z.nL → Lg' j = Lg j) ∧ (∀ q, q < (lR Ar N).2.1 → Z'.Sz (3000 + (6 * Z.nL + q)) = ptN (lR Ar N).2.2 q ∧ ∀ x, hwJ Z' Lg' (6 * Z.nL + q) x ↔ ptW (Ar 27) (lR Ar N).2.2 q x) ∧ kF Z Z' h h' ∧ Z'.da 1 = Z.da 1) := by
  refine Ct.of (by decide +kernel) (Nat.le_of_ble_eq_true rfl) (fun E hE X F => ?_)
  have X : Gc G E "ComplaintDesk" cX6_letter 5 7 21 2280 := X
  show GW G E _ 5 0 [(0, _), (1, _)] [] _ 0 0
  have D := K.1
  refine g_h K.self ?_
  have hl8 := D.l80
  have hlx := D.lx
  refine g_aload_n X dX6_letter_0 0 rfl ?_
  refine g_getfield X fl_X6_10 dX6_letter_1 (kL1 D) rfl ?_
  refine g_cV0 X ml_X6_71 (c_X4_useUp D) ⟨4, _, kL2 D, rfl⟩ (Nat.le_of_ble_eq_true rfl) rfl rfl (Nat.le_of_ble_eq_true rfl) (Nat.le_of_ble_eq_true rfl) (Nat.le_of_ble_eq_true rfl) dX6_letter_4 ?_
  refine g_iload_n X dX6_letter_7 1 rfl ?_
  refine g_if_lt X 17 dX6_letter_8 (by decide) (fun c_8 => absurd c_8 (nI_pos (by omega))) (fun c_8 => ?_)
  refine g_iload_n X dX6_letter_11 1 rfl ?_
  refine g_bipush X (v := 50) dX6_letter_12 kb_50 ?_
  refine g_icmp_lt X 27 dX6_letter_14 (by decide) (fun c_14 => ?_) (fun c_14 => absurd ((nI_ltI (a := w) (b := 50) (by omega) (by omega)).mpr hw) c_14)
  refine g_aload_n X dX6_letter_27 0 rfl ?_
  refine g_aload_n X dX6_letter_28 0 rfl ?_
  refine g_getfield X fl_X6_10 dX6_letter_29 (kL1 D) rfl ?_
  refine g_aload_n X dX6_letter_32 0 rfl ?_
  refine g_getfield X fl_X6_19 dX6_letter_33 (kL1 D) rfl ?_
  refine g_cSx X ml_X6_119 (c_X1_firstWrong (I := va_up I 28 0) (T := (va_up (va_up (va_up T 0 (I 28)) 1 0) 2 0)) D N hN4 hby hI28 rfl) (Nat.le_of_ble_eq_true rfl) rfl rfl (Nat.le_of_ble_eq_true rfl) (Nat.le_of_ble_eq_true rfl) (Nat.le_of_ble_eq_true rfl) dX6_letter_36 ?_
  rintro v9 h9 ⟨T9, A9, Lg9, ⟨hf1, hf2, hf3⟩, rfl, rfl, hws⟩
  refine g_st (st' := [.int (enO (lR Ar N).1), .ref (Z.da 1)]) rfl ?_
  have hfT : kTf T T9 := fun j hj => (hf1 j hj).trans (by rw [va_up_ne _ _ (by omega), va_up_ne _ _ (by omega), va_up_ne _ _ (by omega)])
  refine g_putfield X fp_X6_23 dX6_letter_39 (kL1 D) (Nat.le_of_ble_eq_true rfl) rfl rfl _ rfl ?_
  refine g_h (h' := (kH G Z (va_up (va_up I 28 0) 32 (enO (lR Ar N).1)) Ar T9 A9 Lg9 h)) (kuI32 D) ?_
  rw [show enO (lR Ar N).1 = -1 by rw [hR]; rfl]
  refine g_aload_n X dX6_letter_42 0 rfl ?_
  refine g_getfield X fl_X6_23 dX6_letter_43 (kL1 D) rfl ?_
  refine g_eqi (y := (-1 : Int32)) (va_up_self _ _ _) ?_
  refine g_iconst X (v := (-1)) dX6_letter_46 ki_m1 ?_
  refine g_icmp_eq X 60 dX6_letter_47 (by decide) (fun c_47 => ?_) (fun c_47 => absurd rfl c_47)
  refine g_aload_n X dX6_letter_60 0 rfl ?_
  refine g_getfield X fl_X6_37 dX6_letter_61 (kL1 D) rfl ?_
  refine g_cV X ml_X6_92 (k_szL D) ⟨8, _, kL6 D, rfl⟩ (Nat.le_of_ble_eq_true rfl) rfl rfl (Nat.le_of_ble_eq_true rfl) (Nat.le_of_ble_eq_true rfl) (Nat.le_of_ble_eq_true rfl) dX6_letter_64 ?_
  refine g_bipush X (v := 80) dX6_letter_67 kb_80 ?_
  refine g_icmp_lt X 82 dX6_letter_69 (by decide) (fun c_69 => ?_) (fun c_69 => absurd ((nI_ltI (a := Z.nL) (b := 80) (by omega) (by omega)).mpr hL) c_69)
  refine g_new X ck1 cl_X6_120 ins_1 ini_1 [.int 0, .int 0, .null] (fun j9 hj9 => by match j9, hj9 with | 0, _ => rfl | 1, _ => rfl | 2, _ => rfl | z9 + 3, hj9 => exact absurd hj9 (by omega)) dX6_letter_82 (by omega) (by omega) (fun q0 h_q0 hg_q0 => ?_)
  have n_1 : Z.da 1 ≠ q0 := fun e => by rw [← e, kL1 D] at h_q0; cases h_q0
  refine g_dup X dX6_letter_85 rfl ?_
  refine g_iload_n X dX6_letter_86 1 rfl ?_
  refine g_aload_n X dX6_letter_87 0 rfl ?_
  refine g_getfield X fl_X6_27 dX6_letter_88 ((hup_n n_1).trans (kL1 D)) rfl ?_
  refine g_eqi (y := (I 1)) (rfl) ?_
  refine g_cIx X ml_X6_129 rfl (c_X1_init q0 (nI w) (I 1) hup_s) (Nat.le_of_ble_eq_true rfl) rfl rfl (Nat.le_of_ble_eq_true rfl) (by omega) (by omega) dX6_letter_91 ?_
  rintro v8 h8 ⟨rfl, qk, k1, k2, e1, e2, e3⟩
  refine g_st (st' := [.ref q0]) rfl ?_
  refine g_astore_n X dX6_letter_94 (Nat.le_of_ble_eq_true rfl) [(2, _), (0, _), (1, _)] rfl ?_
  refine g_iconst X (v := 0) dX6_letter_95 ki_0 ?_
  refine g_istore_n X dX6_letter_96 (Nat.le_of_ble_eq_true rfl) [(3, _), (2, _), (0, _), (1, _)] rfl ?_
  refine g_L [0, 1, 2, 3] (L' := [(3, _), (2, _), (0, _), (1, _)]) rfl ?_
  have kq : (kH G Z (va_up (va_up I 28 0) 32 (-1)) Ar T9 A9 Lg9 h) qk = none := by rw [hup_n k2] at k1; exact k1
  obtain ⟨Z', t1, ⟨y1, y2, y3, y4⟩, t3, t5, t6, t7, t8⟩ := tr_letter (x0 := 0) (yb := nI w) (td := I 1) (kD.of (I := (va_up (va_up I 28 0) 32 (-1))) (Ar := Ar) (T := T9) (A := A9) (Lg := Lg9) (h0 := h) D) HQ (by omega) h_q0 kq k2 e1 e2 (fun b b1 b2 => (e3 b b1 b2).trans (hup_n b1))
  rw [hX] at t1 t7 y4
  obtain ⟨hw1, hw2⟩ := hws hR
  have hag : ∀ j, j ∈ [2, 3, 4, 5, 12, 13, 14, 22, 23, 24, 25, 27] → Ar2 j = (va_up (va_up Ar 13 (upd (Ar 13) Z.nL (nI w))) 14 (upd (Ar 14) Z.nL (I 1))) j := by
    intro j hj
    simp only [List.mem_cons, List.not_mem_nil, or_false] at hj
    rcases hj with rfl | rfl | rfl | rfl | rfl | rfl | rfl | rfl | rfl | rfl | rfl | rfl
    all_goals first | exact hAr _ (by decide) | exact h13 | exact h14
  have t9 : kD G Z' (va_up (va_up I 28 0) 32 (-1)) Ar2 (va_up T9 (1100 + Z.nL) 0) A9 Lg9 h8 := ⟨t1.1, fun k hk => (t1.2 k hk).trans (by rw [kE_Ar hag])⟩
  have HQ9 : kQ Z' Ar2 := by
    refine ⟨fun c hc => ?_, fun a ha p hp => ?_⟩
    · rw [y1] at hc ⊢
      rw [hAr 2 (by decide)]; exact HQ.1 c hc
    · rw [y4] at hp
      by_cases e : a = Z.nL
      · rw [e, va_up_self] at hp; exact absurd hp (Nat.not_lt_zero _)
      · rw [va_up_ne _ _ e] at hp
        rw [y1, hAr 22 (by decide)]
        exact HQ.2 a (by omega) p hp
  refine g_post (fun v h' q => ?_) (lp_X6_letter_97 X F D hX hL N T9 A9 Lg9 (va_up (va_up I 28 0) 32 (-1)) IM Ar2 q0 hw1 hw2 h11 (fun c hc => by rw [hAr 2 (by decide)]; exact hA c hc) hS (fun c hc => (hRP c hc).cg2 rfl (hfT _ (by omega)) (hf2 _ (by omega)) (fun j _ _ _ => rfl)) (fun p hp n gw hgw c hc => (hrel p hp n gw hgw c hc).cg rfl (hf3 _ (by have := D.c12; omega)) (fun j _ _ _ => rfl)) h (nI w) _ 0 Z' _ _ h8 (Nat.zero_le _) ⟨by rw [lpN_0]; exact t9, ⟨y1, y2, y3, fun b hb => by rw [y4, va_up_ne _ _ hb], by rw [y4, va_up_self]⟩, ⟨fun j _ _ _ => by rw [t3], fun j hj => va_up_ne _ _ (by omega), fun j a1 a2 => va_up_ne _ _ (by omega), fun j _ => rfl⟩, fun q hq => absurd hq (Nat.not_lt_zero _), kF.H.tr t5, t6, t7, by rw [lpN_0]; exact HQ9⟩ (Nat.lt_succ_self _))
  obtain ⟨z1, Z2, T2, Lg2, a1, a2, ⟨b1, b2, b3⟩, a4, a5, a6⟩ := q
  exact ⟨z1, Z2, T2, A9, Lg2, a1, a2, ⟨b1, fun j j1 j2 => (b2 j j1 j2).trans (hfT j (by omega)), hf2, fun j j1 j2 => (b3 j j2).trans (hf3 j j1)⟩, a4, a5, a6⟩
end K39
