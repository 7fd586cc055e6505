section J1
variable {G : gG} {l : Launch} {h : hW}
section OldRows
variable {E : gE} {own : String} {cc : ByteArray} {nL lv mc ms pc k n : Nat} {Q : State → Prop} {L : List (Nat × Value)} {st : List Value}
theorem g_getstatic (X : Gc G E own cc nL lv mc ms) {C fn fd : String} {v : Value} {idx : Nat} (hZ : va_Z C fn fd v (gA G) E.s E.s.heap) (hl : Cond.fieldLink own idx C fn fd ∈ uw) (d : decode cc pc = .ok (.getstatic idx, 3)) (K : GW G E Q nL (pc + 3) L (v :: st) h k n) : GW G E Q nL pc L st h k n :=
  fun H locs ls a b c => va_gets X.1 X.2.1 hZ b X.2.2.2.1 (X.2.2.2.2.1 _ hl) (fun _ q => q) d (K H locs ls a b c)
theorem g_oget (X : Gc G E own cc nL lv mc ms) {o fn fd : String} {v : Value} {q idx : Nat} (hE : va_OF o fn fd v q (gA G) E.s E.s.heap) (hl : Cond.fieldLink own idx o fn fd ∈ uw) (d : decode cc pc = .ok (.getfield idx, 3)) (K : GW G E Q nL (pc + 3) L (v :: st) h k n) : GW G E Q nL pc L (.ref q :: st) h k n :=
  fun H locs ls a b c => vk_getf X.1 X.2.1 hE b X.2.2.2.1 (X.2.2.2.2.1 _ hl) (fun _ q => q) d (K H locs ls a b c)
theorem g_obald (X : Gc G E own cc nL lv mc ms) {t N : Nat} {f : Nat → Value} (hT : va_T .byte t N f (gA G) E.s E.s.heap) {i : Int32} (hin : vp_in i N) {v : Value} (hv : f i.toNatClampNeg = v) (d : decode cc pc = .ok (.baload, 1)) (K : GW G E Q nL (pc + 1) L (v :: st) h k n) : GW G E Q nL pc L (.int i :: .ref t :: st) h k n :=
  fun H locs ls a b c => va_tb X.1 X.2.1 hT b hin hv d (K H locs ls a b c)
theorem g_oalen (X : Gc G E own cc nL lv mc ms) {ty : FieldType} {t N : Nat} {f : Nat → Value} (hT : va_T ty t N f (gA G) E.s E.s.heap) (d : decode cc pc = .ok (.arraylength, 1)) (K : GW G E Q nL (pc + 1) L (.int (nI N) :: st) h k n) : GW G E Q nL pc L (.ref t :: st) h k n := by
  intro H locs ls a b c
  obtain ⟨cell, h1, h2, h3, h4, h5, h6, h7⟩ := hT
  exact W.alen X.1 X.2.1 (by rw [b.2.1 t (Array.getElem?_eq_some_iff.mp h1).1 h7]; exact h1) h2 (n := nI N) h5 rfl rfl d (K H locs ls a b c)
theorem g_ldcS (X : Gc G E own cc nL lv mc ms) {tx : String} {idx q : Nat} (hZ : vk_R own idx tx q E.s) (d : decode cc pc = .ok (.ldc idx, 2)) (K : GW G E Q nL (pc + 2) L (.ref q :: st) h k n) : GW G E Q nL pc L st h k n :=
  fun H locs ls a b c => va_ldcS X.1 X.2.1 X.2.2.2.1 hZ d (K H locs ls a b c)
/-- a call on an old object -/
theorem g_cVo (X : Gc G E own cc nL lv mc ms) {idx nA lvc : Nat} {M : gM} (ml : MLv own idx M nA) {b : Nat} {As rest : List Value} {w : Value} {h1 : hW} (hM : Ct G E.l lvc 0 0 M (.ref b :: As) h (rX (some w) h1)) (hr : ∀ (H : Heap) (locs : List Loc), va_S (gA G) E.s.heap H locs → ∃ cell : Cell, H[b]? = some cell ∧ cell.vm.isStatics = false ∧ E.s.vm.findClass M.1.cls = some cell.cls) (hlv : lvc + 1 ≤ lv) (hA : As.length = nA) (hst : st = As.reverse ++ .ref b :: rest) (hW : (rest.map fun v => v.category).sum ≤ 8) (hk : k ≤ mc) (hn : n ≤ ms) (d : decode cc pc = .ok (.invokevirtual idx, 3)) (K : GW G E Q nL (pc + 3) L (w :: rest) h1 k n) : GW G E Q nL pc L st h k n := by
  intro H locs ls a bb c
  have r := X.2.2.2.2.2.2.2.2.2
  exact g_behind (lvc := lvc) (va_runV (As := As) (rest := rest) ⟨X.1, X.2.1, X.2.2.1, X.2.2.2.1, X.2.2.2.2.1⟩ hM ⟨g_callB X ml.1 hlv, X.2.2.2.2.1 _ ml.2.1, X.2.2.2.2.1 _ ml.2.2⟩ ⟨g_blind, hr H locs bb, g_pre X a bb _⟩ rfl hA c.1 hst (lv_room hW) d ⟨Nat.le_trans hk r.1, Nat.le_trans hn r.2⟩) bb c (fun v h' q => by obtain ⟨rfl, rfl⟩ := q; exact K)
end OldRows
/-- the strings and, or, not: of i the length, the characters -/
abbrev sLn (i : Nat) : Nat := gLen.getD i 0
abbrev sCh (i j : Nat) : Int32 := (gByt.getD i []).getD j 0
theorem Gc.old {E : gE} {own : String} {cc : ByteArray} {nL lv mc ms : Nat} (X : Gc G E own cc nL lv mc ms) : gOld G E.s E.s.heap := X.2.2.2.2.2.1
theorem gOld.str {u : State} {H : Heap} (o : gOld G u H) : vk_S 3 gLen gByt G.2.2.2.1 G.2.2.2.2 (gA G) u H := o.2.2.2.2.2.1
theorem gOld.com {u : State} {H : Heap} (o : gOld G u H) : va_Z "java/lang/String" "COMPACT_STRINGS" "Z" (.int 1) (gA G) u H := o.2.2.2.2.2.2.2.2.1
theorem gOld.sio {u : State} {H : Heap} (o : gOld G u H) : va_Zq "jdk/internal/util/Preconditions" "SIOOBE_FORMATTER" "Ljava/util/function/BiFunction;" (gA G) u H := o.2.2.2.2.2.2.2.2.2.1
theorem fk_STR_9 : Cond.fieldLink "java/lang/String" 9 "java/lang/String" "value" "[B" ∈ uw := uw_at 866 (by decide +kernel) rfl
theorem fk_STR_15 : Cond.fieldLink "java/lang/String" 15 "java/lang/String" "coder" "B" ∈ uw := uw_at 867 (by decide +kernel) rfl
theorem fk_STR_38 : Cond.fieldLink "java/lang/String" 38 "java/lang/String" "COMPACT_STRINGS" "Z" ∈ uw := uw_at 785 (by decide +kernel) rfl
theorem fk_STR_1053 : Cond.fieldLink "java/lang/String" 1053 "jdk/internal/util/Preconditions" "SIOOBE_FORMATTER" "Ljava/util/function/BiFunction;" ∈ uw := uw_at 743 (by decide +kernel) rfl

theorem c_J0_coder_7d493 (i : Nat) (hi : i < 3)  : Ct G l 0 0 0 M_J0_coder_7d493 [.ref (G.2.2.2.1 i)] h (rX (some (.int 0)) h) := by
  refine Ct.of (by decide +kernel) (Nat.le_of_ble_eq_true rfl) (fun E hE X F => ?_)
  have X : Gc G E "java/lang/String" cJ0_coder_7d493 1 0 0 0 := X
  show GW G E _ 1 0 [(0, _)] [] _ 0 0
  refine g_getstatic X X.old.com fk_STR_38 dJ0_coder_7d493_0 ?_
  refine g_if_eq X 13 dJ0_coder_7d493_3 (by decide) (fun c_3 => absurd c_3 (by decide)) (fun c_3 => ?_)
  refine g_aload_n X dJ0_coder_7d493_6 0 rfl ?_
  refine g_oget X (X.old.str.1 i hi).2.1 fk_STR_15 dJ0_coder_7d493_7 ?_
  refine g_goto X 14 dJ0_coder_7d493_10 (by decide) ?_
  refine g_iret X F rfl rfl dJ0_coder_7d493_14 (Nat.zero_le _) (Nat.zero_le _) ?_
  exact ⟨rfl, rfl⟩
theorem c_J0_isLatin1_aae02 (i : Nat) (hi : i < 3)  : Ct G l 0 0 0 M_J0_isLatin1_aae02 [.ref (G.2.2.2.1 i)] h (rX (some (.int 1)) h) := by
  refine Ct.of (by decide +kernel) (Nat.le_of_ble_eq_true rfl) (fun E hE X F => ?_)
  have X : Gc G E "java/lang/String" cJ0_isLatin1_aae02 1 0 0 0 := X
  show GW G E _ 1 0 [(0, _)] [] _ 0 0
  refine g_getstatic X X.old.com fk_STR_38 dJ0_isLatin1_aae02_0 ?_
  refine g_if_eq X 17 dJ0_isLatin1_aae02_3 (by decide) (fun c_3 => absurd c_3 (by decide)) (fun c_3 => ?_)
  refine g_aload_n X dJ0_isLatin1_aae02_6 0 rfl ?_
  refine g_oget X (X.old.str.1 i hi).2.1 fk_STR_15 dJ0_isLatin1_aae02_7 ?_
  refine g_if_ne X 17 dJ0_isLatin1_aae02_10 (by decide) (fun c_10 => absurd rfl c_10) (fun c_10 => ?_)
  refine g_iconst X (v := 1) dJ0_isLatin1_aae02_13 ki_1 ?_
  refine g_goto X 18 dJ0_isLatin1_aae02_14 (by decide) ?_
  refine g_iret X F rfl rfl dJ0_isLatin1_aae02_18 (Nat.zero_le _) (Nat.zero_le _) ?_
  exact ⟨rfl, rfl⟩
theorem c_J0_length_8abf5 (i : Nat) (hi : i < 3)  : Ct G l 1 0 0 M_J0_length_8abf5 [.ref (G.2.2.2.1 i)] h (rX (some (.int (nI (sLn i)))) h) := by
  refine Ct.of (by decide +kernel) (Nat.le_of_ble_eq_true rfl) (fun E hE X F => ?_)
  have X : Gc G E "java/lang/String" cJ0_length_8abf5 1 1 0 0 := X
  show GW G E _ 1 0 [(0, _)] [] _ 0 0
  refine g_aload_n X dJ0_length_8abf5_0 0 rfl ?_
  refine g_oget X (X.old.str.1 i hi).2.2.1 fk_STR_9 dJ0_length_8abf5_1 ?_
  refine g_oalen X (X.old.str.1 i hi).2.2.2 dJ0_length_8abf5_4 ?_
  refine g_aload_n X dJ0_length_8abf5_5 0 rfl ?_
  refine g_cVo X ml_STR_335 (c_J0_coder_7d493 i hi) (fun H locs b => vk_recv X.old.str hi b) (Nat.le_of_ble_eq_true rfl) rfl rfl (Nat.le_of_ble_eq_true rfl) (Nat.zero_le _) (Nat.zero_le _) dJ0_length_8abf5_6 ?_
  refine g_ishr X dJ0_length_8abf5_9 ?_
  refine g_eqi (y := nI (sLn i)) (by rcases (show i = 0 ∨ i = 1 ∨ i = 2 by omega) with rfl | rfl | rfl <;> decide) ?_
  refine g_iret X F rfl rfl dJ0_length_8abf5_10 (Nat.zero_le _) (Nat.zero_le _) ?_
  exact ⟨rfl, rfl⟩
theorem c_J3_checkIndex_8e157 (j N : Nat) (hj : j < N) (hN : N < 2 ^ 31) (v : Value) (hv : v = .null ∨ ∃ t, v = .ref t) : Ct G l 0 0 0 M_J3_checkIndex_8e157 [.int (nI j), .int (nI N), v] h (rX (some (.int (nI j))) h) := by
  refine Ct.of (by decide +kernel) (by rcases hv with rfl | ⟨t, rfl⟩ <;> exact Nat.le_of_ble_eq_true rfl) (fun E hE X F => ?_)
  have X : Gc G E "jdk/internal/util/Preconditions" cJ3_checkIndex_8e157 3 0 0 0 := X
  refine g_L [0, 1] (L' := [(0, _), (1, _)]) rfl ?_
  refine g_iload_n X dJ3_checkIndex_8e157_0 0 rfl ?_
  refine g_if_lt X 9 dJ3_checkIndex_8e157_1 (by decide) (fun c_1 => absurd c_1 (nI_pos (by omega))) (fun c_1 => ?_)
  refine g_iload_n X dJ3_checkIndex_8e157_4 0 rfl ?_
  refine g_iload_n X dJ3_checkIndex_8e157_5 1 rfl ?_
  refine g_icmp_lt X 16 dJ3_checkIndex_8e157_6 (by decide) (fun c_6 => ?_) (fun c_6 => absurd (nI_lt hj hN) c_6)
  refine g_iload_n X dJ3_checkIndex_8e157_16 0 rfl ?_
  refine g_iret X F rfl rfl dJ3_checkIndex_8e157_17 (Nat.zero_le _) (Nat.zero_le _) ?_
  exact ⟨rfl, rfl⟩
theorem c_J0_checkIndex_df160 (j N : Nat) (hj : j < N) (hN : N < 2 ^ 31) : Ct G l 1 0 0 M_J0_checkIndex_df160 [.int (nI j), .int (nI N)] h (rX none h) := by
  refine Ct.of (by decide +kernel) (Nat.le_of_ble_eq_true rfl) (fun E hE X F => ?_)
  have X : Gc G E "java/lang/String" cJ0_checkIndex_df160 2 1 0 0 := X
  show GW G E _ 2 0 [(0, _), (1, _)] [] _ 0 0
  refine g_iload_n X dJ0_checkIndex_df160_0 0 rfl ?_
  refine g_iload_n X dJ0_checkIndex_df160_1 1 rfl ?_
  obtain ⟨v9, hv9, hZ⟩ : ∃ v, (v = Value.null ∨ ∃ t, v = .ref t) ∧ va_Z "jdk/internal/util/Preconditions" "SIOOBE_FORMATTER" "Ljava/util/function/BiFunction;" v (gA G) E.s E.s.heap := by
    rcases X.old.sio with hZ | ⟨tz, hZ⟩
    · exact ⟨_, Or.inl rfl, hZ⟩
    · exact ⟨_, Or.inr ⟨tz, rfl⟩, hZ⟩
  refine g_getstatic X hZ fk_STR_1053 dJ0_checkIndex_df160_2 ?_
  refine g_cS X ml_STR_1059 (c_J3_checkIndex_8e157 j N hj hN v9 hv9) (Nat.le_of_ble_eq_true rfl) rfl rfl (Nat.le_of_ble_eq_true rfl) (Nat.zero_le _) (Nat.zero_le _) dJ0_checkIndex_df160_5 ?_
  refine g_pop X dJ0_checkIndex_df160_8 rfl ?_
  refine g_ret0 X F rfl dJ0_checkIndex_df160_9 (Nat.zero_le _) (Nat.zero_le _) ?_
  exact ⟨rfl, rfl⟩
theorem sLn_lt {i : Nat} (hi : i < 3) : sLn i < 4 := by rcases (show i = 0 ∨ i = 1 ∨ i = 2 by omega) with rfl | rfl | rfl <;> decide
theorem sCh_all : ∀ i, i < 3 → ∀ j, j < sLn i → (((sCh i j) &&& 255).toUInt32 % 65536).toInt32 = sCh i j ∧ narrow .char (.int (sCh i j)) = .int (sCh i j) := by decide +kernel
theorem sCh_i {i j : Nat} (hi : i < 3) (hj : j < sLn i) : (((sCh i j) &&& 255).toUInt32 % 65536).toInt32 = sCh i j := (sCh_all i hi j hj).1
theorem c_J1_charAt_3b067 (i : Nat) (hi : i < 3) (j : Nat) (hj : j < sLn i) : Ct G l 2 0 0 M_J1_charAt_3b067 [.ref (G.2.2.2.2 i), .int (nI j)] h (rX (some (.int (sCh i j))) h) := by
  refine Ct.of (by decide +kernel) (Nat.le_of_ble_eq_true rfl) (fun E hE X F => ?_)
  have X : Gc G E "java/lang/StringLatin1" cJ1_charAt_3b067 2 2 0 0 := X
  show GW G E _ 2 0 [(0, _), (1, _)] [] _ 0 0
  refine g_iload_n X dJ1_charAt_3b067_0 1 rfl ?_
  refine g_aload_n X dJ1_charAt_3b067_1 0 rfl ?_
  refine g_oalen X (X.old.str.1 i hi).2.2.2 dJ1_charAt_3b067_2 ?_
  refine g_cS0 X ml_SL1_9 (c_J0_checkIndex_df160 j (sLn i) hj (by have h9 := sLn_lt hi; omega)) (Nat.le_of_ble_eq_true rfl) rfl rfl (Nat.le_of_ble_eq_true rfl) (Nat.zero_le _) (Nat.zero_le _) dJ1_charAt_3b067_3 ?_
  refine g_aload_n X dJ1_charAt_3b067_6 0 rfl ?_
  refine g_iload_n X dJ1_charAt_3b067_7 1 rfl ?_
  refine g_obald X (X.old.str.1 i hi).2.2.2 (vp_in_nI hj (Nat.lt_of_lt_of_le (sLn_lt hi) (by decide))) (v := .int (sCh i j)) (by rw [nI_clamp (by have h9 := sLn_lt hi; omega)]) dJ1_charAt_3b067_8 ?_
  refine g_sipush X (v := 255) dJ1_charAt_3b067_9 ks_255 ?_
  refine g_iand X dJ1_charAt_3b067_12 ?_
  refine g_i2c X dJ1_charAt_3b067_13 ?_
  refine g_eqi (y := sCh i j) (sCh_i hi hj) ?_
  refine g_iret X F rfl (sCh_all i hi j hj).2 dJ1_charAt_3b067_14 (Nat.zero_le _) (Nat.zero_le _) ?_
  exact ⟨rfl, rfl⟩
theorem c_J0_charAt_5068e (i : Nat) (hi : i < 3) (j : Nat) (hj : j < sLn i) : Ct G l 3 0 0 M_J0_charAt_5068e [.ref (G.2.2.2.1 i), .int (nI j)] h (rX (some (.int (sCh i j))) h) := by
  refine Ct.of (by decide +kernel) (Nat.le_of_ble_eq_true rfl) (fun E hE X F => ?_)
  have X : Gc G E "java/lang/String" cJ0_charAt_5068e 2 3 0 0 := X
  show GW G E _ 2 0 [(0, _), (1, _)] [] _ 0 0
  refine g_aload_n X dJ0_charAt_5068e_0 0 rfl ?_
  refine g_cVo X ml_STR_492 (c_J0_isLatin1_aae02 i hi) (fun H locs b => vk_recv X.old.str hi b) (Nat.le_of_ble_eq_true rfl) rfl rfl (Nat.le_of_ble_eq_true rfl) (Nat.zero_le _) (Nat.zero_le _) dJ0_charAt_5068e_1 ?_
  refine g_if_eq X 16 dJ0_charAt_5068e_4 (by decide) (fun c_4 => absurd c_4 (by decide)) (fun c_4 => ?_)
  refine g_aload_n X dJ0_charAt_5068e_7 0 rfl ?_
  refine g_oget X (X.old.str.1 i hi).2.2.1 fk_STR_9 dJ0_charAt_5068e_8 ?_
  refine g_iload_n X dJ0_charAt_5068e_11 1 rfl ?_
  refine g_cS X ml_STR_495 (c_J1_charAt_3b067 i hi j hj) (Nat.le_of_ble_eq_true rfl) rfl rfl (Nat.le_of_ble_eq_true rfl) (Nat.zero_le _) (Nat.zero_le _) dJ0_charAt_5068e_12 ?_
  refine g_iret X F rfl ((sCh_all i hi j hj).2) dJ0_charAt_5068e_15 (Nat.zero_le _) (Nat.zero_le _) ?_
  exact ⟨rfl, rfl⟩
end J1
