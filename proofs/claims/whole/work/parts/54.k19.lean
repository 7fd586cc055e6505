section K19
variable {G : gG} {l : Launch} {h h0 : hW} {Z : kZ} {I : Nat → Int32} {Ar : Nat → Nat → Int32} {T : Nat → Int32} {A : Nat → Nat → Int32} {Lg : Nat → Nat → Int64}
theorem byt256 : ∀ k : Nat, k < 256 → (¬ nI k - 128 < 97 → ¬ (nI k - 128) &&& 255 < 97) ∧ (nI k - 128 < 97 → ¬ 122 < (nI k - 128) &&& 255 → (nI k - 128) &&& 255 < 97) ∧ ((122 < (nI k - 128) &&& 255 ∧ ¬ nI k - 128 < 97) → 122 < nI k - 128) ∧ (122 < nI k - 128 → 122 < (nI k - 128) &&& 255) ∧ ((nI k - 128) &&& 255 = 32 ↔ nI k - 128 = 32) ∧ ((nI k - 128) &&& 255 = 46 ↔ nI k - 128 = 46) ∧ (¬ nI k - 128 < 97 → (nI k - 128) &&& 255 = nI k - 128) := by decide +kernel
theorem byt_ex {x : Int32} (h : vp_nar .byte x = x) : ∃ k : Nat, k < 256 ∧ x = nI k - 128 := by
  have h1 : x.toInt8.toInt32 = x := by rw [vp_nar_byte] at h; exact h
  have h2 : x.toInt = x.toInt8.toInt := by rw [← Int8.toInt_toInt32, h1]
  have h3 := Int8.le_toInt x.toInt8
  have h4 := Int8.toInt_lt x.toInt8
  refine ⟨(x.toInt + 128).toNat, by omega, ?_⟩
  apply Int32.toInt_inj.mp
  show x.toInt = (nI (x.toInt + 128).toNat - nI 128).toInt
  rw [pk_sub_toInt (b := 128) (by omega) (by decide)]
  omega
theorem byt_l {x : Int32} (h : vp_nar .byte x = x) : (¬ x &&& 255 < 97 ∧ ¬ 122 < x &&& 255) ↔ (¬ x < 97 ∧ ¬ 122 < x) := by
  obtain ⟨k, hk, rfl⟩ := byt_ex h
  obtain ⟨a1, a2, a3, a4, -, -, a5⟩ := byt256 k hk
  constructor
  · rintro ⟨q1, q2⟩
    have q3 : ¬ nI k - 128 < 97 := fun z => q1 (a2 z q2)
    exact ⟨q3, fun z => q2 (a4 z)⟩
  · rintro ⟨q1, q2⟩
    rw [a5 q1]; exact ⟨q1, q2⟩
theorem byt_32 {x : Int32} (h : vp_nar .byte x = x) : x &&& 255 = 32 ↔ x = 32 := by
  obtain ⟨k, hk, rfl⟩ := byt_ex h
  exact (byt256 k hk).2.2.2.2.1
theorem byt_46 {x : Int32} (h : vp_nar .byte x = x) : x &&& 255 = 46 ↔ x = 46 := by
  obtain ⟨k, hk, rfl⟩ := byt_ex h
  exact (byt256 k hk).2.2.2.2.2.1
theorem byt_s {x : Int32} (h : vp_nar .byte x = x) (h2 : ¬ x < 97) : x &&& 255 = x := by
  obtain ⟨k, hk, rfl⟩ := byt_ex h
  exact (byt256 k hk).2.2.2.2.2.2 h2
theorem between {x y : Int32} : (¬ x < y ∧ ¬ y < x) ↔ x = y := by
  constructor
  · rintro ⟨q1, q2⟩; exact Int32.le_antisymm (Int32.not_lt.mp q2) (Int32.not_lt.mp q1)
  · rintro rfl; exact ⟨fun q => Int32.lt_irrefl q, fun q => Int32.lt_irrefl q⟩
/-- the byte that a place of the text has -/
def byV (B : Nat → Int32) (N i : Nat) : Int32 := if i < N then B i &&& 255 else -1
theorem c_X4_byteAt (D : kW G Z) (N i : Nat) (hN : T 0 = nI N) (hN4 : N ≤ 400) (hi : i ≤ 400)  : Ct G l 0 0 0 M_X4_byteAt [.ref (Z.da 2), .int (nI i)] (kH G Z I Ar T A Lg h0) (rX (some (.int (byV (Ar 27) N i))) (kH G Z I Ar T A Lg h0)) := by
  refine Ct.of (by decide +kernel) (Nat.le_of_ble_eq_true rfl) (fun E hE X F => ?_)
  have X : Gc G E "ComplaintDesk$Tape" cX4_byteAt 2 0 0 0 := X
  show GW G E _ 2 0 [(0, _), (1, _)] [] _ 0 0
  refine g_iload_n X dX4_byteAt_0 1 rfl ?_
  refine g_if_lt X 34 dX4_byteAt_1 (by decide) (fun c_1 => absurd c_1 (nI_pos (by omega))) (fun c_1 => ?_)
  refine g_iload_n X dX4_byteAt_4 1 rfl ?_
  refine g_aload_n X dX4_byteAt_5 0 rfl ?_
  refine g_getfield X fl_X4_19 dX4_byteAt_6 (kL2 D) rfl ?_
  refine g_eqi (y := nI N) (hN) ?_
  refine g_icmp_ge X 34 dX4_byteAt_9 (by decide) (fun c_9 => ?_) (fun c_9 => ?_)
  · refine g_iconst X (v := (-1)) dX4_byteAt_34 ki_m1 ?_
    refine g_iret X F rfl rfl dX4_byteAt_35 (Nat.zero_le _) (Nat.zero_le _) ?_
    exact ⟨by unfold byV; rw [if_neg (by have := (nI_leI (by omega) (by omega)).mp c_9; omega)], rfl⟩
  · refine g_iload_n X dX4_byteAt_12 1 rfl ?_
    refine g_aload_n X dX4_byteAt_13 0 rfl ?_
    refine g_getfield X fl_X4_9 dX4_byteAt_14 (kL2 D) rfl ?_
    refine g_alen X dX4_byteAt_17 (t := 1) rfl (kL12 D) (nI 400) rfl ?_
    refine g_icmp_ge X 34 dX4_byteAt_18 (by decide) (fun c_18 => absurd ((nI_leI (by omega) (by omega)).mp c_18) (by have := nI_lt_of c_9 (by omega) (by omega); omega)) (fun c_18 => ?_)
    refine g_aload_n X dX4_byteAt_21 0 rfl ?_
    refine g_getfield X fl_X4_9 dX4_byteAt_22 (kL2 D) rfl ?_
    refine g_iload_n X dX4_byteAt_25 1 rfl ?_
    refine g_baload X dX4_byteAt_26 (kL12 D) (vp_in_nI (Nat.lt_of_lt_of_le (nI_lt_of c_9 (by omega) (by omega)) hN4) (by decide)) ?_
    refine g_eqi (y := Ar 27 i) (by rw [nI_clamp (by omega)]) ?_
    refine g_sipush X (v := 255) dX4_byteAt_27 ks_255 ?_
    refine g_iand X dX4_byteAt_30 ?_
    refine g_goto X 35 dX4_byteAt_31 (by decide) ?_
    refine g_iret X F rfl rfl dX4_byteAt_35 (Nat.zero_le _) (Nat.zero_le _) ?_
    exact ⟨by unfold byV; rw [if_pos (nI_lt_of c_9 (by omega) (by omega))], rfl⟩
theorem atP_v {B : Nat → Int32} {N i : Nat} (hby : ∀ i, vp_nar .byte (B i) = B i) : (¬ byV B N i < 97 ∧ ¬ 122 < byV B N i) ↔ atP B N i 97 122 := by
  unfold byV atP
  by_cases h : i < N
  · rw [if_pos h]
    exact ⟨fun q => ⟨h, (byt_l (hby i)).mp q⟩, fun q => (byt_l (hby i)).mpr q.2⟩
  · rw [if_neg h]
    exact ⟨fun q => absurd (by decide) q.1, fun q => absurd q.1 h⟩
theorem at32_v {B : Nat → Int32} {N i : Nat} (hby : ∀ i, vp_nar .byte (B i) = B i) : byV B N i = 32 ↔ (i < N ∧ ¬ B i < 32 ∧ ¬ 32 < B i) := by
  unfold byV
  rw [between]
  by_cases h : i < N
  · rw [if_pos h, byt_32 (hby i)]; exact ⟨fun q => ⟨h, q⟩, fun q => q.2⟩
  · rw [if_neg h]; exact ⟨fun q => absurd q (by decide), fun q => absurd q.1 h⟩
theorem at46_v {B : Nat → Int32} {N i : Nat} (hby : ∀ i, vp_nar .byte (B i) = B i) : byV B N i = 46 ↔ atP B N i 46 46 := by
  unfold byV atP
  rw [between]
  by_cases h : i < N
  · rw [if_pos h, byt_46 (hby i)]; exact ⟨fun q => ⟨h, q⟩, fun q => q.2⟩
  · rw [if_neg h]; exact ⟨fun q => absurd q (by decide), fun q => absurd q.1 h⟩
theorem c_X4_isLetterAt (D : kW G Z) (N i : Nat) (hN : T 0 = nI N) (hN4 : N ≤ 400) (hi : i ≤ 400) (hby : ∀ i, vp_nar .byte (Ar 27 i) = Ar 27 i)  : Ct G l 1 0 0 M_X4_isLetterAt [.ref (Z.da 2), .int (nI i)] (kH G Z I Ar T A Lg h0) (rX (some (.int (b2 (atP (Ar 27) N i 97 122)))) (kH G Z I Ar T A Lg h0)) := by
  refine Ct.of (by decide +kernel) (Nat.le_of_ble_eq_true rfl) (fun E hE X F => ?_)
  have X : Gc G E "ComplaintDesk$Tape" cX4_isLetterAt 3 1 0 0 := X
  show GW G E _ 3 0 [(0, _), (1, _)] [] _ 0 0
  refine g_aload_n X dX4_isLetterAt_0 0 rfl ?_
  refine g_iload_n X dX4_isLetterAt_1 1 rfl ?_
  refine g_cV X ml_X4_28 (c_X4_byteAt D N i hN hN4 hi) ⟨4, _, kL2 D, rfl⟩ (Nat.le_of_ble_eq_true rfl) rfl rfl (Nat.le_of_ble_eq_true rfl) (Nat.zero_le _) (Nat.zero_le _) dX4_isLetterAt_2 ?_
  refine g_istore_n X dX4_isLetterAt_5 (Nat.le_of_ble_eq_true rfl) [(2, _), (0, _), (1, _)] rfl ?_
  refine g_iload_n X dX4_isLetterAt_6 0 rfl ?_
  refine g_bipush X (v := 97) dX4_isLetterAt_7 kb_97 ?_
  refine g_icmp_lt X 22 dX4_isLetterAt_9 (by decide) (fun c_9 => ?_) (fun c_9 => ?_)
  · refine g_iconst X (v := 0) dX4_isLetterAt_22 ki_0 ?_
    refine g_iret X F rfl rfl dX4_isLetterAt_23 (Nat.zero_le _) (Nat.zero_le _) ?_
    exact ⟨by rw [b2_f (fun q => ((atP_v hby).mpr q).1 c_9)], rfl⟩
  · refine g_iload_n X dX4_isLetterAt_12 0 rfl ?_
    refine g_bipush X (v := 122) dX4_isLetterAt_13 kb_122 ?_
    refine g_icmp_gt X 22 dX4_isLetterAt_15 (by decide) (fun c_15 => ?_) (fun c_15 => ?_)
    · refine g_iconst X (v := 0) dX4_isLetterAt_22 ki_0 ?_
      refine g_iret X F rfl rfl dX4_isLetterAt_23 (Nat.zero_le _) (Nat.zero_le _) ?_
      exact ⟨by rw [b2_f (fun q => ((atP_v hby).mpr q).2 c_15)], rfl⟩
    · refine g_iconst X (v := 1) dX4_isLetterAt_18 ki_1 ?_
      refine g_goto X 23 dX4_isLetterAt_19 (by decide) ?_
      refine g_iret X F rfl rfl dX4_isLetterAt_23 (Nat.zero_le _) (Nat.zero_le _) ?_
      exact ⟨by rw [b2_t ((atP_v hby).mp ⟨c_9, c_15⟩)], rfl⟩
theorem c_X4_isWord (D : kW G Z) (N i : Nat) (hN : T 0 = nI N) (hN4 : N ≤ 400) (hi : i ≤ 400) (hby : ∀ i, vp_nar .byte (Ar 27 i) = Ar 27 i) (hT1 : T 1 = nI i)  : Ct G l 2 0 0 M_X4_isWord [.ref (Z.da 2)] (kH G Z I Ar T A Lg h0) (rX (some (.int (b2 (atP (Ar 27) N i 97 122)))) (kH G Z I Ar T A Lg h0)) := by
  refine Ct.of (by decide +kernel) (Nat.le_of_ble_eq_true rfl) (fun E hE X F => ?_)
  have X : Gc G E "ComplaintDesk$Tape" cX4_isWord 1 2 0 0 := X
  show GW G E _ 1 0 [(0, _)] [] _ 0 0
  refine g_aload_n X dX4_isWord_0 0 rfl ?_
  refine g_aload_n X dX4_isWord_1 0 rfl ?_
  refine g_getfield X fl_X4_22 dX4_isWord_2 (kL2 D) rfl ?_
  refine g_eqi (y := nI i) (hT1) ?_
  refine g_cV X ml_X4_32 (c_X4_isLetterAt D N i hN hN4 hi hby) ⟨4, _, kL2 D, rfl⟩ (Nat.le_of_ble_eq_true rfl) rfl rfl (Nat.le_of_ble_eq_true rfl) (Nat.zero_le _) (Nat.zero_le _) dX4_isWord_5 ?_
  refine g_iret X F rfl b2_n dX4_isWord_8 (Nat.zero_le _) (Nat.zero_le _) ?_
  exact ⟨rfl, rfl⟩
theorem c_X4_isStop (D : kW G Z) (N i : Nat) (hN : T 0 = nI N) (hN4 : N ≤ 400) (hi : i ≤ 400) (hby : ∀ i, vp_nar .byte (Ar 27 i) = Ar 27 i) (hT1 : T 1 = nI i)  : Ct G l 1 0 0 M_X4_isStop [.ref (Z.da 2)] (kH G Z I Ar T A Lg h0) (rX (some (.int (b2 (atP (Ar 27) N i 46 46)))) (kH G Z I Ar T A Lg h0)) := by
  refine Ct.of (by decide +kernel) (Nat.le_of_ble_eq_true rfl) (fun E hE X F => ?_)
  have X : Gc G E "ComplaintDesk$Tape" cX4_isStop 1 1 0 0 := X
  show GW G E _ 1 0 [(0, _)] [] _ 0 0
  refine g_aload_n X dX4_isStop_0 0 rfl ?_
  refine g_aload_n X dX4_isStop_1 0 rfl ?_
  refine g_getfield X fl_X4_22 dX4_isStop_2 (kL2 D) rfl ?_
  refine g_eqi (y := nI i) (hT1) ?_
  refine g_cV X ml_X4_28 (c_X4_byteAt D N i hN hN4 hi) ⟨4, _, kL2 D, rfl⟩ (Nat.le_of_ble_eq_true rfl) rfl rfl (Nat.le_of_ble_eq_true rfl) (Nat.zero_le _) (Nat.zero_le _) dX4_isStop_5 ?_
  refine g_bipush X (v := 46) dX4_isStop_8 kb_46 ?_
  refine g_icmp_ne X 17 dX4_isStop_10 (by decide) (fun c_10 => ?_) (fun c_10 => ?_)
  · refine g_iconst X (v := 0) dX4_isStop_17 ki_0 ?_
    refine g_iret X F rfl rfl dX4_isStop_18 (Nat.zero_le _) (Nat.zero_le _) ?_
    exact ⟨by rw [b2_f (fun q => c_10 ((at46_v hby).mpr q))], rfl⟩
  · refine g_iconst X (v := 1) dX4_isStop_13 ki_1 ?_
    refine g_goto X 18 dX4_isStop_14 (by decide) ?_
    refine g_iret X F rfl rfl dX4_isStop_18 (Nat.zero_le _) (Nat.zero_le _) ?_
    exact ⟨by rw [b2_t ((at46_v hby).mp (by first | exact c_10 | exact Classical.not_not.mp c_10))], rfl⟩
theorem tu1 {T : Nat → Int32} {x y : Int32} : va_up (va_up T 1 x) 1 y = va_up T 1 y := va_up_up
theorem tu2 {T : Nat → Int32} {x y z : Int32} : va_up (va_up (va_up T 1 x) 2 y) 2 z = va_up (va_up T 1 x) 2 z := va_up_up
theorem lp_X4_next_8 {E : gE} (X : Gc G E "ComplaintDesk$Tape" cX4_next 1 3 0 0) {Q : State → Prop} (D : kW G Z) (N : Nat) (hN : T 0 = nI N) (hN4 : N ≤ 400) (hby : ∀ i, vp_nar .byte (Ar 27 i) = Ar 27 i) (b : Nat) (K : GW G E Q 1 45 [(0, .ref (Z.da 2))] [] (kH G Z I Ar (va_up T 1 (nI b)) A Lg h0) 0 0) : ∀ (f : Nat) (i : Nat), i ≤ N → bgn (Ar 27) N i = b → N - i < f → GW G E Q 1 8 [(0, .ref (Z.da 2))] [] (kH G Z I Ar (va_up T 1 (nI i)) A Lg h0) 0 0 := by
  intro f
  induction f with
  | zero => intro i hi hb hf; exact absurd hf (Nat.not_lt_zero _)
  | succ f ih =>
    intro i hi hb hf
    refine g_aload_n X dX4_next_8 0 rfl ?_
    refine g_getfield X fl_X4_22 dX4_next_9 (kL2 D) rfl ?_
    refine g_eqi (y := nI i) (va_up_self _ _ _) ?_
    refine g_aload_n X dX4_next_12 0 rfl ?_
    refine g_getfield X fl_X4_19 dX4_next_13 (kL2 D) rfl ?_
    refine g_eqi (y := nI N) (hN) ?_
    refine g_icmp_ge X 45 dX4_next_16 (by decide) (fun c_16 => ?_) (fun c_16 => ?_)
    · have hge : N ≤ i := (nI_leI (by omega) (by omega)).mp c_16
      have eb : b = i := by rw [← hb]; exact skp_f (fun q => by omega)
      refine g_L [0] (L' := [(0, _)]) rfl ?_
      rw [← eb]
      exact K
    · have hlt : i < N := nI_lt_of c_16 (by omega) (by omega)
      refine g_aload_n X dX4_next_19 0 rfl ?_
      refine g_aload_n X dX4_next_20 0 rfl ?_
      refine g_getfield X fl_X4_22 dX4_next_21 (kL2 D) rfl ?_
      refine g_eqi (y := nI i) (va_up_self _ _ _) ?_
      refine g_cV X ml_X4_28 (c_X4_byteAt (T := va_up T 1 (nI i)) D N i hN hN4 (by omega)) ⟨4, _, kL2 D, rfl⟩ (Nat.le_of_ble_eq_true rfl) rfl rfl (Nat.le_of_ble_eq_true rfl) (Nat.zero_le _) (Nat.zero_le _) dX4_next_24 ?_
      refine g_bipush X (v := 32) dX4_next_27 kb_32 ?_
      refine g_icmp_ne X 45 dX4_next_29 (by decide) (fun c_29 => ?_) (fun c_29 => ?_)
      · have eb : b = i := by rw [← hb]; exact skp_f (fun q => c_29 ((at32_v hby).mpr q))
        refine g_L [0] (L' := [(0, _)]) rfl ?_
        rw [← eb]
        exact K
      · refine g_aload_n X dX4_next_32 0 rfl ?_
        refine g_dup X dX4_next_33 rfl ?_
        refine g_getfield X fl_X4_22 dX4_next_34 (kL2 D) rfl ?_
        refine g_eqi (y := nI i) (va_up_self _ _ _) ?_
        refine g_iconst X (v := 1) dX4_next_37 ki_1 ?_
        refine g_iadd X dX4_next_38 ?_
        refine g_eqi (y := nI (i + 1)) (nI_1 i) ?_
        refine g_putfield X fp_X4_22 dX4_next_39 (kL2 D) (Nat.le_of_ble_eq_true rfl) rfl rfl _ rfl ?_
        refine g_h (h' := (kH G Z I Ar (va_up T 1 (nI (i + 1))) A Lg h0)) ((kuT1 D).trans (by rw [tu1])) ?_
        refine g_goto X 8 dX4_next_42 (by decide) ?_
        refine g_L [0] (L' := [(0, _)]) rfl ?_
        refine ih (i + 1) (by omega) ?_ (by omega)
        rw [← hb]; exact (skp_t ((at32_v hby).mp (by first | exact c_29 | exact Classical.not_not.mp c_29))).symm
theorem lp_X4_next_53 {E : gE} (X : Gc G E "ComplaintDesk$Tape" cX4_next 1 3 0 0) {Q : State → Prop} (D : kW G Z) (N : Nat) (hN : T 0 = nI N) (hN4 : N ≤ 400) (hby : ∀ i, vp_nar .byte (Ar 27 i) = Ar 27 i) (b e1 : Nat) (hbN : b ≤ N) (K : GW G E Q 1 88 [(0, .ref (Z.da 2))] [] (kH G Z I Ar (va_up (va_up T 1 (nI (b))) 2 (nI (e1))) A Lg h0) 0 0) : ∀ (f : Nat) (i : Nat), i ≤ N → fin (Ar 27) N i = e1 → N - i < f → GW G E Q 1 53 [(0, .ref (Z.da 2))] [] (kH G Z I Ar (va_up (va_up T 1 (nI (b))) 2 (nI (i))) A Lg h0) 0 0 := by
  intro f
  induction f with
  | zero => intro i hi hb hf; exact absurd hf (Nat.not_lt_zero _)
  | succ f ih =>
    intro i hi hb hf
    refine g_aload_n X dX4_next_53 0 rfl ?_
    refine g_getfield X fl_X4_25 dX4_next_54 (kL2 D) rfl ?_
    refine g_eqi (y := nI i) (va_up_self _ _ _) ?_
    refine g_aload_n X dX4_next_57 0 rfl ?_
    refine g_getfield X fl_X4_19 dX4_next_58 (kL2 D) rfl ?_
    refine g_eqi (y := nI N) (hN) ?_
    refine g_icmp_ge X 88 dX4_next_61 (by decide) (fun c_61 => ?_) (fun c_61 => ?_)
    · have hge : N ≤ i := (nI_leI (by omega) (by omega)).mp c_61
      have eb : e1 = i := by rw [← hb]; exact skp_f (fun q => by omega)
      refine g_L [0] (L' := [(0, _)]) rfl ?_
      rw [← eb]
      exact K
    · have hlt : i < N := nI_lt_of c_61 (by omega) (by omega)
      refine g_aload_n X dX4_next_64 0 rfl ?_
      refine g_aload_n X dX4_next_65 0 rfl ?_
      refine g_getfield X fl_X4_25 dX4_next_66 (kL2 D) rfl ?_
      refine g_eqi (y := nI i) (va_up_self _ _ _) ?_
      refine g_cV X ml_X4_32 (c_X4_isLetterAt (T := (va_up (va_up T 1 (nI (b))) 2 (nI (i)))) D N i hN hN4 (by omega) hby) ⟨4, _, kL2 D, rfl⟩ (Nat.le_of_ble_eq_true rfl) rfl rfl (Nat.le_of_ble_eq_true rfl) (Nat.zero_le _) (Nat.zero_le _) dX4_next_69 ?_
      refine g_if_eq X 88 dX4_next_72 (by decide) (fun c_72 => ?_) (fun c_72 => ?_)
      · have eb : e1 = i := by rw [← hb]; exact skp_f (b2_0.mp c_72)
        refine g_L [0] (L' := [(0, _)]) rfl ?_
        rw [← eb]
        exact K
      · refine g_aload_n X dX4_next_75 0 rfl ?_
        refine g_dup X dX4_next_76 rfl ?_
        refine g_getfield X fl_X4_25 dX4_next_77 (kL2 D) rfl ?_
        refine g_eqi (y := nI i) (va_up_self _ _ _) ?_
        refine g_iconst X (v := 1) dX4_next_80 ki_1 ?_
        refine g_iadd X dX4_next_81 ?_
        refine g_eqi (y := nI (i + 1)) (nI_1 i) ?_
        refine g_putfield X fp_X4_25 dX4_next_82 (kL2 D) (Nat.le_of_ble_eq_true rfl) rfl rfl _ rfl ?_
        refine g_h (h' := (kH G Z I Ar (va_up (va_up T 1 (nI (b))) 2 (nI (i + 1))) A Lg h0)) ((kuT2 D).trans (by rw [tu2])) ?_
        refine g_goto X 53 dX4_next_85 (by decide) ?_
        refine g_L [0] (L' := [(0, _)]) rfl ?_
        refine ih (i + 1) (by omega) ?_ (by omega)
        rw [← hb]; exact (skp_t (b2_1.mp (b2_c.resolve_left c_72))).symm
/-- where a thing ends that begins at b -/
def nxE (B : Nat → Int32) (N b : Nat) : Nat := if fin B N b = b ∧ b < N then b + 1 else fin B N b
theorem c_X4_next (D : kW G Z) (N : Nat) (hN : T 0 = nI N) (hN4 : N ≤ 400) (hby : ∀ i, vp_nar .byte (Ar 27 i) = Ar 27 i) (e0 : Nat) (he0 : e0 ≤ N) (hT2 : T 2 = nI e0)  : Ct G l 3 0 0 M_X4_next [.ref (Z.da 2)] (kH G Z I Ar T A Lg h0) (rX (some (.int (b2 ((bgn (Ar 27) N e0) < N)))) (kH G Z I Ar (va_up (va_up T 1 (nI ((bgn (Ar 27) N e0)))) 2 (nI (nxE (Ar 27) N (bgn (Ar 27) N e0)))) A Lg h0)) := by
  refine Ct.of (by decide +kernel) (Nat.le_of_ble_eq_true rfl) (fun E hE X F => ?_)
  have X : Gc G E "ComplaintDesk$Tape" cX4_next 1 3 0 0 := X
  show GW G E _ 1 0 [(0, _)] [] _ 0 0
  have hb1 : (bgn (Ar 27) N e0) ≤ N := skp_le1 he0
  have hb2 : (fin (Ar 27) N (bgn (Ar 27) N e0)) ≤ N := skp_le1 hb1
  have hb3 : (bgn (Ar 27) N e0) ≤ (fin (Ar 27) N (bgn (Ar 27) N e0)) := skp_ge1 hb1
  refine g_aload_n X dX4_next_0 0 rfl ?_
  refine g_aload_n X dX4_next_1 0 rfl ?_
  refine g_getfield X fl_X4_25 dX4_next_2 (kL2 D) rfl ?_
  refine g_eqi (y := nI e0) (hT2) ?_
  refine g_putfield X fp_X4_22 dX4_next_5 (kL2 D) (Nat.le_of_ble_eq_true rfl) rfl rfl _ rfl ?_
  refine g_h (h' := (kH G Z I Ar (va_up T 1 (nI e0)) A Lg h0)) (kuT1 D) ?_
  refine g_L [0] (L' := [(0, _)]) rfl ?_
  refine lp_X4_next_8 X D N hN hN4 hby (bgn (Ar 27) N e0) ?_ _ e0 he0 rfl (Nat.lt_succ_self _)
  refine g_aload_n X dX4_next_45 0 rfl ?_
  refine g_aload_n X dX4_next_46 0 rfl ?_
  refine g_getfield X fl_X4_22 dX4_next_47 (kL2 D) rfl ?_
  refine g_eqi (y := nI (bgn (Ar 27) N e0)) (va_up_self _ _ _) ?_
  refine g_putfield X fp_X4_25 dX4_next_50 (kL2 D) (Nat.le_of_ble_eq_true rfl) rfl rfl _ rfl ?_
  refine g_h (h' := (kH G Z I Ar (va_up (va_up T 1 (nI ((bgn (Ar 27) N e0)))) 2 (nI ((bgn (Ar 27) N e0)))) A Lg h0)) (kuT2 D) ?_
  refine g_L [0] (L' := [(0, _)]) rfl ?_
  refine lp_X4_next_53 X D N hN hN4 hby (bgn (Ar 27) N e0) (fin (Ar 27) N (bgn (Ar 27) N e0)) hb1 ?_ _ (bgn (Ar 27) N e0) hb1 rfl (Nat.lt_succ_self _)
  refine g_aload_n X dX4_next_88 0 rfl ?_
  refine g_getfield X fl_X4_25 dX4_next_89 (kL2 D) rfl ?_
  refine g_eqi (y := nI (fin (Ar 27) N (bgn (Ar 27) N e0))) (va_up_self _ _ _) ?_
  refine g_aload_n X dX4_next_92 0 rfl ?_
  refine g_getfield X fl_X4_22 dX4_next_93 (kL2 D) rfl ?_
  refine g_eqi (y := nI (bgn (Ar 27) N e0)) (rfl) ?_
  refine g_icmp_ne X 120 dX4_next_96 (by decide) (fun c_96 => ?_) (fun c_96 => ?_)
  · refine g_aload_n X dX4_next_120 0 rfl ?_
    refine g_getfield X fl_X4_22 dX4_next_121 (kL2 D) rfl ?_
    refine g_eqi (y := nI (bgn (Ar 27) N e0)) (rfl) ?_
    refine g_aload_n X dX4_next_124 0 rfl ?_
    refine g_getfield X fl_X4_19 dX4_next_125 (kL2 D) rfl ?_
    refine g_eqi (y := nI N) (hN) ?_
    refine g_icmp_ge X 135 dX4_next_128 (by decide) (fun c_128 => ?_) (fun c_128 => ?_)
    · refine g_iconst X (v := 0) dX4_next_135 ki_0 ?_
      refine g_iret X F rfl rfl dX4_next_136 (Nat.zero_le _) (Nat.zero_le _) ?_
      have enx : nxE (Ar 27) N (bgn (Ar 27) N e0) = (fin (Ar 27) N (bgn (Ar 27) N e0)) := if_neg (fun q => c_96 (by rw [q.1]))
      refine ⟨by rw [b2_f (fun q => by have := (nI_leI (by omega) (by omega)).mp c_128; omega)], ?_⟩
      rw [enx]
    · refine g_iconst X (v := 1) dX4_next_131 ki_1 ?_
      refine g_goto X 136 dX4_next_132 (by decide) ?_
      refine g_iret X F rfl rfl dX4_next_136 (Nat.zero_le _) (Nat.zero_le _) ?_
      have enx : nxE (Ar 27) N (bgn (Ar 27) N e0) = (fin (Ar 27) N (bgn (Ar 27) N e0)) := if_neg (fun q => c_96 (by rw [q.1]))
      refine ⟨by rw [b2_t (nI_lt_of c_128 (by omega) (by omega))], ?_⟩
      rw [enx]
  · refine g_aload_n X dX4_next_99 0 rfl ?_
    refine g_getfield X fl_X4_22 dX4_next_100 (kL2 D) rfl ?_
    refine g_eqi (y := nI (bgn (Ar 27) N e0)) (rfl) ?_
    refine g_aload_n X dX4_next_103 0 rfl ?_
    refine g_getfield X fl_X4_19 dX4_next_104 (kL2 D) rfl ?_
    refine g_eqi (y := nI N) (hN) ?_
    refine g_icmp_ge X 120 dX4_next_107 (by decide) (fun c_107 => ?_) (fun c_107 => ?_)
    · refine g_aload_n X dX4_next_120 0 rfl ?_
      refine g_getfield X fl_X4_22 dX4_next_121 (kL2 D) rfl ?_
      refine g_eqi (y := nI (bgn (Ar 27) N e0)) (rfl) ?_
      refine g_aload_n X dX4_next_124 0 rfl ?_
      refine g_getfield X fl_X4_19 dX4_next_125 (kL2 D) rfl ?_
      refine g_eqi (y := nI N) (hN) ?_
      refine g_icmp_ge X 135 dX4_next_128 (by decide) (fun c_128 => ?_) (fun c_128 => ?_)
      · refine g_iconst X (v := 0) dX4_next_135 ki_0 ?_
        refine g_iret X F rfl rfl dX4_next_136 (Nat.zero_le _) (Nat.zero_le _) ?_
        have enx : nxE (Ar 27) N (bgn (Ar 27) N e0) = (fin (Ar 27) N (bgn (Ar 27) N e0)) := if_neg (fun q => by have := (nI_leI (by omega) (by omega)).mp c_107; omega)
        refine ⟨by rw [b2_f (fun q => by have := (nI_leI (by omega) (by omega)).mp c_128; omega)], ?_⟩
        rw [enx]
      · refine g_iconst X (v := 1) dX4_next_131 ki_1 ?_
        refine g_goto X 136 dX4_next_132 (by decide) ?_
        refine g_iret X F rfl rfl dX4_next_136 (Nat.zero_le _) (Nat.zero_le _) ?_
        have enx : nxE (Ar 27) N (bgn (Ar 27) N e0) = (fin (Ar 27) N (bgn (Ar 27) N e0)) := if_neg (fun q => by have := (nI_leI (by omega) (by omega)).mp c_107; omega)
        refine ⟨by rw [b2_t (nI_lt_of c_128 (by omega) (by omega))], ?_⟩
        rw [enx]
    · have c96e : (fin (Ar 27) N (bgn (Ar 27) N e0)) = (bgn (Ar 27) N e0) := (nI_eq (by omega) (by omega)).mp (by first | exact c_96 | exact Classical.not_not.mp c_96)
      refine g_aload_n X dX4_next_110 0 rfl ?_
      refine g_dup X dX4_next_111 rfl ?_
      refine g_getfield X fl_X4_25 dX4_next_112 (kL2 D) rfl ?_
      refine g_eqi (y := nI (bgn (Ar 27) N e0)) (by rw [va_up_self, c96e]) ?_
      refine g_iconst X (v := 1) dX4_next_115 ki_1 ?_
      refine g_iadd X dX4_next_116 ?_
      refine g_eqi (y := nI ((bgn (Ar 27) N e0) + 1)) (nI_1 _) ?_
      refine g_putfield X fp_X4_25 dX4_next_117 (kL2 D) (Nat.le_of_ble_eq_true rfl) rfl rfl _ rfl ?_
      refine g_h (h' := (kH G Z I Ar (va_up (va_up T 1 (nI ((bgn (Ar 27) N e0)))) 2 (nI ((bgn (Ar 27) N e0) + 1))) A Lg h0)) ((kuT2 D).trans (by rw [tu2])) ?_
      refine g_aload_n X dX4_next_120 0 rfl ?_
      refine g_getfield X fl_X4_22 dX4_next_121 (kL2 D) rfl ?_
      refine g_eqi (y := nI (bgn (Ar 27) N e0)) (rfl) ?_
      refine g_aload_n X dX4_next_124 0 rfl ?_
      refine g_getfield X fl_X4_19 dX4_next_125 (kL2 D) rfl ?_
      refine g_eqi (y := nI N) (hN) ?_
      refine g_icmp_ge X 135 dX4_next_128 (by decide) (fun c_128 => ?_) (fun c_128 => ?_)
      · refine g_iconst X (v := 0) dX4_next_135 ki_0 ?_
        refine g_iret X F rfl rfl dX4_next_136 (Nat.zero_le _) (Nat.zero_le _) ?_
        have hlt7 : (bgn (Ar 27) N e0) < N := nI_lt_of c_107 (by omega) (by omega)
        have enx : nxE (Ar 27) N (bgn (Ar 27) N e0) = (bgn (Ar 27) N e0) + 1 := if_pos ⟨((nI_eq (by omega) (by omega)).mp (by first | exact c_96 | exact Classical.not_not.mp c_96)), hlt7⟩
        refine ⟨by rw [b2_f (fun q => by have := (nI_leI (by omega) (by omega)).mp c_128; omega)], ?_⟩
        rw [enx]
      · refine g_iconst X (v := 1) dX4_next_131 ki_1 ?_
        refine g_goto X 136 dX4_next_132 (by decide) ?_
        refine g_iret X F rfl rfl dX4_next_136 (Nat.zero_le _) (Nat.zero_le _) ?_
        have hlt7 : (bgn (Ar 27) N e0) < N := nI_lt_of c_107 (by omega) (by omega)
        have enx : nxE (Ar 27) N (bgn (Ar 27) N e0) = (bgn (Ar 27) N e0) + 1 := if_pos ⟨((nI_eq (by omega) (by omega)).mp (by first | exact c_96 | exact Classical.not_not.mp c_96)), hlt7⟩
        refine ⟨by rw [b2_t (nI_lt_of c_128 (by omega) (by omega))], ?_⟩
        rw [enx]
end K19
