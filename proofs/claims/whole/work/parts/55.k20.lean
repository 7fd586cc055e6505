section K20
variable {G : gG} {l : Launch} {h h0 : hW} {Z : kZ} {I : Nat → Int32} {Ar : Nat → Nat → Int32} {T : Nat → Int32} {A : Nat → Nat → Int32} {Lg : Nat → Nat → Int64}
theorem sh8 : ∀ j : Nat, j ≤ 4 → (24 - 8 * nI j < 0 ↔ j = 4) ∧ 24 - 8 * nI j + Int32.ofInt (-8) = 24 - 8 * nI (j + 1) := by decide +kernel
/-- the bytes of a number, written from s on -/
def apF (F : Nat → Int32) (s : Nat) (x : Int32) : Nat → Nat → Int32
  | 0 => F
  | j + 1 => upd (apF F s x j) (s + j) (vp_nar .byte ((x >>> ((24 - 8 * nI j) &&& 31)).toInt8.toInt32))
termination_by n => n
theorem apF_0 {F : Nat → Int32} {s : Nat} {x : Int32} : apF F s x 0 = F := by rw [apF]
theorem apF_s {F : Nat → Int32} {s j : Nat} {x : Int32} : apF F s x (j + 1) = upd (apF F s x j) (s + j) (vp_nar .byte ((x >>> ((24 - 8 * nI j) &&& 31)).toInt8.toInt32)) := by rw [apF]
theorem tp4 {F V0 : Nat → Int32} {tp : Nat} (q : Nat) : tpN F V0 tp (4 * q + 4) = apF (tpN F V0 tp (4 * q)) (tp + 4 * q) (F q) 4 := by
  have hb : ∀ j, j < 4 → btF F (4 * q + j) = vp_nar .byte ((F q >>> ((24 - 8 * nI j) &&& 31)).toInt8.toInt32) := fun j hj => by
    unfold btF; rw [show (4 * q + j) / 4 = q by omega, show (4 * q + j) % 4 = j by omega]
  rw [show 4 * q + 4 = 4 * q + 3 + 1 from rfl, tpN_s, show 4 * q + 3 = 4 * q + 2 + 1 from rfl, tpN_s, show 4 * q + 2 = 4 * q + 1 + 1 from rfl, tpN_s, show 4 * q + 1 = 4 * q + 0 + 1 from rfl, tpN_s]
  rw [show (4 : Nat) = 3 + 1 from rfl, apF_s, show (3 : Nat) = 2 + 1 from rfl, apF_s, show (2 : Nat) = 1 + 1 from rfl, apF_s, show (1 : Nat) = 0 + 1 from rfl, apF_s, apF_0]
  have b0 := hb 0 (by decide); have b1 := hb 1 (by decide); have b2' := hb 2 (by decide); have b3 := hb 3 (by decide)
  rw [← b0, ← b1, ← b2', ← b3]
  rfl
theorem va_up_id {α : Type} {f : Nat → α} {k : Nat} : va_up f k (f k) = f := by
  funext j; simp only [va_up]; split
  · rename_i e; rw [e]
  · rfl
theorem lp_X4_append_3 {E : gE} (X : Gc G E "ComplaintDesk$Tape" cX4_append 3 0 0 0) (F : gF E M_X4_append) (D : kW G Z) (s : Nat) (x : Int32) (hs4 : s + 4 ≤ 400) : ∀ (f : Nat) (j : Nat), j ≤ 4 → 4 - j < f → GW G E (gMQ G E 0 0 (rX none (kH G Z (va_up I 28 (nI (s + 4))) (va_up Ar 27 (apF (Ar 27) s x (4))) T A Lg h0))) 3 3 [(2, .int (24 - 8 * nI j)), (0, .ref (Z.da 2)), (1, .int x)] [] (kH G Z (va_up I 28 (nI (s + j))) (va_up Ar 27 (apF (Ar 27) s x (j))) T A Lg h0) 0 0 := by
  intro f
  induction f with
  | zero => intro j hj hf; exact absurd hf (Nat.not_lt_zero _)
  | succ f ih =>
    intro j hj hf
    obtain ⟨hj1, hj2⟩ := sh8 j hj
    refine g_iload_n X dX4_append_3 0 rfl ?_
    refine g_if_lt X 48 dX4_append_4 (by decide) (fun c_4 => ?_) (fun c_4 => ?_)
    · have ej : j = 4 := hj1.mp c_4
      refine g_ret0 X F rfl dX4_append_48 (Nat.zero_le _) (Nat.zero_le _) ?_
      rw [ej]
      exact ⟨rfl, rfl⟩
    · have hj4 : j < 4 := by
        have : ¬ j = 4 := fun q => Int32.not_lt.mpr (by first | exact c_4 | exact Int32.not_lt.mp c_4) (hj1.mpr q)
        omega
      refine g_aload_n X dX4_append_7 1 rfl ?_
      refine g_getfield X fl_X4_15 dX4_append_8 (kL2 D) rfl ?_
      refine g_eqi (y := nI (s + j)) (va_up_self _ _ _) ?_
      refine g_aload_n X dX4_append_11 1 rfl ?_
      refine g_getfield X fl_X4_9 dX4_append_12 (kL2 D) rfl ?_
      refine g_alen X dX4_append_15 (t := 1) rfl (kL12 D) (nI 400) rfl ?_
      refine g_icmp_ge X 48 dX4_append_16 (by decide) (fun c_16 => absurd ((nI_leI (by omega) (by omega)).mp c_16) (by omega)) (fun c_16 => ?_)
      refine g_aload_n X dX4_append_19 1 rfl ?_
      refine g_getfield X fl_X4_9 dX4_append_20 (kL2 D) rfl ?_
      refine g_aload_n X dX4_append_23 1 rfl ?_
      refine g_getfield X fl_X4_15 dX4_append_24 (kL2 D) rfl ?_
      refine g_eqi (y := nI (s + j)) (va_up_self _ _ _) ?_
      refine g_iload_n X dX4_append_27 2 rfl ?_
      refine g_iload_n X dX4_append_28 0 rfl ?_
      refine g_ishr X dX4_append_29 ?_
      refine g_i2b X dX4_append_30 ?_
      refine g_bastore X dX4_append_31 (kL12 D) (vp_in_nI (by omega) (by decide)) ?_
      refine g_h (h' := (kH G Z (va_up I 28 (nI (s + j))) (va_up Ar 27 (apF (Ar 27) s x (j + 1))) T A Lg h0)) (by rw [nI_clamp (by omega)]; exact (kuA27 D).trans (by rw [va_up_up, apF_s]; rfl)) ?_
      refine g_aload_n X dX4_append_32 1 rfl ?_
      refine g_dup X dX4_append_33 rfl ?_
      refine g_getfield X fl_X4_15 dX4_append_34 (kL2 D) rfl ?_
      refine g_eqi (y := nI (s + j)) (va_up_self _ _ _) ?_
      refine g_iconst X (v := 1) dX4_append_37 ki_1 ?_
      refine g_iadd X dX4_append_38 ?_
      refine g_eqi (y := nI (s + (j + 1))) (nI_1 _) ?_
      refine g_putfield X fp_X4_15 dX4_append_39 (kL2 D) (Nat.le_of_ble_eq_true rfl) rfl rfl _ rfl ?_
      refine g_h (h' := (kH G Z (va_up I 28 (nI (s + j + 1))) (va_up Ar 27 (apF (Ar 27) s x (j + 1))) T A Lg h0)) ((kuI28 D).trans (by rw [va_up_up]; rfl)) ?_
      refine g_iinc X (v := (24 - 8 * nI (j + 1))) dX4_append_42 0 rfl hj2 (Nat.le_of_ble_eq_true rfl) [(2, _), (0, _), (1, _)] rfl ?_
      refine g_goto X 3 dX4_append_45 (by decide) ?_
      refine g_L [0, 1, 2] (L' := [(2, _), (0, _), (1, _)]) rfl ?_
      exact ih (j + 1) (by omega) (by omega)
theorem c_X4_append (D : kW G Z) (s : Nat) (x : Int32) (hs4 : s + 4 ≤ 400) (hI : I 28 = nI s)  : Ct G l 0 0 0 M_X4_append [.ref (Z.da 2), .int x] (kH G Z I Ar T A Lg h0) (rX none (kH G Z (va_up I 28 (nI (s + 4))) (va_up Ar 27 (apF (Ar 27) s x (4))) T A Lg h0)) := by
  refine Ct.of (by decide +kernel) (Nat.le_of_ble_eq_true rfl) (fun E hE X F => ?_)
  have X : Gc G E "ComplaintDesk$Tape" cX4_append 3 0 0 0 := X
  show GW G E _ 3 0 [(0, _), (1, _)] [] _ 0 0
  refine g_bipush X (v := 24) dX4_append_0 kb_24 ?_
  refine g_istore_n X dX4_append_2 (Nat.le_of_ble_eq_true rfl) [(2, _), (0, _), (1, _)] rfl ?_
  refine g_L [0, 1, 2] (L' := [(2, _), (0, _), (1, _)]) rfl ?_
  refine g_L [0, 1, 2] (L' := [(2, .int (24 - 8 * nI 0)), (0, _), (1, _)]) rfl ?_
  refine g_h (h' := (kH G Z (va_up I 28 (nI (s + 0))) (va_up Ar 27 (apF (Ar 27) s x (0))) T A Lg h0)) (by rw [apF_0, show s + 0 = s from rfl, ← hI, va_up_id, va_up_id]) ?_
  exact lp_X4_append_3 X F D s x hs4 _ 0 (Nat.zero_le _) (Nat.lt_succ_self _)
theorem c_X6_feed (D : kW G Z) (F5 : Nat → Int32) (tp : Nat) (ht : tp + 20 ≤ 400) (hI : I 28 = nI tp)  : Ct G l 1 0 0 M_X6_feed [.ref (Z.da 1), .int (F5 0), .int (F5 1), .int (F5 2), .int (F5 3), .int (F5 4)] (kH G Z I Ar T A Lg h0) (rX (some (.int (nI (tp + 20)))) (kH G Z (va_up I 28 (nI (tp + 20))) (va_up Ar 27 (tpN F5 (Ar 27) tp (20))) T A Lg h0)) := by
  refine Ct.of (by decide +kernel) (Nat.le_of_ble_eq_true rfl) (fun E hE X F => ?_)
  have X : Gc G E "ComplaintDesk" cX6_feed 6 1 0 0 := X
  show GW G E _ 6 0 [(0, _), (1, _), (2, _), (3, _), (4, _), (5, _)] [] _ 0 0
  refine g_aload_n X dX6_feed_0 0 rfl ?_
  refine g_getfield X fl_X6_10 dX6_feed_1 (kL1 D) rfl ?_
  refine g_cV X ml_X6_56 (c_X4_hasRoom D) ⟨4, _, kL2 D, rfl⟩ (Nat.le_of_ble_eq_true rfl) rfl rfl (Nat.le_of_ble_eq_true rfl) (Nat.zero_le _) (Nat.zero_le _) dX6_feed_4 ?_
  refine g_if_ne X 12 dX6_feed_7 (by decide) (fun c_7 => ?_) (fun c_7 => ?_)
  · refine g_h (h' := (kH G Z (va_up I 28 (nI (tp + 0))) (va_up Ar 27 (tpN F5 (Ar 27) tp (0))) T A Lg h0)) (by rw [tpN_0, show tp + 0 = tp from rfl, ← hI, va_up_id, va_up_id]) ?_
    refine g_aload_n X dX6_feed_12 0 rfl ?_
    refine g_getfield X fl_X6_10 dX6_feed_13 (kL1 D) rfl ?_
    refine g_iload_n X dX6_feed_16 1 rfl ?_
    refine g_cV0 X ml_X6_60 (c_X4_append (I := (va_up I 28 (nI (tp + 0)))) (Ar := (va_up Ar 27 (tpN F5 (Ar 27) tp (0)))) D (tp + 0) (F5 0) (by omega) (va_up_self _ _ _)) ⟨4, _, kL2 D, rfl⟩ (Nat.le_of_ble_eq_true rfl) rfl rfl (Nat.le_of_ble_eq_true rfl) (Nat.zero_le _) (Nat.zero_le _) dX6_feed_17 ?_
    refine g_h (h' := (kH G Z (va_up I 28 (nI (tp + 4))) (va_up Ar 27 (tpN F5 (Ar 27) tp (4))) T A Lg h0)) (by rw [va_up_up, va_up_up]; exact congrArg (fun zz => kH G Z (va_up I 28 (nI (tp + 4))) (va_up Ar 27 zz) T A Lg h0) (tp4 0).symm) ?_
    refine g_aload_n X dX6_feed_20 0 rfl ?_
    refine g_getfield X fl_X6_10 dX6_feed_21 (kL1 D) rfl ?_
    refine g_iload_n X dX6_feed_24 2 rfl ?_
    refine g_cV0 X ml_X6_60 (c_X4_append (I := (va_up I 28 (nI (tp + 4)))) (Ar := (va_up Ar 27 (tpN F5 (Ar 27) tp (4)))) D (tp + 4) (F5 1) (by omega) (va_up_self _ _ _)) ⟨4, _, kL2 D, rfl⟩ (Nat.le_of_ble_eq_true rfl) rfl rfl (Nat.le_of_ble_eq_true rfl) (Nat.zero_le _) (Nat.zero_le _) dX6_feed_25 ?_
    refine g_h (h' := (kH G Z (va_up I 28 (nI (tp + 8))) (va_up Ar 27 (tpN F5 (Ar 27) tp (8))) T A Lg h0)) (by rw [va_up_up, va_up_up]; exact congrArg (fun zz => kH G Z (va_up I 28 (nI (tp + 8))) (va_up Ar 27 zz) T A Lg h0) (tp4 1).symm) ?_
    refine g_aload_n X dX6_feed_28 0 rfl ?_
    refine g_getfield X fl_X6_10 dX6_feed_29 (kL1 D) rfl ?_
    refine g_iload_n X dX6_feed_32 3 rfl ?_
    refine g_cV0 X ml_X6_60 (c_X4_append (I := (va_up I 28 (nI (tp + 8)))) (Ar := (va_up Ar 27 (tpN F5 (Ar 27) tp (8)))) D (tp + 8) (F5 2) (by omega) (va_up_self _ _ _)) ⟨4, _, kL2 D, rfl⟩ (Nat.le_of_ble_eq_true rfl) rfl rfl (Nat.le_of_ble_eq_true rfl) (Nat.zero_le _) (Nat.zero_le _) dX6_feed_33 ?_
    refine g_h (h' := (kH G Z (va_up I 28 (nI (tp + 12))) (va_up Ar 27 (tpN F5 (Ar 27) tp (12))) T A Lg h0)) (by rw [va_up_up, va_up_up]; exact congrArg (fun zz => kH G Z (va_up I 28 (nI (tp + 12))) (va_up Ar 27 zz) T A Lg h0) (tp4 2).symm) ?_
    refine g_aload_n X dX6_feed_36 0 rfl ?_
    refine g_getfield X fl_X6_10 dX6_feed_37 (kL1 D) rfl ?_
    refine g_iload X dX6_feed_40 4 rfl ?_
    refine g_cV0 X ml_X6_60 (c_X4_append (I := (va_up I 28 (nI (tp + 12)))) (Ar := (va_up Ar 27 (tpN F5 (Ar 27) tp (12)))) D (tp + 12) (F5 3) (by omega) (va_up_self _ _ _)) ⟨4, _, kL2 D, rfl⟩ (Nat.le_of_ble_eq_true rfl) rfl rfl (Nat.le_of_ble_eq_true rfl) (Nat.zero_le _) (Nat.zero_le _) dX6_feed_42 ?_
    refine g_h (h' := (kH G Z (va_up I 28 (nI (tp + 16))) (va_up Ar 27 (tpN F5 (Ar 27) tp (16))) T A Lg h0)) (by rw [va_up_up, va_up_up]; exact congrArg (fun zz => kH G Z (va_up I 28 (nI (tp + 16))) (va_up Ar 27 zz) T A Lg h0) (tp4 3).symm) ?_
    refine g_aload_n X dX6_feed_45 0 rfl ?_
    refine g_getfield X fl_X6_10 dX6_feed_46 (kL1 D) rfl ?_
    refine g_iload X dX6_feed_49 5 rfl ?_
    refine g_cV0 X ml_X6_60 (c_X4_append (I := (va_up I 28 (nI (tp + 16)))) (Ar := (va_up Ar 27 (tpN F5 (Ar 27) tp (16)))) D (tp + 16) (F5 4) (by omega) (va_up_self _ _ _)) ⟨4, _, kL2 D, rfl⟩ (Nat.le_of_ble_eq_true rfl) rfl rfl (Nat.le_of_ble_eq_true rfl) (Nat.zero_le _) (Nat.zero_le _) dX6_feed_51 ?_
    refine g_h (h' := (kH G Z (va_up I 28 (nI (tp + 20))) (va_up Ar 27 (tpN F5 (Ar 27) tp (20))) T A Lg h0)) (by rw [va_up_up, va_up_up]; exact congrArg (fun zz => kH G Z (va_up I 28 (nI (tp + 20))) (va_up Ar 27 zz) T A Lg h0) (tp4 4).symm) ?_
    refine g_aload_n X dX6_feed_54 0 rfl ?_
    refine g_getfield X fl_X6_10 dX6_feed_55 (kL1 D) rfl ?_
    refine g_getfield X fl_X6_64 dX6_feed_58 (kL2 D) rfl ?_
    refine g_eqi (y := nI (tp + 20)) (va_up_self _ _ _) ?_
    refine g_iret X F rfl rfl dX6_feed_61 (Nat.zero_le _) (Nat.zero_le _) ?_
    exact ⟨rfl, rfl⟩
  · refine g_iconst X (v := (-1)) dX6_feed_10 ki_m1 ?_
    refine g_iret X F rfl rfl dX6_feed_11 (Nat.zero_le _) (Nat.zero_le _) ?_
    exact absurd c_7 (by rw [b2_t (by rw [hI]; exact (nI_leI (a := tp) (b := 380) (by omega) (by decide)).mpr (by omega))]; decide)
theorem c_X6_feed_full (D : kW G Z) (a b c d e : Int32) (tp : Nat) (ht : tp ≤ 400) (hf : 400 < tp + 20) (hI : I 28 = nI tp)  : Ct G l 1 0 0 M_X6_feed [.ref (Z.da 1), .int a, .int b, .int c, .int d, .int e] (kH G Z I Ar T A Lg h0) (rX (some (.int (-1))) (kH G Z I Ar T A Lg h0)) := by
  refine Ct.of (by decide +kernel) (Nat.le_of_ble_eq_true rfl) (fun E hE X F => ?_)
  have X : Gc G E "ComplaintDesk" cX6_feed 6 1 0 0 := X
  show GW G E _ 6 0 [(0, _), (1, _), (2, _), (3, _), (4, _), (5, _)] [] _ 0 0
  refine g_aload_n X dX6_feed_0 0 rfl ?_
  refine g_getfield X fl_X6_10 dX6_feed_1 (kL1 D) rfl ?_
  refine g_cV X ml_X6_56 (c_X4_hasRoom D) ⟨4, _, kL2 D, rfl⟩ (Nat.le_of_ble_eq_true rfl) rfl rfl (Nat.le_of_ble_eq_true rfl) (Nat.zero_le _) (Nat.zero_le _) dX6_feed_4 ?_
  refine g_if_ne X 12 dX6_feed_7 (by decide) (fun c_7 => absurd (b2_1.mp (b2_c.resolve_left c_7)) (by rw [hI]; exact fun q => by have := (nI_leI (a := tp) (b := 380) (by omega) (by decide)).mp q; omega)) (fun c_7 => ?_)
  refine g_iconst X (v := (-1)) dX6_feed_10 ki_m1 ?_
  refine g_iret X F rfl rfl dX6_feed_11 (Nat.zero_le _) (Nat.zero_le _) ?_
  exact ⟨rfl, rfl⟩
/-- the code of k letters from b on -/
def cdW (B : Nat → Int32) (b : Nat) : Nat → Int64
  | 0 => 0
  | k + 1 => (cdW B b k <<< ((5 : Int32).toInt64 &&& 63)) + (B (b + k) - 97 + 1).toInt64
termination_by n => n
theorem cdW_0 {B : Nat → Int32} {b : Nat} : cdW B b 0 = 0 := by rw [cdW]
theorem cdW_s {B : Nat → Int32} {b k : Nat} : cdW B b (k + 1) = (cdW B b k <<< ((5 : Int32).toInt64 &&& 63)) + (B (b + k) - 97 + 1).toInt64 := by rw [cdW]
/-- a thing's code -/
def cdT (B : Nat → Int32) (N b : Nat) : Int64 := if atP B N b 97 122 ∧ nxE B N b - b ≤ 12 then cdW B b (nxE B N b - b) else 0
theorem skp_all {lo hi : Int32} {B : Nat → Int32} {N : Nat} : ∀ (fu i : Nat), N - i < fu → ∀ j, i ≤ j → j < skp lo hi B N i → j < N ∧ ¬ B j < lo ∧ ¬ hi < B j := by
  intro fu
  induction fu with
  | zero => intro i h; omega
  | succ fu ih =>
    intro i hf j h1 h2
    by_cases h : i < N ∧ ¬ B i < lo ∧ ¬ hi < B i
    · by_cases e : j = i
      · rw [e]; exact h
      · rw [skp_t h] at h2
        exact ih (i + 1) (by omega) j (by omega) h2
    · rw [skp_f h] at h2; omega
theorem nxE_w {B : Nat → Int32} {N b : Nat} (h : atP B N b 97 122) : nxE B N b = fin B N b ∧ b < fin B N b := by
  have h1 : fin B N b = skp 97 122 B N (b + 1) := skp_t h
  have h2 : b + 1 ≤ skp 97 122 B N (b + 1) := skp_ge1 (by have := h.1; omega)
  have h3 : b < fin B N b := by omega
  exact ⟨if_neg (fun q => by omega), h3⟩
theorem lp_X4_codeOfThing_30 {E : gE} (X : Gc G E "ComplaintDesk$Tape" cX4_codeOfThing 4 3 0 0) (F : gF E M_X4_codeOfThing) (D : kW G Z) (N b : Nat) (hN : T 0 = nI N) (hN4 : N ≤ 400) (hbN : b ≤ N) (hby : ∀ i, vp_nar .byte (Ar 27 i) = Ar 27 i) (hT1 : T 1 = nI b) (hT2 : T 2 = nI (nxE (Ar 27) N b)) (hw : atP (Ar 27) N b 97 122) : ∀ (f : Nat) (k : Nat), k ≤ nxE (Ar 27) N b - b → nxE (Ar 27) N b - b - k < f → GW G E (gMQ G E 0 0 (rX (some (.long (cdW (Ar 27) b (nxE (Ar 27) N b - b)))) (kH G Z I Ar T A Lg h0))) 4 30 [(3, .int (nI (b + k))), (1, .long (cdW (Ar 27) b k)), (0, .ref (Z.da 2))] [] (kH G Z I Ar T A Lg h0) 0 0 := by
  intro f
  induction f with
  | zero => intro k hk hf; exact absurd hf (Nat.not_lt_zero _)
  | succ f ih =>
    intro k hk hf
    obtain ⟨hx1, hx2⟩ := nxE_w hw
    have hx3 : fin (Ar 27) N b ≤ N := skp_le1 hbN
    rw [hx1] at hT2 hk hf ⊢
    refine g_iload_n X dX4_codeOfThing_30 0 rfl ?_
    refine g_aload_n X dX4_codeOfThing_31 2 rfl ?_
    refine g_getfield X fl_X4_25 dX4_codeOfThing_32 (kL2 D) rfl ?_
    refine g_eqi (y := nI (fin (Ar 27) N b)) (hT2) ?_
    refine g_icmp_ge X 60 dX4_codeOfThing_35 (by decide) (fun c_35 => ?_) (fun c_35 => ?_)
    · have hge : fin (Ar 27) N b ≤ b + k := (nI_leI (by omega) (by omega)).mp c_35
      have ek : k = fin (Ar 27) N b - b := by omega
      refine g_lload_n X dX4_codeOfThing_60 1 rfl ?_
      refine g_lret X F rfl dX4_codeOfThing_61 (Nat.zero_le _) (Nat.zero_le _) ?_
      rw [← ek]
      exact ⟨rfl, rfl⟩
    · have hlt : b + k < fin (Ar 27) N b := nI_lt_of c_35 (by omega) (by omega)
      refine g_lload_n X dX4_codeOfThing_38 1 rfl ?_
      refine g_iconst X (v := 5) dX4_codeOfThing_39 ki_5 ?_
      refine g_lshl X dX4_codeOfThing_40 ?_
      refine g_aload_n X dX4_codeOfThing_41 2 rfl ?_
      refine g_iload_n X dX4_codeOfThing_42 0 rfl ?_
      refine g_cV X ml_X4_28 (c_X4_byteAt D N (b + k) hN hN4 (by omega)) ⟨4, _, kL2 D, rfl⟩ (Nat.le_of_ble_eq_true rfl) rfl rfl (Nat.le_of_ble_eq_true rfl) (Nat.zero_le _) (Nat.zero_le _) dX4_codeOfThing_43 ?_
      refine g_eqi (y := Ar 27 (b + k)) (by
  have z1 := skp_all (lo := 97) (hi := 122) (B := Ar 27) (N := N) _ b (Nat.lt_succ_self _) (b + k) (by omega) (by omega)
  unfold byV; rw [if_pos z1.1]; exact byt_s (hby _) z1.2.1) ?_
      refine g_bipush X (v := 97) dX4_codeOfThing_46 kb_97 ?_
      refine g_isub X dX4_codeOfThing_48 ?_
      refine g_iconst X (v := 1) dX4_codeOfThing_49 ki_1 ?_
      refine g_iadd X dX4_codeOfThing_50 ?_
      refine g_i2l X dX4_codeOfThing_51 ?_
      refine g_ladd X dX4_codeOfThing_52 ?_
      refine g_eql (y := cdW (Ar 27) b (k + 1)) (cdW_s.symm) ?_
      refine g_lstore_n X dX4_codeOfThing_53 (Nat.le_of_ble_eq_true rfl) [(1, _), (3, _), (0, _)] rfl ?_
      refine g_iinc X (v := nI (b + (k + 1))) dX4_codeOfThing_54 1 rfl (nI_1 _) (Nat.le_of_ble_eq_true rfl) [(3, _), (1, _), (0, _)] rfl ?_
      refine g_goto X 30 dX4_codeOfThing_57 (by decide) ?_
      refine g_L [0, 1, 2] (L' := [(3, _), (1, _), (0, _)]) rfl ?_
      rw [hx1] at ih
      exact ih (k + 1) (by omega) (by omega)
theorem c_X4_codeOfThing (D : kW G Z) (N b : Nat) (hN : T 0 = nI N) (hN4 : N ≤ 400) (hbN : b ≤ N) (hby : ∀ i, vp_nar .byte (Ar 27 i) = Ar 27 i) (hT1 : T 1 = nI b) (hT2 : T 2 = nI (nxE (Ar 27) N b))  : Ct G l 3 0 0 M_X4_codeOfThing [.ref (Z.da 2)] (kH G Z I Ar T A Lg h0) (rX (some (.long (cdT (Ar 27) N b))) (kH G Z I Ar T A Lg h0)) := by
  refine Ct.of (by decide +kernel) (Nat.le_of_ble_eq_true rfl) (fun E hE X F => ?_)
  have X : Gc G E "ComplaintDesk$Tape" cX4_codeOfThing 4 3 0 0 := X
  show GW G E _ 4 0 [(0, _)] [] _ 0 0
  refine g_aload_n X dX4_codeOfThing_0 0 rfl ?_
  refine g_cV X ml_X4_36 (c_X4_isWord D N b hN hN4 (by omega) hby hT1) ⟨4, _, kL2 D, rfl⟩ (Nat.le_of_ble_eq_true rfl) rfl rfl (Nat.le_of_ble_eq_true rfl) (Nat.zero_le _) (Nat.zero_le _) dX4_codeOfThing_1 ?_
  refine g_if_eq X 21 dX4_codeOfThing_4 (by decide) (fun c_4 => ?_) (fun c_4 => ?_)
  · refine g_lconst X (v := 0) dX4_codeOfThing_21 rfl ?_
    refine g_lret X F rfl dX4_codeOfThing_22 (Nat.zero_le _) (Nat.zero_le _) ?_
    exact ⟨by unfold cdT; rw [if_neg (fun q => b2_0.mp c_4 q.1)], rfl⟩
  · have hw : atP (Ar 27) N b 97 122 := b2_1.mp (b2_c.resolve_left c_4)
    obtain ⟨hx1, hx2⟩ := nxE_w hw
    have hx3 : fin (Ar 27) N b ≤ N := skp_le1 hbN
    refine g_aload_n X dX4_codeOfThing_7 0 rfl ?_
    refine g_getfield X fl_X4_25 dX4_codeOfThing_8 (kL2 D) rfl ?_
    refine g_eqi (y := nI (nxE (Ar 27) N b)) (hT2) ?_
    refine g_aload_n X dX4_codeOfThing_11 0 rfl ?_
    refine g_getfield X fl_X4_22 dX4_codeOfThing_12 (kL2 D) rfl ?_
    refine g_eqi (y := nI b) (hT1) ?_
    refine g_isub X dX4_codeOfThing_15 ?_
    refine g_eqi (y := nI (nxE (Ar 27) N b - b)) (pk_sub (by rw [hx1]; omega)) ?_
    refine g_bipush X (v := 12) dX4_codeOfThing_16 kb_12 ?_
    refine g_icmp_le X 23 dX4_codeOfThing_18 (by decide) (fun c_18 => ?_) (fun c_18 => ?_)
    · refine g_lconst X (v := 0) dX4_codeOfThing_23 rfl ?_
      refine g_lstore_n X dX4_codeOfThing_24 (Nat.le_of_ble_eq_true rfl) [(1, _), (0, _)] rfl ?_
      refine g_aload_n X dX4_codeOfThing_25 1 rfl ?_
      refine g_getfield X fl_X4_22 dX4_codeOfThing_26 (kL2 D) rfl ?_
      refine g_eqi (y := nI (b + 0)) (hT1) ?_
      refine g_istore_n X dX4_codeOfThing_29 (Nat.le_of_ble_eq_true rfl) [(3, _), (1, _), (0, _)] rfl ?_
      refine g_L [0, 1, 2] (L' := [(3, _), (1, _), (0, _)]) rfl ?_
      have hle : nxE (Ar 27) N b - b ≤ 12 := (nI_leI (by omega) (by decide)).mp c_18
      refine g_L [0, 1, 2] (L' := [(3, _), (1, .long (cdW (Ar 27) b 0)), (0, _)]) (by rw [cdW_0]; rfl) ?_
      rw [show cdT (Ar 27) N b = cdW (Ar 27) b (nxE (Ar 27) N b - b) from if_pos ⟨hw, hle⟩]
      exact lp_X4_codeOfThing_30 X F D N b hN hN4 hbN hby hT1 hT2 hw _ 0 (Nat.zero_le _) (Nat.lt_succ_self _)
    · refine g_lconst X (v := 0) dX4_codeOfThing_21 rfl ?_
      refine g_lret X F rfl dX4_codeOfThing_22 (Nat.zero_le _) (Nat.zero_le _) ?_
      exact ⟨by unfold cdT; rw [if_neg (fun q => c_18 ((nI_leI (a := nxE (Ar 27) N b - b) (b := 12) (by omega) (by omega)).mpr q.2))], rfl⟩
end K20
