section M7
variable {G : gG} {l : Launch} {ix : Nat → Nat} {m : Nat} {ad : Nat → Nat} {I : Nat → Int32} {Ar : Nat → Nat → Int32} {h0 h : hW}
theorem g_ldcw {E : gE} {own : String} {cc : ByteArray} {nL lv mc ms pc k n : Nat} {Q : State → Prop} {L : List (Nat × Value)} {st : List Value} (X : Gc G E own cc nL lv mc ms) {idx : Nat} {v : Int32} (d : decode cc pc = .ok (.ldc_w idx, 3)) (hc : Cond.constant own idx v ∈ uw) (K : GW G E Q nL (pc + 3) L (.int v :: st) h k n) : GW G E Q nL pc L st h k n :=
  fun H locs ls a b c => lv_ldcw X.1 X.2.1 X.2.2.2.1 (X.2.2.2.2.1 _ hc) d (K H locs ls a b c)
/-- one point on one day, of (kept, all) -/
abbrev ltS (I : Nat → Int32) (Ar : Nat → Nat → Int32) (d e : Int32) (k : Nat) (s : Int32 × Int32) : Int32 × Int32 :=
  if isOfP I Ar d k ∧ Ar 23 k = e then (s.1 + (if s.1 < Ar 12 (cl d) * (e - I 1) then 1 else 0), s.2 + 1) else s
def ltK (I : Nat → Int32) (Ar : Nat → Nat → Int32) (d e : Int32) (s0 : Int32 × Int32) : Nat → Int32 × Int32
  | 0 => s0
  | k + 1 => ltS I Ar d e k (ltK I Ar d e s0 k)
termination_by n => n
theorem ltK_0 {I : Nat → Int32} {Ar : Nat → Nat → Int32} {d e : Int32} {s0 : Int32 × Int32} : ltK I Ar d e s0 0 = s0 := by rw [ltK]
theorem ltK_s {I : Nat → Int32} {Ar : Nat → Nat → Int32} {d e : Int32} {s0 : Int32 × Int32} {k : Nat} : ltK I Ar d e s0 (k + 1) = ltS I Ar d e k (ltK I Ar d e s0 k) := by rw [ltK]
def ltD (I : Nat → Int32) (Ar : Nat → Nat → Int32) (d : Int32) (N : Nat) : Nat → Int32 × Int32
  | 0 => (0, 0)
  | e + 1 => ltK I Ar d (nI e) (ltD I Ar d N e) N
termination_by n => n
theorem ltD_0 {I : Nat → Int32} {Ar : Nat → Nat → Int32} {d : Int32} {N : Nat} : ltD I Ar d N 0 = (0, 0) := by rw [ltD]
theorem ltD_s {I : Nat → Int32} {Ar : Nat → Nat → Int32} {d : Int32} {N e : Nat} : ltD I Ar d N (e + 1) = ltK I Ar d (nI e) (ltD I Ar d N e) N := by rw [ltD]
theorem lp_X7_late_37 {E : gE} (X : Gc G E "ComplaintDeskModel" cX7_late 6 2 0 0) {Q : State → Prop} (D : md ix m ad) (d e : Int32) (hdv : vp_in d 4) (hC : ∀ k, k < 480 → Ar 22 k < 12) (s0 : Int32 × Int32) (K : GW G E Q 6 105 [(0, .ref m), (1, .int d), (2, .int (ltK I Ar d e s0 480).1), (3, .int (ltK I Ar d e s0 480).2), (4, .int e)] [] (mH G ix ad (t0 I) Ar h0) 0 0) : ∀ (f : Nat) (k : Nat), k ≤ 480 → 480 - k < f → GW G E Q 6 37 [(0, .ref m), (1, .int d), (2, .int (ltK I Ar d e s0 k).1), (3, .int (ltK I Ar d e s0 k).2), (4, .int e), (5, .int (nI k))] [] (mH G ix ad (t0 I) Ar h0) 0 0 := by
  intro f
  induction f with
  | zero => intro k hk hf; exact absurd hf (Nat.not_lt_zero _)
  | succ f ih =>
    intro k hk hf
    refine g_iload X dX7_late_37 5 rfl ?_
    refine g_sipush X (v := 480) dX7_late_39 ks_480 ?_
    refine g_icmp_ge X 105 dX7_late_42 (by decide) (fun c_42 => ?_) (fun c_42 => ?_)
    · have hk : k = 480 := by have := ge_lit (N := 480) rfl c_42 (by omega); omega
      subst hk
      refine g_L [0, 1, 2, 3, 4] (L' := [(0, _), (1, _), (2, _), (3, _), (4, _)]) rfl ?_
      exact K
    · have hk8 : k < 480 := lt_lit (N := 480) rfl (Int32.not_le.mp c_42) (by omega)
      refine g_aload_n X dX7_late_45 0 rfl ?_
      refine g_iload_n X dX7_late_46 1 rfl ?_
      refine g_iload X dX7_late_47 5 rfl ?_
      refine g_cV X ml_X7_204 (c_X7_isOf (I := t0 I) D d k hk8 (hC k hk8)) ⟨7, _, mLm D, rfl⟩ (Nat.le_of_ble_eq_true rfl) rfl rfl (Nat.le_of_ble_eq_true rfl) (Nat.zero_le _) (Nat.zero_le _) dX7_late_49 ?_
      refine g_if_eq X 99 dX7_late_52 (by decide) (fun c_52 => ?_) (fun c_52 => ?_)
      · have e1 : ltK I Ar d e s0 (k + 1) = ltK I Ar d e s0 k := by rw [ltK_s]; exact if_neg (fun q => b2_0.mp c_52 q.1)
        refine g_iinc X (v := nI (k + 1)) dX7_late_99 5 rfl (nI_1 k) (Nat.le_of_ble_eq_true rfl) [(5, _), (0, _), (1, _), (2, _), (3, _), (4, _)] rfl ?_
        refine g_goto X 37 dX7_late_102 (by decide) ?_
        refine g_L [1, 2, 3, 4, 5, 0] (L' := [(0, _), (1, _), (2, _), (3, _), (4, _), (5, _)]) rfl ?_
        refine g_L [0, 1, 2, 3, 4, 5] (L' := [(0, _), (1, _), (2, .int (ltK I Ar d e s0 (k + 1)).1), (3, .int (ltK I Ar d e s0 (k + 1)).2), (4, _), (5, _)]) (by rw [e1]; rfl) ?_
        exact ih (k + 1) (by omega) (by omega)
      · have hp : isOfP I Ar d k := Decidable.not_not.mp (fun q => c_52 (b2_0.mpr q))
        refine g_aload_n X dX7_late_55 0 rfl ?_
        refine g_getfield X fl_X7_69 dX7_late_56 (mLm D) rfl ?_
        refine g_iload X dX7_late_59 5 rfl ?_
        refine g_iaload X dX7_late_61 (mLa D 23 rfl) (vp_in_nI hk8 (by decide)) ?_
        refine g_eqi (y := Ar 23 k) (by rw [nI_clamp (by omega)]) ?_
        refine g_iload X dX7_late_62 4 rfl ?_
        refine g_icmp_eq X 70 dX7_late_64 (by decide) (fun c_64 => ?_) (fun c_64 => ?_)
        · have e0 : ltK I Ar d e s0 (k + 1) = ((ltK I Ar d e s0 k).1 + (if (ltK I Ar d e s0 k).1 < Ar 12 (cl d) * (e - I 1) then 1 else 0), (ltK I Ar d e s0 k).2 + 1) := by rw [ltK_s]; exact if_pos ⟨hp, c_64⟩
          refine g_iinc X (v := _) dX7_late_70 3 rfl rfl (Nat.le_of_ble_eq_true rfl) [(3, _), (0, _), (1, _), (2, _), (4, _), (5, _)] rfl ?_
          refine g_iload_n X dX7_late_73 3 rfl ?_
          refine g_iload_n X dX7_late_74 3 rfl ?_
          refine g_aload_n X dX7_late_75 1 rfl ?_
          refine g_getfield X fl_X7_39 dX7_late_76 (mLm D) rfl ?_
          refine g_iload_n X dX7_late_79 2 rfl ?_
          refine g_iaload X dX7_late_80 (mLa D 12 rfl) hdv ?_
          refine g_iload X dX7_late_81 4 rfl ?_
          refine g_aload_n X dX7_late_83 1 rfl ?_
          refine g_getfield X fl_X7_201 dX7_late_84 (mLm D) rfl ?_
          refine g_isub X dX7_late_87 ?_
          refine g_imul X dX7_late_88 ?_
          refine g_icmp_ge X 96 dX7_late_89 (by decide) (fun c_89 => ?_) (fun c_89 => ?_)
          · have e1 : ltK I Ar d e s0 (k + 1) = ((ltK I Ar d e s0 k).1 + 0, (ltK I Ar d e s0 k).2 + 1) := by rw [e0, if_neg (show ¬ (ltK I Ar d e s0 k).1 < Ar 12 (cl d) * (e - I 1) from Int32.not_lt.mpr c_89)]
            refine g_iconst X (v := 0) dX7_late_96 ki_0 ?_
            refine g_iadd X dX7_late_97 ?_
            refine g_istore_n X dX7_late_98 (Nat.le_of_ble_eq_true rfl) [(2, _), (3, _), (0, _), (1, _), (4, _), (5, _)] rfl ?_
            refine g_iinc X (v := nI (k + 1)) dX7_late_99 5 rfl (nI_1 k) (Nat.le_of_ble_eq_true rfl) [(5, _), (2, _), (3, _), (0, _), (1, _), (4, _)] rfl ?_
            refine g_goto X 37 dX7_late_102 (by decide) ?_
            refine g_L [3, 4, 1, 2, 5, 0] (L' := [(0, _), (1, _), (2, _), (3, _), (4, _), (5, _)]) rfl ?_
            refine g_L [0, 1, 2, 3, 4, 5] (L' := [(0, _), (1, _), (2, .int (ltK I Ar d e s0 (k + 1)).1), (3, .int (ltK I Ar d e s0 (k + 1)).2), (4, _), (5, _)]) (by rw [e1]; rfl) ?_
            exact ih (k + 1) (by omega) (by omega)
          · have e1 : ltK I Ar d e s0 (k + 1) = ((ltK I Ar d e s0 k).1 + 1, (ltK I Ar d e s0 k).2 + 1) := by rw [e0, if_pos (show (ltK I Ar d e s0 k).1 < Ar 12 (cl d) * (e - I 1) from Int32.not_le.mp c_89)]
            refine g_iconst X (v := 1) dX7_late_92 ki_1 ?_
            refine g_goto X 97 dX7_late_93 (by decide) ?_
            refine g_iadd X dX7_late_97 ?_
            refine g_istore_n X dX7_late_98 (Nat.le_of_ble_eq_true rfl) [(2, _), (3, _), (0, _), (1, _), (4, _), (5, _)] rfl ?_
            refine g_iinc X (v := nI (k + 1)) dX7_late_99 5 rfl (nI_1 k) (Nat.le_of_ble_eq_true rfl) [(5, _), (2, _), (3, _), (0, _), (1, _), (4, _)] rfl ?_
            refine g_goto X 37 dX7_late_102 (by decide) ?_
            refine g_L [3, 4, 1, 2, 5, 0] (L' := [(0, _), (1, _), (2, _), (3, _), (4, _), (5, _)]) rfl ?_
            refine g_L [0, 1, 2, 3, 4, 5] (L' := [(0, _), (1, _), (2, .int (ltK I Ar d e s0 (k + 1)).1), (3, .int (ltK I Ar d e s0 (k + 1)).2), (4, _), (5, _)]) (by rw [e1]; rfl) ?_
            exact ih (k + 1) (by omega) (by omega)
        · have e1 : ltK I Ar d e s0 (k + 1) = ltK I Ar d e s0 k := by rw [ltK_s]; exact if_neg (fun q => c_64 q.2)
          refine g_goto X 99 dX7_late_67 (by decide) ?_
          refine g_iinc X (v := nI (k + 1)) dX7_late_99 5 rfl (nI_1 k) (Nat.le_of_ble_eq_true rfl) [(5, _), (0, _), (1, _), (2, _), (3, _), (4, _)] rfl ?_
          refine g_goto X 37 dX7_late_102 (by decide) ?_
          refine g_L [1, 2, 3, 4, 5, 0] (L' := [(0, _), (1, _), (2, _), (3, _), (4, _), (5, _)]) rfl ?_
          refine g_L [0, 1, 2, 3, 4, 5] (L' := [(0, _), (1, _), (2, .int (ltK I Ar d e s0 (k + 1)).1), (3, .int (ltK I Ar d e s0 (k + 1)).2), (4, _), (5, _)]) (by rw [e1]; rfl) ?_
          exact ih (k + 1) (by omega) (by omega)
theorem lp_X7_late_26 {E : gE} (X : Gc G E "ComplaintDeskModel" cX7_late 6 2 0 0) (F : gF E M_X7_late) (D : md ix m ad) (d : Int32) (hdv : vp_in d 4) (hC : ∀ k, k < 480 → Ar 22 k < 12)  : ∀ (f : Nat) (e : Nat), e ≤ 461 → 461 - e < f → GW G E (gMQ G E 0 0 (rX (some (.int ((ltD I Ar d 480 461).2 - (ltD I Ar d 480 461).1))) (mH G ix ad (t0 I) Ar h0))) 6 26 [(0, .ref m), (1, .int d), (2, .int (ltD I Ar d 480 e).1), (3, .int (ltD I Ar d 480 e).2), (4, .int (nI e))] [] (mH G ix ad (t0 I) Ar h0) 0 0 := by
  intro f
  induction f with
  | zero => intro e he hf; exact absurd hf (Nat.not_lt_zero _)
  | succ f ih =>
    intro e he hf
    refine g_iload X dX7_late_26 4 rfl ?_
    refine g_sipush X (v := 460) dX7_late_28 ks_460 ?_
    refine g_icmp_gt X 111 dX7_late_31 (by decide) (fun c_31 => ?_) (fun c_31 => ?_)
    · have hq : e = 461 := by have := gt_lit (N := 460) rfl c_31 (by omega); omega
      subst hq
      refine g_iload_n X dX7_late_111 3 rfl ?_
      refine g_iload_n X dX7_late_112 2 rfl ?_
      refine g_isub X dX7_late_113 ?_
      refine g_iret X F rfl rfl dX7_late_114 (Nat.zero_le _) (Nat.zero_le _) ?_
      exact ⟨rfl, rfl⟩
    · have hq : e ≤ 460 := le_lit (N := 460) rfl (Int32.not_lt.mp c_31) (by omega)
      refine g_iconst X (v := 0) dX7_late_34 ki_0 ?_
      refine g_istore X dX7_late_35 (Nat.le_of_ble_eq_true rfl) [(5, _), (0, _), (1, _), (2, _), (3, _), (4, _)] rfl ?_
      refine g_L [1, 2, 3, 4, 5, 0] (L' := [(0, _), (1, _), (2, _), (3, _), (4, _), (5, _)]) rfl ?_
      refine g_L [0, 1, 2, 3, 4, 5] (L' := [(0, _), (1, _), (2, .int (ltK I Ar d (nI e) (ltD I Ar d 480 e) 0).1), (3, .int (ltK I Ar d (nI e) (ltD I Ar d 480 e) 0).2), (4, _), (5, _)]) (by rw [ltK_0]; rfl) ?_
      refine lp_X7_late_37 X D d (nI e) hdv hC (ltD I Ar d 480 e) ?_ 481 0 (by omega) (by omega)
      rw [← ltD_s]
      refine g_iinc X (v := nI (e + 1)) dX7_late_105 4 rfl (nI_1 e) (Nat.le_of_ble_eq_true rfl) [(4, _), (0, _), (1, _), (2, _), (3, _)] rfl ?_
      refine g_goto X 26 dX7_late_108 (by decide) ?_
      refine g_L [1, 2, 3, 4, 0] (L' := [(0, _), (1, _), (2, _), (3, _), (4, _)]) rfl ?_
      exact ih (e + 1) (by omega) (by omega)
theorem c_X7_late_e1 (D : md ix m ad) (d : Int32) (hd : ¬ inR d 0 3)  : Ct G l 2 0 0 M_X7_late [.ref m, .int d] (mH G ix ad I Ar h0) (rX (some (.int 0)) (mH G ix ad (va_up (t0 I) 0 1) Ar h0)) := by
  refine Ct.of (by decide +kernel) (Nat.le_of_ble_eq_true rfl) (fun E hE X F => ?_)
  have X : Gc G E "ComplaintDeskModel" cX7_late 6 2 0 0 := X
  show GW G E _ 6 0 [(0, _), (1, _)] [] _ 0 0
  refine g_aload_n X dX7_late_0 0 rfl ?_
  refine g_iconst X (v := 0) dX7_late_1 ki_0 ?_
  refine m_put X D 0 (by decide) fp_X7_91 dX7_late_2 (mset_0 _ _ _) ?_
  refine g_aload_n X dX7_late_5 0 rfl ?_
  refine g_iload_n X dX7_late_6 1 rfl ?_
  refine g_cS X ml_X7_176 (c_X7_noDesk _) (Nat.le_of_ble_eq_true rfl) rfl rfl (Nat.le_of_ble_eq_true rfl) (Nat.zero_le _) (Nat.zero_le _) dX7_late_7 ?_
  refine g_eqi (y := (1 : Int32)) (b2_t hd) ?_
  refine g_iconst X (v := 1) dX7_late_10 ki_1 ?_
  refine g_cV X ml_X7_179 (c_X7_throwsIf1 D _) ⟨7, _, mLm D, rfl⟩ (Nat.le_of_ble_eq_true rfl) rfl rfl (Nat.le_of_ble_eq_true rfl) (Nat.zero_le _) (Nat.zero_le _) dX7_late_11 ?_
  refine g_if_eq X 19 dX7_late_14 (by decide) (fun c_14 => absurd c_14 (by decide)) (fun c_14 => ?_)
  refine g_iconst X (v := 0) dX7_late_17 ki_0 ?_
  refine g_iret X F rfl rfl dX7_late_18 (Nat.zero_le _) (Nat.zero_le _) ?_
  exact ⟨rfl, rfl⟩
theorem c_X7_late (D : md ix m ad) (d : Int32) (hd : inR d 0 3) (hC : ∀ k, k < 480 → Ar 22 k < 12)  : Ct G l 2 0 0 M_X7_late [.ref m, .int d] (mH G ix ad I Ar h0) (rX (some (.int ((ltD I Ar d 480 461).2 - (ltD I Ar d 480 461).1))) (mH G ix ad (t0 I) Ar h0)) := by
  refine Ct.of (by decide +kernel) (Nat.le_of_ble_eq_true rfl) (fun E hE X F => ?_)
  have X : Gc G E "ComplaintDeskModel" cX7_late 6 2 0 0 := X
  show GW G E _ 6 0 [(0, _), (1, _)] [] _ 0 0
  refine g_aload_n X dX7_late_0 0 rfl ?_
  refine g_iconst X (v := 0) dX7_late_1 ki_0 ?_
  refine m_put X D 0 (by decide) fp_X7_91 dX7_late_2 (mset_0 _ _ _) ?_
  refine g_aload_n X dX7_late_5 0 rfl ?_
  refine g_iload_n X dX7_late_6 1 rfl ?_
  refine g_cS X ml_X7_176 (c_X7_noDesk _) (Nat.le_of_ble_eq_true rfl) rfl rfl (Nat.le_of_ble_eq_true rfl) (Nat.zero_le _) (Nat.zero_le _) dX7_late_7 ?_
  refine g_eqi (y := (0 : Int32)) (b2_f (Decidable.not_not.mpr hd)) ?_
  refine g_iconst X (v := 1) dX7_late_10 ki_1 ?_
  refine g_cV X ml_X7_179 (c_X7_throwsIf0 D _) ⟨7, _, mLm D, rfl⟩ (Nat.le_of_ble_eq_true rfl) rfl rfl (Nat.le_of_ble_eq_true rfl) (Nat.zero_le _) (Nat.zero_le _) dX7_late_11 ?_
  refine g_if_eq X 19 dX7_late_14 (by decide) (fun c_14 => ?_) (fun c_14 => absurd rfl c_14)
  refine g_iconst X (v := 0) dX7_late_19 ki_0 ?_
  refine g_istore_n X dX7_late_20 (Nat.le_of_ble_eq_true rfl) [(2, _), (0, _), (1, _)] rfl ?_
  refine g_iconst X (v := 0) dX7_late_21 ki_0 ?_
  refine g_istore_n X dX7_late_22 (Nat.le_of_ble_eq_true rfl) [(3, _), (2, _), (0, _), (1, _)] rfl ?_
  refine g_iconst X (v := 0) dX7_late_23 ki_0 ?_
  refine g_istore X dX7_late_24 (Nat.le_of_ble_eq_true rfl) [(4, _), (3, _), (2, _), (0, _), (1, _)] rfl ?_
  refine g_L [3, 4, 2, 1, 0] (L' := [(0, _), (1, _), (2, _), (3, _), (4, _)]) rfl ?_
  refine g_L [0, 1, 2, 3, 4] (L' := [(0, _), (1, _), (2, .int (ltD I Ar d 480 0).1), (3, .int (ltD I Ar d 480 0).2), (4, _)]) (by rw [ltD_0]; rfl) ?_
  exact lp_X7_late_26 X F D d (by obtain ⟨j, q1, rfl⟩ := inR_nat (N := 3) (by decide) hd; exact vp_in_nI (by omega) (by decide)) hC 462 0 (by omega) (by omega)
def bcF (x : Int32) : Int32 :=
  let ush : Int32 → Int32 → Int32 := fun x y => (x.toUInt32 >>> (y.toUInt32 &&& Int32.toUInt32 31)).toInt32
  let a := x - (ush x 1 &&& 1431655765)
  let b := (a &&& 858993459) + (ush a 2 &&& 858993459)
  let c := (b + ush b 4) &&& 252645135
  let d := c + ush c 8
  let e := d + ush d 16
  e &&& 63
theorem c_J6_bitCount_0f7a4 (x : Int32) : Ct G l 0 0 0 M_J6_bitCount_0f7a4 [.int x] h (rX (some (.int (bcF x))) h) := by
  refine Ct.of (by decide +kernel) (Nat.le_of_ble_eq_true rfl) (fun E hE X F => ?_)
  have X : Gc G E "java/lang/Integer" cJ6_bitCount_0f7a4 1 0 0 0 := X
  show GW G E _ 1 0 [(0, _)] [] _ 0 0
  refine g_iload_n X dJ6_bitCount_0f7a4_0 0 rfl ?_
  refine g_iload_n X dJ6_bitCount_0f7a4_1 0 rfl ?_
  refine g_iconst X (v := 1) dJ6_bitCount_0f7a4_2 ki_1 ?_
  refine g_iushr X dJ6_bitCount_0f7a4_3 ?_
  refine g_ldcw X dJ6_bitCount_0f7a4_4 con_INT_265 ?_
  refine g_iand X dJ6_bitCount_0f7a4_7 ?_
  refine g_isub X dJ6_bitCount_0f7a4_8 ?_
  refine g_istore_n X dJ6_bitCount_0f7a4_9 (Nat.le_of_ble_eq_true rfl) [(0, _)] rfl ?_
  refine g_iload_n X dJ6_bitCount_0f7a4_10 0 rfl ?_
  refine g_ldcw X dJ6_bitCount_0f7a4_11 con_INT_266 ?_
  refine g_iand X dJ6_bitCount_0f7a4_14 ?_
  refine g_iload_n X dJ6_bitCount_0f7a4_15 0 rfl ?_
  refine g_iconst X (v := 2) dJ6_bitCount_0f7a4_16 ki_2 ?_
  refine g_iushr X dJ6_bitCount_0f7a4_17 ?_
  refine g_ldcw X dJ6_bitCount_0f7a4_18 con_INT_266 ?_
  refine g_iand X dJ6_bitCount_0f7a4_21 ?_
  refine g_iadd X dJ6_bitCount_0f7a4_22 ?_
  refine g_istore_n X dJ6_bitCount_0f7a4_23 (Nat.le_of_ble_eq_true rfl) [(0, _)] rfl ?_
  refine g_iload_n X dJ6_bitCount_0f7a4_24 0 rfl ?_
  refine g_iload_n X dJ6_bitCount_0f7a4_25 0 rfl ?_
  refine g_iconst X (v := 4) dJ6_bitCount_0f7a4_26 ki_4 ?_
  refine g_iushr X dJ6_bitCount_0f7a4_27 ?_
  refine g_iadd X dJ6_bitCount_0f7a4_28 ?_
  refine g_ldcw X dJ6_bitCount_0f7a4_29 con_INT_267 ?_
  refine g_iand X dJ6_bitCount_0f7a4_32 ?_
  refine g_istore_n X dJ6_bitCount_0f7a4_33 (Nat.le_of_ble_eq_true rfl) [(0, _)] rfl ?_
  refine g_iload_n X dJ6_bitCount_0f7a4_34 0 rfl ?_
  refine g_iload_n X dJ6_bitCount_0f7a4_35 0 rfl ?_
  refine g_bipush X (v := 8) dJ6_bitCount_0f7a4_36 kb_8 ?_
  refine g_iushr X dJ6_bitCount_0f7a4_38 ?_
  refine g_iadd X dJ6_bitCount_0f7a4_39 ?_
  refine g_istore_n X dJ6_bitCount_0f7a4_40 (Nat.le_of_ble_eq_true rfl) [(0, _)] rfl ?_
  refine g_iload_n X dJ6_bitCount_0f7a4_41 0 rfl ?_
  refine g_iload_n X dJ6_bitCount_0f7a4_42 0 rfl ?_
  refine g_bipush X (v := 16) dJ6_bitCount_0f7a4_43 kb_16 ?_
  refine g_iushr X dJ6_bitCount_0f7a4_45 ?_
  refine g_iadd X dJ6_bitCount_0f7a4_46 ?_
  refine g_istore_n X dJ6_bitCount_0f7a4_47 (Nat.le_of_ble_eq_true rfl) [(0, _)] rfl ?_
  refine g_iload_n X dJ6_bitCount_0f7a4_48 0 rfl ?_
  refine g_bipush X (v := 63) dJ6_bitCount_0f7a4_49 kb_63 ?_
  refine g_iand X dJ6_bitCount_0f7a4_51 ?_
  refine g_iret X F rfl rfl dJ6_bitCount_0f7a4_52 (Nat.zero_le _) (Nat.zero_le _) ?_
  exact ⟨rfl, rfl⟩
def needF (Ar : Nat → Nat → Int32) (a : Nat) : Nat → Option Int32
  | 0 => some 0
  | p + 1 => match needF Ar a p with
    | none => none
    | some b => if Ar 22 (6 * a + p) < 0 then none else some (b ||| (1 : Int32) <<< (Ar 22 (6 * a + p) &&& 31))
termination_by n => n
theorem needF_0 {Ar : Nat → Nat → Int32} {a : Nat} : needF Ar a 0 = some 0 := by rw [needF]
theorem needF_s {Ar : Nat → Nat → Int32} {a p : Nat} : needF Ar a (p + 1) = match needF Ar a p with
    | none => none
    | some b => if Ar 22 (6 * a + p) < 0 then none else some (b ||| (1 : Int32) <<< (Ar 22 (6 * a + p) &&& 31)) := by rw [needF]
theorem needF_none {Ar : Nat → Nat → Int32} {a p : Nat} (h : needF Ar a p = none) : ∀ j, needF Ar a (p + j) = none := by
  intro j
  induction j with
  | zero => exact h
  | succ j ih => rw [show p + (j + 1) = (p + j) + 1 from rfl, needF_s, ih]
def hasF (Ar : Nat → Nat → Int32) (s : Nat) : Nat → Int32
  | 0 => 0
  | k + 1 => hasF Ar s k ||| (if (nI s >>> (nI k &&& 31)) &&& 1 = 1 then Ar 25 k else 0)
termination_by n => n
theorem hasF_0 {Ar : Nat → Nat → Int32} {s : Nat} : hasF Ar s 0 = 0 := by rw [hasF]
theorem hasF_s {Ar : Nat → Nat → Int32} {s k : Nat} : hasF Ar s (k + 1) = hasF Ar s k ||| (if (nI s >>> (nI k &&& 31)) &&& 1 = 1 then Ar 25 k else 0) := by rw [hasF]
abbrev covP (Ar : Nat → Nat → Int32) (nt : Nat) (need : Int32) (s : Nat) : Prop := need &&& (hasF Ar s nt ^^^ -1) = 0
def bestS (Ar : Nat → Nat → Int32) (nt : Nat) (need : Int32) : Nat → Option Nat
  | 0 => none
  | s + 1 => match bestS Ar nt need s with
    | none => if covP Ar nt need s then some s else none
    | some b => if covP Ar nt need s ∧ bcF (nI s) < bcF (nI b) then some s else some b
termination_by n => n
theorem bestS_0 {Ar : Nat → Nat → Int32} {nt : Nat} {need : Int32} : bestS Ar nt need 0 = none := by rw [bestS]
theorem bestS_s {Ar : Nat → Nat → Int32} {nt : Nat} {need : Int32} {s : Nat} : bestS Ar nt need (s + 1) = match bestS Ar nt need s with
    | none => if covP Ar nt need s then some s else none
    | some b => if covP Ar nt need s ∧ bcF (nI s) < bcF (nI b) then some s else some b := by rw [bestS]
theorem bestS_lt {Ar : Nat → Nat → Int32} {nt : Nat} {need : Int32} : ∀ {s b : Nat}, bestS Ar nt need s = some b → b < s
  | 0, b, h => by rw [bestS_0] at h; cases h
  | s + 1, b, h => by
    rw [bestS_s] at h
    split at h
    · split at h
      · cases h; exact Nat.lt_succ_self _
      · cases h
    · rename_i b' hb'
      split at h
      · cases h; exact Nat.lt_succ_self _
      · cases h; exact Nat.lt_succ_of_lt (bestS_lt hb')
theorem shl1 : ∀ n : Nat, n ≤ 12 → (1 : Int32) <<< (nI n &&& 31) = nI (2 ^ n) := by decide +kernel
/-- the answer to letter a -/
def ansF (Ar : Nat → Nat → Int32) (nt a : Nat) : Int32 := match needF Ar a (cl (Ar 15 a)) with
  | none => -1
  | some b => enO (bestS Ar nt b (2 ^ nt))
theorem enO_nn2 {o : Option Nat} (h : ∀ b, o = some b → b < 2048) : enO o < 0 ↔ o = none := by
  cases o with
  | none => simp [enO]
  | some b => simp only [enO, reduceCtorEq, iff_false]; exact nI_pos (by have := h b rfl; omega)
theorem lp_X7_theAnswer_74 {E : gE} (X : Gc G E "ComplaintDeskModel" cX7_theAnswer 7 1 0 0) {Q : State → Prop} (D : md ix m ad) (nt : Nat) (hnt : nt ≤ 10) (hI : I 26 = nI nt) (x1 nd b0 : Int32) (s : Nat) (K : GW G E Q 7 116 [(0, .ref m), (1, .int x1), (2, .int nd), (3, .int b0), (4, .int (nI s)), (5, .int (hasF Ar s nt))] [] (mH G ix ad I Ar h0) 0 0) : ∀ (f : Nat) (k : Nat), k ≤ nt → nt - k < f → GW G E Q 7 74 [(0, .ref m), (1, .int x1), (2, .int nd), (3, .int b0), (4, .int (nI s)), (5, .int (hasF Ar s k)), (6, .int (nI k))] [] (mH G ix ad I Ar h0) 0 0 := by
  intro f
  induction f with
  | zero => intro k hk hf; exact absurd hf (Nat.not_lt_zero _)
  | succ f ih =>
    intro k hk hf
    refine g_iload X dX7_theAnswer_74 6 rfl ?_
    refine g_aload_n X dX7_theAnswer_76 0 rfl ?_
    refine g_getfield X fl_X7_217 dX7_theAnswer_77 (mLm D) rfl ?_
    refine g_icmp_ge X 116 dX7_theAnswer_80 (by decide) (fun c_80 => ?_) (fun c_80 => ?_)
    · have hq : k = nt := by rw [hI] at c_80; have := (nI_leI (by omega) (by omega)).mp c_80; omega
      subst hq
      refine g_L [0, 1, 2, 3, 4, 5] (L' := [(0, _), (1, _), (2, _), (3, _), (4, _), (5, _)]) rfl ?_
      exact K
    · have hq : k < nt := by rw [hI] at c_80; have := (nI_ltI (by omega) (by omega)).mp (Int32.not_le.mp c_80); omega
      refine g_iload X dX7_theAnswer_83 5 rfl ?_
      refine g_iload X dX7_theAnswer_85 4 rfl ?_
      refine g_iload X dX7_theAnswer_87 6 rfl ?_
      refine g_ishr X dX7_theAnswer_89 ?_
      refine g_iconst X (v := 1) dX7_theAnswer_90 ki_1 ?_
      refine g_iand X dX7_theAnswer_91 ?_
      refine g_iconst X (v := 1) dX7_theAnswer_92 ki_1 ?_
      refine g_icmp_ne X 106 dX7_theAnswer_93 (by decide) (fun c_93 => ?_) (fun c_93 => ?_)
      · have e1 : hasF Ar s k ||| 0 = hasF Ar s (k + 1) := by rw [hasF_s, if_neg c_93]
        refine g_iconst X (v := 0) dX7_theAnswer_106 ki_0 ?_
        refine g_ior X dX7_theAnswer_107 ?_
        refine g_eqi (y := hasF Ar s (k + 1)) (e1) ?_
        refine g_istore X dX7_theAnswer_108 (Nat.le_of_ble_eq_true rfl) [(5, _), (0, _), (1, _), (2, _), (3, _), (4, _), (6, _)] rfl ?_
        refine g_iinc X (v := nI (k + 1)) dX7_theAnswer_110 6 rfl (nI_1 k) (Nat.le_of_ble_eq_true rfl) [(6, _), (5, _), (0, _), (1, _), (2, _), (3, _), (4, _)] rfl ?_
        refine g_goto X 74 dX7_theAnswer_113 (by decide) ?_
        refine g_L [2, 3, 4, 5, 6, 1, 0] (L' := [(0, _), (1, _), (2, _), (3, _), (4, _), (5, _), (6, _)]) rfl ?_
        exact ih (k + 1) (by omega) (by omega)
      · have e1 : hasF Ar s k ||| Ar 25 k = hasF Ar s (k + 1) := by rw [hasF_s, if_pos (by first | exact c_93 | exact Decidable.not_not.mp c_93)]
        refine g_aload_n X dX7_theAnswer_96 0 rfl ?_
        refine g_getfield X fl_X7_75 dX7_theAnswer_97 (mLm D) rfl ?_
        refine g_iload X dX7_theAnswer_100 6 rfl ?_
        refine g_iaload X dX7_theAnswer_102 (mLa D 25 rfl) (vp_in_nI (by omega) (by decide)) ?_
        refine g_eqi (y := Ar 25 k) (by rw [nI_clamp (by omega)]) ?_
        refine g_goto X 107 dX7_theAnswer_103 (by decide) ?_
        refine g_ior X dX7_theAnswer_107 ?_
        refine g_eqi (y := hasF Ar s (k + 1)) (e1) ?_
        refine g_istore X dX7_theAnswer_108 (Nat.le_of_ble_eq_true rfl) [(5, _), (0, _), (1, _), (2, _), (3, _), (4, _), (6, _)] rfl ?_
        refine g_iinc X (v := nI (k + 1)) dX7_theAnswer_110 6 rfl (nI_1 k) (Nat.le_of_ble_eq_true rfl) [(6, _), (5, _), (0, _), (1, _), (2, _), (3, _), (4, _)] rfl ?_
        refine g_goto X 74 dX7_theAnswer_113 (by decide) ?_
        refine g_L [2, 3, 4, 5, 6, 1, 0] (L' := [(0, _), (1, _), (2, _), (3, _), (4, _), (5, _), (6, _)]) rfl ?_
        exact ih (k + 1) (by omega) (by omega)
theorem lp_X7_theAnswer_57 {E : gE} (X : Gc G E "ComplaintDeskModel" cX7_theAnswer 7 1 0 0) (F : gF E M_X7_theAnswer) (D : md ix m ad) (nt : Nat) (hnt : nt ≤ 10) (hI : I 26 = nI nt) (a : Nat) (nd : Int32) (hnd : needF Ar a (cl (Ar 15 a)) = some nd) : ∀ (f : Nat) (s : Nat), s ≤ 2 ^ nt → 2 ^ nt - s < f → GW G E (gMQ G E 0 0 (rX (some (.int (ansF Ar nt a))) (mH G ix ad I Ar h0))) 7 57 [(0, .ref m), (1, .int (nI a)), (2, .int nd), (3, .int (enO (bestS Ar nt nd s))), (4, .int (nI s))] [] (mH G ix ad I Ar h0) 0 0 := by
  intro f
  induction f with
  | zero => intro s hs hf; exact absurd hf (Nat.not_lt_zero _)
  | succ f ih =>
    intro s hs hf
    have h2 : 2 ^ nt ≤ 1024 := Nat.pow_le_pow_right (by decide) hnt
    refine g_iload X dX7_theAnswer_57 4 rfl ?_
    refine g_iconst X (v := 1) dX7_theAnswer_59 ki_1 ?_
    refine g_aload_n X dX7_theAnswer_60 0 rfl ?_
    refine g_getfield X fl_X7_217 dX7_theAnswer_61 (mLm D) rfl ?_
    refine g_ishl X dX7_theAnswer_64 ?_
    refine g_eqi (y := nI (2 ^ nt)) (by rw [hI]; exact shl1 nt (by omega)) ?_
    refine g_icmp_ge X 150 dX7_theAnswer_65 (by decide) (fun c_65 => ?_) (fun c_65 => ?_)
    · have hq : s = 2 ^ nt := by have := (nI_leI (by omega) (by omega)).mp c_65; omega
      rw [hq]
      refine g_iload_n X dX7_theAnswer_150 3 rfl ?_
      refine g_iret X F rfl rfl dX7_theAnswer_151 (Nat.zero_le _) (Nat.zero_le _) ?_
      exact ⟨by rw [ansF, hnd], rfl⟩
    · have hq : s < 2 ^ nt := by have := (nI_ltI (by omega) (by omega)).mp (Int32.not_le.mp c_65); omega
      refine g_iconst X (v := 0) dX7_theAnswer_68 ki_0 ?_
      refine g_istore X dX7_theAnswer_69 (Nat.le_of_ble_eq_true rfl) [(5, _), (0, _), (1, _), (2, _), (3, _), (4, _)] rfl ?_
      refine g_iconst X (v := 0) dX7_theAnswer_71 ki_0 ?_
      refine g_istore X dX7_theAnswer_72 (Nat.le_of_ble_eq_true rfl) [(6, _), (5, _), (0, _), (1, _), (2, _), (3, _), (4, _)] rfl ?_
      refine g_L [2, 3, 4, 5, 6, 1, 0] (L' := [(0, _), (1, _), (2, _), (3, _), (4, _), (5, _), (6, _)]) rfl ?_
      refine g_L [0, 1, 2, 3, 4, 5, 6] (L' := [(0, _), (1, _), (2, _), (3, _), (4, _), (5, .int (hasF Ar s 0)), (6, _)]) (by rw [hasF_0]; rfl) ?_
      refine lp_X7_theAnswer_74 X D nt hnt hI (nI a) nd (enO (bestS Ar nt nd s)) s ?_ 11 0 (by omega) (by omega)
      refine g_iload_n X dX7_theAnswer_116 2 rfl ?_
      refine g_iload X dX7_theAnswer_117 5 rfl ?_
      refine g_iconst X (v := (-1)) dX7_theAnswer_119 ki_m1 ?_
      refine g_ixor X dX7_theAnswer_120 ?_
      refine g_iand X dX7_theAnswer_121 ?_
      refine g_if_ne X 144 dX7_theAnswer_122 (by decide) (fun c_122 => ?_) (fun c_122 => ?_)
      · have e1 : bestS Ar nt nd (s + 1) = bestS Ar nt nd s := by rw [bestS_s]; have hc : ¬ covP Ar nt nd s := c_122; cases q : bestS Ar nt nd s with | none => exact if_neg hc | some b => exact if_neg (fun z => hc z.1)
        rw [← e1]
        refine g_iinc X (v := nI (s + 1)) dX7_theAnswer_144 4 rfl (nI_1 s) (Nat.le_of_ble_eq_true rfl) [(4, _), (0, _), (1, _), (2, _), (3, _), (5, _)] rfl ?_
        refine g_goto X 57 dX7_theAnswer_147 (by decide) ?_
        refine g_L [1, 2, 3, 4, 0] (L' := [(0, _), (1, _), (2, _), (3, _), (4, _)]) rfl ?_
        first | exact ih (s + 1) (by omega) (by omega) | (rw [e1]; exact ih (s + 1) (by omega) (by omega))
      · have hc : covP Ar nt nd s := by first | exact c_122 | exact Decidable.not_not.mp c_122
        refine g_iload_n X dX7_theAnswer_125 3 rfl ?_
        refine g_if_lt X 141 dX7_theAnswer_126 (by decide) (fun c_126 => ?_) (fun c_126 => ?_)
        · have e2 : bestS Ar nt nd s = none := (enO_nn2 (fun b q => by have := bestS_lt q; omega)).mp c_126
          have e1 : nI s = enO (bestS Ar nt nd (s + 1)) := by rw [bestS_s, e2]; show nI s = enO (if covP Ar nt nd s then some s else none); rw [if_pos hc]; rfl
          have e3 := e1
          refine g_iload X dX7_theAnswer_141 4 rfl ?_
          refine g_istore_n X dX7_theAnswer_143 (Nat.le_of_ble_eq_true rfl) [(3, _), (0, _), (1, _), (2, _), (4, _), (5, _)] rfl ?_
          refine g_iinc X (v := nI (s + 1)) dX7_theAnswer_144 4 rfl (nI_1 s) (Nat.le_of_ble_eq_true rfl) [(4, _), (3, _), (0, _), (1, _), (2, _), (5, _)] rfl ?_
          refine g_goto X 57 dX7_theAnswer_147 (by decide) ?_
          refine g_L [2, 3, 4, 1, 0] (L' := [(0, _), (1, _), (2, _), (3, _), (4, _)]) rfl ?_
          first | exact ih (s + 1) (by omega) (by omega) | (rw [e1]; exact ih (s + 1) (by omega) (by omega))
        · obtain ⟨b, e2⟩ : ∃ b, bestS Ar nt nd s = some b := by cases q : bestS Ar nt nd s with | none => rw [q] at c_126; exact absurd (by decide) c_126 | some b => exact ⟨b, rfl⟩
          rw [e2]
          refine g_iload X dX7_theAnswer_129 4 rfl ?_
          refine g_cS X ml_X7_220 (c_J6_bitCount_0f7a4 _) (Nat.le_of_ble_eq_true rfl) rfl rfl (Nat.le_of_ble_eq_true rfl) (Nat.zero_le _) (Nat.zero_le _) dX7_theAnswer_131 ?_
          refine g_iload_n X dX7_theAnswer_134 3 rfl ?_
          refine g_cS X ml_X7_220 (c_J6_bitCount_0f7a4 _) (Nat.le_of_ble_eq_true rfl) rfl rfl (Nat.le_of_ble_eq_true rfl) (Nat.zero_le _) (Nat.zero_le _) dX7_theAnswer_135 ?_
          refine g_icmp_ge X 144 dX7_theAnswer_138 (by decide) (fun c_138 => ?_) (fun c_138 => ?_)
          · have e1 : bestS Ar nt nd (s + 1) = some b := by rw [bestS_s, e2]; exact if_neg (fun z => Int32.not_lt.mpr c_138 z.2)
            rw [← e1]
            refine g_iinc X (v := nI (s + 1)) dX7_theAnswer_144 4 rfl (nI_1 s) (Nat.le_of_ble_eq_true rfl) [(4, _), (0, _), (1, _), (2, _), (3, _), (5, _)] rfl ?_
            refine g_goto X 57 dX7_theAnswer_147 (by decide) ?_
            refine g_L [1, 2, 3, 4, 0] (L' := [(0, _), (1, _), (2, _), (3, _), (4, _)]) rfl ?_
            first | exact ih (s + 1) (by omega) (by omega) | (rw [e1]; exact ih (s + 1) (by omega) (by omega))
          · have e1 : nI s = enO (bestS Ar nt nd (s + 1)) := by rw [bestS_s, e2]; show nI s = enO (if covP Ar nt nd s ∧ bcF (nI s) < bcF (nI b) then some s else some b); rw [if_pos ⟨hc, Int32.not_le.mp c_138⟩]; rfl
            have e3 := e1
            refine g_iload X dX7_theAnswer_141 4 rfl ?_
            refine g_istore_n X dX7_theAnswer_143 (Nat.le_of_ble_eq_true rfl) [(3, _), (0, _), (1, _), (2, _), (4, _), (5, _)] rfl ?_
            refine g_iinc X (v := nI (s + 1)) dX7_theAnswer_144 4 rfl (nI_1 s) (Nat.le_of_ble_eq_true rfl) [(4, _), (3, _), (0, _), (1, _), (2, _), (5, _)] rfl ?_
            refine g_goto X 57 dX7_theAnswer_147 (by decide) ?_
            refine g_L [2, 3, 4, 1, 0] (L' := [(0, _), (1, _), (2, _), (3, _), (4, _)]) rfl ?_
            first | exact ih (s + 1) (by omega) (by omega) | (rw [e1]; exact ih (s + 1) (by omega) (by omega))
theorem lp_X7_theAnswer_4 {E : gE} (X : Gc G E "ComplaintDeskModel" cX7_theAnswer 7 1 0 0) (F : gF E M_X7_theAnswer) (D : md ix m ad) (nt : Nat) (hnt : nt ≤ 10) (hI : I 26 = nI nt) (a : Nat) (ha : a < 80) (hP : okN (Ar 15 a) 6)  : ∀ (f : Nat) (p : Nat) (nd : Int32), p ≤ cl (Ar 15 a) → cl (Ar 15 a) - p < f → needF Ar a p = some nd → GW G E (gMQ G E 0 0 (rX (some (.int (ansF Ar nt a))) (mH G ix ad I Ar h0))) 7 4 [(0, .ref m), (1, .int (nI a)), (2, .int nd), (3, .int (nI p))] [] (mH G ix ad I Ar h0) 0 0 := by
  intro f
  induction f with
  | zero => intro p nd hp hf hn; exact absurd hf (Nat.not_lt_zero _)
  | succ f ih =>
    intro p nd hp hf hn
    have hp6 := hP.le
    refine g_iload_n X dX7_theAnswer_4 3 rfl ?_
    refine g_aload_n X dX7_theAnswer_5 0 rfl ?_
    refine g_getfield X fl_X7_48 dX7_theAnswer_6 (mLm D) rfl ?_
    refine g_iload_n X dX7_theAnswer_9 1 rfl ?_
    refine g_iaload X dX7_theAnswer_10 (mLa D 15 rfl) (vp_in_nI (by omega) (by decide)) ?_
    refine g_eqi (y := Ar 15 a) (by rw [nI_clamp (by omega)]) ?_
    refine g_icmp_ge X 52 dX7_theAnswer_11 (by decide) (fun c_11 => ?_) (fun c_11 => ?_)
    · have hq : p = cl (Ar 15 a) := by have := hP.ge c_11 (by omega); omega
      subst hq
      refine g_iconst X (v := (-1)) dX7_theAnswer_52 ki_m1 ?_
      refine g_istore_n X dX7_theAnswer_53 (Nat.le_of_ble_eq_true rfl) [(3, _), (0, _), (1, _), (2, _)] rfl ?_
      refine g_iconst X (v := 0) dX7_theAnswer_54 ki_0 ?_
      refine g_istore X dX7_theAnswer_55 (Nat.le_of_ble_eq_true rfl) [(4, _), (3, _), (0, _), (1, _), (2, _)] rfl ?_
      refine g_L [2, 3, 4, 1, 0] (L' := [(0, _), (1, _), (2, _), (3, _), (4, _)]) rfl ?_
      refine g_L [0, 1, 2, 3, 4] (L' := [(0, _), (1, _), (2, _), (3, .int (enO (bestS Ar nt nd 0))), (4, _)]) (by rw [bestS_0]; rfl) ?_
      exact lp_X7_theAnswer_57 X F D nt hnt hI a nd hn _ 0 (Nat.zero_le _) (Nat.lt_succ_self _)
    · have hq : p < cl (Ar 15 a) := hP.lt (Int32.not_le.mp c_11) (by omega)
      refine g_aload_n X dX7_theAnswer_14 0 rfl ?_
      refine g_getfield X fl_X7_66 dX7_theAnswer_15 (mLm D) rfl ?_
      refine g_bipush X (v := 6) dX7_theAnswer_18 kb_6 ?_
      refine g_iload_n X dX7_theAnswer_20 1 rfl ?_
      refine g_imul X dX7_theAnswer_21 ?_
      refine g_iload_n X dX7_theAnswer_22 3 rfl ?_
      refine g_iadd X dX7_theAnswer_23 ?_
      refine g_eqi (y := nI (6 * a + p)) (ix6 a p) ?_
      refine g_iaload X dX7_theAnswer_24 (mLa D 22 rfl) (vp_in_nI (by omega) (by decide)) ?_
      refine g_eqi (y := Ar 22 (6 * a + p)) (by rw [nI_clamp (by omega)]) ?_
      refine g_if_ge X 30 dX7_theAnswer_25 (by decide) (fun c_25 => ?_) (fun c_25 => ?_)
      · have hn2 : needF Ar a (p + 1) = some (nd ||| (1 : Int32) <<< (Ar 22 (6 * a + p) &&& 31)) := by rw [needF_s, hn]; exact if_neg (Int32.not_lt.mpr c_25)
        refine g_iload_n X dX7_theAnswer_30 2 rfl ?_
        refine g_iconst X (v := 1) dX7_theAnswer_31 ki_1 ?_
        refine g_aload_n X dX7_theAnswer_32 0 rfl ?_
        refine g_getfield X fl_X7_66 dX7_theAnswer_33 (mLm D) rfl ?_
        refine g_bipush X (v := 6) dX7_theAnswer_36 kb_6 ?_
        refine g_iload_n X dX7_theAnswer_38 1 rfl ?_
        refine g_imul X dX7_theAnswer_39 ?_
        refine g_iload_n X dX7_theAnswer_40 3 rfl ?_
        refine g_iadd X dX7_theAnswer_41 ?_
        refine g_eqi (y := nI (6 * a + p)) (ix6 a p) ?_
        refine g_iaload X dX7_theAnswer_42 (mLa D 22 rfl) (vp_in_nI (by omega) (by decide)) ?_
        refine g_eqi (y := Ar 22 (6 * a + p)) (by rw [nI_clamp (by omega)]) ?_
        refine g_ishl X dX7_theAnswer_43 ?_
        refine g_ior X dX7_theAnswer_44 ?_
        refine g_istore_n X dX7_theAnswer_45 (Nat.le_of_ble_eq_true rfl) [(2, _), (0, _), (1, _), (3, _)] rfl ?_
        refine g_iinc X (v := nI (p + 1)) dX7_theAnswer_46 3 rfl (nI_1 p) (Nat.le_of_ble_eq_true rfl) [(3, _), (2, _), (0, _), (1, _)] rfl ?_
        refine g_goto X 4 dX7_theAnswer_49 (by decide) ?_
        refine g_L [2, 3, 1, 0] (L' := [(0, _), (1, _), (2, _), (3, _)]) rfl ?_
        exact ih (p + 1) _ (by omega) (by omega) hn2
      · have hn2 : needF Ar a (p + 1) = none := by rw [needF_s, hn]; exact if_pos (Int32.not_le.mp c_25)
        have hn3 : needF Ar a (cl (Ar 15 a)) = none := by rw [show cl (Ar 15 a) = (p + 1) + (cl (Ar 15 a) - (p + 1)) by omega]; exact needF_none hn2 _
        refine g_iconst X (v := (-1)) dX7_theAnswer_28 ki_m1 ?_
        refine g_iret X F rfl rfl dX7_theAnswer_29 (Nat.zero_le _) (Nat.zero_le _) ?_
        exact ⟨by rw [ansF, hn3], rfl⟩
theorem c_X7_theAnswer (D : md ix m ad) (nt : Nat) (hnt : nt ≤ 10) (hI : I 26 = nI nt) (a : Nat) (ha : a < 80) (hP : okN (Ar 15 a) 6)  : Ct G l 1 0 0 M_X7_theAnswer [.ref m, .int (nI a)] (mH G ix ad I Ar h0) (rX (some (.int (ansF Ar nt a))) (mH G ix ad I Ar h0)) := by
  refine Ct.of (by decide +kernel) (Nat.le_of_ble_eq_true rfl) (fun E hE X F => ?_)
  have X : Gc G E "ComplaintDeskModel" cX7_theAnswer 7 1 0 0 := X
  show GW G E _ 7 0 [(0, _), (1, _)] [] _ 0 0
  refine g_iconst X (v := 0) dX7_theAnswer_0 ki_0 ?_
  refine g_istore_n X dX7_theAnswer_1 (Nat.le_of_ble_eq_true rfl) [(2, _), (0, _), (1, _)] rfl ?_
  refine g_iconst X (v := 0) dX7_theAnswer_2 ki_0 ?_
  refine g_istore_n X dX7_theAnswer_3 (Nat.le_of_ble_eq_true rfl) [(3, _), (2, _), (0, _), (1, _)] rfl ?_
  refine g_L [2, 3, 1, 0] (L' := [(0, _), (1, _), (2, _), (3, _)]) rfl ?_
  exact lp_X7_theAnswer_4 X F D nt hnt hI a ha hP _ 0 0 (Nat.zero_le _) (Nat.lt_succ_self _) needF_0
end M7
