section K9
variable {G : gG} {l : Launch} {h h0 : hW} {Z : kZ} {I : Nat → Int32} {Ar : Nat → Nat → Int32} {T : Nat → Int32} {A : Nat → Nat → Int32} {Lg : Nat → Nat → Int64}
theorem bc11 : ∀ s : Nat, s < 1024 → bcF (nI s) < 11 := by decide +kernel
theorem bit0 : ∀ k : Nat, k ≤ 12 → (nI 0 >>> (nI k &&& 31)) &&& 1 = 0 := by decide +kernel
theorem hasF_z {Ar : Nat → Nat → Int32} : ∀ n, n ≤ 12 → hasF Ar 0 n = 0
  | 0, _ => hasF_0
  | n + 1, h => by
    rw [hasF_s, hasF_z n (by omega), if_neg (by rw [bit0 n (by omega)]; decide)]; rfl
theorem bestS_1 {Ar : Nat → Nat → Int32} {nt : Nat} {nd : Int32} (hnt : nt ≤ 10) (h0 : ¬ nd = 0) : bestS Ar nt nd 1 = none := by
  rw [show (1 : Nat) = 0 + 1 from rfl, bestS_s, bestS_0]
  refine if_neg (fun q => h0 ?_)
  unfold covP at q
  rw [hasF_z nt (by omega), show ((0 : Int32) ^^^ -1) = -1 by decide] at q
  simpa using q
def fsF (x : Option Nat) : Int32 := match x with
  | none => 11
  | some j => bcF (nI j)
theorem lp_X6_fewestTemplates_15 {E : gE} (X : Gc G E "ComplaintDesk" cX6_fewestTemplates 6 1 0 0) (F : gF E M_X6_fewestTemplates) (D : kW G Z) (w : Int32) (nt : Nat) (hnt : nt ≤ 10) (hI : I 26 = nI nt) (h1 : ¬ w = -1) (h0w : ¬ w = 0) : ∀ (f : Nat) (s : Nat), s ≤ 2 ^ nt → 2 ^ nt - s < f → GW G E (gMQ G E 0 0 (rX (some (.int (enO (bestS Ar nt w (2 ^ nt))))) (kH G Z I Ar T A Lg h0))) 6 15 [(4, .int (nI s)), (2, .int (enO (bestS Ar nt w s))), (3, .int (fsF (bestS Ar nt w s))), (0, .ref (Z.da 1)), (1, .int w)] [] (kH G Z I Ar T A Lg h0) 0 0 := by
  intro f
  induction f with
  | zero => intro s hs hf; exact absurd hf (Nat.not_lt_zero _)
  | succ f ih =>
    intro s hs hf
    have h2 : 2 ^ nt ≤ 1024 := Nat.pow_le_pow_right (by decide) hnt
    refine g_iload X dX6_fewestTemplates_15 0 rfl ?_
    refine g_iconst X (v := 1) dX6_fewestTemplates_17 ki_1 ?_
    refine g_aload_n X dX6_fewestTemplates_18 3 rfl ?_
    refine g_getfield X fl_X6_47 dX6_fewestTemplates_19 (kL1 D) rfl ?_
    refine g_ishl X dX6_fewestTemplates_22 ?_
    refine g_eqi (y := nI (2 ^ nt)) (by rw [hI]; exact shl1 nt (by omega)) ?_
    refine g_icmp_ge X 64 dX6_fewestTemplates_23 (by decide) (fun c_23 => ?_) (fun c_23 => ?_)
    · have hge : 2 ^ nt ≤ s := (nI_leI (by omega) (by omega)).mp c_23
      have hq : s = 2 ^ nt := by omega
      subst hq
      refine g_iload_n X dX6_fewestTemplates_64 1 rfl ?_
      refine g_iret X F rfl rfl dX6_fewestTemplates_65 (Nat.zero_le _) (Nat.zero_le _) ?_
      exact ⟨rfl, rfl⟩
    · have hlt : s < 2 ^ nt := nI_lt_of c_23 (by omega) (by omega)
      refine g_iload X dX6_fewestTemplates_26 0 rfl ?_
      refine g_cS X ml_X6_274 (c_J6_bitCount_0f7a4 _) (Nat.le_of_ble_eq_true rfl) rfl rfl (Nat.le_of_ble_eq_true rfl) (Nat.zero_le _) (Nat.zero_le _) dX6_fewestTemplates_28 ?_
      refine g_istore X dX6_fewestTemplates_31 (Nat.le_of_ble_eq_true rfl) [(5, _), (4, _), (2, _), (3, _), (0, _), (1, _)] rfl ?_
      refine g_iload X dX6_fewestTemplates_33 0 rfl ?_
      refine g_iload_n X dX6_fewestTemplates_35 3 rfl ?_
      refine g_icmp_ge X 58 dX6_fewestTemplates_36 (by decide) (fun c_36 => ?_) (fun c_36 => ?_)
      · refine g_iinc X (v := nI (s + 1)) dX6_fewestTemplates_58 1 rfl (nI_1 s) (Nat.le_of_ble_eq_true rfl) [(4, _), (5, _), (2, _), (3, _), (0, _), (1, _)] rfl ?_
        refine g_goto X 15 dX6_fewestTemplates_61 (by decide) ?_
        refine g_L [0, 2, 3, 4, 5] (L' := [(4, _), (2, _), (3, _), (0, _), (1, _)]) rfl ?_
        have e1 : bestS Ar nt w (s + 1) = bestS Ar nt w s := by
          rw [bestS_s]
          cases hb : bestS Ar nt w s with
          | none => rw [hb] at c_36; exact absurd c_36 (Int32.not_le.mpr (bc11 s (by omega)))
          | some b2x => rw [hb] at c_36; exact if_neg (fun q => absurd q.2 (Int32.not_lt.mpr c_36))
        refine g_L [0, 1, 2, 3, 4] (L' := [(4, _), (2, .int (enO (bestS Ar nt w (s + 1)))), (3, .int (fsF (bestS Ar nt w (s + 1)))), (0, _), (1, _)]) (by rw [e1]; rfl) ?_
        exact ih (s + 1) (by omega) (by omega)
      · refine g_iload_n X dX6_fewestTemplates_39 5 rfl ?_
        refine g_aload_n X dX6_fewestTemplates_40 4 rfl ?_
        refine g_iload X dX6_fewestTemplates_41 1 rfl ?_
        refine g_cV X ml_X6_279 (c_X6_causesOfSet D s nt hnt hI) ⟨6, _, kL1 D, rfl⟩ (Nat.le_of_ble_eq_true rfl) rfl rfl (Nat.le_of_ble_eq_true rfl) (Nat.zero_le _) (Nat.zero_le _) dX6_fewestTemplates_43 ?_
        refine g_iconst X (v := (-1)) dX6_fewestTemplates_46 ki_m1 ?_
        refine g_ixor X dX6_fewestTemplates_47 ?_
        refine g_iand X dX6_fewestTemplates_48 ?_
        refine g_if_ne X 58 dX6_fewestTemplates_49 (by decide) (fun c_49 => ?_) (fun c_49 => ?_)
        · refine g_iinc X (v := nI (s + 1)) dX6_fewestTemplates_58 1 rfl (nI_1 s) (Nat.le_of_ble_eq_true rfl) [(4, _), (5, _), (2, _), (3, _), (0, _), (1, _)] rfl ?_
          refine g_goto X 15 dX6_fewestTemplates_61 (by decide) ?_
          refine g_L [0, 2, 3, 4, 5] (L' := [(4, _), (2, _), (3, _), (0, _), (1, _)]) rfl ?_
          have e1 : bestS Ar nt w (s + 1) = bestS Ar nt w s := by
            rw [bestS_s]
            cases hb : bestS Ar nt w s with
            | none => exact if_neg c_49
            | some b2x => exact if_neg (fun q => c_49 q.1)
          refine g_L [0, 1, 2, 3, 4] (L' := [(4, _), (2, .int (enO (bestS Ar nt w (s + 1)))), (3, .int (fsF (bestS Ar nt w (s + 1)))), (0, _), (1, _)]) (by rw [e1]; rfl) ?_
          exact ih (s + 1) (by omega) (by omega)
        · refine g_iload X dX6_fewestTemplates_52 1 rfl ?_
          refine g_istore_n X dX6_fewestTemplates_54 (Nat.le_of_ble_eq_true rfl) [(2, _), (5, _), (4, _), (3, _), (0, _), (1, _)] rfl ?_
          refine g_iload X dX6_fewestTemplates_55 1 rfl ?_
          refine g_istore_n X dX6_fewestTemplates_57 (Nat.le_of_ble_eq_true rfl) [(3, _), (2, _), (5, _), (4, _), (0, _), (1, _)] rfl ?_
          refine g_iinc X (v := nI (s + 1)) dX6_fewestTemplates_58 3 rfl (nI_1 s) (Nat.le_of_ble_eq_true rfl) [(4, _), (3, _), (2, _), (5, _), (0, _), (1, _)] rfl ?_
          refine g_goto X 15 dX6_fewestTemplates_61 (by decide) ?_
          refine g_L [0, 2, 1, 4, 5] (L' := [(4, _), (2, _), (3, _), (0, _), (1, _)]) rfl ?_
          have e1 : bestS Ar nt w (s + 1) = some s := by
            rw [bestS_s]
            cases hb : bestS Ar nt w s with
            | none => exact if_pos c_49
            | some b2x => rw [hb] at c_36; exact if_pos ⟨c_49, Int32.not_le.mp c_36⟩
          refine g_L [0, 1, 2, 3, 4] (L' := [(4, _), (2, .int (enO (bestS Ar nt w (s + 1)))), (3, .int (fsF (bestS Ar nt w (s + 1)))), (0, _), (1, _)]) (by rw [e1]; rfl) ?_
          exact ih (s + 1) (by omega) (by omega)
theorem c_X6_fewestTemplates (D : kW G Z) (w : Int32) (nt : Nat) (hnt : nt ≤ 10) (hI : I 26 = nI nt) (h1 : ¬ w = -1) (h0w : ¬ w = 0)  : Ct G l 1 0 0 M_X6_fewestTemplates [.ref (Z.da 1), .int w] (kH G Z I Ar T A Lg h0) (rX (some (.int (enO (bestS Ar nt w (2 ^ nt))))) (kH G Z I Ar T A Lg h0)) := by
  refine Ct.of (by decide +kernel) (Nat.le_of_ble_eq_true rfl) (fun E hE X F => ?_)
  have X : Gc G E "ComplaintDesk" cX6_fewestTemplates 6 1 0 0 := X
  show GW G E _ 6 0 [(0, _), (1, _)] [] _ 0 0
  refine g_iload_n X dX6_fewestTemplates_0 1 rfl ?_
  refine g_iconst X (v := (-1)) dX6_fewestTemplates_1 ki_m1 ?_
  refine g_icmp_ne X 7 dX6_fewestTemplates_2 (by decide) (fun c_2 => ?_) (fun c_2 => absurd (by first | exact c_2 | exact Classical.not_not.mp c_2) h1)
  refine g_iconst X (v := (-1)) dX6_fewestTemplates_7 ki_m1 ?_
  refine g_istore_n X dX6_fewestTemplates_8 (Nat.le_of_ble_eq_true rfl) [(2, _), (0, _), (1, _)] rfl ?_
  refine g_bipush X (v := 11) dX6_fewestTemplates_9 kb_11 ?_
  refine g_istore_n X dX6_fewestTemplates_11 (Nat.le_of_ble_eq_true rfl) [(3, _), (2, _), (0, _), (1, _)] rfl ?_
  refine g_iconst X (v := 1) dX6_fewestTemplates_12 ki_1 ?_
  refine g_istore X dX6_fewestTemplates_13 (Nat.le_of_ble_eq_true rfl) [(4, _), (3, _), (2, _), (0, _), (1, _)] rfl ?_
  refine g_L [0, 2, 1, 3, 4] (L' := [(4, _), (2, _), (3, _), (0, _), (1, _)]) rfl ?_
  refine g_L [0, 1, 2, 3, 4] (L' := [(4, .int (nI 1)), (2, .int (enO (bestS Ar nt w 1))), (3, .int (fsF (bestS Ar nt w 1))), (0, _), (1, _)]) (by rw [bestS_1 hnt h0w]; rfl) ?_
  exact lp_X6_fewestTemplates_15 X F D w nt hnt hI h1 h0w _ 1 (Nat.one_le_two_pow) (Nat.lt_succ_self _)
theorem c_X6_fewestTemplates_n  : Ct G l 1 0 0 M_X6_fewestTemplates [.ref (Z.da 1), .int (-1)] h (rX (some (.int (-1))) h) := by
  refine Ct.of (by decide +kernel) (Nat.le_of_ble_eq_true rfl) (fun E hE X F => ?_)
  have X : Gc G E "ComplaintDesk" cX6_fewestTemplates 6 1 0 0 := X
  show GW G E _ 6 0 [(0, _), (1, _)] [] _ 0 0
  refine g_iload_n X dX6_fewestTemplates_0 1 rfl ?_
  refine g_iconst X (v := (-1)) dX6_fewestTemplates_1 ki_m1 ?_
  refine g_icmp_ne X 7 dX6_fewestTemplates_2 (by decide) (fun c_2 => absurd rfl c_2) (fun c_2 => ?_)
  refine g_iconst X (v := (-1)) dX6_fewestTemplates_5 ki_m1 ?_
  refine g_iret X F rfl rfl dX6_fewestTemplates_6 (Nat.zero_le _) (Nat.zero_le _) ?_
  exact ⟨rfl, rfl⟩
end K9
