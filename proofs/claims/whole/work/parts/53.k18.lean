section K18
variable {G : gG} {l : Launch} {h h0 : hW} {Z : kZ} {I : Nat → Int32} {Ar : Nat → Nat → Int32} {T : Nat → Int32} {A : Nat → Nat → Int32} {Lg : Nat → Nat → Int64}
theorem pw1 : ∀ c : Nat, c < 12 → (1 : Int32) <<< (nI c &&& 31) = nI (2 ^ c) := by decide +kernel
theorem nI_or {x y : Nat} (hx : x < 4096) (hy : y < 4096) : nI x ||| nI y = nI (x ||| y) := by
  have hxy : x ||| y < 2 ^ 12 := Nat.or_lt_two_pow hx hy
  apply Int32.toBitVec_inj.mp
  apply BitVec.eq_of_toNat_eq
  show (nI x).toBitVec.toNat ||| (nI y).toBitVec.toNat = _
  rw [pk_tn (by omega), pk_tn (by omega), pk_tn (by omega)]
/-- the bits of a letter's causes are few and, if it has points, not none -/
theorem needF_b (D : kW G Z) {a : Nat} (hk : ∀ q, q < Z.np a → kN Z.nC (Ar 22 (6 * a + q))) : ∀ (p : Nat) (b0 : Int32), p ≤ Z.np a → needF Ar a p = some b0 → ∃ x : Nat, b0 = nI x ∧ x < 4096 ∧ (0 < p → 0 < x)
  | 0, b0, _, h => by rw [needF_0] at h; cases h; exact ⟨0, rfl, by decide, fun q => absurd q (by decide)⟩
  | p + 1, b0, hp, h => by
    rw [needF_s] at h
    have h12 := D.c12
    cases hn : needF Ar a p with
    | none => rw [hn] at h; cases h
    | some b1 =>
      rw [hn] at h
      obtain ⟨x, rfl, hx, -⟩ := needF_b D hk p b1 (by omega) hn
      have h : (if Ar 22 (6 * a + p) < 0 then none else some (nI x ||| (1 : Int32) <<< (Ar 22 (6 * a + p) &&& 31))) = some b0 := h
      split at h
      · cases h
      · rename_i hneg
        rcases hk p (by omega) with q | ⟨c, hc, q⟩
        · rw [q] at hneg; exact absurd (by decide) hneg
        · rw [q, pw1 c (by omega)] at h
          have hc2 : 2 ^ c < 4096 := Nat.pow_lt_pow_right (by decide) (show c < 12 by omega)
          rw [nI_or hx hc2] at h
          cases h
          refine ⟨_, rfl, Nat.or_lt_two_pow (n := 12) hx hc2, fun _ => ?_⟩
          have := Nat.right_le_or (n := x) (m := 2 ^ c)
          have h2 : 0 < 2 ^ c := Nat.two_pow_pos c
          omega
/-- the answer to a letter as look tells it -/
def anC (Ar : Nat → Nat → Int32) (nt a n : Nat) : Int32 := match needF Ar a n with
  | none => -1
  | some b0 => enO (bestS Ar nt b0 (2 ^ nt))
theorem c_X6_look_0 (D : kW G Z) (V : kV Z I Ar) (a : Nat) (hla : a < Z.nL)  : Ct G l 4 0 0 M_X6_look [.ref (Z.da 1), .int (nI a), .int 0] (kH G Z I Ar T A Lg h0) (rX (some (.int (Ar 13 a))) (kH G Z I Ar T A Lg h0)) := by
  refine Ct.of (by decide +kernel) (Nat.le_of_ble_eq_true rfl) (fun E hE X F => ?_)
  have X : Gc G E "ComplaintDesk" cX6_look 4 4 0 0 := X
  show GW G E _ 4 0 [(0, _), (1, _), (2, _)] [] _ 0 0
  have hax : a < Z.nX := Nat.lt_of_lt_of_le hla D.lx
  refine g_aload_n X dX6_look_0 0 rfl ?_
  refine g_iload_n X dX6_look_1 1 rfl ?_
  refine g_cV X ml_X6_163 (c_X6_letterAt D a hla) ⟨6, _, kL1 D, rfl⟩ (Nat.le_of_ble_eq_true rfl) rfl rfl (Nat.le_of_ble_eq_true rfl) (Nat.zero_le _) (Nat.zero_le _) dX6_look_2 ?_
  refine g_astore_n X dX6_look_5 (Nat.le_of_ble_eq_true rfl) [(3, _), (0, _), (1, _), (2, _)] rfl ?_
  refine g_iload_n X dX6_look_6 3 rfl ?_
  refine g_tswIn X (off := 33) 40 dX6_look_7 (by decide) (by decide) (by decide) (by decide) ?_
  refine g_aload_n X dX6_look_40 0 rfl ?_
  refine g_getfield X fl_X6_187 dX6_look_41 (kLL D hax) rfl ?_
  refine g_iret X F rfl rfl dX6_look_44 (Nat.zero_le _) (Nat.zero_le _) ?_
  exact ⟨rfl, rfl⟩
theorem c_X6_look_1 (D : kW G Z) (V : kV Z I Ar) (a : Nat) (hla : a < Z.nL)  : Ct G l 4 0 0 M_X6_look [.ref (Z.da 1), .int (nI a), .int 1] (kH G Z I Ar T A Lg h0) (rX (some (.int (Ar 14 a))) (kH G Z I Ar T A Lg h0)) := by
  refine Ct.of (by decide +kernel) (Nat.le_of_ble_eq_true rfl) (fun E hE X F => ?_)
  have X : Gc G E "ComplaintDesk" cX6_look 4 4 0 0 := X
  show GW G E _ 4 0 [(0, _), (1, _), (2, _)] [] _ 0 0
  have hax : a < Z.nX := Nat.lt_of_lt_of_le hla D.lx
  refine g_aload_n X dX6_look_0 0 rfl ?_
  refine g_iload_n X dX6_look_1 1 rfl ?_
  refine g_cV X ml_X6_163 (c_X6_letterAt D a hla) ⟨6, _, kL1 D, rfl⟩ (Nat.le_of_ble_eq_true rfl) rfl rfl (Nat.le_of_ble_eq_true rfl) (Nat.zero_le _) (Nat.zero_le _) dX6_look_2 ?_
  refine g_astore_n X dX6_look_5 (Nat.le_of_ble_eq_true rfl) [(3, _), (0, _), (1, _), (2, _)] rfl ?_
  refine g_iload_n X dX6_look_6 3 rfl ?_
  refine g_tswIn X (off := 38) 45 dX6_look_7 (by decide) (by decide) (by decide) (by decide) ?_
  refine g_aload_n X dX6_look_45 0 rfl ?_
  refine g_getfield X fl_X6_148 dX6_look_46 (kLL D hax) rfl ?_
  refine g_iret X F rfl rfl dX6_look_49 (Nat.zero_le _) (Nat.zero_le _) ?_
  exact ⟨rfl, rfl⟩
theorem c_X6_look_2 (D : kW G Z) (V : kV Z I Ar) (a : Nat) (hla : a < Z.nL)  : Ct G l 4 0 0 M_X6_look [.ref (Z.da 1), .int (nI a), .int 2] (kH G Z I Ar T A Lg h0) (rX (some (.int (nI (Z.np a)))) (kH G Z I Ar T A Lg h0)) := by
  refine Ct.of (by decide +kernel) (Nat.le_of_ble_eq_true rfl) (fun E hE X F => ?_)
  have X : Gc G E "ComplaintDesk" cX6_look 4 4 0 0 := X
  show GW G E _ 4 0 [(0, _), (1, _), (2, _)] [] _ 0 0
  have hax : a < Z.nX := Nat.lt_of_lt_of_le hla D.lx
  refine g_aload_n X dX6_look_0 0 rfl ?_
  refine g_iload_n X dX6_look_1 1 rfl ?_
  refine g_cV X ml_X6_163 (c_X6_letterAt D a hla) ⟨6, _, kL1 D, rfl⟩ (Nat.le_of_ble_eq_true rfl) rfl rfl (Nat.le_of_ble_eq_true rfl) (Nat.zero_le _) (Nat.zero_le _) dX6_look_2 ?_
  refine g_astore_n X dX6_look_5 (Nat.le_of_ble_eq_true rfl) [(3, _), (0, _), (1, _), (2, _)] rfl ?_
  refine g_iload_n X dX6_look_6 3 rfl ?_
  refine g_tswIn X (off := 43) 50 dX6_look_7 (by decide) (by decide) (by decide) (by decide) ?_
  refine g_aload_n X dX6_look_50 0 rfl ?_
  refine g_getfield X fl_X6_155 dX6_look_51 (kLL D hax) rfl ?_
  refine g_cV X ml_X6_92 (k_szQ D hax) ⟨8, _, kLLL D hax, rfl⟩ (Nat.le_of_ble_eq_true rfl) rfl rfl (Nat.le_of_ble_eq_true rfl) (Nat.zero_le _) (Nat.zero_le _) dX6_look_54 ?_
  refine g_iret X F rfl rfl dX6_look_57 (Nat.zero_le _) (Nat.zero_le _) ?_
  exact ⟨rfl, rfl⟩
theorem c_X6_look_3 (D : kW G Z) (V : kV Z I Ar) (a : Nat) (hla : a < Z.nL)  : Ct G l 4 0 0 M_X6_look [.ref (Z.da 1), .int (nI a), .int 3] (kH G Z I Ar T A Lg h0) (rX (some (.int (b2 (clP Ar a (Z.np a))))) (kH G Z I Ar T A Lg h0)) := by
  refine Ct.of (by decide +kernel) (Nat.le_of_ble_eq_true rfl) (fun E hE X F => ?_)
  have X : Gc G E "ComplaintDesk" cX6_look 4 4 0 0 := X
  show GW G E _ 4 0 [(0, _), (1, _), (2, _)] [] _ 0 0
  have hax : a < Z.nX := Nat.lt_of_lt_of_le hla D.lx
  refine g_aload_n X dX6_look_0 0 rfl ?_
  refine g_iload_n X dX6_look_1 1 rfl ?_
  refine g_cV X ml_X6_163 (c_X6_letterAt D a hla) ⟨6, _, kL1 D, rfl⟩ (Nat.le_of_ble_eq_true rfl) rfl rfl (Nat.le_of_ble_eq_true rfl) (Nat.zero_le _) (Nat.zero_le _) dX6_look_2 ?_
  refine g_astore_n X dX6_look_5 (Nat.le_of_ble_eq_true rfl) [(3, _), (0, _), (1, _), (2, _)] rfl ?_
  refine g_iload_n X dX6_look_6 3 rfl ?_
  refine g_tswIn X (off := 51) 58 dX6_look_7 (by decide) (by decide) (by decide) (by decide) ?_
  refine g_aload_n X dX6_look_58 0 rfl ?_
  refine g_cV X ml_X6_203 (c_X1_isClosed D a hax (V.k24 a hax)) ⟨1, _, kLL D hax, rfl⟩ (Nat.le_of_ble_eq_true rfl) rfl rfl (Nat.le_of_ble_eq_true rfl) (Nat.zero_le _) (Nat.zero_le _) dX6_look_59 ?_
  refine g_if_eq X 69 dX6_look_62 (by decide) (fun c_62 => ?_) (fun c_62 => ?_)
  · refine g_iconst X (v := 0) dX6_look_69 ki_0 ?_
    refine g_iret X F rfl rfl dX6_look_70 (Nat.zero_le _) (Nat.zero_le _) ?_
    exact ⟨by rw [c_62], rfl⟩
  · refine g_iconst X (v := 1) dX6_look_65 ki_1 ?_
    refine g_goto X 70 dX6_look_66 (by decide) ?_
    refine g_iret X F rfl rfl dX6_look_70 (Nat.zero_le _) (Nat.zero_le _) ?_
    exact ⟨by rw [b2_c.resolve_left c_62], rfl⟩
theorem c_X6_look_4n (D : kW G Z) (V : kV Z I Ar) (a : Nat) (hla : a < Z.nL) (hnb : needF Ar a (Z.np a) = none)  : Ct G l 4 0 0 M_X6_look [.ref (Z.da 1), .int (nI a), .int 4] (kH G Z I Ar T A Lg h0) (rX (some (.int (-1))) (kH G Z I Ar T A Lg h0)) := by
  refine Ct.of (by decide +kernel) (Nat.le_of_ble_eq_true rfl) (fun E hE X F => ?_)
  have X : Gc G E "ComplaintDesk" cX6_look 4 4 0 0 := X
  show GW G E _ 4 0 [(0, _), (1, _), (2, _)] [] _ 0 0
  have hax : a < Z.nX := Nat.lt_of_lt_of_le hla D.lx
  refine g_aload_n X dX6_look_0 0 rfl ?_
  refine g_iload_n X dX6_look_1 1 rfl ?_
  refine g_cV X ml_X6_163 (c_X6_letterAt D a hla) ⟨6, _, kL1 D, rfl⟩ (Nat.le_of_ble_eq_true rfl) rfl rfl (Nat.le_of_ble_eq_true rfl) (Nat.zero_le _) (Nat.zero_le _) dX6_look_2 ?_
  refine g_astore_n X dX6_look_5 (Nat.le_of_ble_eq_true rfl) [(3, _), (0, _), (1, _), (2, _)] rfl ?_
  refine g_iload_n X dX6_look_6 3 rfl ?_
  refine g_tswIn X (off := 64) 71 dX6_look_7 (by decide) (by decide) (by decide) (by decide) ?_
  refine g_aload_n X dX6_look_71 1 rfl ?_
  refine g_aload_n X dX6_look_72 0 rfl ?_
  refine g_cV X ml_X6_206 (c_X1_causeBits D a hax (V.k22 a hax)) ⟨1, _, kLL D hax, rfl⟩ (Nat.le_of_ble_eq_true rfl) rfl rfl (Nat.le_of_ble_eq_true rfl) (Nat.zero_le _) (Nat.zero_le _) dX6_look_73 ?_
  refine g_eqi (y := (-1 : Int32)) (by rw [hnb]) ?_
  refine g_cV X ml_X6_209 (c_X6_fewestTemplates_n) ⟨6, _, kL1 D, rfl⟩ (Nat.le_of_ble_eq_true rfl) rfl rfl (Nat.le_of_ble_eq_true rfl) (Nat.zero_le _) (Nat.zero_le _) dX6_look_76 ?_
  refine g_iret X F rfl rfl dX6_look_79 (Nat.zero_le _) (Nat.zero_le _) ?_
  exact ⟨rfl, rfl⟩
theorem c_X6_look_4s (D : kW G Z) (V : kV Z I Ar) (a : Nat) (hla : a < Z.nL) (b0 : Int32) (hnb : needF Ar a (Z.np a) = some b0) (h1 : ¬ b0 = -1) (h0w : ¬ b0 = 0) (nt : Nat) (hnt : nt ≤ 10) (hI : I 26 = nI nt)  : Ct G l 4 0 0 M_X6_look [.ref (Z.da 1), .int (nI a), .int 4] (kH G Z I Ar T A Lg h0) (rX (some (.int (enO (bestS Ar nt b0 (2 ^ nt))))) (kH G Z I Ar T A Lg h0)) := by
  refine Ct.of (by decide +kernel) (Nat.le_of_ble_eq_true rfl) (fun E hE X F => ?_)
  have X : Gc G E "ComplaintDesk" cX6_look 4 4 0 0 := X
  show GW G E _ 4 0 [(0, _), (1, _), (2, _)] [] _ 0 0
  have hax : a < Z.nX := Nat.lt_of_lt_of_le hla D.lx
  refine g_aload_n X dX6_look_0 0 rfl ?_
  refine g_iload_n X dX6_look_1 1 rfl ?_
  refine g_cV X ml_X6_163 (c_X6_letterAt D a hla) ⟨6, _, kL1 D, rfl⟩ (Nat.le_of_ble_eq_true rfl) rfl rfl (Nat.le_of_ble_eq_true rfl) (Nat.zero_le _) (Nat.zero_le _) dX6_look_2 ?_
  refine g_astore_n X dX6_look_5 (Nat.le_of_ble_eq_true rfl) [(3, _), (0, _), (1, _), (2, _)] rfl ?_
  refine g_iload_n X dX6_look_6 3 rfl ?_
  refine g_tswIn X (off := 64) 71 dX6_look_7 (by decide) (by decide) (by decide) (by decide) ?_
  refine g_aload_n X dX6_look_71 1 rfl ?_
  refine g_aload_n X dX6_look_72 0 rfl ?_
  refine g_cV X ml_X6_206 (c_X1_causeBits D a hax (V.k22 a hax)) ⟨1, _, kLL D hax, rfl⟩ (Nat.le_of_ble_eq_true rfl) rfl rfl (Nat.le_of_ble_eq_true rfl) (Nat.zero_le _) (Nat.zero_le _) dX6_look_73 ?_
  refine g_eqi (y := b0) (by rw [hnb]) ?_
  refine g_cV X ml_X6_209 (c_X6_fewestTemplates D b0 nt hnt hI h1 h0w) ⟨6, _, kL1 D, rfl⟩ (Nat.le_of_ble_eq_true rfl) rfl rfl (Nat.le_of_ble_eq_true rfl) (Nat.zero_le _) (Nat.zero_le _) dX6_look_76 ?_
  refine g_iret X F rfl rfl dX6_look_79 (Nat.zero_le _) (Nat.zero_le _) ?_
  exact ⟨rfl, rfl⟩
theorem c_X6_look_4 (D : kW G Z) (V : kV Z I Ar) (a : Nat) (hla : a < Z.nL) (hp0 : 0 < Z.np a) (nt : Nat) (hnt : nt ≤ 10) (hI : I 26 = nI nt) : Ct G l 4 0 0 M_X6_look [.ref (Z.da 1), .int (nI a), .int 4] (kH G Z I Ar T A Lg h0) (rX (some (.int (anC Ar nt a (Z.np a)))) (kH G Z I Ar T A Lg h0)) := by
  have hax : a < Z.nX := Nat.lt_of_lt_of_le hla D.lx
  unfold anC
  cases hnb : needF Ar a (Z.np a) with
  | none => exact c_X6_look_4n D V a hla hnb
  | some b0 =>
    obtain ⟨xb, hx1, hx2, hx3⟩ := needF_b D (V.k22 a hax) _ b0 (Nat.le_refl _) hnb
    have hx4 := hx3 hp0
    exact c_X6_look_4s D V a hla b0 hnb (by rw [hx1]; exact nI_ne1 (by omega)) (by rw [hx1]; exact nI_ne0 hx4 (by omega)) nt hnt hI
theorem c_X6_point_0 (D : kW G Z) (V : kV Z I Ar) (a p : Nat) (hla : a < Z.nL) (hp : p < Z.np a)  : Ct G l 4 0 0 M_X6_point [.ref (Z.da 1), .int (nI a), .int (nI p), .int 0] (kH G Z I Ar T A Lg h0) (rX (some (.int (Ar 22 (6 * a + p)))) (kH G Z I Ar T A Lg h0)) := by
  refine Ct.of (by decide +kernel) (Nat.le_of_ble_eq_true rfl) (fun E hE X F => ?_)
  have X : Gc G E "ComplaintDesk" cX6_point 6 4 0 0 := X
  show GW G E _ 6 0 [(0, _), (1, _), (2, _), (3, _)] [] _ 0 0
  have hax : a < Z.nX := Nat.lt_of_lt_of_le hla D.lx
  refine g_aload_n X dX6_point_0 0 rfl ?_
  refine g_iload_n X dX6_point_1 1 rfl ?_
  refine g_cV X ml_X6_163 (c_X6_letterAt D a hla) ⟨6, _, kL1 D, rfl⟩ (Nat.le_of_ble_eq_true rfl) rfl rfl (Nat.le_of_ble_eq_true rfl) (Nat.zero_le _) (Nat.zero_le _) dX6_point_2 ?_
  refine g_astore X dX6_point_5 (Nat.le_of_ble_eq_true rfl) [(4, _), (0, _), (1, _), (2, _), (3, _)] rfl ?_
  refine g_aload X dX6_point_7 0 rfl ?_
  refine g_iload_n X dX6_point_9 3 rfl ?_
  refine g_cV X ml_X6_167 (c_X1_pointAt D a p hax hp) ⟨1, _, kLL D hax, rfl⟩ (Nat.le_of_ble_eq_true rfl) rfl rfl (Nat.le_of_ble_eq_true rfl) (Nat.zero_le _) (Nat.zero_le _) dX6_point_10 ?_
  refine g_astore X dX6_point_13 (Nat.le_of_ble_eq_true rfl) [(5, _), (4, _), (0, _), (1, _), (2, _), (3, _)] rfl ?_
  refine g_iload_n X dX6_point_15 5 rfl ?_
  refine g_tswIn X (off := 36) 52 dX6_point_16 (by decide) (by decide) (by decide) (by decide) ?_
  refine g_aload X dX6_point_52 0 rfl ?_
  refine g_getfield X fl_X6_177 dX6_point_54 (kLQ D hax hp) rfl ?_
  refine g_ifnonnull X 64 dX6_point_57 (by decide) rfl (fun y c_57 => ?_) (fun c_57 => ?_)
  · refine g_aload X dX6_point_64 0 rfl ?_
    refine g_getfield X fl_X6_177 dX6_point_66 (kLQ D hax hp) rfl ?_
    obtain ⟨hz1, hz2, hz3, hz4, hz5⟩ := kLz (I := I) (Ar := Ar) (T := T) (A := A) (Lg := Lg) (h0 := h0) D (V.k22 a hax p hp) c_57
    refine g_st (st' := [.ref y]) (by rw [c_57]; rfl) ?_
    refine g_getfield X fl_X6_181 dX6_point_69 hz5 rfl ?_
    refine g_iret X F rfl rfl dX6_point_72 (Nat.zero_le _) (Nat.zero_le _) ?_
    exact ⟨rfl, rfl⟩
  · refine g_iconst X (v := (-1)) dX6_point_60 ki_m1 ?_
    refine g_goto X 72 dX6_point_61 (by decide) ?_
    refine g_iret X F rfl rfl dX6_point_72 (Nat.zero_le _) (Nat.zero_le _) ?_
    exact ⟨by rw [kLn (V.k22 a hax p hp) c_57], rfl⟩
theorem c_X6_point_1 (D : kW G Z) (V : kV Z I Ar) (a p : Nat) (hla : a < Z.nL) (hp : p < Z.np a)  : Ct G l 4 0 0 M_X6_point [.ref (Z.da 1), .int (nI a), .int (nI p), .int 1] (kH G Z I Ar T A Lg h0) (rX (some (.int (Ar 23 (6 * a + p)))) (kH G Z I Ar T A Lg h0)) := by
  refine Ct.of (by decide +kernel) (Nat.le_of_ble_eq_true rfl) (fun E hE X F => ?_)
  have X : Gc G E "ComplaintDesk" cX6_point 6 4 0 0 := X
  show GW G E _ 6 0 [(0, _), (1, _), (2, _), (3, _)] [] _ 0 0
  have hax : a < Z.nX := Nat.lt_of_lt_of_le hla D.lx
  refine g_aload_n X dX6_point_0 0 rfl ?_
  refine g_iload_n X dX6_point_1 1 rfl ?_
  refine g_cV X ml_X6_163 (c_X6_letterAt D a hla) ⟨6, _, kL1 D, rfl⟩ (Nat.le_of_ble_eq_true rfl) rfl rfl (Nat.le_of_ble_eq_true rfl) (Nat.zero_le _) (Nat.zero_le _) dX6_point_2 ?_
  refine g_astore X dX6_point_5 (Nat.le_of_ble_eq_true rfl) [(4, _), (0, _), (1, _), (2, _), (3, _)] rfl ?_
  refine g_aload X dX6_point_7 0 rfl ?_
  refine g_iload_n X dX6_point_9 3 rfl ?_
  refine g_cV X ml_X6_167 (c_X1_pointAt D a p hax hp) ⟨1, _, kLL D hax, rfl⟩ (Nat.le_of_ble_eq_true rfl) rfl rfl (Nat.le_of_ble_eq_true rfl) (Nat.zero_le _) (Nat.zero_le _) dX6_point_10 ?_
  refine g_astore X dX6_point_13 (Nat.le_of_ble_eq_true rfl) [(5, _), (4, _), (0, _), (1, _), (2, _), (3, _)] rfl ?_
  refine g_iload_n X dX6_point_15 5 rfl ?_
  refine g_tswIn X (off := 57) 73 dX6_point_16 (by decide) (by decide) (by decide) (by decide) ?_
  refine g_aload X dX6_point_73 0 rfl ?_
  refine g_getfield X fl_X6_184 dX6_point_75 (kLQ D hax hp) rfl ?_
  refine g_iret X F rfl rfl dX6_point_78 (Nat.zero_le _) (Nat.zero_le _) ?_
  exact ⟨rfl, rfl⟩
theorem c_X6_point_2 (D : kW G Z) (V : kV Z I Ar) (a p : Nat) (hla : a < Z.nL) (hp : p < Z.np a)  : Ct G l 4 0 0 M_X6_point [.ref (Z.da 1), .int (nI a), .int (nI p), .int 2] (kH G Z I Ar T A Lg h0) (rX (some (.int (Ar 24 (6 * a + p)))) (kH G Z I Ar T A Lg h0)) := by
  refine Ct.of (by decide +kernel) (Nat.le_of_ble_eq_true rfl) (fun E hE X F => ?_)
  have X : Gc G E "ComplaintDesk" cX6_point 6 4 0 0 := X
  show GW G E _ 6 0 [(0, _), (1, _), (2, _), (3, _)] [] _ 0 0
  have hax : a < Z.nX := Nat.lt_of_lt_of_le hla D.lx
  refine g_aload_n X dX6_point_0 0 rfl ?_
  refine g_iload_n X dX6_point_1 1 rfl ?_
  refine g_cV X ml_X6_163 (c_X6_letterAt D a hla) ⟨6, _, kL1 D, rfl⟩ (Nat.le_of_ble_eq_true rfl) rfl rfl (Nat.le_of_ble_eq_true rfl) (Nat.zero_le _) (Nat.zero_le _) dX6_point_2 ?_
  refine g_astore X dX6_point_5 (Nat.le_of_ble_eq_true rfl) [(4, _), (0, _), (1, _), (2, _), (3, _)] rfl ?_
  refine g_aload X dX6_point_7 0 rfl ?_
  refine g_iload_n X dX6_point_9 3 rfl ?_
  refine g_cV X ml_X6_167 (c_X1_pointAt D a p hax hp) ⟨1, _, kLL D hax, rfl⟩ (Nat.le_of_ble_eq_true rfl) rfl rfl (Nat.le_of_ble_eq_true rfl) (Nat.zero_le _) (Nat.zero_le _) dX6_point_10 ?_
  refine g_astore X dX6_point_13 (Nat.le_of_ble_eq_true rfl) [(5, _), (4, _), (0, _), (1, _), (2, _), (3, _)] rfl ?_
  refine g_iload_n X dX6_point_15 5 rfl ?_
  refine g_tswIn X (off := 63) 79 dX6_point_16 (by decide) (by decide) (by decide) (by decide) ?_
  refine g_aload X dX6_point_79 0 rfl ?_
  refine g_getfield X fl_X6_174 dX6_point_81 (kLQ D hax hp) rfl ?_
  refine g_iret X F rfl rfl dX6_point_84 (Nat.zero_le _) (Nat.zero_le _) ?_
  exact ⟨rfl, rfl⟩
theorem c_X6_point_3n (D : kW G Z) (V : kV Z I Ar) (a p : Nat) (hla : a < Z.nL) (hp : p < Z.np a) (hn : Ar 22 (6 * a + p) = -1)  : Ct G l 6 0 0 M_X6_point [.ref (Z.da 1), .int (nI a), .int (nI p), .int 3] (kH G Z I Ar T A Lg h0) (rX (some (.int 0)) (kH G Z I Ar T A Lg h0)) := by
  refine Ct.of (by decide +kernel) (Nat.le_of_ble_eq_true rfl) (fun E hE X F => ?_)
  have X : Gc G E "ComplaintDesk" cX6_point 6 6 0 0 := X
  show GW G E _ 6 0 [(0, _), (1, _), (2, _), (3, _)] [] _ 0 0
  have hax : a < Z.nX := Nat.lt_of_lt_of_le hla D.lx
  refine g_aload_n X dX6_point_0 0 rfl ?_
  refine g_iload_n X dX6_point_1 1 rfl ?_
  refine g_cV X ml_X6_163 (c_X6_letterAt D a hla) ⟨6, _, kL1 D, rfl⟩ (Nat.le_of_ble_eq_true rfl) rfl rfl (Nat.le_of_ble_eq_true rfl) (Nat.zero_le _) (Nat.zero_le _) dX6_point_2 ?_
  refine g_astore X dX6_point_5 (Nat.le_of_ble_eq_true rfl) [(4, _), (0, _), (1, _), (2, _), (3, _)] rfl ?_
  refine g_aload X dX6_point_7 0 rfl ?_
  refine g_iload_n X dX6_point_9 3 rfl ?_
  refine g_cV X ml_X6_167 (c_X1_pointAt D a p hax hp) ⟨1, _, kLL D hax, rfl⟩ (Nat.le_of_ble_eq_true rfl) rfl rfl (Nat.le_of_ble_eq_true rfl) (Nat.zero_le _) (Nat.zero_le _) dX6_point_10 ?_
  refine g_astore X dX6_point_13 (Nat.le_of_ble_eq_true rfl) [(5, _), (4, _), (0, _), (1, _), (2, _), (3, _)] rfl ?_
  refine g_iload_n X dX6_point_15 5 rfl ?_
  refine g_tswIn X (off := 69) 85 dX6_point_16 (by decide) (by decide) (by decide) (by decide) ?_
  refine g_aload_n X dX6_point_85 2 rfl ?_
  refine g_aload X dX6_point_86 1 rfl ?_
  refine g_getfield X fl_X6_187 dX6_point_88 (kLL D hax) rfl ?_
  refine g_aload X dX6_point_91 0 rfl ?_
  refine g_getfield X fl_X6_177 dX6_point_93 (kLQ D hax hp) rfl ?_
  refine g_st (st' := [.null, .int (Ar 13 a), .ref (Z.da 1)]) (by rw [hn, cz_n]; rfl) ?_
  refine g_cV X ml_X6_190 (c_X6_matter_n (Ar 13 a)) ⟨6, _, kL1 D, rfl⟩ (Nat.le_of_ble_eq_true rfl) rfl rfl (Nat.le_of_ble_eq_true rfl) (Nat.zero_le _) (Nat.zero_le _) dX6_point_96 ?_
  refine g_iret X F rfl rfl dX6_point_99 (Nat.zero_le _) (Nat.zero_le _) ?_
  exact ⟨rfl, rfl⟩
theorem c_X6_point_3 (D : kW G Z) (V : kV Z I Ar) (a p : Nat) (hla : a < Z.nL) (hp : p < Z.np a) (c : Nat) (hc : c < Z.nC) (hn : Ar 22 (6 * a + p) = nI c)  : Ct G l 6 0 0 M_X6_point [.ref (Z.da 1), .int (nI a), .int (nI p), .int 3] (kH G Z I Ar T A Lg h0) (rX (some (.int (nI (sN (fun q => cN (fun p => Ar 13 q = Ar 13 a ∧ Ar 22 (6 * q + p) = nI c) (Z.np q)) Z.nL)))) (kH G Z I Ar T A Lg h0)) := by
  refine Ct.of (by decide +kernel) (Nat.le_of_ble_eq_true rfl) (fun E hE X F => ?_)
  have X : Gc G E "ComplaintDesk" cX6_point 6 6 0 0 := X
  show GW G E _ 6 0 [(0, _), (1, _), (2, _), (3, _)] [] _ 0 0
  have hax : a < Z.nX := Nat.lt_of_lt_of_le hla D.lx
  have h12 := D.c12
  refine g_aload_n X dX6_point_0 0 rfl ?_
  refine g_iload_n X dX6_point_1 1 rfl ?_
  refine g_cV X ml_X6_163 (c_X6_letterAt D a hla) ⟨6, _, kL1 D, rfl⟩ (Nat.le_of_ble_eq_true rfl) rfl rfl (Nat.le_of_ble_eq_true rfl) (Nat.zero_le _) (Nat.zero_le _) dX6_point_2 ?_
  refine g_astore X dX6_point_5 (Nat.le_of_ble_eq_true rfl) [(4, _), (0, _), (1, _), (2, _), (3, _)] rfl ?_
  refine g_aload X dX6_point_7 0 rfl ?_
  refine g_iload_n X dX6_point_9 3 rfl ?_
  refine g_cV X ml_X6_167 (c_X1_pointAt D a p hax hp) ⟨1, _, kLL D hax, rfl⟩ (Nat.le_of_ble_eq_true rfl) rfl rfl (Nat.le_of_ble_eq_true rfl) (Nat.zero_le _) (Nat.zero_le _) dX6_point_10 ?_
  refine g_astore X dX6_point_13 (Nat.le_of_ble_eq_true rfl) [(5, _), (4, _), (0, _), (1, _), (2, _), (3, _)] rfl ?_
  refine g_iload_n X dX6_point_15 5 rfl ?_
  refine g_tswIn X (off := 69) 85 dX6_point_16 (by decide) (by decide) (by decide) (by decide) ?_
  refine g_aload_n X dX6_point_85 2 rfl ?_
  refine g_aload X dX6_point_86 1 rfl ?_
  refine g_getfield X fl_X6_187 dX6_point_88 (kLL D hax) rfl ?_
  refine g_aload X dX6_point_91 0 rfl ?_
  refine g_getfield X fl_X6_177 dX6_point_93 (kLQ D hax hp) rfl ?_
  refine g_st (st' := [.ref (Z.da (100 + c)), .int (Ar 13 a), .ref (Z.da 1)]) (by rw [hn, cz_s (by omega)]; rfl) ?_
  refine g_cV X ml_X6_190 (c_X6_matter D V.k22 (Ar 13 a) c hc) ⟨6, _, kL1 D, rfl⟩ (Nat.le_of_ble_eq_true rfl) rfl rfl (Nat.le_of_ble_eq_true rfl) (Nat.zero_le _) (Nat.zero_le _) dX6_point_96 ?_
  refine g_iret X F rfl rfl dX6_point_99 (Nat.zero_le _) (Nat.zero_le _) ?_
  exact ⟨rfl, rfl⟩
theorem c_X6_point_4 (D : kW G Z) (V : kV Z I Ar) (a p : Nat) (hla : a < Z.nL) (hp : p < Z.np a)  : Ct G l 4 0 0 M_X6_point [.ref (Z.da 1), .int (nI a), .int (nI p), .int 4] (kH G Z I Ar T A Lg h0) (rX (some (.int (nI (Z.Sz (3000 + (6 * a + p)))))) (kH G Z I Ar T A Lg h0)) := by
  refine Ct.of (by decide +kernel) (Nat.le_of_ble_eq_true rfl) (fun E hE X F => ?_)
  have X : Gc G E "ComplaintDesk" cX6_point 6 4 0 0 := X
  show GW G E _ 6 0 [(0, _), (1, _), (2, _), (3, _)] [] _ 0 0
  have hax : a < Z.nX := Nat.lt_of_lt_of_le hla D.lx
  refine g_aload_n X dX6_point_0 0 rfl ?_
  refine g_iload_n X dX6_point_1 1 rfl ?_
  refine g_cV X ml_X6_163 (c_X6_letterAt D a hla) ⟨6, _, kL1 D, rfl⟩ (Nat.le_of_ble_eq_true rfl) rfl rfl (Nat.le_of_ble_eq_true rfl) (Nat.zero_le _) (Nat.zero_le _) dX6_point_2 ?_
  refine g_astore X dX6_point_5 (Nat.le_of_ble_eq_true rfl) [(4, _), (0, _), (1, _), (2, _), (3, _)] rfl ?_
  refine g_aload X dX6_point_7 0 rfl ?_
  refine g_iload_n X dX6_point_9 3 rfl ?_
  refine g_cV X ml_X6_167 (c_X1_pointAt D a p hax hp) ⟨1, _, kLL D hax, rfl⟩ (Nat.le_of_ble_eq_true rfl) rfl rfl (Nat.le_of_ble_eq_true rfl) (Nat.zero_le _) (Nat.zero_le _) dX6_point_10 ?_
  refine g_astore X dX6_point_13 (Nat.le_of_ble_eq_true rfl) [(5, _), (4, _), (0, _), (1, _), (2, _), (3, _)] rfl ?_
  refine g_iload_n X dX6_point_15 5 rfl ?_
  refine g_tswIn X (off := 84) 100 dX6_point_16 (by decide) (by decide) (by decide) (by decide) ?_
  refine g_aload X dX6_point_100 0 rfl ?_
  refine g_getfield X fl_X6_194 dX6_point_102 (kLQ D hax hp) rfl ?_
  refine g_alen X dX6_point_105 (t := 2) rfl (kLQJ D hax hp) (nI (Z.Sz (3000 + (6 * a + p)))) rfl ?_
  refine g_iret X F rfl rfl dX6_point_106 (Nat.zero_le _) (Nat.zero_le _) ?_
  exact ⟨rfl, rfl⟩
theorem c_X4_hasRoom (D : kW G Z)  : Ct G l 0 0 0 M_X4_hasRoom [.ref (Z.da 2)] (kH G Z I Ar T A Lg h0) (rX (some (.int (b2 (I 28 ≤ 380)))) (kH G Z I Ar T A Lg h0)) := by
  refine Ct.of (by decide +kernel) (Nat.le_of_ble_eq_true rfl) (fun E hE X F => ?_)
  have X : Gc G E "ComplaintDesk$Tape" cX4_hasRoom 1 0 0 0 := X
  show GW G E _ 1 0 [(0, _)] [] _ 0 0
  refine g_aload_n X dX4_hasRoom_0 0 rfl ?_
  refine g_getfield X fl_X4_15 dX4_hasRoom_1 (kL2 D) rfl ?_
  refine g_sipush X (v := 380) dX4_hasRoom_4 ks_380 ?_
  refine g_icmp_gt X 14 dX4_hasRoom_7 (by decide) (fun c_7 => ?_) (fun c_7 => ?_)
  · refine g_iconst X (v := 0) dX4_hasRoom_14 ki_0 ?_
    refine g_iret X F rfl rfl dX4_hasRoom_15 (Nat.zero_le _) (Nat.zero_le _) ?_
    exact ⟨by rw [b2_f (Int32.not_le.mpr c_7)], rfl⟩
  · refine g_iconst X (v := 1) dX4_hasRoom_10 ki_1 ?_
    refine g_goto X 15 dX4_hasRoom_11 (by decide) ?_
    refine g_iret X F rfl rfl dX4_hasRoom_15 (Nat.zero_le _) (Nat.zero_le _) ?_
    exact ⟨by rw [b2_t (Int32.not_lt.mp c_7)], rfl⟩
theorem c_X4_shorten (D : kW G Z) (n : Int32)  : Ct G l 0 0 0 M_X4_shorten [.ref (Z.da 2), .int n] (kH G Z I Ar T A Lg h0) (rX (some (.int (b2 (¬ n < 0 ∧ ¬ I 28 < n)))) (kH G Z (if ¬ n < 0 ∧ ¬ I 28 < n then va_up I 28 n else I) Ar T A Lg h0)) := by
  refine Ct.of (by decide +kernel) (Nat.le_of_ble_eq_true rfl) (fun E hE X F => ?_)
  have X : Gc G E "ComplaintDesk$Tape" cX4_shorten 2 0 0 0 := X
  show GW G E _ 2 0 [(0, _), (1, _)] [] _ 0 0
  refine g_iload_n X dX4_shorten_0 1 rfl ?_
  refine g_if_lt X 12 dX4_shorten_1 (by decide) (fun c_1 => ?_) (fun c_1 => ?_)
  · refine g_iconst X (v := 0) dX4_shorten_12 ki_0 ?_
    refine g_iret X F rfl rfl dX4_shorten_13 (Nat.zero_le _) (Nat.zero_le _) ?_
    exact ⟨by rw [b2_f (fun q => q.1 c_1)], by rw [if_neg (fun q => q.1 c_1)]⟩
  · refine g_iload_n X dX4_shorten_4 1 rfl ?_
    refine g_aload_n X dX4_shorten_5 0 rfl ?_
    refine g_getfield X fl_X4_15 dX4_shorten_6 (kL2 D) rfl ?_
    refine g_icmp_le X 14 dX4_shorten_9 (by decide) (fun c_9 => ?_) (fun c_9 => ?_)
    · refine g_aload_n X dX4_shorten_14 0 rfl ?_
      refine g_iload_n X dX4_shorten_15 1 rfl ?_
      refine g_putfield X fp_X4_15 dX4_shorten_16 (kL2 D) (Nat.le_of_ble_eq_true rfl) rfl rfl _ rfl ?_
      refine g_h (h' := (kH G Z (va_up I 28 n) Ar T A Lg h0)) (kuI28 D) ?_
      refine g_iconst X (v := 1) dX4_shorten_19 ki_1 ?_
      refine g_iret X F rfl rfl dX4_shorten_20 (Nat.zero_le _) (Nat.zero_le _) ?_
      have e1 : ¬ n < 0 ∧ ¬ I 28 < n := ⟨c_1, Int32.not_lt.mpr c_9⟩
      exact ⟨by rw [b2_t e1], by rw [if_pos e1]⟩
    · refine g_iconst X (v := 0) dX4_shorten_12 ki_0 ?_
      refine g_iret X F rfl rfl dX4_shorten_13 (Nat.zero_le _) (Nat.zero_le _) ?_
      have e1 : ¬ (¬ n < 0 ∧ ¬ I 28 < n) := fun q => q.2 (Int32.not_le.mp c_9)
      exact ⟨by rw [b2_f e1], by rw [if_neg e1]⟩
theorem c_X6_end (D : kW G Z) (n : Int32)  : Ct G l 1 0 0 M_X6_end [.ref (Z.da 1), .int n] (kH G Z I Ar T A Lg h0) (rX (some (.int (b2 (¬ n < 0 ∧ ¬ I 28 < n)))) (kH G Z (if ¬ n < 0 ∧ ¬ I 28 < n then va_up I 28 n else I) Ar T A Lg h0)) := by
  refine Ct.of (by decide +kernel) (Nat.le_of_ble_eq_true rfl) (fun E hE X F => ?_)
  have X : Gc G E "ComplaintDesk" cX6_end 2 1 0 0 := X
  show GW G E _ 2 0 [(0, _), (1, _)] [] _ 0 0
  refine g_aload_n X dX6_end_0 0 rfl ?_
  refine g_getfield X fl_X6_10 dX6_end_1 (kL1 D) rfl ?_
  refine g_iload_n X dX6_end_4 1 rfl ?_
  refine g_cV X ml_X6_67 (c_X4_shorten D n) ⟨4, _, kL2 D, rfl⟩ (Nat.le_of_ble_eq_true rfl) rfl rfl (Nat.le_of_ble_eq_true rfl) (Nat.zero_le _) (Nat.zero_le _) dX6_end_5 ?_
  refine g_iret X F rfl b2_n dX6_end_8 (Nat.zero_le _) (Nat.zero_le _) ?_
  exact ⟨rfl, rfl⟩
theorem c_X4_useUp (D : kW G Z)  : Ct G l 0 0 0 M_X4_useUp [.ref (Z.da 2)] (kH G Z I Ar T A Lg h0) (rX none (kH G Z (va_up I 28 0) Ar (va_up (va_up (va_up T 0 (I 28)) 1 0) 2 0) A Lg h0)) := by
  refine Ct.of (by decide +kernel) (Nat.le_of_ble_eq_true rfl) (fun E hE X F => ?_)
  have X : Gc G E "ComplaintDesk$Tape" cX4_useUp 1 0 0 0 := X
  show GW G E _ 1 0 [(0, _)] [] _ 0 0
  refine g_aload_n X dX4_useUp_0 0 rfl ?_
  refine g_aload_n X dX4_useUp_1 0 rfl ?_
  refine g_getfield X fl_X4_15 dX4_useUp_2 (kL2 D) rfl ?_
  refine g_putfield X fp_X4_19 dX4_useUp_5 (kL2 D) (Nat.le_of_ble_eq_true rfl) rfl rfl _ rfl ?_
  refine g_h (h' := (kH G Z I Ar (va_up T 0 (I 28)) A Lg h0)) (kuT0 D) ?_
  refine g_aload_n X dX4_useUp_8 0 rfl ?_
  refine g_iconst X (v := 0) dX4_useUp_9 ki_0 ?_
  refine g_putfield X fp_X4_15 dX4_useUp_10 (kL2 D) (Nat.le_of_ble_eq_true rfl) rfl rfl _ rfl ?_
  refine g_h (h' := (kH G Z (va_up I 28 0) Ar (va_up T 0 (I 28)) A Lg h0)) (kuI28 D) ?_
  refine g_aload_n X dX4_useUp_13 0 rfl ?_
  refine g_iconst X (v := 0) dX4_useUp_14 ki_0 ?_
  refine g_putfield X fp_X4_22 dX4_useUp_15 (kL2 D) (Nat.le_of_ble_eq_true rfl) rfl rfl _ rfl ?_
  refine g_h (h' := (kH G Z (va_up I 28 0) Ar (va_up (va_up T 0 (I 28)) 1 0) A Lg h0)) (kuT1 D) ?_
  refine g_aload_n X dX4_useUp_18 0 rfl ?_
  refine g_iconst X (v := 0) dX4_useUp_19 ki_0 ?_
  refine g_putfield X fp_X4_25 dX4_useUp_20 (kL2 D) (Nat.le_of_ble_eq_true rfl) rfl rfl _ rfl ?_
  refine g_h (h' := (kH G Z (va_up I 28 0) Ar (va_up (va_up (va_up T 0 (I 28)) 1 0) 2 0) A Lg h0)) (kuT2 D) ?_
  refine g_ret0 X F rfl dX4_useUp_23 (Nat.zero_le _) (Nat.zero_le _) ?_
  exact ⟨rfl, rfl⟩
end K18
