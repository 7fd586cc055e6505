section K15
variable {G : gG} {l : Launch} {h h0 : hW} {Z : kZ} {I : Nat → Int32} {Ar : Nat → Nat → Int32} {T : Nat → Int32} {A : Nat → Nat → Int32} {Lg : Nat → Nat → Int64}
/-- cls is thrown, the heap behind it is h1 -/
abbrev tX (cls : String) (h1 : hW) : String → hW → Prop := fun C h' => C = cls ∧ h' = h1
/-- no index of N -/
def noI (x : Int32) (N : Nat) : Prop := x < 0 ∨ nI N ≤ x
theorem noI.p {x : Int32} {N : Nat} (q : noI x N) (q2 : ¬ x < 0) : ¬ x < nI N := Int32.not_lt.mpr (q.resolve_left q2)
theorem c_X6_checkDesk (d : Nat) (hd : d < 4)  : Ct G l 0 0 0 M_X6_checkDesk [.int (nI d)] h (rX none h) := by
  refine Ct.of (by decide +kernel) (Nat.le_of_ble_eq_true rfl) (fun E hE X F => ?_)
  have X : Gc G E "ComplaintDesk" cX6_checkDesk 1 0 0 0 := X
  show GW G E _ 1 0 [(0, _)] [] _ 0 0
  refine g_iload_n X dX6_checkDesk_0 0 rfl ?_
  refine g_if_lt X 9 dX6_checkDesk_1 (by decide) (fun c_1 => absurd c_1 (nI_pos (by omega))) (fun c_1 => ?_)
  refine g_iload_n X dX6_checkDesk_4 0 rfl ?_
  refine g_iconst X (v := 4) dX6_checkDesk_5 ki_4 ?_
  refine g_icmp_lt X 19 dX6_checkDesk_6 (by decide) (fun c_6 => ?_) (fun c_6 => absurd ((nI_ltI (a := d) (b := 4) (by omega) (by omega)).mpr hd) c_6)
  refine g_ret0 X F rfl dX6_checkDesk_19 (Nat.zero_le _) (Nat.zero_le _) ?_
  exact ⟨rfl, rfl⟩
theorem c_X6_checkDesk_t (hs : l.stackTraces = false) (d : Int32) (hd : noI d 4)  : CtX G l 6 1 6 M_X6_checkDesk [.int d] h (fun _ _ => False) (tX "java/lang/IndexOutOfBoundsException" h) := by
  refine CtX.of (by decide +kernel) (Nat.le_of_ble_eq_true rfl) (fun E hE X F => ?_)
  have X : Gc G E "ComplaintDesk" cX6_checkDesk 1 6 1 6 := X
  show GW G E _ 1 0 [(0, _)] [] _ 0 0
  refine g_iload_n X dX6_checkDesk_0 0 rfl ?_
  refine g_if_lt X 9 dX6_checkDesk_1 (by decide) (fun c_1 => ?_) (fun c_1 => ?_)
  · refine g_throwS X F (by rw [hE]; exact hs) thr_X6_250_253 dX6_checkDesk_9 dX6_checkDesk_12 dX6_checkDesk_13 dX6_checkDesk_15 dX6_checkDesk_18 (Nat.le_of_ble_eq_true rfl) (Nat.le_of_ble_eq_true rfl) (Nat.le_of_ble_eq_true rfl) (Nat.le_of_ble_eq_true rfl) (Nat.le_of_ble_eq_true rfl) ?_
    exact ⟨rfl, rfl⟩
  · refine g_iload_n X dX6_checkDesk_4 0 rfl ?_
    refine g_iconst X (v := 4) dX6_checkDesk_5 ki_4 ?_
    refine g_icmp_lt X 19 dX6_checkDesk_6 (by decide) (fun c_6 => absurd c_6 (hd.p c_1)) (fun c_6 => ?_)
    refine g_throwS X F (by rw [hE]; exact hs) thr_X6_250_253 dX6_checkDesk_9 dX6_checkDesk_12 dX6_checkDesk_13 dX6_checkDesk_15 dX6_checkDesk_18 (Nat.le_of_ble_eq_true rfl) (Nat.le_of_ble_eq_true rfl) (Nat.le_of_ble_eq_true rfl) (Nat.le_of_ble_eq_true rfl) (Nat.le_of_ble_eq_true rfl) ?_
    exact ⟨rfl, rfl⟩
theorem c_X6_causeAt_t (hs : l.stackTraces = false) (D : kW G Z) (x : Int32) (hx : noI x Z.nC)  : CtX G l 6 1 6 M_X6_causeAt [.ref (Z.da 1), .int x] (kH G Z I Ar T A Lg h0) (fun _ _ => False) (tX "java/lang/IndexOutOfBoundsException" (kH G Z I Ar T A Lg h0)) := by
  refine CtX.of (by decide +kernel) (Nat.le_of_ble_eq_true rfl) (fun E hE X F => ?_)
  have X : Gc G E "ComplaintDesk" cX6_causeAt 2 6 1 6 := X
  show GW G E _ 2 0 [(0, _), (1, _)] [] _ 0 0
  refine g_iload_n X dX6_causeAt_0 1 rfl ?_
  refine g_if_lt X 15 dX6_causeAt_1 (by decide) (fun c_1 => ?_) (fun c_1 => ?_)
  · refine g_throwS X F (by rw [hE]; exact hs) thr_X6_250_248 dX6_causeAt_15 dX6_causeAt_18 dX6_causeAt_19 dX6_causeAt_21 dX6_causeAt_24 (Nat.le_of_ble_eq_true rfl) (Nat.le_of_ble_eq_true rfl) (Nat.le_of_ble_eq_true rfl) (Nat.le_of_ble_eq_true rfl) (Nat.le_of_ble_eq_true rfl) ?_
    exact ⟨rfl, rfl⟩
  · refine g_iload_n X dX6_causeAt_4 1 rfl ?_
    refine g_aload_n X dX6_causeAt_5 0 rfl ?_
    refine g_getfield X fl_X6_33 dX6_causeAt_6 (kL1 D) rfl ?_
    refine g_cV X ml_X6_92 (k_szC D) ⟨8, _, kL4 D, rfl⟩ (Nat.le_of_ble_eq_true rfl) rfl rfl (Nat.le_of_ble_eq_true rfl) (Nat.zero_le _) (Nat.zero_le _) dX6_causeAt_9 ?_
    refine g_icmp_lt X 25 dX6_causeAt_12 (by decide) (fun c_12 => absurd c_12 (hx.p c_1)) (fun c_12 => ?_)
    refine g_throwS X F (by rw [hE]; exact hs) thr_X6_250_248 dX6_causeAt_15 dX6_causeAt_18 dX6_causeAt_19 dX6_causeAt_21 dX6_causeAt_24 (Nat.le_of_ble_eq_true rfl) (Nat.le_of_ble_eq_true rfl) (Nat.le_of_ble_eq_true rfl) (Nat.le_of_ble_eq_true rfl) (Nat.le_of_ble_eq_true rfl) ?_
    exact ⟨rfl, rfl⟩
theorem c_X6_letterAt_t (hs : l.stackTraces = false) (D : kW G Z) (x : Int32) (hx : noI x Z.nL)  : CtX G l 6 1 6 M_X6_letterAt [.ref (Z.da 1), .int x] (kH G Z I Ar T A Lg h0) (fun _ _ => False) (tX "java/lang/IndexOutOfBoundsException" (kH G Z I Ar T A Lg h0)) := by
  refine CtX.of (by decide +kernel) (Nat.le_of_ble_eq_true rfl) (fun E hE X F => ?_)
  have X : Gc G E "ComplaintDesk" cX6_letterAt 2 6 1 6 := X
  show GW G E _ 2 0 [(0, _), (1, _)] [] _ 0 0
  refine g_iload_n X dX6_letterAt_0 1 rfl ?_
  refine g_if_lt X 15 dX6_letterAt_1 (by decide) (fun c_1 => ?_) (fun c_1 => ?_)
  · refine g_throwS X F (by rw [hE]; exact hs) thr_X6_250_251 dX6_letterAt_15 dX6_letterAt_18 dX6_letterAt_19 dX6_letterAt_21 dX6_letterAt_24 (Nat.le_of_ble_eq_true rfl) (Nat.le_of_ble_eq_true rfl) (Nat.le_of_ble_eq_true rfl) (Nat.le_of_ble_eq_true rfl) (Nat.le_of_ble_eq_true rfl) ?_
    exact ⟨rfl, rfl⟩
  · refine g_iload_n X dX6_letterAt_4 1 rfl ?_
    refine g_aload_n X dX6_letterAt_5 0 rfl ?_
    refine g_getfield X fl_X6_37 dX6_letterAt_6 (kL1 D) rfl ?_
    refine g_cV X ml_X6_92 (k_szL D) ⟨8, _, kL6 D, rfl⟩ (Nat.le_of_ble_eq_true rfl) rfl rfl (Nat.le_of_ble_eq_true rfl) (Nat.zero_le _) (Nat.zero_le _) dX6_letterAt_9 ?_
    refine g_icmp_lt X 25 dX6_letterAt_12 (by decide) (fun c_12 => absurd c_12 (hx.p c_1)) (fun c_12 => ?_)
    refine g_throwS X F (by rw [hE]; exact hs) thr_X6_250_251 dX6_letterAt_15 dX6_letterAt_18 dX6_letterAt_19 dX6_letterAt_21 dX6_letterAt_24 (Nat.le_of_ble_eq_true rfl) (Nat.le_of_ble_eq_true rfl) (Nat.le_of_ble_eq_true rfl) (Nat.le_of_ble_eq_true rfl) (Nat.le_of_ble_eq_true rfl) ?_
    exact ⟨rfl, rfl⟩
theorem c_X1_pointAt_t (hs : l.stackTraces = false) (D : kW G Z) (a : Nat) (ha : a < Z.nX) (x : Int32) (hx : noI x (Z.np a))  : CtX G l 6 1 6 M_X1_pointAt [.ref (Z.da (1000 + a)), .int x] (kH G Z I Ar T A Lg h0) (fun _ _ => False) (tX "java/lang/IndexOutOfBoundsException" (kH G Z I Ar T A Lg h0)) := by
  refine CtX.of (by decide +kernel) (Nat.le_of_ble_eq_true rfl) (fun E hE X F => ?_)
  have X : Gc G E "ComplaintDesk$Letter" cX1_pointAt 2 6 1 6 := X
  show GW G E _ 2 0 [(0, _), (1, _)] [] _ 0 0
  refine g_iload_n X dX1_pointAt_0 1 rfl ?_
  refine g_if_lt X 15 dX1_pointAt_1 (by decide) (fun c_1 => ?_) (fun c_1 => ?_)
  · refine g_throwS X F (by rw [hE]; exact hs) thr_X1_72_70 dX1_pointAt_15 dX1_pointAt_18 dX1_pointAt_19 dX1_pointAt_21 dX1_pointAt_24 (Nat.le_of_ble_eq_true rfl) (Nat.le_of_ble_eq_true rfl) (Nat.le_of_ble_eq_true rfl) (Nat.le_of_ble_eq_true rfl) (Nat.le_of_ble_eq_true rfl) ?_
    exact ⟨rfl, rfl⟩
  · refine g_iload_n X dX1_pointAt_4 1 rfl ?_
    refine g_aload_n X dX1_pointAt_5 0 rfl ?_
    refine g_getfield X fl_X1_12 dX1_pointAt_6 (kLL D ha) rfl ?_
    refine g_cV X ml_X1_65 (k_szQ D ha) ⟨8, _, kLLL D ha, rfl⟩ (Nat.le_of_ble_eq_true rfl) rfl rfl (Nat.le_of_ble_eq_true rfl) (Nat.zero_le _) (Nat.zero_le _) dX1_pointAt_9 ?_
    refine g_icmp_lt X 25 dX1_pointAt_12 (by decide) (fun c_12 => absurd c_12 (hx.p c_1)) (fun c_12 => ?_)
    refine g_throwS X F (by rw [hE]; exact hs) thr_X1_72_70 dX1_pointAt_15 dX1_pointAt_18 dX1_pointAt_19 dX1_pointAt_21 dX1_pointAt_24 (Nat.le_of_ble_eq_true rfl) (Nat.le_of_ble_eq_true rfl) (Nat.le_of_ble_eq_true rfl) (Nat.le_of_ble_eq_true rfl) (Nat.le_of_ble_eq_true rfl) ?_
    exact ⟨rfl, rfl⟩
theorem c_X6_causeAt (D : kW G Z) (c : Nat) (hc : c < Z.nC)  : Ct G l 3 0 0 M_X6_causeAt [.ref (Z.da 1), .int (nI c)] (kH G Z I Ar T A Lg h0) (rX (some (.ref (Z.da (100 + c)))) (kH G Z I Ar T A Lg h0)) := by
  refine Ct.of (by decide +kernel) (Nat.le_of_ble_eq_true rfl) (fun E hE X F => ?_)
  have X : Gc G E "ComplaintDesk" cX6_causeAt 2 3 0 0 := X
  show GW G E _ 2 0 [(0, _), (1, _)] [] _ 0 0
  have h12 := D.c12
  refine g_iload_n X dX6_causeAt_0 1 rfl ?_
  refine g_if_lt X 15 dX6_causeAt_1 (by decide) (fun c_1 => absurd c_1 (nI_pos (by omega))) (fun c_1 => ?_)
  refine g_iload_n X dX6_causeAt_4 1 rfl ?_
  refine g_aload_n X dX6_causeAt_5 0 rfl ?_
  refine g_getfield X fl_X6_33 dX6_causeAt_6 (kL1 D) rfl ?_
  refine g_cV X ml_X6_92 (k_szC D) ⟨8, _, kL4 D, rfl⟩ (Nat.le_of_ble_eq_true rfl) rfl rfl (Nat.le_of_ble_eq_true rfl) (Nat.zero_le _) (Nat.zero_le _) dX6_causeAt_9 ?_
  refine g_icmp_lt X 25 dX6_causeAt_12 (by decide) (fun c_12 => ?_) (fun c_12 => absurd ((nI_ltI (by omega) (by omega)).mpr hc) c_12)
  refine g_aload_n X dX6_causeAt_25 0 rfl ?_
  refine g_getfield X fl_X6_33 dX6_causeAt_26 (kL1 D) rfl ?_
  refine g_iload_n X dX6_causeAt_29 1 rfl ?_
  refine g_cV X ml_X6_224 (k_getC D hc) ⟨8, _, kL4 D, rfl⟩ (Nat.le_of_ble_eq_true rfl) rfl rfl (Nat.le_of_ble_eq_true rfl) (Nat.zero_le _) (Nat.zero_le _) dX6_causeAt_30 ?_
  refine g_castO X cl_X6_101 (kLC D hc) rfl dX6_causeAt_33 ?_
  refine g_aret X F rfl (Or.inl ⟨_, rfl⟩) (Or.inr ⟨_, rfl⟩) dX6_causeAt_36 (Nat.zero_le _) (Nat.zero_le _) ?_
  exact ⟨rfl, rfl⟩
theorem c_X6_letterAt (D : kW G Z) (a : Nat) (hla : a < Z.nL)  : Ct G l 3 0 0 M_X6_letterAt [.ref (Z.da 1), .int (nI a)] (kH G Z I Ar T A Lg h0) (rX (some (.ref (Z.da (1000 + a)))) (kH G Z I Ar T A Lg h0)) := by
  refine Ct.of (by decide +kernel) (Nat.le_of_ble_eq_true rfl) (fun E hE X F => ?_)
  have X : Gc G E "ComplaintDesk" cX6_letterAt 2 3 0 0 := X
  show GW G E _ 2 0 [(0, _), (1, _)] [] _ 0 0
  have h80 := D.l80
  have hlx := D.lx
  have h12 := D.c12
  refine g_iload_n X dX6_letterAt_0 1 rfl ?_
  refine g_if_lt X 15 dX6_letterAt_1 (by decide) (fun c_1 => absurd c_1 (nI_pos (by omega))) (fun c_1 => ?_)
  refine g_iload_n X dX6_letterAt_4 1 rfl ?_
  refine g_aload_n X dX6_letterAt_5 0 rfl ?_
  refine g_getfield X fl_X6_37 dX6_letterAt_6 (kL1 D) rfl ?_
  refine g_cV X ml_X6_92 (k_szL D) ⟨8, _, kL6 D, rfl⟩ (Nat.le_of_ble_eq_true rfl) rfl rfl (Nat.le_of_ble_eq_true rfl) (Nat.zero_le _) (Nat.zero_le _) dX6_letterAt_9 ?_
  refine g_icmp_lt X 25 dX6_letterAt_12 (by decide) (fun c_12 => ?_) (fun c_12 => absurd ((nI_ltI (by omega) (by omega)).mpr hla) c_12)
  refine g_aload_n X dX6_letterAt_25 0 rfl ?_
  refine g_getfield X fl_X6_37 dX6_letterAt_26 (kL1 D) rfl ?_
  refine g_iload_n X dX6_letterAt_29 1 rfl ?_
  refine g_cV X ml_X6_224 (k_getL D hla) ⟨8, _, kL6 D, rfl⟩ (Nat.le_of_ble_eq_true rfl) rfl rfl (Nat.le_of_ble_eq_true rfl) (Nat.zero_le _) (Nat.zero_le _) dX6_letterAt_30 ?_
  refine g_castO X cl_X6_120 (kLL D (Nat.lt_of_lt_of_le hla D.lx)) rfl dX6_letterAt_33 ?_
  refine g_aret X F rfl (Or.inl ⟨_, rfl⟩) (Or.inr ⟨_, rfl⟩) dX6_letterAt_36 (Nat.zero_le _) (Nat.zero_le _) ?_
  exact ⟨rfl, rfl⟩
theorem c_X1_pointAt (D : kW G Z) (a p : Nat) (ha : a < Z.nX) (hp : p < Z.np a)  : Ct G l 3 0 0 M_X1_pointAt [.ref (Z.da (1000 + a)), .int (nI p)] (kH G Z I Ar T A Lg h0) (rX (some (.ref (Z.da (2000 + (6 * a + p))))) (kH G Z I Ar T A Lg h0)) := by
  refine Ct.of (by decide +kernel) (Nat.le_of_ble_eq_true rfl) (fun E hE X F => ?_)
  have X : Gc G E "ComplaintDesk$Letter" cX1_pointAt 2 3 0 0 := X
  show GW G E _ 2 0 [(0, _), (1, _)] [] _ 0 0
  have h80 := D.l80
  have hlx := D.lx
  have h12 := D.c12
  have h6 := D.p6 a
  refine g_iload_n X dX1_pointAt_0 1 rfl ?_
  refine g_if_lt X 15 dX1_pointAt_1 (by decide) (fun c_1 => absurd c_1 (nI_pos (by omega))) (fun c_1 => ?_)
  refine g_iload_n X dX1_pointAt_4 1 rfl ?_
  refine g_aload_n X dX1_pointAt_5 0 rfl ?_
  refine g_getfield X fl_X1_12 dX1_pointAt_6 (kLL D ha) rfl ?_
  refine g_cV X ml_X1_65 (k_szQ D ha) ⟨8, _, kLLL D ha, rfl⟩ (Nat.le_of_ble_eq_true rfl) rfl rfl (Nat.le_of_ble_eq_true rfl) (Nat.zero_le _) (Nat.zero_le _) dX1_pointAt_9 ?_
  refine g_icmp_lt X 25 dX1_pointAt_12 (by decide) (fun c_12 => ?_) (fun c_12 => absurd ((nI_ltI (by omega) (by omega)).mpr hp) c_12)
  refine g_aload_n X dX1_pointAt_25 0 rfl ?_
  refine g_getfield X fl_X1_12 dX1_pointAt_26 (kLL D ha) rfl ?_
  refine g_iload_n X dX1_pointAt_29 1 rfl ?_
  refine g_cV X ml_X1_75 (k_getQ D ha hp) ⟨8, _, kLLL D ha, rfl⟩ (Nat.le_of_ble_eq_true rfl) rfl rfl (Nat.le_of_ble_eq_true rfl) (Nat.zero_le _) (Nat.zero_le _) dX1_pointAt_30 ?_
  refine g_castO X cl_X1_79 (kLQ D ha hp) rfl dX1_pointAt_33 ?_
  refine g_aret X F rfl (Or.inl ⟨_, rfl⟩) (Or.inr ⟨_, rfl⟩) dX1_pointAt_36 (Nat.zero_le _) (Nat.zero_le _) ?_
  exact ⟨rfl, rfl⟩
end K15
