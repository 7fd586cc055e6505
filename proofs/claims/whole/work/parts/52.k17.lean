section K17
variable {G : gG} {l : Launch} {h h0 : hW} {Z : kZ} {I : Nat → Int32} {Ar : Nat → Nat → Int32} {T : Nat → Int32} {A : Nat → Nat → Int32} {Lg : Nat → Nat → Int64}
theorem kV.I1 (V : kV Z I Ar) {x : Int32} : kV Z (va_up I 1 x) Ar := ⟨V.1, V.2⟩
theorem kV.desk (V : kV Z I Ar) (hx : ¬ I 1 < 0) : ∀ nn, kV Z I (deskN I Ar nn)
  | 0 => by rw [deskN_0]; exact V
  | nn + 1 => by rw [deskN_s]; exact (kV.desk V hx nn).work hx _
theorem kV.day {t : Nat} (V : kV Z I Ar) (hI : I 1 = nI t) : ∀ nn, t + nn ≤ 400 → kV Z (dayN I Ar nn).1 (dayN I Ar nn).2
  | 0, _ => by rw [dayN_0]; exact V
  | nn + 1, hn => by
    rw [dayN_s]
    refine ((kV.day V hI nn (by omega)).I1).desk ?_ 4
    rw [va_up_self, dayN_1 hI, nI_1]
    exact nI_pos (by omega)
theorem lp_X6_days_49 {E : gE} (X : Gc G E "ComplaintDesk" cX6_days 4 5 0 0) {Q : State → Prop} (D : kW G Z) (V : kV Z I Ar) (t : Nat) (ht : t ≤ 400) (hI : I 1 = nI t) (hh : ∀ k, k < 4 → okN (Ar 12 k) 20) (kx nx : Nat) (K : GW G E Q 4 65 [(2, .int (nI kx)), (0, .ref (Z.da 1)), (1, .int (nI nx))] [] (kH G Z I (deskN I Ar (4)) T A Lg h0) 0 0)  : ∀ (f : Nat) (j : Nat), j ≤ 4 → 4 - j < f → GW G E Q 4 49 [(3, .int (nI j)), (2, .int (nI kx)), (0, .ref (Z.da 1)), (1, .int (nI nx))] [] (kH G Z I (deskN I Ar (j)) T A Lg h0) 0 0 := by
  intro f
  induction f with
  | zero => intro j hj hf; exact absurd hf (Nat.not_lt_zero _)
  | succ f ih =>
    intro j hj hf
    have hx0 : ¬ I 1 < 0 := by rw [hI]; exact nI_pos (by omega)
    have Vj := V.desk hx0 j
    refine g_iload_n X dX6_days_49 0 rfl ?_
    refine g_iconst X (v := 4) dX6_days_50 ki_4 ?_
    refine g_icmp_ge X 65 dX6_days_51 (by decide) (fun c_51 => ?_) (fun c_51 => ?_)
    · have hge : 4 ≤ j := (nI_leI (by omega) (by omega)).mp c_51
      have ej : j = 4 := by omega
      refine g_L [1, 2, 3] (L' := [(2, _), (0, _), (1, _)]) rfl ?_
      rw [ej]
      exact K
    · have hj4 : j < 4 := nI_lt_of c_51 (by omega) (by omega)
      have hH : deskN I Ar j 12 j = nI (cl (deskN I Ar j 12 j)) ∧ cl (deskN I Ar j 12 j) ≤ 20 := by
        rw [deskN_off (by decide)]; exact (hh j hj4).eq
      refine g_aload_n X dX6_days_54 2 rfl ?_
      refine g_iload_n X dX6_days_55 0 rfl ?_
      refine g_cV0 X ml_X6_160 (c_X6_work D Vj t j (cl (deskN I Ar j 12 j)) ht hI hj4 hH.1 hH.2) ⟨6, _, kL1 D, rfl⟩ (Nat.le_of_ble_eq_true rfl) rfl rfl (Nat.le_of_ble_eq_true rfl) (Nat.zero_le _) (Nat.zero_le _) dX6_days_56 ?_
      refine g_iinc X (v := nI (j + 1)) dX6_days_59 0 rfl (nI_1 j) (Nat.le_of_ble_eq_true rfl) [(3, _), (2, _), (0, _), (1, _)] rfl ?_
      refine g_goto X 49 dX6_days_62 (by decide) ?_
      refine g_L [0, 1, 2, 3] (L' := [(3, _), (2, _), (0, _), (1, _)]) rfl ?_
      refine g_h (h' := (kH G Z I (deskN I Ar (j + 1)) T A Lg h0)) (by rw [deskN_s]) ?_
      exact ih (j + 1) (by omega) (by omega)
theorem lp_X6_days_22 {E : gE} (X : Gc G E "ComplaintDesk" cX6_days 4 5 0 0) (F : gF E M_X6_days) (D : kW G Z) (V : kV Z I Ar) (t : Nat) (ht : t ≤ 400) (hI : I 1 = nI t) (hh : ∀ k, k < 4 → okN (Ar 12 k) 20) (nx : Nat) (hnx : nx ≤ 60) : ∀ (f : Nat) (k : Nat), k ≤ nx → t + k ≤ 400 → nx - k < f → GW G E (gMQ G E 0 0 (rX (some (.int (nI (t + (min nx (400 - t)))))) (kH G Z (dayN I Ar ((min nx (400 - t)))).1 (dayN I Ar ((min nx (400 - t)))).2 T A Lg h0))) 4 22 [(2, .int (nI k)), (0, .ref (Z.da 1)), (1, .int (nI nx))] [] (kH G Z (dayN I Ar (k)).1 (dayN I Ar (k)).2 T A Lg h0) 0 0 := by
  intro f
  induction f with
  | zero => intro k hk htk hf; exact absurd hf (Nat.not_lt_zero _)
  | succ f ih =>
    intro k hk htk hf
    have e1 : (dayN I Ar k).1 1 = nI (t + k) := dayN_1 hI
    have Vk := V.day hI k htk
    refine g_iload_n X dX6_days_22 0 rfl ?_
    refine g_iload_n X dX6_days_23 2 rfl ?_
    refine g_icmp_ge X 71 dX6_days_24 (by decide) (fun c_24 => ?_) (fun c_24 => ?_)
    · have hge : nx ≤ k := (nI_leI (by omega) (by omega)).mp c_24
      have ek : min nx (400 - t) = k := by omega
      refine g_aload_n X dX6_days_71 1 rfl ?_
      refine g_getfield X fl_X6_27 dX6_days_72 (kL1 D) rfl ?_
      refine g_eqi (y := nI (t + k)) (e1) ?_
      refine g_iret X F rfl rfl dX6_days_75 (Nat.zero_le _) (Nat.zero_le _) ?_
      exact ⟨by rw [ek], by rw [ek]⟩
    · have hlt : k < nx := nI_lt_of c_24 (by omega) (by omega)
      refine g_aload_n X dX6_days_27 1 rfl ?_
      refine g_getfield X fl_X6_27 dX6_days_28 (kL1 D) rfl ?_
      refine g_eqi (y := nI (t + k)) (e1) ?_
      refine g_sipush X (v := 400) dX6_days_31 ks_400 ?_
      refine g_icmp_ge X 71 dX6_days_34 (by decide) (fun c_34 => ?_) (fun c_34 => ?_)
      · have hge : 400 ≤ t + k := ge_lit (N := 400) rfl c_34 (by omega)
        have ek : min nx (400 - t) = k := by omega
        refine g_aload_n X dX6_days_71 1 rfl ?_
        refine g_getfield X fl_X6_27 dX6_days_72 (kL1 D) rfl ?_
        refine g_eqi (y := nI (t + k)) (e1) ?_
        refine g_iret X F rfl rfl dX6_days_75 (Nat.zero_le _) (Nat.zero_le _) ?_
        exact ⟨by rw [ek], by rw [ek]⟩
      · have hlt4 : t + k < 400 := lt_lit (N := 400) rfl (Int32.not_le.mp c_34) (by omega)
        refine g_aload_n X dX6_days_37 1 rfl ?_
        refine g_dup X dX6_days_38 rfl ?_
        refine g_getfield X fl_X6_27 dX6_days_39 (kL1 D) rfl ?_
        refine g_iconst X (v := 1) dX6_days_42 ki_1 ?_
        refine g_iadd X dX6_days_43 ?_
        refine g_putfield X fp_X6_27 dX6_days_44 (kL1 D) (Nat.le_of_ble_eq_true rfl) rfl rfl _ rfl ?_
        refine g_h (h' := (kH G Z (va_up (dayN I Ar k).1 1 ((dayN I Ar k).1 1 + 1)) (dayN I Ar (k)).2 T A Lg h0)) (kuI1 D) ?_
        refine g_iconst X (v := 0) dX6_days_47 ki_0 ?_
        refine g_istore_n X dX6_days_48 (Nat.le_of_ble_eq_true rfl) [(3, _), (2, _), (0, _), (1, _)] rfl ?_
        refine g_L [0, 1, 2, 3] (L' := [(3, _), (2, _), (0, _), (1, _)]) rfl ?_
        refine g_h (h' := (kH G Z (va_up (dayN I Ar k).1 1 ((dayN I Ar k).1 1 + 1)) (deskN (va_up (dayN I Ar k).1 1 ((dayN I Ar k).1 1 + 1)) (dayN I Ar k).2 0) T A Lg h0)) (by rw [deskN_0]) ?_
        refine lp_X6_days_49 X D Vk.I1 (t + k + 1) (by omega) (by rw [va_up_self, e1]; exact nI_1 _) (fun j hj => by rw [dayN_off (by decide)]; exact hh j hj) k nx ?_ _ 0 (Nat.zero_le _) (Nat.lt_succ_self _)
        refine g_iinc X (v := nI (k + 1)) dX6_days_65 0 rfl (nI_1 k) (Nat.le_of_ble_eq_true rfl) [(2, _), (0, _), (1, _)] rfl ?_
        refine g_goto X 22 dX6_days_68 (by decide) ?_
        refine g_h (h' := (kH G Z (dayN I Ar (k + 1)).1 (dayN I Ar (k + 1)).2 T A Lg h0)) (by rw [dayN_s]) ?_
        exact ih (k + 1) (by omega) (by omega) (by omega)
theorem c_X6_days (D : kW G Z) (V : kV Z I Ar) (t : Nat) (ht : t ≤ 400) (hI : I 1 = nI t) (hh : ∀ k, k < 4 → okN (Ar 12 k) 20) (nx : Nat) (hnx : nx ≤ 60)  : Ct G l 5 0 0 M_X6_days [.ref (Z.da 1), .int (nI nx)] (kH G Z I Ar T A Lg h0) (rX (some (.int (nI (t + (min nx (400 - t)))))) (kH G Z (dayN I Ar ((min nx (400 - t)))).1 (dayN I Ar ((min nx (400 - t)))).2 T A Lg h0)) := by
  refine Ct.of (by decide +kernel) (Nat.le_of_ble_eq_true rfl) (fun E hE X F => ?_)
  have X : Gc G E "ComplaintDesk" cX6_days 4 5 0 0 := X
  show GW G E _ 4 0 [(0, _), (1, _)] [] _ 0 0
  refine g_iload_n X dX6_days_0 1 rfl ?_
  refine g_if_lt X 10 dX6_days_1 (by decide) (fun c_1 => absurd c_1 (nI_pos (by omega))) (fun c_1 => ?_)
  refine g_iload_n X dX6_days_4 1 rfl ?_
  refine g_bipush X (v := 60) dX6_days_5 kb_60 ?_
  refine g_icmp_le X 20 dX6_days_7 (by decide) (fun c_7 => ?_) (fun c_7 => absurd ((nI_leI (a := nx) (b := 60) (by omega) (by omega)).mpr hnx) c_7)
  refine g_iconst X (v := 0) dX6_days_20 ki_0 ?_
  refine g_istore_n X dX6_days_21 (Nat.le_of_ble_eq_true rfl) [(2, _), (0, _), (1, _)] rfl ?_
  refine g_L [0, 1, 2] (L' := [(2, _), (0, _), (1, _)]) rfl ?_
  refine g_h (h' := (kH G Z (dayN I Ar (0)).1 (dayN I Ar (0)).2 T A Lg h0)) (by rw [dayN_0]) ?_
  exact lp_X6_days_22 X F D V t ht hI hh nx hnx _ 0 (Nat.zero_le _) (by omega) (Nat.lt_succ_self _)
/-- what can be kept of what is due in 1 .. k days -/
def kpF (F : Nat → Int32) (hr : Int32) : Nat → Int32
  | 0 => 0
  | k + 1 => mnF (kpF F hr k + F (k + 1)) (hr * nI (k + 1))
termination_by n => n
theorem kpF_0 {F : Nat → Int32} {hr : Int32} : kpF F hr 0 = 0 := by rw [kpF]
theorem kpF_s {F : Nat → Int32} {hr : Int32} {k : Nat} : kpF F hr (k + 1) = mnF (kpF F hr k + F (k + 1)) (hr * nI (k + 1)) := by rw [kpF]
theorem lp_X6_late_15 {E : gE} (X : Gc G E "ComplaintDesk" cX6_late 5 4 0 0) (F : gF E M_X6_late) (D : kW G Z) (d : Nat) (hd : d < 4) (w0 : Int32) : ∀ (f : Nat) (k : Nat), k ≤ 60 → 60 - k < f → GW G E (gMQ G E 0 0 (rX (some (.int (w0 - kpF (A 11) (Ar 12 d) 60))) (kH G Z I Ar T A Lg h0))) 5 15 [(4, .int (nI (k + 1))), (3, .int (kpF (A 11) (Ar 12 d) k)), (2, .int w0), (0, .ref (Z.da 1)), (1, .int (nI d))] [] (kH G Z I Ar T A Lg h0) 0 0 := by
  intro f
  induction f with
  | zero => intro k hk hf; exact absurd hf (Nat.not_lt_zero _)
  | succ f ih =>
    intro k hk hf
    refine g_iload X dX6_late_15 0 rfl ?_
    refine g_aload_n X dX6_late_17 3 rfl ?_
    refine g_getfield X fl_X6_53 dX6_late_18 (kL1 D) rfl ?_
    refine g_alen X dX6_late_21 (t := 0) rfl (kL11 D) (nI 61) rfl ?_
    refine g_icmp_ge X 53 dX6_late_22 (by decide) (fun c_22 => ?_) (fun c_22 => ?_)
    · have hge : 61 ≤ k + 1 := (nI_leI (by omega) (by omega)).mp c_22
      have ek : k = 60 := by omega
      refine g_iload_n X dX6_late_53 2 rfl ?_
      refine g_iload_n X dX6_late_54 1 rfl ?_
      refine g_isub X dX6_late_55 ?_
      refine g_iret X F rfl rfl dX6_late_56 (Nat.zero_le _) (Nat.zero_le _) ?_
      exact ⟨by rw [ek], rfl⟩
    · have hlt : k + 1 < 61 := nI_lt_of c_22 (by omega) (by omega)
      refine g_iload_n X dX6_late_25 1 rfl ?_
      refine g_aload_n X dX6_late_26 3 rfl ?_
      refine g_getfield X fl_X6_53 dX6_late_27 (kL1 D) rfl ?_
      refine g_iload X dX6_late_30 0 rfl ?_
      refine g_iaload X dX6_late_32 (kL11 D) (vp_in_nI (by omega) (by decide)) ?_
      refine g_eqi (y := A 11 (k + 1)) (by rw [nI_clamp (by omega)]) ?_
      refine g_iadd X dX6_late_33 ?_
      refine g_aload_n X dX6_late_34 3 rfl ?_
      refine g_getfield X fl_X6_40 dX6_late_35 (kL1 D) rfl ?_
      refine g_iload_n X dX6_late_38 4 rfl ?_
      refine g_iaload X dX6_late_39 (kL8 D) (vp_in_nI (by omega) (by decide)) ?_
      refine g_eqi (y := Ar 12 d) (by rw [nI_clamp (by omega)]) ?_
      refine g_iload X dX6_late_40 0 rfl ?_
      refine g_imul X dX6_late_42 ?_
      refine g_mmin X mm_X6_218 (Nat.le_of_ble_eq_true rfl) (Nat.le_of_ble_eq_true rfl) (Nat.zero_le _) (Nat.zero_le _) dX6_late_43 ?_
      refine g_eqi (y := kpF (A 11) (Ar 12 d) (k + 1)) kpF_s.symm ?_
      refine g_istore_n X dX6_late_46 (Nat.le_of_ble_eq_true rfl) [(3, _), (4, _), (2, _), (0, _), (1, _)] rfl ?_
      refine g_iinc X (v := nI (k + 1 + 1)) dX6_late_47 1 rfl (nI_1 _) (Nat.le_of_ble_eq_true rfl) [(4, _), (3, _), (2, _), (0, _), (1, _)] rfl ?_
      refine g_goto X 15 dX6_late_50 (by decide) ?_
      refine g_L [0, 1, 2, 3, 4] (L' := [(4, _), (3, _), (2, _), (0, _), (1, _)]) rfl ?_
      exact ih (k + 1) (by omega) (by omega)
theorem c_X6_late (D : kW G Z) (V : kV Z I Ar) (d : Nat) (hd : d < 4)  : Ct G l 4 0 0 M_X6_late [.ref (Z.da 1), .int (nI d)] (kH G Z I Ar T A Lg h0) (rX (some (.int (nI (cN (isOfP I Ar (nI d)) 480) - kpF (fdK I Ar (nI d) (zeroN (A 11) 61) 480) (Ar 12 d) 60))) (kH G Z I Ar T (va_up A 11 (fdK I Ar (nI d) (zeroN (A 11) 61) 480)) Lg h0)) := by
  refine Ct.of (by decide +kernel) (Nat.le_of_ble_eq_true rfl) (fun E hE X F => ?_)
  have X : Gc G E "ComplaintDesk" cX6_late 5 4 0 0 := X
  show GW G E _ 5 0 [(0, _), (1, _)] [] _ 0 0
  refine g_iload_n X dX6_late_0 1 rfl ?_
  refine g_cS0 X ml_X6_78 (c_X6_checkDesk d hd) (Nat.le_of_ble_eq_true rfl) rfl rfl (Nat.le_of_ble_eq_true rfl) (Nat.zero_le _) (Nat.zero_le _) dX6_late_1 ?_
  refine g_aload_n X dX6_late_4 0 rfl ?_
  refine g_iload_n X dX6_late_5 1 rfl ?_
  refine g_cV X ml_X6_215 (c_X6_fillDueInDays D V (nI d)) ⟨6, _, kL1 D, rfl⟩ (Nat.le_of_ble_eq_true rfl) rfl rfl (Nat.le_of_ble_eq_true rfl) (Nat.zero_le _) (Nat.zero_le _) dX6_late_6 ?_
  refine g_istore_n X dX6_late_9 (Nat.le_of_ble_eq_true rfl) [(2, _), (0, _), (1, _)] rfl ?_
  refine g_iconst X (v := 0) dX6_late_10 ki_0 ?_
  refine g_istore_n X dX6_late_11 (Nat.le_of_ble_eq_true rfl) [(3, _), (2, _), (0, _), (1, _)] rfl ?_
  refine g_iconst X (v := 1) dX6_late_12 ki_1 ?_
  refine g_istore X dX6_late_13 (Nat.le_of_ble_eq_true rfl) [(4, _), (3, _), (2, _), (0, _), (1, _)] rfl ?_
  refine g_L [0, 1, 2, 3, 4] (L' := [(4, _), (3, _), (2, _), (0, _), (1, _)]) rfl ?_
  refine g_L [0, 1, 2, 3, 4] (L' := [(4, .int (nI (0 + 1))), (3, .int (kpF (fdK I Ar (nI d) (zeroN (A 11) 61) 480) (Ar 12 d) 0)), (2, _), (0, _), (1, _)]) (by rw [kpF_0]; rfl) ?_
  exact lp_X6_late_15 (A := (va_up A 11 (fdK I Ar (nI d) (zeroN (A 11) 61) 480))) X F D d hd _ _ 0 (Nat.zero_le _) (Nat.lt_succ_self _)
theorem c_X6_counts_z (D : kW G Z) (c : Nat) (hc : c < Z.nC) (d : Int32) (hd : d < 0 ∨ I 1 < d)  : Ct G l 5 0 0 M_X6_counts [.ref (Z.da 1), .int (nI c), .int d] (kH G Z I Ar T A Lg h0) (rX (some (.int 0)) (kH G Z I Ar T A Lg h0)) := by
  refine Ct.of (by decide +kernel) (Nat.le_of_ble_eq_true rfl) (fun E hE X F => ?_)
  have X : Gc G E "ComplaintDesk" cX6_counts 4 5 0 0 := X
  show GW G E _ 4 0 [(0, _), (1, _), (2, _)] [] _ 0 0
  refine g_aload_n X dX6_counts_0 0 rfl ?_
  refine g_iload_n X dX6_counts_1 1 rfl ?_
  refine g_cV X ml_X6_74 (c_X6_causeAt D c hc) ⟨6, _, kL1 D, rfl⟩ (Nat.le_of_ble_eq_true rfl) rfl rfl (Nat.le_of_ble_eq_true rfl) (Nat.zero_le _) (Nat.zero_le _) dX6_counts_2 ?_
  refine g_astore_n X dX6_counts_5 (Nat.le_of_ble_eq_true rfl) [(3, _), (0, _), (1, _), (2, _)] rfl ?_
  refine g_iload_n X dX6_counts_6 3 rfl ?_
  refine g_if_lt X 18 dX6_counts_7 (by decide) (fun c_7 => ?_) (fun c_7 => ?_)
  · refine g_iconst X (v := 0) dX6_counts_18 ki_0 ?_
    refine g_iret X F rfl rfl dX6_counts_19 (Nat.zero_le _) (Nat.zero_le _) ?_
    exact ⟨rfl, rfl⟩
  · refine g_iload_n X dX6_counts_10 3 rfl ?_
    refine g_aload_n X dX6_counts_11 1 rfl ?_
    refine g_getfield X fl_X6_27 dX6_counts_12 (kL1 D) rfl ?_
    refine g_icmp_le X 20 dX6_counts_15 (by decide) (fun c_15 => absurd c_15 (Int32.not_le.mpr (hd.resolve_left c_7))) (fun c_15 => ?_)
    refine g_iconst X (v := 0) dX6_counts_18 ki_0 ?_
    refine g_iret X F rfl rfl dX6_counts_19 (Nat.zero_le _) (Nat.zero_le _) ?_
    exact ⟨rfl, rfl⟩
theorem c_X6_counts (D : kW G Z) (V : kV Z I Ar) (h14 : ∀ a, a < Z.nX → okN (Ar 14 a) 400) (c : Nat) (hc : c < Z.nC) (d : Nat) (hd : d ≤ 400) (hd2 : nI d ≤ I 1)  : Ct G l 5 0 0 M_X6_counts [.ref (Z.da 1), .int (nI c), .int (nI d)] (kH G Z I Ar T A Lg h0) (rX (some (.int ((cdL Ar (nI c) (zeroN (A 10) 401) Z.nL) d))) (kH G Z I Ar T (va_up A 10 (cdL Ar (nI c) (zeroN (A 10) 401) Z.nL)) Lg h0)) := by
  refine Ct.of (by decide +kernel) (Nat.le_of_ble_eq_true rfl) (fun E hE X F => ?_)
  have X : Gc G E "ComplaintDesk" cX6_counts 4 5 0 0 := X
  show GW G E _ 4 0 [(0, _), (1, _), (2, _)] [] _ 0 0
  refine g_aload_n X dX6_counts_0 0 rfl ?_
  refine g_iload_n X dX6_counts_1 1 rfl ?_
  refine g_cV X ml_X6_74 (c_X6_causeAt D c hc) ⟨6, _, kL1 D, rfl⟩ (Nat.le_of_ble_eq_true rfl) rfl rfl (Nat.le_of_ble_eq_true rfl) (Nat.zero_le _) (Nat.zero_le _) dX6_counts_2 ?_
  refine g_astore_n X dX6_counts_5 (Nat.le_of_ble_eq_true rfl) [(3, _), (0, _), (1, _), (2, _)] rfl ?_
  refine g_iload_n X dX6_counts_6 3 rfl ?_
  refine g_if_lt X 18 dX6_counts_7 (by decide) (fun c_7 => absurd c_7 (nI_pos (by omega))) (fun c_7 => ?_)
  refine g_iload_n X dX6_counts_10 3 rfl ?_
  refine g_aload_n X dX6_counts_11 1 rfl ?_
  refine g_getfield X fl_X6_27 dX6_counts_12 (kL1 D) rfl ?_
  refine g_icmp_le X 20 dX6_counts_15 (by decide) (fun c_15 => ?_) (fun c_15 => absurd hd2 c_15)
  refine g_aload_n X dX6_counts_20 1 rfl ?_
  refine g_aload_n X dX6_counts_21 0 rfl ?_
  refine g_cV0 X ml_X6_233 (c_X6_fillCountOfDay D V h14 c hc) ⟨6, _, kL1 D, rfl⟩ (Nat.le_of_ble_eq_true rfl) rfl rfl (Nat.le_of_ble_eq_true rfl) (Nat.zero_le _) (Nat.zero_le _) dX6_counts_22 ?_
  refine g_iload_n X dX6_counts_25 3 rfl ?_
  refine g_aload_n X dX6_counts_26 1 rfl ?_
  refine g_getfield X fl_X6_50 dX6_counts_27 (kL1 D) rfl ?_
  refine g_alen X dX6_counts_30 (t := 0) rfl (kL10 D) (nI 401) rfl ?_
  refine g_icmp_ge X 43 dX6_counts_31 (by decide) (fun c_31 => absurd ((nI_leI (by omega) (by omega)).mp c_31) (by omega)) (fun c_31 => ?_)
  refine g_aload_n X dX6_counts_34 1 rfl ?_
  refine g_getfield X fl_X6_50 dX6_counts_35 (kL1 D) rfl ?_
  refine g_iload_n X dX6_counts_38 3 rfl ?_
  refine g_iaload X dX6_counts_39 (kL10 D) (vp_in_nI (by omega) (by decide)) ?_
  refine g_eqi (y := (cdL Ar (nI c) (zeroN (A 10) 401) Z.nL) d) (by rw [nI_clamp (by omega)]; rfl) ?_
  refine g_goto X 44 dX6_counts_40 (by decide) ?_
  refine g_iret X F rfl rfl dX6_counts_44 (Nat.zero_le _) (Nat.zero_le _) ?_
  exact ⟨rfl, rfl⟩
theorem waveF_kp {F : Nat → Int32} {n0 x : Nat} (hz : waveF F n0 = some x) : ∀ nn, waveF F (n0 + nn) = some x
  | 0 => hz
  | nn + 1 => by rw [show n0 + (nn + 1) = n0 + nn + 1 from rfl, waveF_s, waveF_kp hz nn]
theorem lp_X6_wave_11 {E : gE} (X : Gc G E "ComplaintDesk" cX6_wave 3 5 0 0) (F : gF E M_X6_wave) (D : kW G Z) (t : Nat) (ht : t ≤ 400) (hI : I 1 = nI t) (y0 : Int32) : ∀ (f : Nat) (k : Nat), k ≤ t + 1 → waveF (A 10) k = none → t + 1 - k < f → GW G E (gMQ G E 0 0 (rX (some (.int (enO (waveF (A 10) (t + 1))))) (kH G Z I Ar T A Lg h0))) 3 11 [(2, .int (nI k)), (0, .ref (Z.da 1)), (1, .int y0)] [] (kH G Z I Ar T A Lg h0) 0 0 := by
  intro f
  induction f with
  | zero => intro k hk hwn hf; exact absurd hf (Nat.not_lt_zero _)
  | succ f ih =>
    intro k hk hwn hf
    refine g_iload_n X dX6_wave_11 0 rfl ?_
    refine g_aload_n X dX6_wave_12 1 rfl ?_
    refine g_getfield X fl_X6_27 dX6_wave_13 (kL1 D) rfl ?_
    refine g_eqi (y := nI t) (hI) ?_
    refine g_icmp_gt X 44 dX6_wave_16 (by decide) (fun c_16 => ?_) (fun c_16 => ?_)
    · have hgt : t < k := (nI_ltI (by omega) (by omega)).mp c_16
      have ek : k = t + 1 := by omega
      refine g_iconst X (v := (-1)) dX6_wave_44 ki_m1 ?_
      refine g_iret X F rfl rfl dX6_wave_45 (Nat.zero_le _) (Nat.zero_le _) ?_
      rw [ek] at hwn
      exact ⟨by rw [hwn]; rfl, rfl⟩
    · have hle : k ≤ t := (nI_leI (by omega) (by omega)).mp (Int32.not_lt.mp c_16)
      refine g_iload_n X dX6_wave_19 0 rfl ?_
      refine g_aload_n X dX6_wave_20 1 rfl ?_
      refine g_getfield X fl_X6_50 dX6_wave_21 (kL1 D) rfl ?_
      refine g_alen X dX6_wave_24 (t := 0) rfl (kL10 D) (nI 401) rfl ?_
      refine g_icmp_ge X 44 dX6_wave_25 (by decide) (fun c_25 => absurd ((nI_leI (by omega) (by omega)).mp c_25) (by omega)) (fun c_25 => ?_)
      refine g_aload_n X dX6_wave_28 1 rfl ?_
      refine g_iload_n X dX6_wave_29 0 rfl ?_
      refine g_cV X ml_X6_237 (c_X6_isRare D k (by omega)) ⟨6, _, kL1 D, rfl⟩ (Nat.le_of_ble_eq_true rfl) rfl rfl (Nat.le_of_ble_eq_true rfl) (Nat.zero_le _) (Nat.zero_le _) dX6_wave_30 ?_
      refine g_if_eq X 38 dX6_wave_33 (by decide) (fun c_33 => ?_) (fun c_33 => ?_)
      · refine g_iinc X (v := nI (k + 1)) dX6_wave_38 0 rfl (nI_1 k) (Nat.le_of_ble_eq_true rfl) [(2, _), (0, _), (1, _)] rfl ?_
        refine g_goto X 11 dX6_wave_41 (by decide) ?_
        refine g_L [0, 1, 2] (L' := [(2, _), (0, _), (1, _)]) rfl ?_
        refine ih (k + 1) (by omega) ?_ (by omega)
        rw [waveF_s, hwn]
        exact if_neg (b2_0.mp c_33)
      · refine g_iload_n X dX6_wave_36 0 rfl ?_
        refine g_iret X F rfl rfl dX6_wave_37 (Nat.zero_le _) (Nat.zero_le _) ?_
        have e2 : waveF (A 10) (k + 1) = some k := by
          rw [waveF_s, hwn]; exact if_pos (b2_1.mp (b2_c.resolve_left c_33))
        have e3 := waveF_kp e2 (t - k)
        rw [show k + 1 + (t - k) = t + 1 by omega] at e3
        exact ⟨by rw [e3]; rfl, rfl⟩
theorem c_X6_wave (D : kW G Z) (V : kV Z I Ar) (h14 : ∀ a, a < Z.nX → okN (Ar 14 a) 400) (c : Nat) (hc : c < Z.nC) (t : Nat) (ht : t ≤ 400) (hI : I 1 = nI t)  : Ct G l 5 0 0 M_X6_wave [.ref (Z.da 1), .int (nI c)] (kH G Z I Ar T A Lg h0) (rX (some (.int (enO (waveF (cdL Ar (nI c) (zeroN (A 10) 401) Z.nL) (t + 1))))) (kH G Z I Ar T (va_up A 10 (cdL Ar (nI c) (zeroN (A 10) 401) Z.nL)) Lg h0)) := by
  refine Ct.of (by decide +kernel) (Nat.le_of_ble_eq_true rfl) (fun E hE X F => ?_)
  have X : Gc G E "ComplaintDesk" cX6_wave 3 5 0 0 := X
  show GW G E _ 3 0 [(0, _), (1, _)] [] _ 0 0
  refine g_aload_n X dX6_wave_0 0 rfl ?_
  refine g_aload_n X dX6_wave_1 0 rfl ?_
  refine g_iload_n X dX6_wave_2 1 rfl ?_
  refine g_cV X ml_X6_74 (c_X6_causeAt D c hc) ⟨6, _, kL1 D, rfl⟩ (Nat.le_of_ble_eq_true rfl) rfl rfl (Nat.le_of_ble_eq_true rfl) (Nat.zero_le _) (Nat.zero_le _) dX6_wave_3 ?_
  refine g_cV0 X ml_X6_233 (c_X6_fillCountOfDay D V h14 c hc) ⟨6, _, kL1 D, rfl⟩ (Nat.le_of_ble_eq_true rfl) rfl rfl (Nat.le_of_ble_eq_true rfl) (Nat.zero_le _) (Nat.zero_le _) dX6_wave_6 ?_
  refine g_iconst X (v := 0) dX6_wave_9 ki_0 ?_
  refine g_istore_n X dX6_wave_10 (Nat.le_of_ble_eq_true rfl) [(2, _), (0, _), (1, _)] rfl ?_
  refine g_L [0, 1, 2] (L' := [(2, _), (0, _), (1, _)]) rfl ?_
  exact lp_X6_wave_11 (A := (va_up A 10 (cdL Ar (nI c) (zeroN (A 10) 401) Z.nL))) X F D t ht hI _ _ 0 (Nat.zero_le _) waveF_0 (Nat.lt_succ_self _)
end K17
