section K11
variable {G : gG} {l : Launch} {h h0 : hW} {Z : kZ} {I : Nat → Int32} {Ar : Nat → Nat → Int32} {T : Nat → Int32} {A : Nat → Nat → Int32} {Lg : Nat → Nat → Int64}
theorem lp_X6_work_2 {E : gE} (X : Gc G E "ComplaintDesk" cX6_work 4 4 0 0) (F : gF E M_X6_work) (D : kW G Z) (V : kV Z I Ar) (t d H : Nat) (ht : t ≤ 400) (hI : I 1 = nI t) (hd : d < 4) (hH : Ar 12 d = nI H) (hH2 : H ≤ 20) : ∀ (f : Nat) (n : Nat), n ≤ H → H - n < f → GW G E (gMQ G E 0 0 (rX none (kH G Z I (workN I Ar (nI d) (H)) T A Lg h0))) 4 2 [(2, .int (nI n)), (0, .ref (Z.da 1)), (1, .int (nI d))] [] (kH G Z I (workN I Ar (nI d) (n)) T A Lg h0) 0 0 := by
  intro f
  induction f with
  | zero => intro n hn hf; exact absurd hf (Nat.not_lt_zero _)
  | succ f ih =>
    intro n hn hf
    have h80 := D.l80
    have hlx := D.lx
    have h12 := D.c12
    have hx0 : ¬ I 1 < 0 := by rw [hI]; exact nI_pos (by omega)
    have Vn := V.work (d := nI d) hx0 n
    refine g_iload_n X dX6_work_2 0 rfl ?_
    refine g_aload_n X dX6_work_3 1 rfl ?_
    refine g_getfield X fl_X6_40 dX6_work_4 (kL1 D) rfl ?_
    refine g_iload_n X dX6_work_7 2 rfl ?_
    refine g_iaload X dX6_work_8 (kL8 D) (vp_in_nI (by omega) (by decide)) ?_
    refine g_eqi (y := nI H) (by rw [nI_clamp (by omega), workN_off (by decide)]; exact hH) ?_
    refine g_icmp_ge X 37 dX6_work_9 (by decide) (fun c_9 => ?_) (fun c_9 => ?_)
    · have hge : H ≤ n := (nI_leI (by omega) (by omega)).mp c_9
      have hq : n = H := by omega
      refine g_ret0 X F rfl dX6_work_37 (Nat.zero_le _) (Nat.zero_le _) ?_
      exact ⟨rfl, by rw [hq]⟩
    · have hlt : n < H := nI_lt_of c_9 (by omega) (by omega)
      refine g_aload_n X dX6_work_12 1 rfl ?_
      refine g_iload_n X dX6_work_13 2 rfl ?_
      refine g_cV X ml_X6_268 (c_X6_firstWaiting D Vn (nI d)) ⟨6, _, kL1 D, rfl⟩ (Nat.le_of_ble_eq_true rfl) rfl rfl (Nat.le_of_ble_eq_true rfl) (Nat.zero_le _) (Nat.zero_le _) dX6_work_14 ?_
      refine g_astore_nQ X dX6_work_17 (Nat.le_of_ble_eq_true rfl) [(3, _), (2, _), (0, _), (1, _)] rfl ?_
      refine g_aload_nQ X dX6_work_18 0 rfl ?_
      refine g_ifnonnull X 23 dX6_work_19 (by decide) rfl (fun y c_19 => ?_) (fun c_19 => ?_)
      · obtain ⟨bm, hbm, hby⟩ := bz_s c_19
        obtain ⟨hbl, hbo⟩ := bestF_lt hbm
        have hub := isOf_u D Vn (by omega) hbo
        refine g_aload_nQ X dX6_work_23 0 rfl ?_
        refine g_st (st' := [.ref (Z.da (2000 + (6 * (bm / 6) + bm % 6)))]) (by rw [c_19, hby, hub.2.2]; rfl) ?_
        refine g_aload_n X dX6_work_24 2 rfl ?_
        refine g_getfield X fl_X6_27 dX6_work_25 (kL1 D) rfl ?_
        refine g_putfield X fp_X6_174 dX6_work_28 (kLQ D hub.1 hub.2.1) (Nat.le_of_ble_eq_true rfl) rfl rfl _ rfl ?_
        refine g_h (h' := (kH G Z I (workN I Ar (nI d) (n + 1)) T A Lg h0)) ((kuQ24 (x := I 1) D hub.1 hub.2.1).trans (by rw [workN_s]; simp only [hbm, hub.2.2])) ?_
        refine g_iinc X (v := nI (n + 1)) dX6_work_31 1 rfl (nI_1 n) (Nat.le_of_ble_eq_true rfl) [(2, _), (3, _), (0, _), (1, _)] rfl ?_
        refine g_goto X 2 dX6_work_34 (by decide) ?_
        refine g_L [0, 2, 3] (L' := [(2, _), (0, _), (1, _)]) rfl ?_
        exact ih (n + 1) (by omega) (by omega)
      · refine g_ret0 X F rfl dX6_work_22 (Nat.zero_le _) (Nat.zero_le _) ?_
        have hst := workN_stop (bz_n c_19) (H - n)
        rw [show n + (H - n) = H by omega] at hst
        exact ⟨rfl, by rw [hst]⟩
theorem c_X6_work (D : kW G Z) (V : kV Z I Ar) (t d H : Nat) (ht : t ≤ 400) (hI : I 1 = nI t) (hd : d < 4) (hH : Ar 12 d = nI H) (hH2 : H ≤ 20)  : Ct G l 4 0 0 M_X6_work [.ref (Z.da 1), .int (nI d)] (kH G Z I Ar T A Lg h0) (rX none (kH G Z I (workN I Ar (nI d) (H)) T A Lg h0)) := by
  refine Ct.of (by decide +kernel) (Nat.le_of_ble_eq_true rfl) (fun E hE X F => ?_)
  have X : Gc G E "ComplaintDesk" cX6_work 4 4 0 0 := X
  show GW G E _ 4 0 [(0, _), (1, _)] [] _ 0 0
  refine g_iconst X (v := 0) dX6_work_0 ki_0 ?_
  refine g_istore_n X dX6_work_1 (Nat.le_of_ble_eq_true rfl) [(2, _), (0, _), (1, _)] rfl ?_
  refine g_L [0, 1, 2] (L' := [(2, _), (0, _), (1, _)]) rfl ?_
  refine g_h (h' := (kH G Z I (workN I Ar (nI d) (0)) T A Lg h0)) (by rw [workN_0]) ?_
  exact lp_X6_work_2 X F D V t d H ht hI hd hH hH2 _ 0 (Nat.zero_le _) (Nat.lt_succ_self _)
theorem lp_X6_isRare_29 {E : gE} (X : Gc G E "ComplaintDesk" cX6_isRare 4 0 0 0) (F : gF E M_X6_isRare) (D : kW G Z) (d : Nat) (hd : d ≤ 400) (h2 : ¬ A 10 d < 2) : ∀ (f : Nat) (k : Nat), k ≤ d → d - k < f → GW G E (gMQ G E 0 0 (rX (some (.int (b2 (rareP (A 10) d)))) (kH G Z I Ar T A Lg h0))) 4 29 [(3, .int (nI k)), (2, .int (nI (cN (fun k => ¬ A 10 k < A 10 d) k))), (0, .ref (Z.da 1)), (1, .int (nI d))] [] (kH G Z I Ar T A Lg h0) 0 0 := by
  intro f
  induction f with
  | zero => intro k hkd hf; exact absurd hf (Nat.not_lt_zero _)
  | succ f ih =>
    intro k hkd hf
    refine g_iload_n X dX6_isRare_29 0 rfl ?_
    refine g_iload_n X dX6_isRare_30 3 rfl ?_
    refine g_icmp_ge X 58 dX6_isRare_31 (by decide) (fun c_31 => ?_) (fun c_31 => ?_)
    · have hge : d ≤ k := (nI_leI (by omega) (by omega)).mp c_31
      have hq : k = d := by omega
      refine g_L [0, 1, 2, 3] (L' := [(3, _), (2, .int (nI (cN (fun k => ¬ A 10 k < A 10 d) d))), (0, _), (1, _)]) (by rw [hq]; rfl) ?_
      refine g_iload_n X dX6_isRare_58 1 rfl ?_
      refine g_iconst X (v := 1) dX6_isRare_59 ki_1 ?_
      refine g_iadd X dX6_isRare_60 ?_
      refine g_bipush X (v := 20) dX6_isRare_61 kb_20 ?_
      refine g_imul X dX6_isRare_63 ?_
      refine g_eqi (y := 20 * (nI (cN (fun k => ¬ A 10 k < A 10 d) d) + 1)) (Int32.mul_comm _ _) ?_
      refine g_iload_n X dX6_isRare_64 3 rfl ?_
      refine g_iconst X (v := 1) dX6_isRare_65 ki_1 ?_
      refine g_iadd X dX6_isRare_66 ?_
      refine g_icmp_gt X 74 dX6_isRare_67 (by decide) (fun c_67 => ?_) (fun c_67 => ?_)
      · refine g_iconst X (v := 0) dX6_isRare_74 ki_0 ?_
        refine g_iret X F rfl rfl dX6_isRare_75 (Nat.zero_le _) (Nat.zero_le _) ?_
        exact ⟨by rw [b2_f (fun q => q.2 c_67)], rfl⟩
      · refine g_iconst X (v := 1) dX6_isRare_70 ki_1 ?_
        refine g_goto X 75 dX6_isRare_71 (by decide) ?_
        refine g_iret X F rfl rfl dX6_isRare_75 (Nat.zero_le _) (Nat.zero_le _) ?_
        exact ⟨by rw [b2_t ⟨h2, c_67⟩], rfl⟩
    · have hlt : k < d := nI_lt_of c_31 (by omega) (by omega)
      refine g_aload_n X dX6_isRare_34 2 rfl ?_
      refine g_getfield X fl_X6_50 dX6_isRare_35 (kL1 D) rfl ?_
      refine g_iload_n X dX6_isRare_38 0 rfl ?_
      refine g_iaload X dX6_isRare_39 (kL10 D) (vp_in_nI (by omega) (by decide)) ?_
      refine g_eqi (y := A 10 k) (by rw [nI_clamp (by omega)]) ?_
      refine g_aload_n X dX6_isRare_40 2 rfl ?_
      refine g_getfield X fl_X6_50 dX6_isRare_41 (kL1 D) rfl ?_
      refine g_iload_n X dX6_isRare_44 3 rfl ?_
      refine g_iaload X dX6_isRare_45 (kL10 D) (vp_in_nI (by omega) (by decide)) ?_
      refine g_eqi (y := A 10 d) (by rw [nI_clamp (by omega)]) ?_
      refine g_icmp_lt X 52 dX6_isRare_46 (by decide) (fun c_46 => ?_) (fun c_46 => ?_)
      · refine g_L [0, 1, 2, 3] (L' := [(3, _), (2, .int (nI (cN (fun k => ¬ A 10 k < A 10 d) (k + 1)))), (0, _), (1, _)]) (by rw [cN_s, if_neg (fun q => q c_46)]; rfl) ?_
        refine g_iinc X (v := nI (k + 1)) dX6_isRare_52 0 rfl (nI_1 k) (Nat.le_of_ble_eq_true rfl) [(3, _), (2, _), (0, _), (1, _)] rfl ?_
        refine g_goto X 29 dX6_isRare_55 (by decide) ?_
        refine g_L [0, 1, 2, 3] (L' := [(3, _), (2, _), (0, _), (1, _)]) rfl ?_
        exact ih (k + 1) (by omega) (by omega)
      · refine g_iinc X (v := nI (cN (fun k => ¬ A 10 k < A 10 d) (k + 1))) dX6_isRare_49 1 rfl (cN_t c_46) (Nat.le_of_ble_eq_true rfl) [(2, _), (3, _), (0, _), (1, _)] rfl ?_
        refine g_iinc X (v := nI (k + 1)) dX6_isRare_52 1 rfl (nI_1 k) (Nat.le_of_ble_eq_true rfl) [(3, _), (2, _), (0, _), (1, _)] rfl ?_
        refine g_goto X 29 dX6_isRare_55 (by decide) ?_
        refine g_L [0, 1, 2, 3] (L' := [(3, _), (2, _), (0, _), (1, _)]) rfl ?_
        exact ih (k + 1) (by omega) (by omega)
theorem c_X6_isRare (D : kW G Z) (d : Nat) (hd : d ≤ 400)  : Ct G l 0 0 0 M_X6_isRare [.ref (Z.da 1), .int (nI d)] (kH G Z I Ar T A Lg h0) (rX (some (.int (b2 (rareP (A 10) d)))) (kH G Z I Ar T A Lg h0)) := by
  refine Ct.of (by decide +kernel) (Nat.le_of_ble_eq_true rfl) (fun E hE X F => ?_)
  have X : Gc G E "ComplaintDesk" cX6_isRare 4 0 0 0 := X
  show GW G E _ 4 0 [(0, _), (1, _)] [] _ 0 0
  refine g_iload_n X dX6_isRare_0 1 rfl ?_
  refine g_if_lt X 23 dX6_isRare_1 (by decide) (fun c_1 => absurd c_1 (nI_pos (by omega))) (fun c_1 => ?_)
  refine g_iload_n X dX6_isRare_4 1 rfl ?_
  refine g_aload_n X dX6_isRare_5 0 rfl ?_
  refine g_getfield X fl_X6_50 dX6_isRare_6 (kL1 D) rfl ?_
  refine g_alen X dX6_isRare_9 (t := 0) rfl (kL10 D) (nI 401) rfl ?_
  refine g_icmp_ge X 23 dX6_isRare_10 (by decide) (fun c_10 => absurd ((nI_leI (by omega) (by omega)).mp c_10) (by omega)) (fun c_10 => ?_)
  refine g_aload_n X dX6_isRare_13 0 rfl ?_
  refine g_getfield X fl_X6_50 dX6_isRare_14 (kL1 D) rfl ?_
  refine g_iload_n X dX6_isRare_17 1 rfl ?_
  refine g_iaload X dX6_isRare_18 (kL10 D) (vp_in_nI (by omega) (by decide)) ?_
  refine g_eqi (y := A 10 d) (by rw [nI_clamp (by omega)]) ?_
  refine g_iconst X (v := 2) dX6_isRare_19 ki_2 ?_
  refine g_icmp_ge X 25 dX6_isRare_20 (by decide) (fun c_20 => ?_) (fun c_20 => ?_)
  · refine g_iconst X (v := 0) dX6_isRare_25 ki_0 ?_
    refine g_istore_n X dX6_isRare_26 (Nat.le_of_ble_eq_true rfl) [(2, _), (0, _), (1, _)] rfl ?_
    refine g_iconst X (v := 0) dX6_isRare_27 ki_0 ?_
    refine g_istore_n X dX6_isRare_28 (Nat.le_of_ble_eq_true rfl) [(3, _), (2, _), (0, _), (1, _)] rfl ?_
    refine g_L [0, 1, 2, 3] (L' := [(3, _), (2, _), (0, _), (1, _)]) rfl ?_
    refine g_L [0, 1, 2, 3] (L' := [(3, .int (nI 0)), (2, .int (nI (cN (fun k => ¬ A 10 k < A 10 d) 0))), (0, _), (1, _)]) (by rw [cN_0]; rfl) ?_
    exact lp_X6_isRare_29 X F D d hd (by first | exact c_20 | exact Int32.not_lt.mpr c_20) _ 0 (Nat.zero_le _) (Nat.lt_succ_self _)
  · refine g_iconst X (v := 0) dX6_isRare_23 ki_0 ?_
    refine g_iret X F rfl rfl dX6_isRare_24 (Nat.zero_le _) (Nat.zero_le _) ?_
    exact ⟨by rw [b2_f (fun q => q.1 (by first | exact c_20 | exact Int32.not_le.mp c_20))], rfl⟩
theorem va_up_up {α : Type} {f : Nat → α} {k : Nat} {x y : α} : va_up (va_up f k x) k y = va_up f k y := by
  funext j; simp only [va_up]; split <;> rfl
theorem upd_upd {f : Nat → Int32} {k : Nat} {x y : Int32} : upd (upd f k x) k y = upd f k y := by
  funext j; simp only [upd]; split <;> rfl
theorem upd_same {f : Nat → Int32} {k : Nat} : upd f k (f k) = f := by
  funext j; simp only [upd]; split
  · rename_i e; rw [e]
  · rfl
theorem cdP_c {it : Int32} {a : Nat} {F : Nat → Int32} : ∀ n, cdP Ar it a F n = upd F (cl (Ar 14 a)) (F (cl (Ar 14 a)) + nI (cN (fun p => undF Ar it 13 (Ar 22 (6 * a + p)) = true) n))
  | 0 => by rw [cdP_0, cN_0, show nI 0 = 0 from rfl, Int32.add_zero, upd_same]
  | n + 1 => by
    rw [cdP_s, cdP_c n, upd_upd, pk_us, Int32.add_assoc]
    congr 2
    by_cases e : undF Ar it 13 (Ar 22 (6 * a + n)) = true
    · rw [b2_t e, cN_t e]
    · rw [b2_f e, cN_f e]
theorem lp_X6_fillCountOfDay_10 {E : gE} (X : Gc G E "ComplaintDesk" cX6_fillCountOfDay 4 4 0 0) (F : gF E M_X6_fillCountOfDay) (D : kW G Z) (V : kV Z I Ar) (h14 : ∀ a, a < Z.nX → okN (Ar 14 a) 400) (u : Nat) (hu : u < Z.nC) : ∀ (f : Nat) (a : Nat), a ≤ Z.nL → Z.nL - a < f → GW G E (gMQ G E 0 0 (rX none (kH G Z I Ar T (va_up A 10 (cdL Ar (nI u) (zeroN (A 10) 401) (Z.nL))) Lg h0))) 4 10 [(2, .int (nI a)), (0, .ref (Z.da 1)), (1, .ref (Z.da (100 + u)))] [] (kH G Z I Ar T (va_up A 10 (cdL Ar (nI u) (zeroN (A 10) 401) (a))) Lg h0) 0 0 := by
  intro f
  induction f with
  | zero => intro a haa hf; exact absurd hf (Nat.not_lt_zero _)
  | succ f ih =>
    intro a haa hf
    have h80 := D.l80
    have hlx := D.lx
    have h12 := D.c12
    refine g_iload_n X dX6_fillCountOfDay_10 0 rfl ?_
    refine g_aload_n X dX6_fillCountOfDay_11 1 rfl ?_
    refine g_getfield X fl_X6_37 dX6_fillCountOfDay_12 (kL1 D) rfl ?_
    refine g_cV X ml_X6_92 (k_szL D) ⟨8, _, kL6 D, rfl⟩ (Nat.le_of_ble_eq_true rfl) rfl rfl (Nat.le_of_ble_eq_true rfl) (Nat.zero_le _) (Nat.zero_le _) dX6_fillCountOfDay_15 ?_
    refine g_icmp_ge X 75 dX6_fillCountOfDay_18 (by decide) (fun c_18 => ?_) (fun c_18 => ?_)
    · have hge : Z.nL ≤ a := (nI_leI (by omega) (by omega)).mp c_18
      have hq : a = Z.nL := by omega
      subst hq
      refine g_ret0 X F rfl dX6_fillCountOfDay_75 (Nat.zero_le _) (Nat.zero_le _) ?_
      exact ⟨rfl, rfl⟩
    · have hla : a < Z.nL := nI_lt_of c_18 (by omega) (by omega)
      have hax : a < Z.nX := by omega
      have e14 := (h14 a hax).eq
      refine g_aload_n X dX6_fillCountOfDay_21 1 rfl ?_
      refine g_getfield X fl_X6_37 dX6_fillCountOfDay_22 (kL1 D) rfl ?_
      refine g_iload_n X dX6_fillCountOfDay_25 0 rfl ?_
      refine g_cV X ml_X6_224 (k_getL D hla) ⟨8, _, kL6 D, rfl⟩ (Nat.le_of_ble_eq_true rfl) rfl rfl (Nat.le_of_ble_eq_true rfl) (Nat.zero_le _) (Nat.zero_le _) dX6_fillCountOfDay_26 ?_
      refine g_castO X cl_X6_120 (kLL D hax) rfl dX6_fillCountOfDay_29 ?_
      refine g_astore_n X dX6_fillCountOfDay_32 (Nat.le_of_ble_eq_true rfl) [(3, _), (2, _), (0, _), (1, _)] rfl ?_
      refine g_aload_n X dX6_fillCountOfDay_33 0 rfl ?_
      refine g_getfield X fl_X6_148 dX6_fillCountOfDay_34 (kLL D hax) rfl ?_
      refine g_if_lt X 69 dX6_fillCountOfDay_37 (by decide) (fun c_37 => absurd c_37 (by rw [e14.1]; exact nI_pos (by omega))) (fun c_37 => ?_)
      refine g_aload_n X dX6_fillCountOfDay_40 0 rfl ?_
      refine g_getfield X fl_X6_148 dX6_fillCountOfDay_41 (kLL D hax) rfl ?_
      refine g_aload_n X dX6_fillCountOfDay_44 2 rfl ?_
      refine g_getfield X fl_X6_50 dX6_fillCountOfDay_45 (kL1 D) rfl ?_
      refine g_alen X dX6_fillCountOfDay_48 (t := 0) rfl (kL10 D) (nI 401) rfl ?_
      refine g_icmp_ge X 69 dX6_fillCountOfDay_49 (by decide) (fun c_49 => absurd c_49 (by rw [e14.1]; exact fun q => by have := (nI_leI (by omega) (by omega)).mp q; omega)) (fun c_49 => ?_)
      refine g_aload_n X dX6_fillCountOfDay_52 2 rfl ?_
      refine g_getfield X fl_X6_50 dX6_fillCountOfDay_53 (kL1 D) rfl ?_
      refine g_aload_n X dX6_fillCountOfDay_56 0 rfl ?_
      refine g_getfield X fl_X6_148 dX6_fillCountOfDay_57 (kLL D hax) rfl ?_
      refine g_dup2 X dX6_fillCountOfDay_60 rfl rfl ?_
      refine g_iaload X dX6_fillCountOfDay_61 (kL10 D) ((h14 a hax).vp (by decide)) ?_
      refine g_aload_n X dX6_fillCountOfDay_62 0 rfl ?_
      refine g_aload_n X dX6_fillCountOfDay_63 3 rfl ?_
      refine g_cV X ml_X6_288 (c_X1_pointsUnder D a hax (V.k22 a hax) V.k2 u hu) ⟨1, _, kLL D hax, rfl⟩ (Nat.le_of_ble_eq_true rfl) rfl rfl (Nat.le_of_ble_eq_true rfl) (Nat.zero_le _) (Nat.zero_le _) dX6_fillCountOfDay_64 ?_
      refine g_iadd X dX6_fillCountOfDay_67 ?_
      refine g_iastore X dX6_fillCountOfDay_68 (kL10 D) ((h14 a hax).vp (by decide)) ?_
      refine g_h (h' := (kH G Z I Ar T (va_up A 10 (cdL Ar (nI u) (zeroN (A 10) 401) (a + 1))) Lg h0)) ((kuB10 D).trans (by rw [va_up_up, cdL_s, cdP_c, V.2.1 a hax, show cl (nI (Z.np a)) = Z.np a from nI_clamp (by have := D.p6 a; omega)]; rfl)) ?_
      refine g_iinc X (v := nI (a + 1)) dX6_fillCountOfDay_69 1 rfl (nI_1 a) (Nat.le_of_ble_eq_true rfl) [(2, _), (3, _), (0, _), (1, _)] rfl ?_
      refine g_goto X 10 dX6_fillCountOfDay_72 (by decide) ?_
      refine g_L [0, 2, 3] (L' := [(2, _), (0, _), (1, _)]) rfl ?_
      exact ih (a + 1) (by omega) (by omega)
theorem c_X6_fillCountOfDay (D : kW G Z) (V : kV Z I Ar) (h14 : ∀ a, a < Z.nX → okN (Ar 14 a) 400) (u : Nat) (hu : u < Z.nC)  : Ct G l 4 0 0 M_X6_fillCountOfDay [.ref (Z.da 1), .ref (Z.da (100 + u))] (kH G Z I Ar T A Lg h0) (rX none (kH G Z I Ar T (va_up A 10 (cdL Ar (nI u) (zeroN (A 10) 401) (Z.nL))) Lg h0)) := by
  refine Ct.of (by decide +kernel) (Nat.le_of_ble_eq_true rfl) (fun E hE X F => ?_)
  have X : Gc G E "ComplaintDesk" cX6_fillCountOfDay 4 4 0 0 := X
  show GW G E _ 4 0 [(0, _), (1, _)] [] _ 0 0
  refine g_aload_n X dX6_fillCountOfDay_0 0 rfl ?_
  refine g_getfield X fl_X6_50 dX6_fillCountOfDay_1 (kL1 D) rfl ?_
  refine g_iconst X (v := 0) dX6_fillCountOfDay_4 ki_0 ?_
  refine g_cS0 X ml_X6_282 (c_J7_fill_53178 (Z.da 10) 401 0 (A 10) (by decide) (kL10 D)) (Nat.le_of_ble_eq_true rfl) rfl rfl (Nat.le_of_ble_eq_true rfl) (Nat.zero_le _) (Nat.zero_le _) dX6_fillCountOfDay_5 ?_
  refine g_h (h' := (kH G Z I Ar T (va_up A 10 (cdL Ar (nI u) (zeroN (A 10) 401) (0))) Lg h0)) (by rw [cdL_0]; exact kuB10 D) ?_
  refine g_iconst X (v := 0) dX6_fillCountOfDay_8 ki_0 ?_
  refine g_istore_n X dX6_fillCountOfDay_9 (Nat.le_of_ble_eq_true rfl) [(2, _), (0, _), (1, _)] rfl ?_
  refine g_L [0, 1, 2] (L' := [(2, _), (0, _), (1, _)]) rfl ?_
  exact lp_X6_fillCountOfDay_10 X F D V h14 u hu _ 0 (Nat.zero_le _) (Nat.lt_succ_self _)
end K11
