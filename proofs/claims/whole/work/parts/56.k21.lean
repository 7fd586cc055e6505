section K21
variable {G : gG} {l : Launch} {h h0 : hW} {Z : kZ} {I : Nat → Int32} {Ar : Nat → Nat → Int32} {T : Nat → Int32} {A : Nat → Nat → Int32} {Lg : Nat → Nat → Int64}
theorem up_up {α : Type} {f : Nat → α} {k : Nat} {x y : α} : va_up (va_up f k x) k y = va_up f k y := va_up_up
theorem c_X5_clear (D : kW G Z)  : Ct G l 0 0 0 M_X5_clear [.ref (Z.da 3)] (kH G Z I Ar T A Lg h0) (rX none (kH G Z I Ar (va_up (va_up (va_up T 3 0) 4 0) 5 0) A Lg h0)) := by
  refine Ct.of (by decide +kernel) (Nat.le_of_ble_eq_true rfl) (fun E hE X F => ?_)
  have X : Gc G E "ComplaintDesk$Words" cX5_clear 1 0 0 0 := X
  show GW G E _ 1 0 [(0, _)] [] _ 0 0
  refine g_aload_n X dX5_clear_0 0 rfl ?_
  refine g_iconst X (v := 0) dX5_clear_1 ki_0 ?_
  refine g_putfield X fp_X5_19 dX5_clear_2 (kL3 D) (Nat.le_of_ble_eq_true rfl) rfl rfl _ rfl ?_
  refine g_h (h' := (kH G Z I Ar (va_up T 3 0) A Lg h0)) (kuT3 D) ?_
  refine g_aload_n X dX5_clear_5 0 rfl ?_
  refine g_iconst X (v := 0) dX5_clear_6 ki_0 ?_
  refine g_putfield X fp_X5_23 dX5_clear_7 (kL3 D) (Nat.le_of_ble_eq_true rfl) rfl rfl _ rfl ?_
  refine g_h (h' := (kH G Z I Ar (va_up (va_up T 3 0) 4 0) A Lg h0)) (kuT4 D) ?_
  refine g_aload_n X dX5_clear_10 0 rfl ?_
  refine g_iconst X (v := 0) dX5_clear_11 ki_0 ?_
  refine g_putfield X fp_X5_26 dX5_clear_12 (kL3 D) (Nat.le_of_ble_eq_true rfl) rfl rfl _ rfl ?_
  refine g_h (h' := (kH G Z I Ar (va_up (va_up (va_up T 3 0) 4 0) 5 0) A Lg h0)) (kuT5 D) ?_
  refine g_ret0 X F rfl dX5_clear_15 (Nat.zero_le _) (Nat.zero_le _) ?_
  exact ⟨rfl, rfl⟩
theorem c_X5_beginPart (D : kW G Z) (pz : Nat) (hp : T 4 = nI pz)  : Ct G l 0 0 0 M_X5_beginPart [.ref (Z.da 3)] (kH G Z I Ar T A Lg h0) (rX none (kH G Z I Ar (va_up T 4 (nI (pz + 1))) A Lg h0)) := by
  refine Ct.of (by decide +kernel) (Nat.le_of_ble_eq_true rfl) (fun E hE X F => ?_)
  have X : Gc G E "ComplaintDesk$Words" cX5_beginPart 1 0 0 0 := X
  show GW G E _ 1 0 [(0, _)] [] _ 0 0
  refine g_aload_n X dX5_beginPart_0 0 rfl ?_
  refine g_dup X dX5_beginPart_1 rfl ?_
  refine g_getfield X fl_X5_23 dX5_beginPart_2 (kL3 D) rfl ?_
  refine g_eqi (y := nI pz) (hp) ?_
  refine g_iconst X (v := 1) dX5_beginPart_5 ki_1 ?_
  refine g_iadd X dX5_beginPart_6 ?_
  refine g_eqi (y := nI (pz + 1)) (nI_1 pz) ?_
  refine g_putfield X fp_X5_23 dX5_beginPart_7 (kL3 D) (Nat.le_of_ble_eq_true rfl) rfl rfl _ rfl ?_
  refine g_h (h' := (kH G Z I Ar (va_up T 4 (nI (pz + 1))) A Lg h0)) (kuT4 D) ?_
  refine g_ret0 X F rfl dX5_beginPart_10 (Nat.zero_le _) (Nat.zero_le _) ?_
  exact ⟨rfl, rfl⟩
theorem c_X5_add_0 (D : kW G Z) (nz : Nat) (hn : nz < 60) (h3 : T 3 = nI nz) (cw : Int64)  : Ct G l 0 0 0 M_X5_add [.ref (Z.da 3), .long cw, .int 0] (kH G Z I Ar T A Lg h0) (rX none (kH G Z I Ar (va_up T 3 (nI (nz + 1))) (va_up A 14 (upd (A 14) nz (T 4 - 1))) (va_up Lg 13 (vp_updL (Lg 13) nz cw)) h0)) := by
  refine Ct.of (by decide +kernel) (Nat.le_of_ble_eq_true rfl) (fun E hE X F => ?_)
  have X : Gc G E "ComplaintDesk$Words" cX5_add 4 0 0 0 := X
  show GW G E _ 4 0 [(0, _), (1, _), (3, _)] [] _ 0 0
  refine g_aload_n X dX5_add_0 0 rfl ?_
  refine g_getfield X fl_X5_19 dX5_add_1 (kL3 D) rfl ?_
  refine g_eqi (y := nI nz) (h3) ?_
  refine g_aload_n X dX5_add_4 0 rfl ?_
  refine g_getfield X fl_X5_9 dX5_add_5 (kL3 D) rfl ?_
  refine g_alen X dX5_add_8 (t := 2) rfl (kL13 D) (nI 60) rfl ?_
  refine g_icmp_ge X 24 dX5_add_9 (by decide) (fun c_9 => absurd ((nI_leI (by omega) (by omega)).mp c_9) (by omega)) (fun c_9 => ?_)
  refine g_aload_n X dX5_add_12 0 rfl ?_
  refine g_getfield X fl_X5_19 dX5_add_13 (kL3 D) rfl ?_
  refine g_eqi (y := nI nz) (h3) ?_
  refine g_aload_n X dX5_add_16 0 rfl ?_
  refine g_getfield X fl_X5_15 dX5_add_17 (kL3 D) rfl ?_
  refine g_alen X dX5_add_20 (t := 0) rfl (kL14 D) (nI 60) rfl ?_
  refine g_icmp_lt X 25 dX5_add_21 (by decide) (fun c_21 => ?_) (fun c_21 => absurd ((nI_ltI (a := nz) (b := 60) (by omega) (by omega)).mpr hn) c_21)
  refine g_aload_n X dX5_add_25 0 rfl ?_
  refine g_getfield X fl_X5_9 dX5_add_26 (kL3 D) rfl ?_
  refine g_aload_n X dX5_add_29 0 rfl ?_
  refine g_getfield X fl_X5_19 dX5_add_30 (kL3 D) rfl ?_
  refine g_eqi (y := nI nz) (h3) ?_
  refine g_lload_n X dX5_add_33 1 rfl ?_
  refine g_lastore X dX5_add_34 (kL13 D) (vp_in_nI hn (by decide)) ?_
  refine g_h (h' := (kH G Z I Ar T A (va_up Lg 13 (vp_updL (Lg 13) nz cw)) h0)) (by rw [nI_clamp (by omega)]; exact kuL13 D) ?_
  refine g_aload_n X dX5_add_35 0 rfl ?_
  refine g_getfield X fl_X5_15 dX5_add_36 (kL3 D) rfl ?_
  refine g_aload_n X dX5_add_39 0 rfl ?_
  refine g_getfield X fl_X5_19 dX5_add_40 (kL3 D) rfl ?_
  refine g_eqi (y := nI nz) (h3) ?_
  refine g_aload_n X dX5_add_43 0 rfl ?_
  refine g_getfield X fl_X5_23 dX5_add_44 (kL3 D) rfl ?_
  refine g_iconst X (v := 1) dX5_add_47 ki_1 ?_
  refine g_isub X dX5_add_48 ?_
  refine g_iastore X dX5_add_49 (kL14 D) (vp_in_nI hn (by decide)) ?_
  refine g_h (h' := (kH G Z I Ar T (va_up A 14 (upd (A 14) nz (T 4 - 1))) (va_up Lg 13 (vp_updL (Lg 13) nz cw)) h0)) (by rw [nI_clamp (by omega)]; exact kuB14 D) ?_
  refine g_iload_n X dX5_add_50 2 rfl ?_
  refine g_if_eq X 69 dX5_add_51 (by decide) (fun c_51 => ?_) (fun c_51 => absurd rfl c_51)
  refine g_aload_n X dX5_add_69 0 rfl ?_
  refine g_dup X dX5_add_70 rfl ?_
  refine g_getfield X fl_X5_19 dX5_add_71 (kL3 D) rfl ?_
  refine g_eqi (y := nI nz) (h3) ?_
  refine g_iconst X (v := 1) dX5_add_74 ki_1 ?_
  refine g_iadd X dX5_add_75 ?_
  refine g_eqi (y := nI (nz + 1)) (nI_1 nz) ?_
  refine g_putfield X fp_X5_19 dX5_add_76 (kL3 D) (Nat.le_of_ble_eq_true rfl) rfl rfl _ rfl ?_
  refine g_h (h' := (kH G Z I Ar (va_up T 3 (nI (nz + 1))) (va_up A 14 (upd (A 14) nz (T 4 - 1))) (va_up Lg 13 (vp_updL (Lg 13) nz cw)) h0)) (kuT3 D) ?_
  refine g_ret0 X F rfl dX5_add_79 (Nat.zero_le _) (Nat.zero_le _) ?_
  exact ⟨rfl, rfl⟩
theorem c_X5_add_1 (D : kW G Z) (nz : Nat) (hn : nz < 60) (h3 : T 3 = nI nz) (cw : Int64)  : Ct G l 0 0 0 M_X5_add [.ref (Z.da 3), .long cw, .int 1] (kH G Z I Ar T A Lg h0) (rX none (kH G Z I Ar (va_up (va_up T 5 (T 5 ||| (1 : Int32) <<< (nI nz &&& 31))) 3 (nI (nz + 1))) (va_up A 14 (upd (A 14) nz (T 4 - 1))) (va_up Lg 13 (vp_updL (Lg 13) nz cw)) h0)) := by
  refine Ct.of (by decide +kernel) (Nat.le_of_ble_eq_true rfl) (fun E hE X F => ?_)
  have X : Gc G E "ComplaintDesk$Words" cX5_add 4 0 0 0 := X
  show GW G E _ 4 0 [(0, _), (1, _), (3, _)] [] _ 0 0
  refine g_aload_n X dX5_add_0 0 rfl ?_
  refine g_getfield X fl_X5_19 dX5_add_1 (kL3 D) rfl ?_
  refine g_eqi (y := nI nz) (h3) ?_
  refine g_aload_n X dX5_add_4 0 rfl ?_
  refine g_getfield X fl_X5_9 dX5_add_5 (kL3 D) rfl ?_
  refine g_alen X dX5_add_8 (t := 2) rfl (kL13 D) (nI 60) rfl ?_
  refine g_icmp_ge X 24 dX5_add_9 (by decide) (fun c_9 => absurd ((nI_leI (by omega) (by omega)).mp c_9) (by omega)) (fun c_9 => ?_)
  refine g_aload_n X dX5_add_12 0 rfl ?_
  refine g_getfield X fl_X5_19 dX5_add_13 (kL3 D) rfl ?_
  refine g_eqi (y := nI nz) (h3) ?_
  refine g_aload_n X dX5_add_16 0 rfl ?_
  refine g_getfield X fl_X5_15 dX5_add_17 (kL3 D) rfl ?_
  refine g_alen X dX5_add_20 (t := 0) rfl (kL14 D) (nI 60) rfl ?_
  refine g_icmp_lt X 25 dX5_add_21 (by decide) (fun c_21 => ?_) (fun c_21 => absurd ((nI_ltI (a := nz) (b := 60) (by omega) (by omega)).mpr hn) c_21)
  refine g_aload_n X dX5_add_25 0 rfl ?_
  refine g_getfield X fl_X5_9 dX5_add_26 (kL3 D) rfl ?_
  refine g_aload_n X dX5_add_29 0 rfl ?_
  refine g_getfield X fl_X5_19 dX5_add_30 (kL3 D) rfl ?_
  refine g_eqi (y := nI nz) (h3) ?_
  refine g_lload_n X dX5_add_33 1 rfl ?_
  refine g_lastore X dX5_add_34 (kL13 D) (vp_in_nI hn (by decide)) ?_
  refine g_h (h' := (kH G Z I Ar T A (va_up Lg 13 (vp_updL (Lg 13) nz cw)) h0)) (by rw [nI_clamp (by omega)]; exact kuL13 D) ?_
  refine g_aload_n X dX5_add_35 0 rfl ?_
  refine g_getfield X fl_X5_15 dX5_add_36 (kL3 D) rfl ?_
  refine g_aload_n X dX5_add_39 0 rfl ?_
  refine g_getfield X fl_X5_19 dX5_add_40 (kL3 D) rfl ?_
  refine g_eqi (y := nI nz) (h3) ?_
  refine g_aload_n X dX5_add_43 0 rfl ?_
  refine g_getfield X fl_X5_23 dX5_add_44 (kL3 D) rfl ?_
  refine g_iconst X (v := 1) dX5_add_47 ki_1 ?_
  refine g_isub X dX5_add_48 ?_
  refine g_iastore X dX5_add_49 (kL14 D) (vp_in_nI hn (by decide)) ?_
  refine g_h (h' := (kH G Z I Ar T (va_up A 14 (upd (A 14) nz (T 4 - 1))) (va_up Lg 13 (vp_updL (Lg 13) nz cw)) h0)) (by rw [nI_clamp (by omega)]; exact kuB14 D) ?_
  refine g_iload_n X dX5_add_50 2 rfl ?_
  refine g_if_eq X 69 dX5_add_51 (by decide) (fun c_51 => absurd c_51 (by decide)) (fun c_51 => ?_)
  refine g_aload_n X dX5_add_54 0 rfl ?_
  refine g_dup X dX5_add_55 rfl ?_
  refine g_getfield X fl_X5_26 dX5_add_56 (kL3 D) rfl ?_
  refine g_iconst X (v := 1) dX5_add_59 ki_1 ?_
  refine g_aload_n X dX5_add_60 0 rfl ?_
  refine g_getfield X fl_X5_19 dX5_add_61 (kL3 D) rfl ?_
  refine g_eqi (y := nI nz) (h3) ?_
  refine g_ishl X dX5_add_64 ?_
  refine g_ior X dX5_add_65 ?_
  refine g_putfield X fp_X5_26 dX5_add_66 (kL3 D) (Nat.le_of_ble_eq_true rfl) rfl rfl _ rfl ?_
  refine g_h (h' := (kH G Z I Ar (va_up T 5 (T 5 ||| (1 : Int32) <<< (nI nz &&& 31))) (va_up A 14 (upd (A 14) nz (T 4 - 1))) (va_up Lg 13 (vp_updL (Lg 13) nz cw)) h0)) (kuT5 D) ?_
  refine g_aload_n X dX5_add_69 0 rfl ?_
  refine g_dup X dX5_add_70 rfl ?_
  refine g_getfield X fl_X5_19 dX5_add_71 (kL3 D) rfl ?_
  refine g_eqi (y := nI nz) (h3) ?_
  refine g_iconst X (v := 1) dX5_add_74 ki_1 ?_
  refine g_iadd X dX5_add_75 ?_
  refine g_eqi (y := nI (nz + 1)) (nI_1 nz) ?_
  refine g_putfield X fp_X5_19 dX5_add_76 (kL3 D) (Nat.le_of_ble_eq_true rfl) rfl rfl _ rfl ?_
  refine g_h (h' := (kH G Z I Ar (va_up (va_up T 5 (T 5 ||| (1 : Int32) <<< (nI nz &&& 31))) 3 (nI (nz + 1))) (va_up A 14 (upd (A 14) nz (T 4 - 1))) (va_up Lg 13 (vp_updL (Lg 13) nz cw)) h0)) (kuT3 D) ?_
  refine g_ret0 X F rfl dX5_add_79 (Nat.zero_le _) (Nat.zero_le _) ?_
  exact ⟨rfl, rfl⟩
/-- the first place from i on, below n, where C is not -/
def skw (C : Nat → Prop) [DecidablePred C] (n i : Nat) : Nat := if _h : i < n ∧ C i then skw C n (i + 1) else i
termination_by n - i
theorem skw_t {C : Nat → Prop} [DecidablePred C] {n i : Nat} (h : i < n ∧ C i) : skw C n i = skw C n (i + 1) := by rw [skw, dif_pos h]
theorem skw_f {C : Nat → Prop} [DecidablePred C] {n i : Nat} (h : ¬ (i < n ∧ C i)) : skw C n i = i := by rw [skw, dif_neg h]
theorem skw_le {C : Nat → Prop} [DecidablePred C] {n : Nat} : ∀ (fu i : Nat), n - i < fu → i ≤ n → i ≤ skw C n i ∧ skw C n i ≤ n := by
  intro fu
  induction fu with
  | zero => intro i h; omega
  | succ fu ih =>
    intro i hf hle
    by_cases h : i < n ∧ C i
    · rw [skw_t h]; have := ih (i + 1) (by omega) (by omega); omega
    · rw [skw_f h]; omega
theorem skw_ge1 {C : Nat → Prop} [DecidablePred C] {n i : Nat} (h : i ≤ n) : i ≤ skw C n i := (skw_le _ i (Nat.lt_succ_self _) h).1
theorem skw_le1 {C : Nat → Prop} [DecidablePred C] {n i : Nat} (h : i ≤ n) : skw C n i ≤ n := (skw_le _ i (Nat.lt_succ_self _) h).2
theorem lp_X5_codesOf_2 {E : gE} (X : Gc G E "ComplaintDesk$Words" cX5_codesOf 4 3 1 200) {Q : State → Prop} (D : kW G Z) (n : Nat) (hn : n ≤ 60) (h3 : T 3 = nI n) (x : Int32) (b : Nat) (K : GW G E Q 4 26 [(2, .int (nI b)), (0, .ref (Z.da 3)), (1, .int x)] [] (kH G Z I Ar T A Lg h0) 0 0) : ∀ (f : Nat) (i : Nat), i ≤ n → skw (fun j => ¬ A 14 j = x) n i = b → n - i < f → GW G E Q 4 2 [(2, .int (nI i)), (0, .ref (Z.da 3)), (1, .int x)] [] (kH G Z I Ar T A Lg h0) 0 0 := by
  intro f
  induction f with
  | zero => intro i hi hb hf; exact absurd hf (Nat.not_lt_zero _)
  | succ f ih =>
    intro i hi hb hf
    refine g_iload_n X dX5_codesOf_2 0 rfl ?_
    refine g_aload_n X dX5_codesOf_3 1 rfl ?_
    refine g_getfield X fl_X5_19 dX5_codesOf_4 (kL3 D) rfl ?_
    refine g_eqi (y := nI n) (h3) ?_
    refine g_icmp_ge X 26 dX5_codesOf_7 (by decide) (fun c_7 => ?_) (fun c_7 => ?_)
    · have hge : n ≤ i := (nI_leI (by omega) (by omega)).mp c_7
      have eb : b = i := by rw [← hb]; exact skw_f (fun q => by omega)
      refine g_L [0, 1, 2] (L' := [(2, _), (0, _), (1, _)]) rfl ?_
      rw [← eb]
      exact K
    · have hlt : i < n := nI_lt_of c_7 (by omega) (by omega)
      refine g_aload_n X dX5_codesOf_10 1 rfl ?_
      refine g_getfield X fl_X5_15 dX5_codesOf_11 (kL3 D) rfl ?_
      refine g_iload_n X dX5_codesOf_14 0 rfl ?_
      refine g_iaload X dX5_codesOf_15 (kL14 D) (vp_in_nI (by omega) (by decide)) ?_
      refine g_eqi (y := A 14 i) (by rw [nI_clamp (by omega)]) ?_
      refine g_iload_n X dX5_codesOf_16 2 rfl ?_
      refine g_icmp_eq X 26 dX5_codesOf_17 (by decide) (fun c_17 => ?_) (fun c_17 => ?_)
      · have eb : b = i := by rw [← hb]; exact skw_f (fun q => q.2 c_17)
        refine g_L [0, 1, 2] (L' := [(2, _), (0, _), (1, _)]) rfl ?_
        rw [← eb]
        exact K
      · refine g_iinc X (v := nI (i + 1)) dX5_codesOf_20 0 rfl (nI_1 i) (Nat.le_of_ble_eq_true rfl) [(2, _), (0, _), (1, _)] rfl ?_
        refine g_goto X 2 dX5_codesOf_23 (by decide) ?_
        refine g_L [0, 1, 2] (L' := [(2, _), (0, _), (1, _)]) rfl ?_
        refine ih (i + 1) (by omega) ?_ (by omega)
        rw [← hb]; exact (skw_t (C := fun j => ¬ A 14 j = x) ⟨hlt, c_17⟩).symm
theorem lp_X5_codesOf_28 {E : gE} (X : Gc G E "ComplaintDesk$Words" cX5_codesOf 4 3 1 200) {Q : State → Prop} (D : kW G Z) (n : Nat) (hn : n ≤ 60) (h3 : T 3 = nI n) (x : Int32) (b fb : Nat) (K : GW G E Q 4 52 [(3, .int (nI b)), (2, .int (nI fb)), (0, .ref (Z.da 3)), (1, .int x)] [] (kH G Z I Ar T A Lg h0) 0 0) : ∀ (f : Nat) (i : Nat), i ≤ n → skw (fun j => A 14 j = x) n i = b → n - i < f → GW G E Q 4 28 [(3, .int (nI i)), (2, .int (nI fb)), (0, .ref (Z.da 3)), (1, .int x)] [] (kH G Z I Ar T A Lg h0) 0 0 := by
  intro f
  induction f with
  | zero => intro i hi hb hf; exact absurd hf (Nat.not_lt_zero _)
  | succ f ih =>
    intro i hi hb hf
    refine g_iload_n X dX5_codesOf_28 0 rfl ?_
    refine g_aload_n X dX5_codesOf_29 2 rfl ?_
    refine g_getfield X fl_X5_19 dX5_codesOf_30 (kL3 D) rfl ?_
    refine g_eqi (y := nI n) (h3) ?_
    refine g_icmp_ge X 52 dX5_codesOf_33 (by decide) (fun c_33 => ?_) (fun c_33 => ?_)
    · have hge : n ≤ i := (nI_leI (by omega) (by omega)).mp c_33
      have eb : b = i := by rw [← hb]; exact skw_f (fun q => by omega)
      refine g_L [0, 1, 2, 3] (L' := [(3, _), (2, _), (0, _), (1, _)]) rfl ?_
      rw [← eb]
      exact K
    · have hlt : i < n := nI_lt_of c_33 (by omega) (by omega)
      refine g_aload_n X dX5_codesOf_36 2 rfl ?_
      refine g_getfield X fl_X5_15 dX5_codesOf_37 (kL3 D) rfl ?_
      refine g_iload_n X dX5_codesOf_40 0 rfl ?_
      refine g_iaload X dX5_codesOf_41 (kL14 D) (vp_in_nI (by omega) (by decide)) ?_
      refine g_eqi (y := A 14 i) (by rw [nI_clamp (by omega)]) ?_
      refine g_iload_n X dX5_codesOf_42 3 rfl ?_
      refine g_icmp_ne X 52 dX5_codesOf_43 (by decide) (fun c_43 => ?_) (fun c_43 => ?_)
      · have eb : b = i := by rw [← hb]; exact skw_f (fun q => c_43 q.2)
        refine g_L [0, 1, 2, 3] (L' := [(3, _), (2, _), (0, _), (1, _)]) rfl ?_
        rw [← eb]
        exact K
      · refine g_iinc X (v := nI (i + 1)) dX5_codesOf_46 0 rfl (nI_1 i) (Nat.le_of_ble_eq_true rfl) [(3, _), (2, _), (0, _), (1, _)] rfl ?_
        refine g_goto X 28 dX5_codesOf_49 (by decide) ?_
        refine g_L [0, 1, 2, 3] (L' := [(3, _), (2, _), (0, _), (1, _)]) rfl ?_
        refine ih (i + 1) (by omega) ?_ (by omega)
        rw [← hb]; exact (skw_t (C := fun j => A 14 j = x) ⟨hlt, c_43⟩).symm
theorem c_X5_codesOf (D : kW G Z) (n : Nat) (hn : n ≤ 60) (h3 : T 3 = nI n) (x : Int32)  : Ct G l 3 1 200 M_X5_codesOf [.ref (Z.da 3), .int x] (kH G Z I Ar T A Lg h0) (fun v h' => ∃ (q2 : Nat) (gn : Nat → Int64), (kH G Z I Ar T A Lg h0) q2 = none ∧ gA G q2 ∧ v = some (.ref q2) ∧ h' = hup (kH G Z I Ar T A Lg h0) q2 (aJ G ((skw (fun j => A 14 j = x) n (skw (fun j => ¬ A 14 j = x) n 0)) - (skw (fun j => ¬ A 14 j = x) n 0)) gn) ∧ ∀ i, i < (skw (fun j => A 14 j = x) n (skw (fun j => ¬ A 14 j = x) n 0)) - (skw (fun j => ¬ A 14 j = x) n 0) → gn i = Lg 13 ((skw (fun j => ¬ A 14 j = x) n 0) + i)) := by
  refine Ct.of (by decide +kernel) (Nat.le_of_ble_eq_true rfl) (fun E hE X F => ?_)
  have X : Gc G E "ComplaintDesk$Words" cX5_codesOf 4 3 1 200 := X
  show GW G E _ 4 0 [(0, _), (1, _)] [] _ 0 0
  have hf1 : (skw (fun j => ¬ A 14 j = x) n 0) ≤ n := skw_le1 (Nat.zero_le _)
  have hf2 : (skw (fun j => ¬ A 14 j = x) n 0) ≤ (skw (fun j => A 14 j = x) n (skw (fun j => ¬ A 14 j = x) n 0)) := skw_ge1 hf1
  have hf3 : (skw (fun j => A 14 j = x) n (skw (fun j => ¬ A 14 j = x) n 0)) ≤ n := skw_le1 hf1
  refine g_iconst X (v := 0) dX5_codesOf_0 ki_0 ?_
  refine g_istore_n X dX5_codesOf_1 (Nat.le_of_ble_eq_true rfl) [(2, _), (0, _), (1, _)] rfl ?_
  refine g_L [0, 1, 2] (L' := [(2, _), (0, _), (1, _)]) rfl ?_
  refine lp_X5_codesOf_2 X D n hn h3 x (skw (fun j => ¬ A 14 j = x) n 0) ?_ _ 0 (Nat.zero_le _) rfl (Nat.lt_succ_self _)
  refine g_iload_n X dX5_codesOf_26 0 rfl ?_
  refine g_istore_n X dX5_codesOf_27 (Nat.le_of_ble_eq_true rfl) [(3, _), (2, _), (0, _), (1, _)] rfl ?_
  refine lp_X5_codesOf_28 X D n hn h3 x (skw (fun j => A 14 j = x) n (skw (fun j => ¬ A 14 j = x) n 0)) (skw (fun j => ¬ A 14 j = x) n 0) ?_ _ (skw (fun j => ¬ A 14 j = x) n 0) hf1 rfl (Nat.lt_succ_self _)
  refine g_aload_n X dX5_codesOf_52 2 rfl ?_
  refine g_getfield X fl_X5_9 dX5_codesOf_53 (kL3 D) rfl ?_
  refine g_iload_n X dX5_codesOf_56 1 rfl ?_
  refine g_iload_n X dX5_codesOf_57 0 rfl ?_
  refine g_cSx X ml_X5_29 (c_J7_copyOfRange_23910 _ 60 (skw (fun j => ¬ A 14 j = x) n 0) (skw (fun j => A 14 j = x) n (skw (fun j => ¬ A 14 j = x) n 0)) (Lg 13) (kL13 D) hf2 (by omega) (by decide)) (Nat.le_of_ble_eq_true rfl) rfl rfl (Nat.le_of_ble_eq_true rfl) (Nat.le_of_ble_eq_true rfl) (Nat.le_of_ble_eq_true rfl) dX5_codesOf_58 ?_
  rintro v9 h9 ⟨q2, gn, hf9, hg9, rfl, rfl, hgn⟩
  refine g_st (st' := [.ref q2]) rfl ?_
  refine g_aret X F rfl (Or.inr ⟨_, rfl⟩) (Or.inr ⟨_, rfl⟩) dX5_codesOf_61 (Nat.le_of_ble_eq_true rfl) (Nat.le_of_ble_eq_true rfl) ?_
  exact ⟨q2, gn, hf9, hg9, rfl, rfl, hgn⟩
end K21
