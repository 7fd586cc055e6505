section K40
variable {G : gG} {l : Launch} {h h0 : hW} {Z : kZ} {I : Nat → Int32} {Ar : Nat → Nat → Int32} {T : Nat → Int32} {A : Nat → Nat → Int32} {Lg : Nat → Nat → Int64}
theorem hup_fr {q a : Nat} {v : va_E} (hq : hup h a v q = none) : q ≠ a ∧ h q = none := by
  by_cases e : q = a
  · rw [e, hup_s] at hq; cases hq
  · exact ⟨e, by rw [hup_n e] at hq; exact hq⟩
theorem hup_comm {a b : Nat} {x y : va_E} (n : a ≠ b) : hup (hup h a x) b y = hup (hup h b y) a x := by
  funext z
  unfold hup
  by_cases e1 : z = b
  · have e2 : z ≠ a := fun e => n (e.symm.trans e1)
    rw [if_pos e1, if_neg e2, if_pos e1]
  · rw [if_neg e1, if_neg e1]
/-- an array's contents matter in its length only -/
theorem gWo.ext {a n : Nat} {f f' : Nat → Int32} {H : Heap} (w : gWo G h H) (ha : h a = some (aI G n f)) (he : ∀ i, i < n → f i = f' i) : gWo G (hup h a (aI G n f')) H := by
  obtain ⟨ws, hP, hD, hh⟩ := w
  obtain ⟨i, hi⟩ := List.getElem?_of_mem ((hh a _).mp ha)
  refine ⟨ws.set i (a, aI G n f'), fun k q hk => ?_, hD.set hi, gset_spec hD hh hi⟩
  by_cases e : i = k
  · subst e
    rw [List.getElem?_set_self (List.getElem?_eq_some_iff.mp hi).1] at hk
    cases hk
    have h1 : H[a]? = some (vp_cell (G.2.1 0) (n, .inl f)) := hP i _ hi
    show H[a]? = some (vp_cell (G.2.1 0) (n, .inl f'))
    rw [h1]
    have h2 : vp_cell (G.2.1 0) (n, .inl f) = vp_cell (G.2.1 0) (n, .inl f') := by
      show arrV _ n (fun j => .int (f j)) = arrV _ n (fun j => .int (f' j))
      unfold arrV
      congr 2
      funext j
      show Value.int (f j.val) = Value.int (f' j.val)
      rw [he j.val j.isLt]
    rw [h2]
  · rw [List.getElem?_set_ne e] at hk; exact hP k q hk
theorem g_ext {E : gE} {nL pc k n : Nat} {Q : State → Prop} {L : List (Nat × Value)} {st : List Value} {a n' : Nat} {f f' : Nat → Int32} (ha : h a = some (aI G n' f)) (he : ∀ i, i < n' → f i = f' i) (K : GW G E Q nL pc L st (hup h a (aI G n' f')) k n) : GW G E Q nL pc L st h k n := fun H locs ls w b c => K H locs ls (w.ext ha he) b c
/-- a nest mate's private constructor -/
theorem g_callIN {E : gE} {own : String} {cc : ByteArray} {nL lv mc ms pc k n : Nat} {Q : State → Prop} {L : List (Nat × Value)} {st : List Value} (X : Gc G E own cc nL lv mc ms) {idx nA lvc mcc msc : Nat} {M : gM} {host : String} (hlk : Cond.methodLinkNest own idx M.1 host ∈ lw_tbl) (m2 : Cond.code M.1 M.2.1 M.2.2.1 M.2.2.2 ∈ uw) (m3 : Cond.initialized M.1.cls ∈ uw) (m4 : M.1.cls ≠ "java/lang/invoke/MethodHandle" ∧ M.1.cls ≠ "java/lang/invoke/VarHandle") (m5 : (parseMethodDescriptor M.1.desc).map (fun d => d.parameters.length) = some nA) (m6 : M.2.2.1 ≤ 60) (hin : Cond.instanceMethod M.1 ∈ uw) (hnm : M.1.name = "<init>") (hret : M.2.2.2 = none) {b : Nat} {As rest : List Value} {post : Option Value → hW → Prop} (hM : Ct G E.l lvc mcc msc M (.ref b :: As) h post) (hlv : lvc + 1 ≤ lv) (hA : As.length = nA) (hst : st = As.reverse ++ .ref b :: rest) (hW : (rest.map fun v => v.category).sum ≤ 8) (hk : k + mcc ≤ mc) (hn : n + msc ≤ ms) (d : decode cc pc = .ok (.invokespecial idx, 3))
    (K : ∀ v h', post v h' → GW G E Q nL (pc + 3) L (v.toList ++ rest) h' (k + mcc) (n + msc)) : GW G E Q nL pc L st h k n := by
  intro H locs ls w bb c
  have r := X.2.2.2.2.2.2.2.2.2
  have r1 := X.2.2.2.2.2.2.2.1
  have r2 := X.2.2.2.2.2.2.2.2.1
  have hts := X.2.2.2.2.1
  obtain ⟨y, by9, ml9, rt⟩ := M
  dsimp only at hret hlk m2 m3 m4 m5 m6 hin hnm
  subst hret
  exact g_behind (lvc := lvc) (va_runIN (As := As) (rest := rest) (n := nA) (rm := gRm lvc mcc msc) ⟨X.1, X.2.1, X.2.2.1, X.2.2.2.1, X.2.2.2.2.1⟩ hM ⟨⟨⟨rfl, rfl, Nat.le_trans hlv r1, (show 8 + (ml9 + 11) + 100 * lvc ≤ E.R.locals by omega), fun w9 hw9 a9 U9 hW9 => (by
      rcases List.mem_cons.mp hw9 with rfl | hw9
      · exact word_at hW9 (uw_good m2) (hts _ m2)
      · exact word_at hW9 (uw_good hw9) (hts _ hw9)), List.mem_cons_self⟩, hts _ m2, hts _ m3, m4, fun sig hs => (by
      rw [hs] at m5
      exact (Option.some.inj m5).symm), va_Nw.use rfl (X.old.nw _ hlk rfl)⟩, hnm, hts _ hin⟩ ⟨g_blind, g_pre X w bb _⟩ rfl hA c.1 hst (lv_room hW) d ⟨Nat.le_trans hk r.1, Nat.le_trans hn r.2⟩) bb c K
abbrev M_X4_init : gM := (yX4_init, cX4_init, 1, none)
abbrev M_X5_init : gM := (yX5_init, cX5_init, 1, none)
theorem c_X4_init (q : Nat) (hq : h q = some (ob 4 [.null, .int 0, .int 0, .int 0, .int 0]))  : Ct G l 2 1 400 M_X4_init [.ref q] h (fun v h' => v = none ∧ ∃ qb : Nat, h qb = none ∧ qb ≠ q ∧ h' = hup (hup h qb (aB G 400 (fun _ => 0))) q (ob 4 [.ref qb, .int 0, .int 0, .int 0, .int 0])) := by
  refine Ct.of (by decide +kernel) (Nat.le_of_ble_eq_true rfl) (fun E hE X F => ?_)
  have X : Gc G E "ComplaintDesk$Tape" cX4_init 1 2 1 400 := X
  show GW G E _ 1 0 [(0, _)] [] _ 0 0
  refine g_aload_n X dX4_init_0 0 rfl ?_
  refine g_objI X ol_X4_3 (Nat.le_of_ble_eq_true rfl) (Nat.le_of_ble_eq_true rfl) dX4_init_1 ?_
  refine g_aload_n X dX4_init_4 0 rfl ?_
  refine g_sipush X (v := 400) dX4_init_5 ks_400 ?_
  refine g_newarr X (atype := .byte) (ty := .byte) rfl arc_byte (t := 1) rfl (fun C qc => by cases qc) (N := 400) (400, .inl (fun _ => 0)) (fun _ => rfl) (by decide) (by decide) (by decide) (Nat.le_of_ble_eq_true rfl) (Nat.le_of_ble_eq_true rfl) dX4_init_8 (fun qb h_qb hg_qb => ?_)
  have n1 : q ≠ qb := fun e => by rw [e, h_qb] at hq; cases hq
  refine g_putfieldF X (F).2.1 fp_X4_9 dX4_init_10 ((hup_n n1).trans hq) (Nat.le_of_ble_eq_true rfl) rfl rfl _ rfl ?_
  refine g_aload_n X dX4_init_13 0 rfl ?_
  refine g_iconst X (v := 0) dX4_init_14 ki_0 ?_
  refine g_putfield X fp_X4_15 dX4_init_15 hup_s (Nat.le_of_ble_eq_true rfl) rfl rfl _ rfl ?_
  refine g_aload_n X dX4_init_18 0 rfl ?_
  refine g_iconst X (v := 0) dX4_init_19 ki_0 ?_
  refine g_putfield X fp_X4_19 dX4_init_20 hup_s (Nat.le_of_ble_eq_true rfl) rfl rfl _ rfl ?_
  refine g_aload_n X dX4_init_23 0 rfl ?_
  refine g_iconst X (v := 0) dX4_init_24 ki_0 ?_
  refine g_putfield X fp_X4_22 dX4_init_25 hup_s (Nat.le_of_ble_eq_true rfl) rfl rfl _ rfl ?_
  refine g_aload_n X dX4_init_28 0 rfl ?_
  refine g_iconst X (v := 0) dX4_init_29 ki_0 ?_
  refine g_putfield X fp_X4_25 dX4_init_30 hup_s (Nat.le_of_ble_eq_true rfl) rfl rfl _ rfl ?_
  refine g_ret0 X F rfl dX4_init_33 (Nat.le_of_ble_eq_true rfl) (Nat.le_of_ble_eq_true rfl) ?_
  refine ⟨rfl, qb, h_qb, n1.symm, ?_⟩
  rw [hup_up, hup_up, hup_up, hup_up]
  rfl
theorem c_X5_init (q : Nat) (hq : h q = some (ob 5 [.null, .null, .int 0, .int 0, .int 0]))  : Ct G l 2 2 120 M_X5_init [.ref q] h (fun v h' => v = none ∧ ∃ qj qi : Nat, h qj = none ∧ h qi = none ∧ qj ≠ q ∧ qi ≠ q ∧ qi ≠ qj ∧ h' = hup (hup (hup h qj (aJ G 60 (fun _ => 0))) qi (aI G 60 (fun _ => 0))) q (ob 5 [.ref qj, .ref qi, .int 0, .int 0, .int 0])) := by
  refine Ct.of (by decide +kernel) (Nat.le_of_ble_eq_true rfl) (fun E hE X F => ?_)
  have X : Gc G E "ComplaintDesk$Words" cX5_init 1 2 2 120 := X
  show GW G E _ 1 0 [(0, _)] [] _ 0 0
  refine g_aload_n X dX5_init_0 0 rfl ?_
  refine g_objI X ol_X5_3 (Nat.le_of_ble_eq_true rfl) (Nat.le_of_ble_eq_true rfl) dX5_init_1 ?_
  refine g_aload_n X dX5_init_4 0 rfl ?_
  refine g_bipush X (v := 60) dX5_init_5 kb_60 ?_
  refine g_newarr X (atype := .long) (ty := .long) rfl arc_long (t := 2) rfl (fun C qc => by cases qc) (N := 60) (60, .inr (.inl (fun _ => 0))) (fun _ => rfl) (by decide) (by decide) (by decide) (Nat.le_of_ble_eq_true rfl) (Nat.le_of_ble_eq_true rfl) dX5_init_7 (fun qj h_qj hg_qj => ?_)
  have n1 : q ≠ qj := fun e => by rw [e, h_qj] at hq; cases hq
  refine g_putfieldF X (F).2.1 fp_X5_9 dX5_init_9 ((hup_n n1).trans hq) (Nat.le_of_ble_eq_true rfl) rfl rfl _ rfl ?_
  refine g_aload_n X dX5_init_12 0 rfl ?_
  refine g_bipush X (v := 60) dX5_init_13 kb_60 ?_
  refine g_newarr X (atype := .int) (ty := .int) rfl arc_int (t := 0) rfl (fun C qc => by cases qc) (N := 60) (60, .inl (fun _ => 0)) (fun _ => rfl) (by decide) (by decide) (by decide) (Nat.le_of_ble_eq_true rfl) (Nat.le_of_ble_eq_true rfl) dX5_init_15 (fun qi h_qi hg_qi => ?_)
  obtain ⟨n2, hqi2⟩ := hup_fr h_qi
  obtain ⟨n3, hqi3⟩ := hup_fr hqi2
  refine g_putfieldF X (F).2.1 fp_X5_15 dX5_init_17 ((hup_n n2.symm).trans hup_s) (Nat.le_of_ble_eq_true rfl) rfl rfl _ rfl ?_
  refine g_aload_n X dX5_init_20 0 rfl ?_
  refine g_iconst X (v := 0) dX5_init_21 ki_0 ?_
  refine g_putfield X fp_X5_19 dX5_init_22 hup_s (Nat.le_of_ble_eq_true rfl) rfl rfl _ rfl ?_
  refine g_aload_n X dX5_init_25 0 rfl ?_
  refine g_iconst X (v := 0) dX5_init_26 ki_0 ?_
  refine g_putfield X fp_X5_23 dX5_init_27 hup_s (Nat.le_of_ble_eq_true rfl) rfl rfl _ rfl ?_
  refine g_aload_n X dX5_init_30 0 rfl ?_
  refine g_iconst X (v := 0) dX5_init_31 ki_0 ?_
  refine g_putfield X fp_X5_26 dX5_init_32 hup_s (Nat.le_of_ble_eq_true rfl) rfl rfl _ rfl ?_
  refine g_ret0 X F rfl dX5_init_35 (Nat.le_of_ble_eq_true rfl) (Nat.le_of_ble_eq_true rfl) ?_
  refine ⟨rfl, qj, qi, h_qj, hqi3, n1.symm, n2, n3, ?_⟩
  rw [hup_up, hup_up, hup_up, hup_comm (a := q) (b := qi) n2.symm, hup_up]
  rfl
/-- a new desk's rows -/
def k0A : Nat → Nat → Int32 := fun j => if j = 12 then (upd (upd (upd (upd (fun _ => 0) 0 5) 1 5) 2 5) 3 5) else fun _ => 0
set_option maxHeartbeats 4000000 in
theorem c_X6_init (y : Nat) (hy : h y = some (ob 6 [.null, .null, .int 0, .int 0, .null, .null, .null, .null, .int 0, .null, .null])) : Ct G l 4 11 1013 M_X6_init [.ref y] h (fun v h' => v = none ∧ ∃ Z' : kZ, kD G Z' m0I k0A (fun _ => 0) (fun _ _ => 0) (fun _ _ => 0) h' ∧ Z'.da 1 = y ∧ (Z'.nC = 0 ∧ Z'.nL = 0 ∧ Z'.nX = 0) ∧ ∀ b, b ≠ y → h b ≠ none → h' b = h b ∧ Z'.jx b = 0) := by
  refine Ct.of (by decide +kernel) (Nat.le_of_ble_eq_true rfl) (fun E hE X F => ?_)
  have X : Gc G E "ComplaintDesk" cX6_init 1 4 11 1013 := X
  show GW G E _ 1 0 [(0, _)] [] _ 0 0
  refine g_aload_n X dX6_init_0 0 rfl ?_
  refine g_objI X ol_X6_1 (Nat.le_of_ble_eq_true rfl) (Nat.le_of_ble_eq_true rfl) dX6_init_1 ?_
  refine g_h (h' := hup h y (ob 6 [.null, .null, .int 0, .int 0, .null, .null, .null, .null, .int 0, .null, .null])) (hup_id hy).symm ?_
  refine g_aload_n X dX6_init_4 0 rfl ?_
  refine g_new X ck4 cl_X6_7 ins_4 ini_4 [.null, .int 0, .int 0, .int 0, .int 0] (fun j9 hj9 => by match j9, hj9 with | 0, _ => rfl | 1, _ => rfl | 2, _ => rfl | 3, _ => rfl | 4, _ => rfl | z9 + 5, hj9 => exact absurd hj9 (by omega)) dX6_init_5 (Nat.le_of_ble_eq_true rfl) (Nat.le_of_ble_eq_true rfl) (fun qt h_qt hg_qt => ?_)
  obtain ⟨n_qt_y, f_qt_0⟩ := hup_fr h_qt
  have z_qt : h qt = none := f_qt_0
  refine g_h (h' := (hup (hup h qt (ob 4 [.null, .int 0, .int 0, .int 0, .int 0])) y (ob 6 [.null, .null, .int 0, .int 0, .null, .null, .null, .null, .int 0, .null, .null]))) (hup_comm n_qt_y.symm) ?_
  refine g_dup X dX6_init_8 rfl ?_
  refine g_callIN X (M := M_X4_init) (host := "ComplaintDesk") (nA := 0) (List.mem_of_getElem? (i := 91) (by decide +kernel)) (uw_at 93 (by decide +kernel) rfl) (uw_at 51 (by decide +kernel) rfl) ⟨by decide +kernel, by decide +kernel⟩ (by decide +kernel) (by decide) (uw_at 92 (by decide +kernel) rfl) rfl rfl (c_X4_init qt ((hup_n n_qt_y).trans hup_s)) (Nat.le_of_ble_eq_true rfl) rfl rfl (Nat.le_of_ble_eq_true rfl) (Nat.le_of_ble_eq_true rfl) (Nat.le_of_ble_eq_true rfl) dX6_init_9 ?_
  rintro v9 h9 ⟨rfl, qtb, h_qtb, nn_1, rfl⟩
  refine g_st (st' := [.ref qt, .ref y]) rfl ?_
  obtain ⟨n_qtb_y, f_qtb_0⟩ := hup_fr h_qtb
  obtain ⟨n_qtb_qt, f_qtb_1⟩ := hup_fr f_qtb_0
  have z_qtb : h qtb = none := f_qtb_1
  refine g_h (h' := (hup (hup (hup h qt (ob 4 [.ref qtb, .int 0, .int 0, .int 0, .int 0])) qtb (aB G 400 (fun _ => 0))) y (ob 6 [.null, .null, .int 0, .int 0, .null, .null, .null, .null, .int 0, .null, .null]))) (by rw [hup_comm (a := qtb) (b := qt) n_qtb_qt, hup_comm (a := y) (b := qt) n_qt_y.symm, hup_up, hup_comm (a := y) (b := qtb) n_qtb_y.symm]) ?_
  refine g_putfieldF X F.2.1 fp_X6_10 dX6_init_12 hup_s (Nat.le_of_ble_eq_true rfl) rfl rfl _ rfl ?_
  refine g_h (h' := (hup (hup (hup h qt (ob 4 [.ref qtb, .int 0, .int 0, .int 0, .int 0])) qtb (aB G 400 (fun _ => 0))) y (ob 6 [.ref qt, .null, .int 0, .int 0, .null, .null, .null, .null, .int 0, .null, .null]))) hup_up ?_
  refine g_aload_n X dX6_init_15 0 rfl ?_
  refine g_new X ck5 cl_X6_16 ins_5 ini_5 [.null, .null, .int 0, .int 0, .int 0] (fun j9 hj9 => by match j9, hj9 with | 0, _ => rfl | 1, _ => rfl | 2, _ => rfl | 3, _ => rfl | 4, _ => rfl | z9 + 5, hj9 => exact absurd hj9 (by omega)) dX6_init_16 (Nat.le_of_ble_eq_true rfl) (Nat.le_of_ble_eq_true rfl) (fun qw h_qw hg_qw => ?_)
  obtain ⟨n_qw_y, f_qw_0⟩ := hup_fr h_qw
  obtain ⟨n_qw_qtb, f_qw_1⟩ := hup_fr f_qw_0
  obtain ⟨n_qw_qt, f_qw_2⟩ := hup_fr f_qw_1
  have z_qw : h qw = none := f_qw_2
  refine g_h (h' := (hup (hup (hup (hup h qt (ob 4 [.ref qtb, .int 0, .int 0, .int 0, .int 0])) qtb (aB G 400 (fun _ => 0))) qw (ob 5 [.null, .null, .int 0, .int 0, .int 0])) y (ob 6 [.ref qt, .null, .int 0, .int 0, .null, .null, .null, .null, .int 0, .null, .null]))) (hup_comm n_qw_y.symm) ?_
  refine g_dup X dX6_init_19 rfl ?_
  refine g_callIN X (M := M_X5_init) (host := "ComplaintDesk") (nA := 0) (List.mem_of_getElem? (i := 119) (by decide +kernel)) (uw_at 121 (by decide +kernel) rfl) (uw_at 52 (by decide +kernel) rfl) ⟨by decide +kernel, by decide +kernel⟩ (by decide +kernel) (by decide) (uw_at 120 (by decide +kernel) rfl) rfl rfl (c_X5_init qw ((hup_n n_qw_y).trans hup_s)) (Nat.le_of_ble_eq_true rfl) rfl rfl (Nat.le_of_ble_eq_true rfl) (Nat.le_of_ble_eq_true rfl) (Nat.le_of_ble_eq_true rfl) dX6_init_20 ?_
  rintro v9 h9 ⟨rfl, qwc, qwp, h_qwc, h_qwp, nn_2, nn_3, nn_4, rfl⟩
  refine g_st (st' := [.ref qw, .ref y]) rfl ?_
  obtain ⟨n_qwc_y, f_qwc_0⟩ := hup_fr h_qwc
  obtain ⟨n_qwc_qw, f_qwc_1⟩ := hup_fr f_qwc_0
  obtain ⟨n_qwc_qtb, f_qwc_2⟩ := hup_fr f_qwc_1
  obtain ⟨n_qwc_qt, f_qwc_3⟩ := hup_fr f_qwc_2
  have z_qwc : h qwc = none := f_qwc_3
  obtain ⟨n_qwp_y, f_qwp_0⟩ := hup_fr h_qwp
  obtain ⟨n_qwp_qw, f_qwp_1⟩ := hup_fr f_qwp_0
  obtain ⟨n_qwp_qtb, f_qwp_2⟩ := hup_fr f_qwp_1
  obtain ⟨n_qwp_qt, f_qwp_3⟩ := hup_fr f_qwp_2
  have z_qwp : h qwp = none := f_qwp_3
  have n_qwp_qwc := nn_4
  refine g_h (h' := (hup (hup (hup (hup (hup (hup h qt (ob 4 [.ref qtb, .int 0, .int 0, .int 0, .int 0])) qtb (aB G 400 (fun _ => 0))) qw (ob 5 [.ref qwc, .ref qwp, .int 0, .int 0, .int 0])) qwc (aJ G 60 (fun _ => 0))) qwp (aI G 60 (fun _ => 0))) y (ob 6 [.ref qt, .null, .int 0, .int 0, .null, .null, .null, .null, .int 0, .null, .null]))) (by rw [hup_comm (a := qwp) (b := qw) n_qwp_qw, hup_comm (a := qwc) (b := qw) n_qwc_qw, hup_comm (a := y) (b := qw) n_qw_y.symm, hup_up, hup_comm (a := y) (b := qwc) n_qwc_y.symm, hup_comm (a := y) (b := qwp) n_qwp_y.symm]) ?_
  refine g_putfieldF X F.2.1 fp_X6_19 dX6_init_23 hup_s (Nat.le_of_ble_eq_true rfl) rfl rfl _ rfl ?_
  refine g_h (h' := (hup (hup (hup (hup (hup (hup h qt (ob 4 [.ref qtb, .int 0, .int 0, .int 0, .int 0])) qtb (aB G 400 (fun _ => 0))) qw (ob 5 [.ref qwc, .ref qwp, .int 0, .int 0, .int 0])) qwc (aJ G 60 (fun _ => 0))) qwp (aI G 60 (fun _ => 0))) y (ob 6 [.ref qt, .ref qw, .int 0, .int 0, .null, .null, .null, .null, .int 0, .null, .null]))) hup_up ?_
  refine g_aload_n X dX6_init_26 0 rfl ?_
  refine g_iconst X (v := (-1)) dX6_init_27 ki_m1 ?_
  refine g_putfield X fp_X6_23 dX6_init_28 hup_s (Nat.le_of_ble_eq_true rfl) rfl rfl _ rfl ?_
  refine g_h (h' := (hup (hup (hup (hup (hup (hup h qt (ob 4 [.ref qtb, .int 0, .int 0, .int 0, .int 0])) qtb (aB G 400 (fun _ => 0))) qw (ob 5 [.ref qwc, .ref qwp, .int 0, .int 0, .int 0])) qwc (aJ G 60 (fun _ => 0))) qwp (aI G 60 (fun _ => 0))) y (ob 6 [.ref qt, .ref qw, .int (-1), .int 0, .null, .null, .null, .null, .int 0, .null, .null]))) hup_up ?_
  refine g_aload_n X dX6_init_31 0 rfl ?_
  refine g_iconst X (v := 0) dX6_init_32 ki_0 ?_
  refine g_putfield X fp_X6_27 dX6_init_33 hup_s (Nat.le_of_ble_eq_true rfl) rfl rfl _ rfl ?_
  refine g_h (h' := (hup (hup (hup (hup (hup (hup h qt (ob 4 [.ref qtb, .int 0, .int 0, .int 0, .int 0])) qtb (aB G 400 (fun _ => 0))) qw (ob 5 [.ref qwc, .ref qwp, .int 0, .int 0, .int 0])) qwc (aJ G 60 (fun _ => 0))) qwp (aI G 60 (fun _ => 0))) y (ob 6 [.ref qt, .ref qw, .int (-1), .int 0, .null, .null, .null, .null, .int 0, .null, .null]))) hup_up ?_
  refine g_aload_n X dX6_init_36 0 rfl ?_
  refine g_new X ck8 cl_X6_30 ins_8 ini_8 [.int 0, .null, .int 0] (fun j9 hj9 => by match j9, hj9 with | 0, _ => rfl | 1, _ => rfl | 2, _ => rfl | z9 + 3, hj9 => exact absurd hj9 (by omega)) dX6_init_37 (Nat.le_of_ble_eq_true rfl) (Nat.le_of_ble_eq_true rfl) (fun qcl h_qcl hg_qcl => ?_)
  obtain ⟨n_qcl_y, f_qcl_0⟩ := hup_fr h_qcl
  obtain ⟨n_qcl_qwp, f_qcl_1⟩ := hup_fr f_qcl_0
  obtain ⟨n_qcl_qwc, f_qcl_2⟩ := hup_fr f_qcl_1
  obtain ⟨n_qcl_qw, f_qcl_3⟩ := hup_fr f_qcl_2
  obtain ⟨n_qcl_qtb, f_qcl_4⟩ := hup_fr f_qcl_3
  obtain ⟨n_qcl_qt, f_qcl_5⟩ := hup_fr f_qcl_4
  have z_qcl : h qcl = none := f_qcl_5
  refine g_h (h' := (hup (hup (hup (hup (hup (hup (hup h qt (ob 4 [.ref qtb, .int 0, .int 0, .int 0, .int 0])) qtb (aB G 400 (fun _ => 0))) qw (ob 5 [.ref qwc, .ref qwp, .int 0, .int 0, .int 0])) qwc (aJ G 60 (fun _ => 0))) qwp (aI G 60 (fun _ => 0))) qcl (ob 8 [.int 0, .null, .int 0])) y (ob 6 [.ref qt, .ref qw, .int (-1), .int 0, .null, .null, .null, .null, .int 0, .null, .null]))) (hup_comm n_qcl_y.symm) ?_
  refine g_dup X dX6_init_40 rfl ?_
  refine g_cI0 X ml_X6_32 rfl (c_Jx4a65c_init_da8c8 qcl ((hup_n n_qcl_y).trans hup_s)) (Nat.le_of_ble_eq_true rfl) rfl rfl (Nat.le_of_ble_eq_true rfl) (Nat.le_of_ble_eq_true rfl) (Nat.le_of_ble_eq_true rfl) dX6_init_41 ?_
  refine g_h (h' := (hup (hup (hup (hup (hup (hup (hup h qt (ob 4 [.ref qtb, .int 0, .int 0, .int 0, .int 0])) qtb (aB G 400 (fun _ => 0))) qw (ob 5 [.ref qwc, .ref qwp, .int 0, .int 0, .int 0])) qwc (aJ G 60 (fun _ => 0))) qwp (aI G 60 (fun _ => 0))) qcl (ob 8 [.int 0, .ref (G.2.2.2.1 3), .int 0])) y (ob 6 [.ref qt, .ref qw, .int (-1), .int 0, .null, .null, .null, .null, .int 0, .null, .null]))) (by rw [hup_comm (a := y) (b := qcl) n_qcl_y.symm, hup_up]; first | done | rfl) ?_
  refine g_putfieldF X F.2.1 fp_X6_33 dX6_init_44 hup_s (Nat.le_of_ble_eq_true rfl) rfl rfl _ rfl ?_
  refine g_h (h' := (hup (hup (hup (hup (hup (hup (hup h qt (ob 4 [.ref qtb, .int 0, .int 0, .int 0, .int 0])) qtb (aB G 400 (fun _ => 0))) qw (ob 5 [.ref qwc, .ref qwp, .int 0, .int 0, .int 0])) qwc (aJ G 60 (fun _ => 0))) qwp (aI G 60 (fun _ => 0))) qcl (ob 8 [.int 0, .ref (G.2.2.2.1 3), .int 0])) y (ob 6 [.ref qt, .ref qw, .int (-1), .int 0, .ref qcl, .null, .null, .null, .int 0, .null, .null]))) hup_up ?_
  refine g_aload_n X dX6_init_47 0 rfl ?_
  refine g_new X ck8 cl_X6_30 ins_8 ini_8 [.int 0, .null, .int 0] (fun j9 hj9 => by match j9, hj9 with | 0, _ => rfl | 1, _ => rfl | 2, _ => rfl | z9 + 3, hj9 => exact absurd hj9 (by omega)) dX6_init_48 (Nat.le_of_ble_eq_true rfl) (Nat.le_of_ble_eq_true rfl) (fun qll h_qll hg_qll => ?_)
  obtain ⟨n_qll_y, f_qll_0⟩ := hup_fr h_qll
  obtain ⟨n_qll_qcl, f_qll_1⟩ := hup_fr f_qll_0
  obtain ⟨n_qll_qwp, f_qll_2⟩ := hup_fr f_qll_1
  obtain ⟨n_qll_qwc, f_qll_3⟩ := hup_fr f_qll_2
  obtain ⟨n_qll_qw, f_qll_4⟩ := hup_fr f_qll_3
  obtain ⟨n_qll_qtb, f_qll_5⟩ := hup_fr f_qll_4
  obtain ⟨n_qll_qt, f_qll_6⟩ := hup_fr f_qll_5
  have z_qll : h qll = none := f_qll_6
  refine g_h (h' := (hup (hup (hup (hup (hup (hup (hup (hup h qt (ob 4 [.ref qtb, .int 0, .int 0, .int 0, .int 0])) qtb (aB G 400 (fun _ => 0))) qw (ob 5 [.ref qwc, .ref qwp, .int 0, .int 0, .int 0])) qwc (aJ G 60 (fun _ => 0))) qwp (aI G 60 (fun _ => 0))) qcl (ob 8 [.int 0, .ref (G.2.2.2.1 3), .int 0])) qll (ob 8 [.int 0, .null, .int 0])) y (ob 6 [.ref qt, .ref qw, .int (-1), .int 0, .ref qcl, .null, .null, .null, .int 0, .null, .null]))) (hup_comm n_qll_y.symm) ?_
  refine g_dup X dX6_init_51 rfl ?_
  refine g_cI0 X ml_X6_32 rfl (c_Jx4a65c_init_da8c8 qll ((hup_n n_qll_y).trans hup_s)) (Nat.le_of_ble_eq_true rfl) rfl rfl (Nat.le_of_ble_eq_true rfl) (Nat.le_of_ble_eq_true rfl) (Nat.le_of_ble_eq_true rfl) dX6_init_52 ?_
  refine g_h (h' := (hup (hup (hup (hup (hup (hup (hup (hup h qt (ob 4 [.ref qtb, .int 0, .int 0, .int 0, .int 0])) qtb (aB G 400 (fun _ => 0))) qw (ob 5 [.ref qwc, .ref qwp, .int 0, .int 0, .int 0])) qwc (aJ G 60 (fun _ => 0))) qwp (aI G 60 (fun _ => 0))) qcl (ob 8 [.int 0, .ref (G.2.2.2.1 3), .int 0])) qll (ob 8 [.int 0, .ref (G.2.2.2.1 3), .int 0])) y (ob 6 [.ref qt, .ref qw, .int (-1), .int 0, .ref qcl, .null, .null, .null, .int 0, .null, .null]))) (by rw [hup_comm (a := y) (b := qll) n_qll_y.symm, hup_up]; first | done | rfl) ?_
  refine g_putfieldF X F.2.1 fp_X6_37 dX6_init_55 hup_s (Nat.le_of_ble_eq_true rfl) rfl rfl _ rfl ?_
  refine g_h (h' := (hup (hup (hup (hup (hup (hup (hup (hup h qt (ob 4 [.ref qtb, .int 0, .int 0, .int 0, .int 0])) qtb (aB G 400 (fun _ => 0))) qw (ob 5 [.ref qwc, .ref qwp, .int 0, .int 0, .int 0])) qwc (aJ G 60 (fun _ => 0))) qwp (aI G 60 (fun _ => 0))) qcl (ob 8 [.int 0, .ref (G.2.2.2.1 3), .int 0])) qll (ob 8 [.int 0, .ref (G.2.2.2.1 3), .int 0])) y (ob 6 [.ref qt, .ref qw, .int (-1), .int 0, .ref qcl, .ref qll, .null, .null, .int 0, .null, .null]))) hup_up ?_
  refine g_aload_n X dX6_init_58 0 rfl ?_
  refine g_iconst X (v := 4) dX6_init_59 ki_4 ?_
  refine g_newarr X (atype := .int) (ty := .int) rfl arc_int (t := 0) rfl (fun C qc => by cases qc) (N := 4) (4, .inl (fun _ => 0)) (fun _ => rfl) (by decide) (by decide) (by decide) (Nat.le_of_ble_eq_true rfl) (Nat.le_of_ble_eq_true rfl) dX6_init_60 (fun qho h_qho hg_qho => ?_)
  obtain ⟨n_qho_y, f_qho_0⟩ := hup_fr h_qho
  obtain ⟨n_qho_qll, f_qho_1⟩ := hup_fr f_qho_0
  obtain ⟨n_qho_qcl, f_qho_2⟩ := hup_fr f_qho_1
  obtain ⟨n_qho_qwp, f_qho_3⟩ := hup_fr f_qho_2
  obtain ⟨n_qho_qwc, f_qho_4⟩ := hup_fr f_qho_3
  obtain ⟨n_qho_qw, f_qho_5⟩ := hup_fr f_qho_4
  obtain ⟨n_qho_qtb, f_qho_6⟩ := hup_fr f_qho_5
  obtain ⟨n_qho_qt, f_qho_7⟩ := hup_fr f_qho_6
  have z_qho : h qho = none := f_qho_7
  refine g_h (h' := (hup (hup (hup (hup (hup (hup (hup (hup (hup h qt (ob 4 [.ref qtb, .int 0, .int 0, .int 0, .int 0])) qtb (aB G 400 (fun _ => 0))) qw (ob 5 [.ref qwc, .ref qwp, .int 0, .int 0, .int 0])) qwc (aJ G 60 (fun _ => 0))) qwp (aI G 60 (fun _ => 0))) qcl (ob 8 [.int 0, .ref (G.2.2.2.1 3), .int 0])) qll (ob 8 [.int 0, .ref (G.2.2.2.1 3), .int 0])) qho (aI G 4 (fun _ => 0))) y (ob 6 [.ref qt, .ref qw, .int (-1), .int 0, .ref qcl, .ref qll, .null, .null, .int 0, .null, .null]))) (hup_comm n_qho_y.symm) ?_
  refine g_dup X dX6_init_62 rfl ?_
  refine g_iconst X (v := 0) dX6_init_63 ki_0 ?_
  refine g_iconst X (v := 5) dX6_init_64 ki_5 ?_
  refine g_iastore X dX6_init_65 ((hup_n n_qho_y).trans hup_s) (by unfold vp_in; decide) ?_
  refine g_h (h' := (hup (hup (hup (hup (hup (hup (hup (hup (hup h qt (ob 4 [.ref qtb, .int 0, .int 0, .int 0, .int 0])) qtb (aB G 400 (fun _ => 0))) qw (ob 5 [.ref qwc, .ref qwp, .int 0, .int 0, .int 0])) qwc (aJ G 60 (fun _ => 0))) qwp (aI G 60 (fun _ => 0))) qcl (ob 8 [.int 0, .ref (G.2.2.2.1 3), .int 0])) qll (ob 8 [.int 0, .ref (G.2.2.2.1 3), .int 0])) qho (aI G 4 (upd (fun _ => 0) 0 5))) y (ob 6 [.ref qt, .ref qw, .int (-1), .int 0, .ref qcl, .ref qll, .null, .null, .int 0, .null, .null]))) (by rw [hup_comm (a := y) (b := qho) n_qho_y.symm, hup_up]; first | done | rfl) ?_
  refine g_dup X dX6_init_66 rfl ?_
  refine g_iconst X (v := 1) dX6_init_67 ki_1 ?_
  refine g_iconst X (v := 5) dX6_init_68 ki_5 ?_
  refine g_iastore X dX6_init_69 ((hup_n n_qho_y).trans hup_s) (by unfold vp_in; decide) ?_
  refine g_h (h' := (hup (hup (hup (hup (hup (hup (hup (hup (hup h qt (ob 4 [.ref qtb, .int 0, .int 0, .int 0, .int 0])) qtb (aB G 400 (fun _ => 0))) qw (ob 5 [.ref qwc, .ref qwp, .int 0, .int 0, .int 0])) qwc (aJ G 60 (fun _ => 0))) qwp (aI G 60 (fun _ => 0))) qcl (ob 8 [.int 0, .ref (G.2.2.2.1 3), .int 0])) qll (ob 8 [.int 0, .ref (G.2.2.2.1 3), .int 0])) qho (aI G 4 (upd (upd (fun _ => 0) 0 5) 1 5))) y (ob 6 [.ref qt, .ref qw, .int (-1), .int 0, .ref qcl, .ref qll, .null, .null, .int 0, .null, .null]))) (by rw [hup_comm (a := y) (b := qho) n_qho_y.symm, hup_up]; first | done | rfl) ?_
  refine g_dup X dX6_init_70 rfl ?_
  refine g_iconst X (v := 2) dX6_init_71 ki_2 ?_
  refine g_iconst X (v := 5) dX6_init_72 ki_5 ?_
  refine g_iastore X dX6_init_73 ((hup_n n_qho_y).trans hup_s) (by unfold vp_in; decide) ?_
  refine g_h (h' := (hup (hup (hup (hup (hup (hup (hup (hup (hup h qt (ob 4 [.ref qtb, .int 0, .int 0, .int 0, .int 0])) qtb (aB G 400 (fun _ => 0))) qw (ob 5 [.ref qwc, .ref qwp, .int 0, .int 0, .int 0])) qwc (aJ G 60 (fun _ => 0))) qwp (aI G 60 (fun _ => 0))) qcl (ob 8 [.int 0, .ref (G.2.2.2.1 3), .int 0])) qll (ob 8 [.int 0, .ref (G.2.2.2.1 3), .int 0])) qho (aI G 4 (upd (upd (upd (fun _ => 0) 0 5) 1 5) 2 5))) y (ob 6 [.ref qt, .ref qw, .int (-1), .int 0, .ref qcl, .ref qll, .null, .null, .int 0, .null, .null]))) (by rw [hup_comm (a := y) (b := qho) n_qho_y.symm, hup_up]; first | done | rfl) ?_
  refine g_dup X dX6_init_74 rfl ?_
  refine g_iconst X (v := 3) dX6_init_75 ki_3 ?_
  refine g_iconst X (v := 5) dX6_init_76 ki_5 ?_
  refine g_iastore X dX6_init_77 ((hup_n n_qho_y).trans hup_s) (by unfold vp_in; decide) ?_
  refine g_h (h' := (hup (hup (hup (hup (hup (hup (hup (hup (hup h qt (ob 4 [.ref qtb, .int 0, .int 0, .int 0, .int 0])) qtb (aB G 400 (fun _ => 0))) qw (ob 5 [.ref qwc, .ref qwp, .int 0, .int 0, .int 0])) qwc (aJ G 60 (fun _ => 0))) qwp (aI G 60 (fun _ => 0))) qcl (ob 8 [.int 0, .ref (G.2.2.2.1 3), .int 0])) qll (ob 8 [.int 0, .ref (G.2.2.2.1 3), .int 0])) qho (aI G 4 (upd (upd (upd (upd (fun _ => 0) 0 5) 1 5) 2 5) 3 5))) y (ob 6 [.ref qt, .ref qw, .int (-1), .int 0, .ref qcl, .ref qll, .null, .null, .int 0, .null, .null]))) (by rw [hup_comm (a := y) (b := qho) n_qho_y.symm, hup_up]; first | done | rfl) ?_
  refine g_putfieldF X F.2.1 fp_X6_40 dX6_init_78 hup_s (Nat.le_of_ble_eq_true rfl) rfl rfl _ rfl ?_
  refine g_h (h' := (hup (hup (hup (hup (hup (hup (hup (hup (hup h qt (ob 4 [.ref qtb, .int 0, .int 0, .int 0, .int 0])) qtb (aB G 400 (fun _ => 0))) qw (ob 5 [.ref qwc, .ref qwp, .int 0, .int 0, .int 0])) qwc (aJ G 60 (fun _ => 0))) qwp (aI G 60 (fun _ => 0))) qcl (ob 8 [.int 0, .ref (G.2.2.2.1 3), .int 0])) qll (ob 8 [.int 0, .ref (G.2.2.2.1 3), .int 0])) qho (aI G 4 (upd (upd (upd (upd (fun _ => 0) 0 5) 1 5) 2 5) 3 5))) y (ob 6 [.ref qt, .ref qw, .int (-1), .int 0, .ref qcl, .ref qll, .ref qho, .null, .int 0, .null, .null]))) hup_up ?_
  refine g_aload_n X dX6_init_81 0 rfl ?_
  refine g_bipush X (v := 10) dX6_init_82 kb_10 ?_
  refine g_newarr X (atype := .int) (ty := .int) rfl arc_int (t := 0) rfl (fun C qc => by cases qc) (N := 10) (10, .inl (fun _ => 0)) (fun _ => rfl) (by decide) (by decide) (by decide) (Nat.le_of_ble_eq_true rfl) (Nat.le_of_ble_eq_true rfl) dX6_init_84 (fun qte h_qte hg_qte => ?_)
  obtain ⟨n_qte_y, f_qte_0⟩ := hup_fr h_qte
  obtain ⟨n_qte_qho, f_qte_1⟩ := hup_fr f_qte_0
  obtain ⟨n_qte_qll, f_qte_2⟩ := hup_fr f_qte_1
  obtain ⟨n_qte_qcl, f_qte_3⟩ := hup_fr f_qte_2
  obtain ⟨n_qte_qwp, f_qte_4⟩ := hup_fr f_qte_3
  obtain ⟨n_qte_qwc, f_qte_5⟩ := hup_fr f_qte_4
  obtain ⟨n_qte_qw, f_qte_6⟩ := hup_fr f_qte_5
  obtain ⟨n_qte_qtb, f_qte_7⟩ := hup_fr f_qte_6
  obtain ⟨n_qte_qt, f_qte_8⟩ := hup_fr f_qte_7
  have z_qte : h qte = none := f_qte_8
  refine g_h (h' := (hup (hup (hup (hup (hup (hup (hup (hup (hup (hup h qt (ob 4 [.ref qtb, .int 0, .int 0, .int 0, .int 0])) qtb (aB G 400 (fun _ => 0))) qw (ob 5 [.ref qwc, .ref qwp, .int 0, .int 0, .int 0])) qwc (aJ G 60 (fun _ => 0))) qwp (aI G 60 (fun _ => 0))) qcl (ob 8 [.int 0, .ref (G.2.2.2.1 3), .int 0])) qll (ob 8 [.int 0, .ref (G.2.2.2.1 3), .int 0])) qho (aI G 4 (upd (upd (upd (upd (fun _ => 0) 0 5) 1 5) 2 5) 3 5))) qte (aI G 10 (fun _ => 0))) y (ob 6 [.ref qt, .ref qw, .int (-1), .int 0, .ref qcl, .ref qll, .ref qho, .null, .int 0, .null, .null]))) (hup_comm n_qte_y.symm) ?_
  refine g_putfieldF X F.2.1 fp_X6_44 dX6_init_86 hup_s (Nat.le_of_ble_eq_true rfl) rfl rfl _ rfl ?_
  refine g_h (h' := (hup (hup (hup (hup (hup (hup (hup (hup (hup (hup h qt (ob 4 [.ref qtb, .int 0, .int 0, .int 0, .int 0])) qtb (aB G 400 (fun _ => 0))) qw (ob 5 [.ref qwc, .ref qwp, .int 0, .int 0, .int 0])) qwc (aJ G 60 (fun _ => 0))) qwp (aI G 60 (fun _ => 0))) qcl (ob 8 [.int 0, .ref (G.2.2.2.1 3), .int 0])) qll (ob 8 [.int 0, .ref (G.2.2.2.1 3), .int 0])) qho (aI G 4 (upd (upd (upd (upd (fun _ => 0) 0 5) 1 5) 2 5) 3 5))) qte (aI G 10 (fun _ => 0))) y (ob 6 [.ref qt, .ref qw, .int (-1), .int 0, .ref qcl, .ref qll, .ref qho, .ref qte, .int 0, .null, .null]))) hup_up ?_
  refine g_aload_n X dX6_init_89 0 rfl ?_
  refine g_iconst X (v := 0) dX6_init_90 ki_0 ?_
  refine g_putfield X fp_X6_47 dX6_init_91 hup_s (Nat.le_of_ble_eq_true rfl) rfl rfl _ rfl ?_
  refine g_h (h' := (hup (hup (hup (hup (hup (hup (hup (hup (hup (hup h qt (ob 4 [.ref qtb, .int 0, .int 0, .int 0, .int 0])) qtb (aB G 400 (fun _ => 0))) qw (ob 5 [.ref qwc, .ref qwp, .int 0, .int 0, .int 0])) qwc (aJ G 60 (fun _ => 0))) qwp (aI G 60 (fun _ => 0))) qcl (ob 8 [.int 0, .ref (G.2.2.2.1 3), .int 0])) qll (ob 8 [.int 0, .ref (G.2.2.2.1 3), .int 0])) qho (aI G 4 (upd (upd (upd (upd (fun _ => 0) 0 5) 1 5) 2 5) 3 5))) qte (aI G 10 (fun _ => 0))) y (ob 6 [.ref qt, .ref qw, .int (-1), .int 0, .ref qcl, .ref qll, .ref qho, .ref qte, .int 0, .null, .null]))) hup_up ?_
  refine g_aload_n X dX6_init_94 0 rfl ?_
  refine g_sipush X (v := 401) dX6_init_95 ks_401 ?_
  refine g_newarr X (atype := .int) (ty := .int) rfl arc_int (t := 0) rfl (fun C qc => by cases qc) (N := 401) (401, .inl (fun _ => 0)) (fun _ => rfl) (by decide) (by decide) (by decide) (Nat.le_of_ble_eq_true rfl) (Nat.le_of_ble_eq_true rfl) dX6_init_98 (fun qda h_qda hg_qda => ?_)
  obtain ⟨n_qda_y, f_qda_0⟩ := hup_fr h_qda
  obtain ⟨n_qda_qte, f_qda_1⟩ := hup_fr f_qda_0
  obtain ⟨n_qda_qho, f_qda_2⟩ := hup_fr f_qda_1
  obtain ⟨n_qda_qll, f_qda_3⟩ := hup_fr f_qda_2
  obtain ⟨n_qda_qcl, f_qda_4⟩ := hup_fr f_qda_3
  obtain ⟨n_qda_qwp, f_qda_5⟩ := hup_fr f_qda_4
  obtain ⟨n_qda_qwc, f_qda_6⟩ := hup_fr f_qda_5
  obtain ⟨n_qda_qw, f_qda_7⟩ := hup_fr f_qda_6
  obtain ⟨n_qda_qtb, f_qda_8⟩ := hup_fr f_qda_7
  obtain ⟨n_qda_qt, f_qda_9⟩ := hup_fr f_qda_8
  have z_qda : h qda = none := f_qda_9
  refine g_h (h' := (hup (hup (hup (hup (hup (hup (hup (hup (hup (hup (hup h qt (ob 4 [.ref qtb, .int 0, .int 0, .int 0, .int 0])) qtb (aB G 400 (fun _ => 0))) qw (ob 5 [.ref qwc, .ref qwp, .int 0, .int 0, .int 0])) qwc (aJ G 60 (fun _ => 0))) qwp (aI G 60 (fun _ => 0))) qcl (ob 8 [.int 0, .ref (G.2.2.2.1 3), .int 0])) qll (ob 8 [.int 0, .ref (G.2.2.2.1 3), .int 0])) qho (aI G 4 (upd (upd (upd (upd (fun _ => 0) 0 5) 1 5) 2 5) 3 5))) qte (aI G 10 (fun _ => 0))) qda (aI G 401 (fun _ => 0))) y (ob 6 [.ref qt, .ref qw, .int (-1), .int 0, .ref qcl, .ref qll, .ref qho, .ref qte, .int 0, .null, .null]))) (hup_comm n_qda_y.symm) ?_
  refine g_putfieldF X F.2.1 fp_X6_50 dX6_init_100 hup_s (Nat.le_of_ble_eq_true rfl) rfl rfl _ rfl ?_
  refine g_h (h' := (hup (hup (hup (hup (hup (hup (hup (hup (hup (hup (hup h qt (ob 4 [.ref qtb, .int 0, .int 0, .int 0, .int 0])) qtb (aB G 400 (fun _ => 0))) qw (ob 5 [.ref qwc, .ref qwp, .int 0, .int 0, .int 0])) qwc (aJ G 60 (fun _ => 0))) qwp (aI G 60 (fun _ => 0))) qcl (ob 8 [.int 0, .ref (G.2.2.2.1 3), .int 0])) qll (ob 8 [.int 0, .ref (G.2.2.2.1 3), .int 0])) qho (aI G 4 (upd (upd (upd (upd (fun _ => 0) 0 5) 1 5) 2 5) 3 5))) qte (aI G 10 (fun _ => 0))) qda (aI G 401 (fun _ => 0))) y (ob 6 [.ref qt, .ref qw, .int (-1), .int 0, .ref qcl, .ref qll, .ref qho, .ref qte, .int 0, .ref qda, .null]))) hup_up ?_
  refine g_aload_n X dX6_init_103 0 rfl ?_
  refine g_bipush X (v := 61) dX6_init_104 kb_61 ?_
  refine g_newarr X (atype := .int) (ty := .int) rfl arc_int (t := 0) rfl (fun C qc => by cases qc) (N := 61) (61, .inl (fun _ => 0)) (fun _ => rfl) (by decide) (by decide) (by decide) (Nat.le_of_ble_eq_true rfl) (Nat.le_of_ble_eq_true rfl) dX6_init_106 (fun qdu h_qdu hg_qdu => ?_)
  obtain ⟨n_qdu_y, f_qdu_0⟩ := hup_fr h_qdu
  obtain ⟨n_qdu_qda, f_qdu_1⟩ := hup_fr f_qdu_0
  obtain ⟨n_qdu_qte, f_qdu_2⟩ := hup_fr f_qdu_1
  obtain ⟨n_qdu_qho, f_qdu_3⟩ := hup_fr f_qdu_2
  obtain ⟨n_qdu_qll, f_qdu_4⟩ := hup_fr f_qdu_3
  obtain ⟨n_qdu_qcl, f_qdu_5⟩ := hup_fr f_qdu_4
  obtain ⟨n_qdu_qwp, f_qdu_6⟩ := hup_fr f_qdu_5
  obtain ⟨n_qdu_qwc, f_qdu_7⟩ := hup_fr f_qdu_6
  obtain ⟨n_qdu_qw, f_qdu_8⟩ := hup_fr f_qdu_7
  obtain ⟨n_qdu_qtb, f_qdu_9⟩ := hup_fr f_qdu_8
  obtain ⟨n_qdu_qt, f_qdu_10⟩ := hup_fr f_qdu_9
  have z_qdu : h qdu = none := f_qdu_10
  refine g_h (h' := (hup (hup (hup (hup (hup (hup (hup (hup (hup (hup (hup (hup h qt (ob 4 [.ref qtb, .int 0, .int 0, .int 0, .int 0])) qtb (aB G 400 (fun _ => 0))) qw (ob 5 [.ref qwc, .ref qwp, .int 0, .int 0, .int 0])) qwc (aJ G 60 (fun _ => 0))) qwp (aI G 60 (fun _ => 0))) qcl (ob 8 [.int 0, .ref (G.2.2.2.1 3), .int 0])) qll (ob 8 [.int 0, .ref (G.2.2.2.1 3), .int 0])) qho (aI G 4 (upd (upd (upd (upd (fun _ => 0) 0 5) 1 5) 2 5) 3 5))) qte (aI G 10 (fun _ => 0))) qda (aI G 401 (fun _ => 0))) qdu (aI G 61 (fun _ => 0))) y (ob 6 [.ref qt, .ref qw, .int (-1), .int 0, .ref qcl, .ref qll, .ref qho, .ref qte, .int 0, .ref qda, .null]))) (hup_comm n_qdu_y.symm) ?_
  refine g_putfieldF X F.2.1 fp_X6_53 dX6_init_108 hup_s (Nat.le_of_ble_eq_true rfl) rfl rfl _ rfl ?_
  refine g_h (h' := (hup (hup (hup (hup (hup (hup (hup (hup (hup (hup (hup (hup h qt (ob 4 [.ref qtb, .int 0, .int 0, .int 0, .int 0])) qtb (aB G 400 (fun _ => 0))) qw (ob 5 [.ref qwc, .ref qwp, .int 0, .int 0, .int 0])) qwc (aJ G 60 (fun _ => 0))) qwp (aI G 60 (fun _ => 0))) qcl (ob 8 [.int 0, .ref (G.2.2.2.1 3), .int 0])) qll (ob 8 [.int 0, .ref (G.2.2.2.1 3), .int 0])) qho (aI G 4 (upd (upd (upd (upd (fun _ => 0) 0 5) 1 5) 2 5) 3 5))) qte (aI G 10 (fun _ => 0))) qda (aI G 401 (fun _ => 0))) qdu (aI G 61 (fun _ => 0))) y (ob 6 [.ref qt, .ref qw, .int (-1), .int 0, .ref qcl, .ref qll, .ref qho, .ref qte, .int 0, .ref qda, .ref qdu]))) hup_up ?_
  refine g_ret0 X F rfl dX6_init_111 (Nat.le_of_ble_eq_true rfl) (Nat.le_of_ble_eq_true rfl) ?_
  have J0 : kX (fun _ => 0) (fun j => if j = 5 ∨ j = 7 then G.2.2.2.1 3 else 0) (fun _ => False) := ⟨fun k hk => hk.elim, fun b hb => absurd rfl hb⟩
  obtain ⟨jx1, J1, hj1⟩ := J0.put (q := y) (k := 1) (by decide) (Or.inr rfl)
  obtain ⟨jx2, J2, hj2⟩ := J1.put (q := qt) (k := 2) (by decide) (Or.inr (hj1 qt n_qt_y rfl))
  obtain ⟨jx3, J3, hj3⟩ := J2.put (q := qtb) (k := 12) (by decide) (Or.inr (hj2 qtb n_qtb_qt (hj1 qtb n_qtb_y rfl)))
  obtain ⟨jx4, J4, hj4⟩ := J3.put (q := qw) (k := 3) (by decide) (Or.inr (hj3 qw n_qw_qtb (hj2 qw n_qw_qt (hj1 qw n_qw_y rfl))))
  obtain ⟨jx5, J5, hj5⟩ := J4.put (q := qwc) (k := 13) (by decide) (Or.inr (hj4 qwc n_qwc_qw (hj3 qwc n_qwc_qtb (hj2 qwc n_qwc_qt (hj1 qwc n_qwc_y rfl)))))
  obtain ⟨jx6, J6, hj6⟩ := J5.put (q := qwp) (k := 14) (by decide) (Or.inr (hj5 qwp n_qwp_qwc (hj4 qwp n_qwp_qw (hj3 qwp n_qwp_qtb (hj2 qwp n_qwp_qt (hj1 qwp n_qwp_y rfl))))))
  obtain ⟨jx7, J7, hj7⟩ := J6.put (q := qcl) (k := 4) (by decide) (Or.inr (hj6 qcl n_qcl_qwp (hj5 qcl n_qcl_qwc (hj4 qcl n_qcl_qw (hj3 qcl n_qcl_qtb (hj2 qcl n_qcl_qt (hj1 qcl n_qcl_y rfl)))))))
  obtain ⟨jx8, J8, hj8⟩ := J7.put (q := qll) (k := 6) (by decide) (Or.inr (hj7 qll n_qll_qcl (hj6 qll n_qll_qwp (hj5 qll n_qll_qwc (hj4 qll n_qll_qw (hj3 qll n_qll_qtb (hj2 qll n_qll_qt (hj1 qll n_qll_y rfl))))))))
  obtain ⟨jx9, J9, hj9⟩ := J8.put (q := qho) (k := 8) (by decide) (Or.inr (hj8 qho n_qho_qll (hj7 qho n_qho_qcl (hj6 qho n_qho_qwp (hj5 qho n_qho_qwc (hj4 qho n_qho_qw (hj3 qho n_qho_qtb (hj2 qho n_qho_qt (hj1 qho n_qho_y rfl)))))))))
  obtain ⟨jx10, J10, hj10⟩ := J9.put (q := qte) (k := 9) (by decide) (Or.inr (hj9 qte n_qte_qho (hj8 qte n_qte_qll (hj7 qte n_qte_qcl (hj6 qte n_qte_qwp (hj5 qte n_qte_qwc (hj4 qte n_qte_qw (hj3 qte n_qte_qtb (hj2 qte n_qte_qt (hj1 qte n_qte_y rfl))))))))))
  obtain ⟨jx11, J11, hj11⟩ := J10.put (q := qda) (k := 10) (by decide) (Or.inr (hj10 qda n_qda_qte (hj9 qda n_qda_qho (hj8 qda n_qda_qll (hj7 qda n_qda_qcl (hj6 qda n_qda_qwp (hj5 qda n_qda_qwc (hj4 qda n_qda_qw (hj3 qda n_qda_qtb (hj2 qda n_qda_qt (hj1 qda n_qda_y rfl)))))))))))
  obtain ⟨jx12, J12, hj12⟩ := J11.put (q := qdu) (k := 11) (by decide) (Or.inr (hj11 qdu n_qdu_qda (hj10 qdu n_qdu_qte (hj9 qdu n_qdu_qho (hj8 qdu n_qdu_qll (hj7 qdu n_qdu_qcl (hj6 qdu n_qdu_qwp (hj5 qdu n_qdu_qwc (hj4 qdu n_qdu_qw (hj3 qdu n_qdu_qtb (hj2 qdu n_qdu_qt (hj1 qdu n_qdu_y rfl))))))))))))
  let Z' : kZ := (jx12, (va_up (va_up (va_up (va_up (va_up (va_up (va_up (va_up (va_up (va_up (va_up (va_up (fun j => if j = 5 ∨ j = 7 then G.2.2.2.1 3 else 0) 1 y) 2 qt) 12 qtb) 3 qw) 13 qwc) 14 qwp) 4 qcl) 6 qll) 8 qho) 9 qte) 10 qda) 11 qdu), (0, 0, 0), (fun _ => 0), (fun _ => 0), fun _ _ => none)
  have a_1 : Z'.da 1 = y := by
    show (va_up (va_up (va_up (va_up (va_up (va_up (va_up (va_up (va_up (va_up (va_up (va_up (fun j => if j = 5 ∨ j = 7 then G.2.2.2.1 3 else 0) 1 y) 2 qt) 12 qtb) 3 qw) 13 qwc) 14 qwp) 4 qcl) 6 qll) 8 qho) 9 qte) 10 qda) 11 qdu) 1 = _
    rw [va_up_ne _ _ (by decide), va_up_ne _ _ (by decide), va_up_ne _ _ (by decide), va_up_ne _ _ (by decide), va_up_ne _ _ (by decide), va_up_ne _ _ (by decide), va_up_ne _ _ (by decide), va_up_ne _ _ (by decide), va_up_ne _ _ (by decide), va_up_ne _ _ (by decide), va_up_ne _ _ (by decide), va_up_self]
  have a_2 : Z'.da 2 = qt := by
    show (va_up (va_up (va_up (va_up (va_up (va_up (va_up (va_up (va_up (va_up (va_up (va_up (fun j => if j = 5 ∨ j = 7 then G.2.2.2.1 3 else 0) 1 y) 2 qt) 12 qtb) 3 qw) 13 qwc) 14 qwp) 4 qcl) 6 qll) 8 qho) 9 qte) 10 qda) 11 qdu) 2 = _
    rw [va_up_ne _ _ (by decide), va_up_ne _ _ (by decide), va_up_ne _ _ (by decide), va_up_ne _ _ (by decide), va_up_ne _ _ (by decide), va_up_ne _ _ (by decide), va_up_ne _ _ (by decide), va_up_ne _ _ (by decide), va_up_ne _ _ (by decide), va_up_ne _ _ (by decide), va_up_self]
  have a_12 : Z'.da 12 = qtb := by
    show (va_up (va_up (va_up (va_up (va_up (va_up (va_up (va_up (va_up (va_up (va_up (va_up (fun j => if j = 5 ∨ j = 7 then G.2.2.2.1 3 else 0) 1 y) 2 qt) 12 qtb) 3 qw) 13 qwc) 14 qwp) 4 qcl) 6 qll) 8 qho) 9 qte) 10 qda) 11 qdu) 12 = _
    rw [va_up_ne _ _ (by decide), va_up_ne _ _ (by decide), va_up_ne _ _ (by decide), va_up_ne _ _ (by decide), va_up_ne _ _ (by decide), va_up_ne _ _ (by decide), va_up_ne _ _ (by decide), va_up_ne _ _ (by decide), va_up_ne _ _ (by decide), va_up_self]
  have a_3 : Z'.da 3 = qw := by
    show (va_up (va_up (va_up (va_up (va_up (va_up (va_up (va_up (va_up (va_up (va_up (va_up (fun j => if j = 5 ∨ j = 7 then G.2.2.2.1 3 else 0) 1 y) 2 qt) 12 qtb) 3 qw) 13 qwc) 14 qwp) 4 qcl) 6 qll) 8 qho) 9 qte) 10 qda) 11 qdu) 3 = _
    rw [va_up_ne _ _ (by decide), va_up_ne _ _ (by decide), va_up_ne _ _ (by decide), va_up_ne _ _ (by decide), va_up_ne _ _ (by decide), va_up_ne _ _ (by decide), va_up_ne _ _ (by decide), va_up_ne _ _ (by decide), va_up_self]
  have a_13 : Z'.da 13 = qwc := by
    show (va_up (va_up (va_up (va_up (va_up (va_up (va_up (va_up (va_up (va_up (va_up (va_up (fun j => if j = 5 ∨ j = 7 then G.2.2.2.1 3 else 0) 1 y) 2 qt) 12 qtb) 3 qw) 13 qwc) 14 qwp) 4 qcl) 6 qll) 8 qho) 9 qte) 10 qda) 11 qdu) 13 = _
    rw [va_up_ne _ _ (by decide), va_up_ne _ _ (by decide), va_up_ne _ _ (by decide), va_up_ne _ _ (by decide), va_up_ne _ _ (by decide), va_up_ne _ _ (by decide), va_up_ne _ _ (by decide), va_up_self]
  have a_14 : Z'.da 14 = qwp := by
    show (va_up (va_up (va_up (va_up (va_up (va_up (va_up (va_up (va_up (va_up (va_up (va_up (fun j => if j = 5 ∨ j = 7 then G.2.2.2.1 3 else 0) 1 y) 2 qt) 12 qtb) 3 qw) 13 qwc) 14 qwp) 4 qcl) 6 qll) 8 qho) 9 qte) 10 qda) 11 qdu) 14 = _
    rw [va_up_ne _ _ (by decide), va_up_ne _ _ (by decide), va_up_ne _ _ (by decide), va_up_ne _ _ (by decide), va_up_ne _ _ (by decide), va_up_ne _ _ (by decide), va_up_self]
  have a_4 : Z'.da 4 = qcl := by
    show (va_up (va_up (va_up (va_up (va_up (va_up (va_up (va_up (va_up (va_up (va_up (va_up (fun j => if j = 5 ∨ j = 7 then G.2.2.2.1 3 else 0) 1 y) 2 qt) 12 qtb) 3 qw) 13 qwc) 14 qwp) 4 qcl) 6 qll) 8 qho) 9 qte) 10 qda) 11 qdu) 4 = _
    rw [va_up_ne _ _ (by decide), va_up_ne _ _ (by decide), va_up_ne _ _ (by decide), va_up_ne _ _ (by decide), va_up_ne _ _ (by decide), va_up_self]
  have a_6 : Z'.da 6 = qll := by
    show (va_up (va_up (va_up (va_up (va_up (va_up (va_up (va_up (va_up (va_up (va_up (va_up (fun j => if j = 5 ∨ j = 7 then G.2.2.2.1 3 else 0) 1 y) 2 qt) 12 qtb) 3 qw) 13 qwc) 14 qwp) 4 qcl) 6 qll) 8 qho) 9 qte) 10 qda) 11 qdu) 6 = _
    rw [va_up_ne _ _ (by decide), va_up_ne _ _ (by decide), va_up_ne _ _ (by decide), va_up_ne _ _ (by decide), va_up_self]
  have a_8 : Z'.da 8 = qho := by
    show (va_up (va_up (va_up (va_up (va_up (va_up (va_up (va_up (va_up (va_up (va_up (va_up (fun j => if j = 5 ∨ j = 7 then G.2.2.2.1 3 else 0) 1 y) 2 qt) 12 qtb) 3 qw) 13 qwc) 14 qwp) 4 qcl) 6 qll) 8 qho) 9 qte) 10 qda) 11 qdu) 8 = _
    rw [va_up_ne _ _ (by decide), va_up_ne _ _ (by decide), va_up_ne _ _ (by decide), va_up_self]
  have a_9 : Z'.da 9 = qte := by
    show (va_up (va_up (va_up (va_up (va_up (va_up (va_up (va_up (va_up (va_up (va_up (va_up (fun j => if j = 5 ∨ j = 7 then G.2.2.2.1 3 else 0) 1 y) 2 qt) 12 qtb) 3 qw) 13 qwc) 14 qwp) 4 qcl) 6 qll) 8 qho) 9 qte) 10 qda) 11 qdu) 9 = _
    rw [va_up_ne _ _ (by decide), va_up_ne _ _ (by decide), va_up_self]
  have a_10 : Z'.da 10 = qda := by
    show (va_up (va_up (va_up (va_up (va_up (va_up (va_up (va_up (va_up (va_up (va_up (va_up (fun j => if j = 5 ∨ j = 7 then G.2.2.2.1 3 else 0) 1 y) 2 qt) 12 qtb) 3 qw) 13 qwc) 14 qwp) 4 qcl) 6 qll) 8 qho) 9 qte) 10 qda) 11 qdu) 10 = _
    rw [va_up_ne _ _ (by decide), va_up_self]
  have a_11 : Z'.da 11 = qdu := by
    show (va_up (va_up (va_up (va_up (va_up (va_up (va_up (va_up (va_up (va_up (va_up (va_up (fun j => if j = 5 ∨ j = 7 then G.2.2.2.1 3 else 0) 1 y) 2 qt) 12 qtb) 3 qw) 13 qwc) 14 qwp) 4 qcl) 6 qll) 8 qho) 9 qte) 10 qda) 11 qdu) 11 = _
    rw [va_up_self]
  have a_5 : Z'.da 5 = G.2.2.2.1 3 := by
    show (va_up (va_up (va_up (va_up (va_up (va_up (va_up (va_up (va_up (va_up (va_up (va_up (fun j => if j = 5 ∨ j = 7 then G.2.2.2.1 3 else 0) 1 y) 2 qt) 12 qtb) 3 qw) 13 qwc) 14 qwp) 4 qcl) 6 qll) 8 qho) 9 qte) 10 qda) 11 qdu) 5 = _
    rw [va_up_ne _ _ (by decide), va_up_ne _ _ (by decide), va_up_ne _ _ (by decide), va_up_ne _ _ (by decide), va_up_ne _ _ (by decide), va_up_ne _ _ (by decide), va_up_ne _ _ (by decide), va_up_ne _ _ (by decide), va_up_ne _ _ (by decide), va_up_ne _ _ (by decide), va_up_ne _ _ (by decide), va_up_ne _ _ (by decide)]
    first | done | rfl
  have a_7 : Z'.da 7 = G.2.2.2.1 3 := by
    show (va_up (va_up (va_up (va_up (va_up (va_up (va_up (va_up (va_up (va_up (va_up (va_up (fun j => if j = 5 ∨ j = 7 then G.2.2.2.1 3 else 0) 1 y) 2 qt) 12 qtb) 3 qw) 13 qwc) 14 qwp) 4 qcl) 6 qll) 8 qho) 9 qte) 10 qda) 11 qdu) 7 = _
    rw [va_up_ne _ _ (by decide), va_up_ne _ _ (by decide), va_up_ne _ _ (by decide), va_up_ne _ _ (by decide), va_up_ne _ _ (by decide), va_up_ne _ _ (by decide), va_up_ne _ _ (by decide), va_up_ne _ _ (by decide), va_up_ne _ _ (by decide), va_up_ne _ _ (by decide), va_up_ne _ _ (by decide), va_up_ne _ _ (by decide)]
    first | done | rfl
  have hus : ∀ k, kU Z' k ↔ ((((((((((((False ∨ k = 1) ∨ k = 2) ∨ k = 12) ∨ k = 3) ∨ k = 13) ∨ k = 14) ∨ k = 4) ∨ k = 6) ∨ k = 8) ∨ k = 9) ∨ k = 10) ∨ k = 11) := by
    intro k
    simp only [false_or]
    constructor
    · rintro (⟨k1, k2, k5, k7⟩ | ⟨c, hc, -⟩ | ⟨a, ha, -⟩)
      · have k5' : k ≠ 5 := fun e => absurd (k5 e) (Nat.lt_irrefl 0)
        have k7' : k ≠ 7 := fun e => absurd (k7 e) (Nat.lt_irrefl 0)
        omega
      · exact absurd hc (Nat.not_lt_zero _)
      · exact absurd ha (Nat.not_lt_zero _)
    · intro hk
      exact Or.inl ⟨by omega, by omega, fun e => by omega, fun e => by omega⟩
  have JZ : kX Z'.jx Z'.da (kU Z') := J12.cg hus
  have hW : kW G Z' := ⟨fun k hk => (JZ.1 k hk).2, JZ.2, ⟨Nat.zero_le _, Nat.le_refl _, Nat.zero_le _, fun a => Nat.zero_le _⟩, ⟨⟨fun _ => a_5, fun z => absurd z (Nat.lt_irrefl _)⟩, ⟨fun _ => a_7, fun z => absurd z (Nat.lt_irrefl _)⟩, fun a ha => absurd ha (Nat.not_lt_zero _)⟩, fun c hc => absurd hc (Nat.not_lt_zero _), fun m => Nat.zero_le _⟩
  refine ⟨rfl, Z', ⟨hW, fun k hk => ?_⟩, a_1, ⟨rfl, rfl, rfl⟩, fun b hb hn => ?_⟩
  · rcases (hus k).mp hk with (((((((((((z | rfl) | rfl) | rfl) | rfl) | rfl) | rfl) | rfl) | rfl) | rfl) | rfl) | rfl) | rfl
    · exact z.elim
    · rw [a_1, kE_l (by decide)]
      show _ = some (ob 6 [.ref (Z'.da 2), .ref (Z'.da 3), .int (-1), .int 0, .ref (Z'.da 4), .ref (Z'.da 6), .ref (Z'.da 8), .ref (Z'.da 9), .int 0, .ref (Z'.da 10), .ref (Z'.da 11)])
      rw [a_2, a_3, a_4, a_6, a_8, a_9, a_10, a_11]
      exact hup_s
    · rw [a_2, kE_l (by decide)]
      show _ = some (ob 4 [.ref (Z'.da 12), .int 0, .int 0, .int 0, .int 0])
      rw [a_12]
      exact ((hup_n n_qt_y).trans ((hup_n n_qdu_qt.symm).trans ((hup_n n_qda_qt.symm).trans ((hup_n n_qte_qt.symm).trans ((hup_n n_qho_qt.symm).trans ((hup_n n_qll_qt.symm).trans ((hup_n n_qcl_qt.symm).trans ((hup_n n_qwp_qt.symm).trans ((hup_n n_qwc_qt.symm).trans ((hup_n n_qw_qt.symm).trans ((hup_n n_qtb_qt.symm).trans hup_s)))))))))))
    · rw [a_12, kE_l (by decide)]
      show _ = some (aB G 400 (fun _ => 0))
      exact ((hup_n n_qtb_y).trans ((hup_n n_qdu_qtb.symm).trans ((hup_n n_qda_qtb.symm).trans ((hup_n n_qte_qtb.symm).trans ((hup_n n_qho_qtb.symm).trans ((hup_n n_qll_qtb.symm).trans ((hup_n n_qcl_qtb.symm).trans ((hup_n n_qwp_qtb.symm).trans ((hup_n n_qwc_qtb.symm).trans ((hup_n n_qw_qtb.symm).trans hup_s))))))))))
    · rw [a_3, kE_l (by decide)]
      show _ = some (ob 5 [.ref (Z'.da 13), .ref (Z'.da 14), .int 0, .int 0, .int 0])
      rw [a_13, a_14]
      exact ((hup_n n_qw_y).trans ((hup_n n_qdu_qw.symm).trans ((hup_n n_qda_qw.symm).trans ((hup_n n_qte_qw.symm).trans ((hup_n n_qho_qw.symm).trans ((hup_n n_qll_qw.symm).trans ((hup_n n_qcl_qw.symm).trans ((hup_n n_qwp_qw.symm).trans ((hup_n n_qwc_qw.symm).trans hup_s)))))))))
    · rw [a_13, kE_l (by decide)]
      show _ = some (aJ G 60 (fun _ => 0))
      exact ((hup_n n_qwc_y).trans ((hup_n n_qdu_qwc.symm).trans ((hup_n n_qda_qwc.symm).trans ((hup_n n_qte_qwc.symm).trans ((hup_n n_qho_qwc.symm).trans ((hup_n n_qll_qwc.symm).trans ((hup_n n_qcl_qwc.symm).trans ((hup_n n_qwp_qwc.symm).trans hup_s))))))))
    · rw [a_14, kE_l (by decide)]
      show _ = some (aI G 60 (fun _ => 0))
      exact ((hup_n n_qwp_y).trans ((hup_n n_qdu_qwp.symm).trans ((hup_n n_qda_qwp.symm).trans ((hup_n n_qte_qwp.symm).trans ((hup_n n_qho_qwp.symm).trans ((hup_n n_qll_qwp.symm).trans ((hup_n n_qcl_qwp.symm).trans hup_s)))))))
    · rw [a_4, kE_l (by decide)]
      show _ = some (ob 8 [.int 0, .ref (Z'.da 5), .int 0])
      rw [a_5]
      exact ((hup_n n_qcl_y).trans ((hup_n n_qdu_qcl.symm).trans ((hup_n n_qda_qcl.symm).trans ((hup_n n_qte_qcl.symm).trans ((hup_n n_qho_qcl.symm).trans ((hup_n n_qll_qcl.symm).trans hup_s))))))
    · rw [a_6, kE_l (by decide)]
      show _ = some (ob 8 [.int 0, .ref (Z'.da 7), .int 0])
      rw [a_7]
      exact ((hup_n n_qll_y).trans ((hup_n n_qdu_qll.symm).trans ((hup_n n_qda_qll.symm).trans ((hup_n n_qte_qll.symm).trans ((hup_n n_qho_qll.symm).trans hup_s)))))
    · rw [a_8, kE_l (by decide)]
      show _ = some (aI G 4 (upd (upd (upd (upd (fun _ => 0) 0 5) 1 5) 2 5) 3 5))
      exact ((hup_n n_qho_y).trans ((hup_n n_qdu_qho.symm).trans ((hup_n n_qda_qho.symm).trans ((hup_n n_qte_qho.symm).trans hup_s))))
    · rw [a_9, kE_l (by decide)]
      show _ = some (aI G 10 (fun _ => 0))
      exact ((hup_n n_qte_y).trans ((hup_n n_qdu_qte.symm).trans ((hup_n n_qda_qte.symm).trans hup_s)))
    · rw [a_10, kE_l (by decide)]
      show _ = some (aI G 401 (fun _ => 0))
      exact ((hup_n n_qda_y).trans ((hup_n n_qdu_qda.symm).trans hup_s))
    · rw [a_11, kE_l (by decide)]
      show _ = some (aI G 61 (fun _ => 0))
      exact ((hup_n n_qdu_y).trans hup_s)
  · have nq : ∀ {z}, h z = none → b ≠ z := fun hz e => hn (e ▸ hz)
    exact ⟨((hup_n hb).trans ((hup_n (nq z_qdu)).trans ((hup_n (nq z_qda)).trans ((hup_n (nq z_qte)).trans ((hup_n (nq z_qho)).trans ((hup_n (nq z_qll)).trans ((hup_n (nq z_qcl)).trans ((hup_n (nq z_qwp)).trans ((hup_n (nq z_qwc)).trans ((hup_n (nq z_qw)).trans ((hup_n (nq z_qtb)).trans ((hup_n (nq z_qt)).trans rfl)))))))))))), (hj12 b (nq z_qdu) (hj11 b (nq z_qda) (hj10 b (nq z_qte) (hj9 b (nq z_qho) (hj8 b (nq z_qll) (hj7 b (nq z_qcl) (hj6 b (nq z_qwp) (hj5 b (nq z_qwc) (hj4 b (nq z_qw) (hj3 b (nq z_qtb) (hj2 b (nq z_qt) (hj1 b hb rfl))))))))))))⟩
end K40
