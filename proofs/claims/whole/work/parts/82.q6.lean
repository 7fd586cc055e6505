section Q6
variable {G : gG} {l : Launch} {h h0 : hW}
/-- a contract of a method that has handlers, and returns -/
def CtH (G : gG) (l : Launch) (lv mc ms : Nat) (M : gM) (hh : List (Nat × Nat × Nat × Nat)) (av : List Value) (h : hW) (post : Option Value → hW → Prop) : Prop :=
  Met l M.1 (.codeWith M.1 M.2.1 M.2.2.1 M.2.2.2 hh :: uw) (gRm lv mc ms) (va_Pc av (fun U => gWo G h U.heap ∧ gOld G U U.heap)) (gQ G post) mc ms (gA G)
theorem CtH.of {lv mc ms : Nat} {M : gM} {hh : List (Nat × Nat × Nat × Nat)} {av : List Value} {post : Option Value → hW → Prop} (hy : plainName M.1.cls = true) (hlen : (lg_sl av).length ≤ M.2.2.1)
    (body : ∀ E : gE, E.l = l → Gc G E M.1.cls M.2.1 M.2.2.1 lv mc ms → E.meth.sig.returnType = M.2.2.2 → E.c.exceptionTable.toList = tableOf hh → GW G E (gMQ G E mc ms post) M.2.2.1 0 (lv_args 0 av) [] h 0 0) : CtH G l lv mc ms M hh av h post := by
  have K : vx_Met l M.1 (.codeWith M.1 M.2.1 M.2.2.1 M.2.2.2 hh :: uw) (gRm lv mc ms) (va_Pc av (fun U => gWo G h U.heap ∧ gOld G U U.heap)) (gQ G post) (fun _ _ _ => False) mc ms (gA G) := by
    refine vx_ofWH (cc := M.2.1) (maxL := M.2.2.1) (ret := M.2.2.2) (hh := hh) hy rfl ?_
    intro p e s m args below meth c s₁ B hml hv
    obtain ⟨rfl, hw, ho⟩ := hv
    have hts := atoms_spec (ws := .codeWith M.1 M.2.1 M.2.2.1 M.2.2.2 hh :: uw) B.pre
    have ht := vx_table (x := M.1) B (hts _ List.mem_cons_self)
    have hown : s.vm.findClass M.1.cls = some m.cls := findClass_of_methodNamed B.named
    have K := body (p, l, e, (headSpec (.codeWith M.1 M.2.1 M.2.2.1 M.2.2.2 hh :: uw) (gRm lv mc ms)).room, s, m, av.toArray, below, meth, c) rfl
      ⟨B.exec, B.bytes, hml, hown, fun w hw => hts w (List.mem_cons_of_mem _ hw), ho, B.notSynchronized, Nat.le_refl _, Nat.le_refl _, Nat.le_refl _, Nat.le_refl _⟩ B.returns ht
    have hl := lv_entry av hlen
    rw [lg_entry_eq]
    exact vx_ret (K s.heap [] _ hw va_S.rf hl)
  intro p e ha hc hk s m args below hf happ hP hx
  obtain ⟨t, o, b0, b1, b2, hq2⟩ := K p e ha hc hk s m args below hf happ hP hx
  rcases hq2 with h | ⟨q, e1, C, ce, L, hF, -⟩
  · exact ⟨t, o, b0, b1, b2, h⟩
  · exact hF.elim
theorem Ct.toX {lv mc ms : Nat} {M : gM} {av : List Value} {post : Option Value → hW → Prop} {px : String → hW → Prop} (K : Ct G l lv mc ms M av h post) : CtX G l lv mc ms M av h post px := by
  intro p e ha hc hk s m args below hf happ hP hx
  obtain ⟨t, o, b0, b1, b2, hq⟩ := K p e ha hc hk s m args below hf happ hP hx
  exact ⟨t, o, b0, b1, b2, Or.inl hq⟩
theorem gOld.nc {u : State} {H : Heap} (o : gOld G u H) : ∀ q ∈ gNcs, va_Nc q.1 q.2 u := o.2.2.2.2.2.2.2.2.2.2.2.2
section CR
variable {E : gE} {own : String} {cc : ByteArray} {nL lv mc ms pc k n : Nat} {Q : State → Prop} {L : List (Nat × Value)} {st : List Value}
theorem g_iretR (X : Gc G E own cc nL lv mc ms) {mc' ms' : Nat} {ty : FieldType} (hR : E.meth.sig.returnType = some ty) {x : Int32} (hx : narrow ty (.int x) = .int x) {post : Option Value → hW → Prop} (d : decode cc pc = .ok (.ireturn, 1)) (hk : k ≤ mc') (hn : n ≤ ms') (hq : post (some (.int x)) h) : GW G E (gMQ G E mc' ms' post) nL pc L [.int x] h k n := by
  intro H locs ls w b c
  refine W.widen hk hn (W.zret X.1 X.2.1 hR hx (fun t ht hW => ⟨⟨some (.int x), h, rfl, hq, by rw [ht]; exact w⟩, b.F ht⟩) b.2.2 d (hlocks := X.2.2.2.2.2.2.1))
/-- a call that returns, or throws what is caught here -/
theorem g_catchV (X : Gc G E own cc nL lv mc ms) {hh : List (Nat × Nat × Nat × Nat)} (hT : E.c.exceptionTable.toList = tableOf hh) {idx nA lvc mcc msc : Nat} {M0 : gM} (ml : MLv own idx M0 nA) {b : Nat} {As rest : List Value} {post0 : Option Value → hW → Prop} {px0 : String → hW → Prop} (hM : CtX G E.l lvc mcc msc M0 (.ref b :: As) h post0 px0) (hb : ∃ ci fs, h b = some (ob ci fs) ∧ (vwCl[ci]?).map (·.1) = some M0.1.cls) (hlv : lvc + 1 ≤ lv) (hA : As.length = nA) (hst : st = As.reverse ++ .ref b :: rest) (hW : (rest.map fun v => v.category).sum ≤ 8) (hk : k + mcc ≤ mc) (hn : n + msc ≤ ms) (d : decode cc pc = .ok (.invokevirtual idx, 3))
    (K : ∀ v h', post0 v h' → GW G E Q nL (pc + 3) L (v.toList ++ rest) h' (k + mcc) (n + msc))
    (KX : ∀ C h', px0 C h' → ∃ (pre : List ExceptionTableEntry) (x : ExceptionTableEntry) (suf : List ExceptionTableEntry), tableOf hh = pre ++ x :: suf ∧ (∀ z ∈ pre, z.catchType ≠ 0 ∧ ∃ nm, Cond.classLink own z.catchType nm ∈ uw ∧ (C, nm) ∈ gNcs) ∧ covers x pc = true ∧ x.catchType ≠ 0 ∧ (∃ name, Cond.classLink own x.catchType name ∈ uw ∧ Cond.castable C name ∈ lw_tbl) ∧ ∀ q : Nat, GW G E Q nL x.handlerPc L [.ref q] h' (k + mcc) (n + msc)) : GW G E Q nL pc L st h k n := by
  intro H locs ls w bb c
  obtain ⟨ci, fs, hb1, hb2⟩ := hb
  have r := X.2.2.2.2.2.2.2.2.2
  have hc : ∃ q : vw_C, vwCl[ci]? = some q ∧ q.1 = M0.1.cls := by
    cases hq : vwCl[ci]? with
    | none => rw [hq] at hb2; cases hb2
    | some q => rw [hq] at hb2; exact ⟨q, rfl, Option.some.inj hb2⟩
  obtain ⟨q, hq1, hq2⟩ := hc
  have hrec := va_recv X.2.2.2.2.2.1.2.1 (w.one hb1) hq1 (q0 := 0) rfl
  rw [hq2] at hrec
  have hr := vx_runV (As := As) (rest := rest) (H := H) (locs := locs) (cells := k) (slots := n) (e := E.e) (meth := E.meth) (below := E.below) ⟨X.1, X.2.1, X.2.2.1, X.2.2.2.1, X.2.2.2.2.1⟩ hM ⟨g_callB X ml.1 hlv, X.2.2.2.2.1 _ ml.2.1, X.2.2.2.2.1 _ ml.2.2⟩ ⟨g_blind, hrec, g_pre X w bb _⟩ (g := F0 E.m pc ls st) rfl hA c.1 hst (lv_room hW) d ⟨Nat.le_trans hk r.1, Nat.le_trans hn r.2⟩
  intro T hT1 XT
  have hS : ∀ {st₀ t T' : State} {Ls : List Loc}, st₀.heap = H → T'.heap = t.heap → (∀ q ∈ Ls, gA G q.base) → va_F (gA G) st₀ t → va_S (gA G) E.s.heap T'.heap (locs ++ Ls) := by
    intro st₀ t T' Ls h0 e1 hL hF
    obtain ⟨hz, hk2⟩ := hF
    rw [h0] at hz hk2
    exact ⟨Nat.le_trans bb.1 (by rw [e1]; exact hz), fun q h1 h2 => by rw [e1, hk2 q (Nat.lt_of_lt_of_le h1 bb.1) h2]; exact bb.2.1 q h1 h2, fun q hq => by
      rcases List.mem_append.mp hq with hq | hq
      · exact bb.2.2 q hq
      · exact hL q hq⟩
  rcases hr T hT1 XT with ⟨v, st₀, t, T', Ls, h0, X', hL, e1, e2, ⟨⟨v', h', hv, hp, hw⟩, hF⟩, st⟩ | ⟨q, st₀, t, T', Ls, C, ce, h0, X', hL, e1, e2, ⟨⟨h', hp, hw⟩, hF⟩, hce, hcv, hcl, st⟩
  · cases hv
    obtain ⟨t2, a1, b1⟩ := K v h' hp T'.heap (locs ++ Ls) ls (by rw [e1]; exact hw) (hS h0 e1 hL hF) c T' rfl X'
    exact ⟨t2, st t2 a1, b1⟩
  · have b' := hS h0 e1 hL hF
    obtain ⟨pre, x, suf, t1, t2, t3, t4, ⟨name, t5, t6⟩, t7⟩ := KX C h' hp
    obtain ⟨t9, a1, b1⟩ := vx_catch (own := own) (name := name) (E := C) (H := T'.heap) (pc := pc) (ls := ls) (rest := rest) X.2.2.2.1 pre x suf (hT.trans t1) (fun z hz => Or.inr ⟨(t2 z hz).1, (t2 z hz).2.choose, X.2.2.2.2.1 _ (t2 z hz).2.choose_spec.1, X.old.nc _ (t2 z hz).2.choose_spec.2⟩) t3 t4 (X.2.2.2.2.1 _ t5) (va_Nw.use rfl (X.old.nw _ t6 rfl)) (by rw [e1]; exact hce) hcv hcl (t7 q T'.heap (locs ++ Ls) ls (by rw [e1]; exact hw) b' c) T' rfl X'
    exact ⟨t9, st.trans a1, b1⟩
/-- a call of a static method that has handlers -/
theorem g_callH (X : Gc G E own cc nL lv mc ms) {idx nA lvc mcc msc : Nat} {M : gM} {hh : List (Nat × Nat × Nat × Nat)} (m1 : Cond.methodLink own idx M.1 ∈ uw) (m2 : Cond.codeWith M.1 M.2.1 M.2.2.1 M.2.2.2 hh ∈ uw) (m3 : Cond.initialized M.1.cls ∈ uw) (m4 : M.1.cls ≠ "java/lang/invoke/MethodHandle" ∧ M.1.cls ≠ "java/lang/invoke/VarHandle") (m5 : (parseMethodDescriptor M.1.desc).map (fun d => d.parameters.length) = some nA) (m6 : M.2.2.1 ≤ 60) (m7 : Cond.static M.1 ∈ uw) {As rest : List Value} {post : Option Value → hW → Prop} (hM : CtH G E.l lvc mcc msc M hh As h post) (hlv : lvc + 1 ≤ lv) (hA : As.length = nA) (hst : st = As.reverse ++ rest) (hW : (rest.map fun v => v.category).sum ≤ 8) (hk : k + mcc ≤ mc) (hn : n + msc ≤ ms) (d : decode cc pc = .ok (.invokestatic idx, 3))
    (K : ∀ v h', post v h' → GW G E Q nL (pc + 3) L (v.toList ++ rest) h' (k + mcc) (n + msc)) : GW G E Q nL pc L st h k n := by
  intro H locs ls w bb c
  have r := X.2.2.2.2.2.2.2.2.2
  have r1 := X.2.2.2.2.2.2.2.1
  have r2 := X.2.2.2.2.2.2.2.2.1
  have hts := X.2.2.2.2.1
  exact g_behind (lvc := lvc) (vx_runSW (As := As) (rest := rest) (n := nA) (rm := gRm lvc mcc msc) ⟨X.1, X.2.1, X.2.2.1, X.2.2.2.1, X.2.2.2.2.1⟩ hM ⟨⟨rfl, rfl, Nat.le_trans hlv r1, (show 8 + (M.2.2.1 + 11) + 100 * lvc ≤ E.R.locals by omega), fun w9 hw9 a9 U9 hW9 => (by
      rcases List.mem_cons.mp hw9 with rfl | hw9
      · exact word_at hW9 (uw_good m2) (hts _ m2)
      · exact word_at hW9 (uw_good hw9) (hts _ hw9)), List.mem_cons_self⟩, hts _ m2, hts _ m3, m4, fun sig hs => (by
      rw [hs] at m5
      exact (Option.some.inj m5).symm), hts _ m1, hts _ m7⟩ ⟨g_blind, g_pre X w bb _⟩ rfl hA c.1 hst (lv_room hW) d ⟨Nat.le_trans hk r.1, Nat.le_trans hn r.2⟩) bb c K
end CR
theorem cst_Index : Cond.castable "java/lang/IndexOutOfBoundsException" "java/lang/IndexOutOfBoundsException" ∈ lw_tbl := List.mem_of_getElem? (i := 299) (by decide +kernel)
theorem cst_Illeg : Cond.castable "java/lang/IllegalArgumentException" "java/lang/IllegalArgumentException" ∈ lw_tbl := List.mem_of_getElem? (i := 372) (by decide +kernel)
theorem cst_Unsup : Cond.castable "java/lang/UnsupportedOperationException" "java/lang/UnsupportedOperationException" ∈ lw_tbl := List.mem_of_getElem? (i := 474) (by decide +kernel)
theorem cst_NoSuc : Cond.castable "java/util/NoSuchElementException" "java/util/NoSuchElementException" ∈ lw_tbl := List.mem_of_getElem? (i := 968) (by decide +kernel)
abbrev M_L_cause : gM := (yL_cause, cL_cause, 7, some .int)
abbrev hh_cause : List (Nat × Nat × Nat × Nat) := [(0, 14, 17, 13), (0, 14, 21, 15), (0, 14, 25, 17)]
theorem mlh_cause {E : gE} {cc : ByteArray} {nL lv mc ms pc k n lvc mcc msc : Nat} {Q : State → Prop} {L : List (Nat × Value)} {st : List Value} (X : Gc G E "ComplaintDeskLaw" cc nL lv mc ms) {As rest : List Value} {post : Option Value → hW → Prop} (hM : CtH G E.l lvc mcc msc M_L_cause hh_cause As h post) (hlv : lvc + 1 ≤ lv) (hA : As.length = 6) (hst : st = As.reverse ++ rest) (hW : (rest.map fun v => v.category).sum ≤ 8) (hk : k + mcc ≤ mc) (hn : n + msc ≤ ms) (d : decode cc pc = .ok (.invokestatic 76, 3))
    (K : ∀ v h', post v h' → GW G E Q nL (pc + 3) L (v.toList ++ rest) h' (k + mcc) (n + msc)) : GW G E Q nL pc L st h k n :=
  g_callH X (uw_at 279 (by decide +kernel) rfl) (uw_at 281 (by decide +kernel) rfl) (uw_at 49 (by decide +kernel) rfl) ⟨by decide +kernel, by decide +kernel⟩ (by decide +kernel) (by decide) (uw_at 280 (by decide +kernel) rfl) hM hlv hA hst hW hk hn d K
theorem w_cause {lvc mcc msc : Nat} (x o : Nat) (p0 p1 p2 p3 : Int32) {post0 : Option Value → hW → Prop} {px0 : String → hW → Prop} (hx : ∃ fs, h x = some (ob 6 fs)) (h11 : lvc ≤ 11) (hM : Ct G l lvc mcc msc M_X6_cause [.ref x, .int p0, .int p1, .int p2, .int p3] h post0) (hp0 : ∀ v h1, post0 v h1 → ∃ (r : Int32) (fo : Nat → Int64), v = some (.int r) ∧ h1 o = some (aJ G 1 fo)) : CtH G l 12 mcc msc M_L_cause hh_cause [.ref x, .int p0, .int p1, .int p2, .int p3, .ref o] h (fun v h' => ∃ (r : Int32) (h1 : hW) (fo : Nat → Int64), post0 (some (.int r)) h1 ∧ h1 o = some (aJ G 1 fo) ∧ v = some (.int 0) ∧ h' = hup h1 o (aJ G 1 (vp_updL fo 0 r.toInt64))) := by
  refine CtH.of (by decide +kernel) (Nat.le_of_ble_eq_true rfl) (fun E hE X R9 T9 => ?_)
  have X : Gc G E "ComplaintDeskLaw" cL_cause 7 12 mcc msc := X
  obtain ⟨fs9, hx9⟩ := hx
  show GW G E _ 7 0 [(0, _), (1, _), (2, _), (3, _), (4, _), (5, _)] [] _ 0 0
  refine g_aload X dL_cause_0 5 rfl ?_
  refine g_iconst X (v := 0) dL_cause_2 ki_0 ?_
  refine g_aload_n X dL_cause_3 0 rfl ?_
  refine g_iload_n X dL_cause_4 1 rfl ?_
  refine g_iload_n X dL_cause_5 2 rfl ?_
  refine g_iload_n X dL_cause_6 3 rfl ?_
  refine g_iload X dL_cause_7 4 rfl ?_
  refine g_catchV (post0 := post0) (px0 := fun _ _ => False) (rest := [.int 0, .ref o]) X T9 ml_L_7 (by rw [hE]; exact hM.toX (px := fun _ _ => False)) ⟨6, _, hx9, rfl⟩ (by omega) rfl rfl (Nat.le_of_ble_eq_true rfl) (Nat.le_of_eq (Nat.zero_add _)) (Nat.le_of_eq (Nat.zero_add _)) dL_cause_9 (fun v9 h9 q9 => ?_) (fun C9 h9 q9 => q9.elim)
  obtain ⟨r9, fo9, rfl, ho9⟩ := hp0 v9 h9 q9
  refine g_st (st' := [.int r9, .int 0, .ref o]) rfl ?_
  refine g_i2l X dL_cause_12 ?_
  refine g_lastore X dL_cause_13 ho9 (by unfold vp_in; decide) ?_
  refine g_goto X 29 dL_cause_14 (by decide) ?_
  refine g_iconst X (v := 0) dL_cause_29 ki_0 ?_
  refine g_iretR X R9 rfl dL_cause_30 (Nat.le_of_eq (Nat.zero_add _)) (Nat.le_of_eq (Nat.zero_add _)) ?_
  exact ⟨r9, h9, fo9, q9, ho9, rfl, rfl⟩
theorem w_cause_1 {lvc mcc msc : Nat} (x o : Nat) (p0 p1 p2 p3 : Int32) {post0 : Option Value → hW → Prop} {px0 : String → hW → Prop} (hx : ∃ fs, h x = some (ob 6 fs)) (h11 : lvc ≤ 11) (hM : CtX G l lvc mcc msc M_X6_cause [.ref x, .int p0, .int p1, .int p2, .int p3] h (fun _ _ => False) px0) (hpx : ∀ C h', px0 C h' → C = "java/lang/IndexOutOfBoundsException") : CtH G l 12 mcc msc M_L_cause hh_cause [.ref x, .int p0, .int p1, .int p2, .int p3, .ref o] h (fun v h' => px0 "java/lang/IndexOutOfBoundsException" h' ∧ v = some (.int 1)) := by
  refine CtH.of (by decide +kernel) (Nat.le_of_ble_eq_true rfl) (fun E hE X R9 T9 => ?_)
  have X : Gc G E "ComplaintDeskLaw" cL_cause 7 12 mcc msc := X
  obtain ⟨fs9, hx9⟩ := hx
  show GW G E _ 7 0 [(0, _), (1, _), (2, _), (3, _), (4, _), (5, _)] [] _ 0 0
  refine g_aload X dL_cause_0 5 rfl ?_
  refine g_iconst X (v := 0) dL_cause_2 ki_0 ?_
  refine g_aload_n X dL_cause_3 0 rfl ?_
  refine g_iload_n X dL_cause_4 1 rfl ?_
  refine g_iload_n X dL_cause_5 2 rfl ?_
  refine g_iload_n X dL_cause_6 3 rfl ?_
  refine g_iload X dL_cause_7 4 rfl ?_
  refine g_catchV (post0 := fun _ _ => False) (px0 := px0) (rest := [.int 0, .ref o]) X T9 ml_L_7 (by rw [hE]; exact hM) ⟨6, _, hx9, rfl⟩ (by omega) rfl rfl (Nat.le_of_ble_eq_true rfl) (Nat.le_of_eq (Nat.zero_add _)) (Nat.le_of_eq (Nat.zero_add _)) dL_cause_9 (fun v9 h9 q9 => q9.elim) (fun C9 h9 q9 => by
      have e9 := hpx C9 h9 q9
      subst e9
      refine ⟨[], ⟨0, 14, 17, 13⟩, [⟨0, 14, 21, 15⟩, ⟨0, 14, 25, 17⟩], rfl, fun z hz => absurd hz List.not_mem_nil, by decide, by decide, ⟨"java/lang/IndexOutOfBoundsException", uw_at 282 (by decide +kernel) rfl, cst_Index⟩, fun q0 => ?_⟩
      show GW G E _ 7 17 _ _ _ _ _
      refine g_astore X dL_cause_17 (Nat.le_of_ble_eq_true rfl) [(6, _), (0, _), (1, _), (2, _), (3, _), (4, _), (5, _)] rfl ?_
      refine g_iconst X (v := 1) dL_cause_19 ki_1 ?_
      refine g_iretR X R9 rfl dL_cause_20 (Nat.le_of_eq (Nat.zero_add _)) (Nat.le_of_eq (Nat.zero_add _)) ?_
      exact ⟨q9, rfl⟩)
theorem w_cause_2 {lvc mcc msc : Nat} (x o : Nat) (p0 p1 p2 p3 : Int32) {post0 : Option Value → hW → Prop} {px0 : String → hW → Prop} (hx : ∃ fs, h x = some (ob 6 fs)) (h11 : lvc ≤ 11) (hM : CtX G l lvc mcc msc M_X6_cause [.ref x, .int p0, .int p1, .int p2, .int p3] h (fun _ _ => False) px0) (hpx : ∀ C h', px0 C h' → C = "java/lang/IllegalArgumentException") : CtH G l 12 mcc msc M_L_cause hh_cause [.ref x, .int p0, .int p1, .int p2, .int p3, .ref o] h (fun v h' => px0 "java/lang/IllegalArgumentException" h' ∧ v = some (.int 2)) := by
  refine CtH.of (by decide +kernel) (Nat.le_of_ble_eq_true rfl) (fun E hE X R9 T9 => ?_)
  have X : Gc G E "ComplaintDeskLaw" cL_cause 7 12 mcc msc := X
  obtain ⟨fs9, hx9⟩ := hx
  show GW G E _ 7 0 [(0, _), (1, _), (2, _), (3, _), (4, _), (5, _)] [] _ 0 0
  refine g_aload X dL_cause_0 5 rfl ?_
  refine g_iconst X (v := 0) dL_cause_2 ki_0 ?_
  refine g_aload_n X dL_cause_3 0 rfl ?_
  refine g_iload_n X dL_cause_4 1 rfl ?_
  refine g_iload_n X dL_cause_5 2 rfl ?_
  refine g_iload_n X dL_cause_6 3 rfl ?_
  refine g_iload X dL_cause_7 4 rfl ?_
  refine g_catchV (post0 := fun _ _ => False) (px0 := px0) (rest := [.int 0, .ref o]) X T9 ml_L_7 (by rw [hE]; exact hM) ⟨6, _, hx9, rfl⟩ (by omega) rfl rfl (Nat.le_of_ble_eq_true rfl) (Nat.le_of_eq (Nat.zero_add _)) (Nat.le_of_eq (Nat.zero_add _)) dL_cause_9 (fun v9 h9 q9 => q9.elim) (fun C9 h9 q9 => by
      have e9 := hpx C9 h9 q9
      subst e9
      refine ⟨[⟨0, 14, 17, 13⟩], ⟨0, 14, 21, 15⟩, [⟨0, 14, 25, 17⟩], rfl, fun z hz => by
        simp only [List.mem_cons, List.not_mem_nil, or_false] at hz
        rcases hz with rfl
        · exact ⟨by decide, "java/lang/IndexOutOfBoundsException", uw_at 282 (by decide +kernel) rfl, by decide +kernel⟩, by decide, by decide, ⟨"java/lang/IllegalArgumentException", uw_at 283 (by decide +kernel) rfl, cst_Illeg⟩, fun q0 => ?_⟩
      show GW G E _ 7 21 _ _ _ _ _
      refine g_astore X dL_cause_21 (Nat.le_of_ble_eq_true rfl) [(6, _), (0, _), (1, _), (2, _), (3, _), (4, _), (5, _)] rfl ?_
      refine g_iconst X (v := 2) dL_cause_23 ki_2 ?_
      refine g_iretR X R9 rfl dL_cause_24 (Nat.le_of_eq (Nat.zero_add _)) (Nat.le_of_eq (Nat.zero_add _)) ?_
      exact ⟨q9, rfl⟩)
theorem w_cause_3 {lvc mcc msc : Nat} (x o : Nat) (p0 p1 p2 p3 : Int32) {post0 : Option Value → hW → Prop} {px0 : String → hW → Prop} (hx : ∃ fs, h x = some (ob 6 fs)) (h11 : lvc ≤ 11) (hM : CtX G l lvc mcc msc M_X6_cause [.ref x, .int p0, .int p1, .int p2, .int p3] h (fun _ _ => False) px0) (hpx : ∀ C h', px0 C h' → C = "java/lang/UnsupportedOperationException") : CtH G l 12 mcc msc M_L_cause hh_cause [.ref x, .int p0, .int p1, .int p2, .int p3, .ref o] h (fun v h' => px0 "java/lang/UnsupportedOperationException" h' ∧ v = some (.int 3)) := by
  refine CtH.of (by decide +kernel) (Nat.le_of_ble_eq_true rfl) (fun E hE X R9 T9 => ?_)
  have X : Gc G E "ComplaintDeskLaw" cL_cause 7 12 mcc msc := X
  obtain ⟨fs9, hx9⟩ := hx
  show GW G E _ 7 0 [(0, _), (1, _), (2, _), (3, _), (4, _), (5, _)] [] _ 0 0
  refine g_aload X dL_cause_0 5 rfl ?_
  refine g_iconst X (v := 0) dL_cause_2 ki_0 ?_
  refine g_aload_n X dL_cause_3 0 rfl ?_
  refine g_iload_n X dL_cause_4 1 rfl ?_
  refine g_iload_n X dL_cause_5 2 rfl ?_
  refine g_iload_n X dL_cause_6 3 rfl ?_
  refine g_iload X dL_cause_7 4 rfl ?_
  refine g_catchV (post0 := fun _ _ => False) (px0 := px0) (rest := [.int 0, .ref o]) X T9 ml_L_7 (by rw [hE]; exact hM) ⟨6, _, hx9, rfl⟩ (by omega) rfl rfl (Nat.le_of_ble_eq_true rfl) (Nat.le_of_eq (Nat.zero_add _)) (Nat.le_of_eq (Nat.zero_add _)) dL_cause_9 (fun v9 h9 q9 => q9.elim) (fun C9 h9 q9 => by
      have e9 := hpx C9 h9 q9
      subst e9
      refine ⟨[⟨0, 14, 17, 13⟩, ⟨0, 14, 21, 15⟩], ⟨0, 14, 25, 17⟩, [], rfl, fun z hz => by
        simp only [List.mem_cons, List.not_mem_nil, or_false] at hz
        rcases hz with rfl | rfl
        · exact ⟨by decide, "java/lang/IndexOutOfBoundsException", uw_at 282 (by decide +kernel) rfl, by decide +kernel⟩
        · exact ⟨by decide, "java/lang/IllegalArgumentException", uw_at 283 (by decide +kernel) rfl, by decide +kernel⟩, by decide, by decide, ⟨"java/lang/UnsupportedOperationException", uw_at 284 (by decide +kernel) rfl, cst_Unsup⟩, fun q0 => ?_⟩
      show GW G E _ 7 25 _ _ _ _ _
      refine g_astore X dL_cause_25 (Nat.le_of_ble_eq_true rfl) [(6, _), (0, _), (1, _), (2, _), (3, _), (4, _), (5, _)] rfl ?_
      refine g_iconst X (v := 3) dL_cause_27 ki_3 ?_
      refine g_iretR X R9 rfl dL_cause_28 (Nat.le_of_eq (Nat.zero_add _)) (Nat.le_of_eq (Nat.zero_add _)) ?_
      exact ⟨q9, rfl⟩)
abbrev M_L_pattern : gM := (yL_pattern, cL_pattern, 4, some .int)
abbrev hh_pattern : List (Nat × Nat × Nat × Nat) := [(0, 9, 12, 13), (0, 9, 15, 15)]
theorem mlh_pattern {E : gE} {cc : ByteArray} {nL lv mc ms pc k n lvc mcc msc : Nat} {Q : State → Prop} {L : List (Nat × Value)} {st : List Value} (X : Gc G E "ComplaintDeskLaw" cc nL lv mc ms) {As rest : List Value} {post : Option Value → hW → Prop} (hM : CtH G E.l lvc mcc msc M_L_pattern hh_pattern As h post) (hlv : lvc + 1 ≤ lv) (hA : As.length = 3) (hst : st = As.reverse ++ rest) (hW : (rest.map fun v => v.category).sum ≤ 8) (hk : k + mcc ≤ mc) (hn : n + msc ≤ ms) (d : decode cc pc = .ok (.invokestatic 86, 3))
    (K : ∀ v h', post v h' → GW G E Q nL (pc + 3) L (v.toList ++ rest) h' (k + mcc) (n + msc)) : GW G E Q nL pc L st h k n :=
  g_callH X (uw_at 575 (by decide +kernel) rfl) (uw_at 577 (by decide +kernel) rfl) (uw_at 49 (by decide +kernel) rfl) ⟨by decide +kernel, by decide +kernel⟩ (by decide +kernel) (by decide) (uw_at 576 (by decide +kernel) rfl) hM hlv hA hst hW hk hn d K
theorem w_pattern {lvc mcc msc : Nat} (x o : Nat) (p0 : Int32) {post0 : Option Value → hW → Prop} {px0 : String → hW → Prop} (hx : ∃ fs, h x = some (ob 6 fs)) (h11 : lvc ≤ 11) (hM : Ct G l lvc mcc msc M_X6_pattern [.ref x, .int p0] h post0) (hp0 : ∀ v h1, post0 v h1 → ∃ (r : Int32) (fo : Nat → Int64), v = some (.int r) ∧ h1 o = some (aJ G 1 fo)) : CtH G l 12 mcc msc M_L_pattern hh_pattern [.ref x, .int p0, .ref o] h (fun v h' => ∃ (r : Int32) (h1 : hW) (fo : Nat → Int64), post0 (some (.int r)) h1 ∧ h1 o = some (aJ G 1 fo) ∧ v = some (.int 0) ∧ h' = hup h1 o (aJ G 1 (vp_updL fo 0 r.toInt64))) := by
  refine CtH.of (by decide +kernel) (Nat.le_of_ble_eq_true rfl) (fun E hE X R9 T9 => ?_)
  have X : Gc G E "ComplaintDeskLaw" cL_pattern 4 12 mcc msc := X
  obtain ⟨fs9, hx9⟩ := hx
  show GW G E _ 4 0 [(0, _), (1, _), (2, _)] [] _ 0 0
  refine g_aload_n X dL_pattern_0 2 rfl ?_
  refine g_iconst X (v := 0) dL_pattern_1 ki_0 ?_
  refine g_aload_n X dL_pattern_2 0 rfl ?_
  refine g_iload_n X dL_pattern_3 1 rfl ?_
  refine g_catchV (post0 := post0) (px0 := fun _ _ => False) (rest := [.int 0, .ref o]) X T9 ml_L_19 (by rw [hE]; exact hM.toX (px := fun _ _ => False)) ⟨6, _, hx9, rfl⟩ (by omega) rfl rfl (Nat.le_of_ble_eq_true rfl) (Nat.le_of_eq (Nat.zero_add _)) (Nat.le_of_eq (Nat.zero_add _)) dL_pattern_4 (fun v9 h9 q9 => ?_) (fun C9 h9 q9 => q9.elim)
  obtain ⟨r9, fo9, rfl, ho9⟩ := hp0 v9 h9 q9
  refine g_st (st' := [.int r9, .int 0, .ref o]) rfl ?_
  refine g_i2l X dL_pattern_7 ?_
  refine g_lastore X dL_pattern_8 ho9 (by unfold vp_in; decide) ?_
  refine g_goto X 18 dL_pattern_9 (by decide) ?_
  refine g_iconst X (v := 0) dL_pattern_18 ki_0 ?_
  refine g_iretR X R9 rfl dL_pattern_19 (Nat.le_of_eq (Nat.zero_add _)) (Nat.le_of_eq (Nat.zero_add _)) ?_
  exact ⟨r9, h9, fo9, q9, ho9, rfl, rfl⟩
theorem w_pattern_1 {lvc mcc msc : Nat} (x o : Nat) (p0 : Int32) {post0 : Option Value → hW → Prop} {px0 : String → hW → Prop} (hx : ∃ fs, h x = some (ob 6 fs)) (h11 : lvc ≤ 11) (hM : CtX G l lvc mcc msc M_X6_pattern [.ref x, .int p0] h (fun _ _ => False) px0) (hpx : ∀ C h', px0 C h' → C = "java/lang/IndexOutOfBoundsException") : CtH G l 12 mcc msc M_L_pattern hh_pattern [.ref x, .int p0, .ref o] h (fun v h' => px0 "java/lang/IndexOutOfBoundsException" h' ∧ v = some (.int 1)) := by
  refine CtH.of (by decide +kernel) (Nat.le_of_ble_eq_true rfl) (fun E hE X R9 T9 => ?_)
  have X : Gc G E "ComplaintDeskLaw" cL_pattern 4 12 mcc msc := X
  obtain ⟨fs9, hx9⟩ := hx
  show GW G E _ 4 0 [(0, _), (1, _), (2, _)] [] _ 0 0
  refine g_aload_n X dL_pattern_0 2 rfl ?_
  refine g_iconst X (v := 0) dL_pattern_1 ki_0 ?_
  refine g_aload_n X dL_pattern_2 0 rfl ?_
  refine g_iload_n X dL_pattern_3 1 rfl ?_
  refine g_catchV (post0 := fun _ _ => False) (px0 := px0) (rest := [.int 0, .ref o]) X T9 ml_L_19 (by rw [hE]; exact hM) ⟨6, _, hx9, rfl⟩ (by omega) rfl rfl (Nat.le_of_ble_eq_true rfl) (Nat.le_of_eq (Nat.zero_add _)) (Nat.le_of_eq (Nat.zero_add _)) dL_pattern_4 (fun v9 h9 q9 => q9.elim) (fun C9 h9 q9 => by
      have e9 := hpx C9 h9 q9
      subst e9
      refine ⟨[], ⟨0, 9, 12, 13⟩, [⟨0, 9, 15, 15⟩], rfl, fun z hz => absurd hz List.not_mem_nil, by decide, by decide, ⟨"java/lang/IndexOutOfBoundsException", uw_at 282 (by decide +kernel) rfl, cst_Index⟩, fun q0 => ?_⟩
      show GW G E _ 4 12 _ _ _ _ _
      refine g_astore_n X dL_pattern_12 (Nat.le_of_ble_eq_true rfl) [(3, _), (0, _), (1, _), (2, _)] rfl ?_
      refine g_iconst X (v := 1) dL_pattern_13 ki_1 ?_
      refine g_iretR X R9 rfl dL_pattern_14 (Nat.le_of_eq (Nat.zero_add _)) (Nat.le_of_eq (Nat.zero_add _)) ?_
      exact ⟨q9, rfl⟩)
theorem w_pattern_2 {lvc mcc msc : Nat} (x o : Nat) (p0 : Int32) {post0 : Option Value → hW → Prop} {px0 : String → hW → Prop} (hx : ∃ fs, h x = some (ob 6 fs)) (h11 : lvc ≤ 11) (hM : CtX G l lvc mcc msc M_X6_pattern [.ref x, .int p0] h (fun _ _ => False) px0) (hpx : ∀ C h', px0 C h' → C = "java/lang/IllegalArgumentException") : CtH G l 12 mcc msc M_L_pattern hh_pattern [.ref x, .int p0, .ref o] h (fun v h' => px0 "java/lang/IllegalArgumentException" h' ∧ v = some (.int 2)) := by
  refine CtH.of (by decide +kernel) (Nat.le_of_ble_eq_true rfl) (fun E hE X R9 T9 => ?_)
  have X : Gc G E "ComplaintDeskLaw" cL_pattern 4 12 mcc msc := X
  obtain ⟨fs9, hx9⟩ := hx
  show GW G E _ 4 0 [(0, _), (1, _), (2, _)] [] _ 0 0
  refine g_aload_n X dL_pattern_0 2 rfl ?_
  refine g_iconst X (v := 0) dL_pattern_1 ki_0 ?_
  refine g_aload_n X dL_pattern_2 0 rfl ?_
  refine g_iload_n X dL_pattern_3 1 rfl ?_
  refine g_catchV (post0 := fun _ _ => False) (px0 := px0) (rest := [.int 0, .ref o]) X T9 ml_L_19 (by rw [hE]; exact hM) ⟨6, _, hx9, rfl⟩ (by omega) rfl rfl (Nat.le_of_ble_eq_true rfl) (Nat.le_of_eq (Nat.zero_add _)) (Nat.le_of_eq (Nat.zero_add _)) dL_pattern_4 (fun v9 h9 q9 => q9.elim) (fun C9 h9 q9 => by
      have e9 := hpx C9 h9 q9
      subst e9
      refine ⟨[⟨0, 9, 12, 13⟩], ⟨0, 9, 15, 15⟩, [], rfl, fun z hz => by
        simp only [List.mem_cons, List.not_mem_nil, or_false] at hz
        rcases hz with rfl
        · exact ⟨by decide, "java/lang/IndexOutOfBoundsException", uw_at 282 (by decide +kernel) rfl, by decide +kernel⟩, by decide, by decide, ⟨"java/lang/IllegalArgumentException", uw_at 283 (by decide +kernel) rfl, cst_Illeg⟩, fun q0 => ?_⟩
      show GW G E _ 4 15 _ _ _ _ _
      refine g_astore_n X dL_pattern_15 (Nat.le_of_ble_eq_true rfl) [(3, _), (0, _), (1, _), (2, _)] rfl ?_
      refine g_iconst X (v := 2) dL_pattern_16 ki_2 ?_
      refine g_iretR X R9 rfl dL_pattern_17 (Nat.le_of_eq (Nat.zero_add _)) (Nat.le_of_eq (Nat.zero_add _)) ?_
      exact ⟨q9, rfl⟩)
abbrev M_L_letter : gM := (yL_letter, cL_letter, 4, some .int)
abbrev hh_letter : List (Nat × Nat × Nat × Nat) := [(0, 9, 12, 15), (0, 9, 15, 17)]
theorem mlh_letter {E : gE} {cc : ByteArray} {nL lv mc ms pc k n lvc mcc msc : Nat} {Q : State → Prop} {L : List (Nat × Value)} {st : List Value} (X : Gc G E "ComplaintDeskLaw" cc nL lv mc ms) {As rest : List Value} {post : Option Value → hW → Prop} (hM : CtH G E.l lvc mcc msc M_L_letter hh_letter As h post) (hlv : lvc + 1 ≤ lv) (hA : As.length = 3) (hst : st = As.reverse ++ rest) (hW : (rest.map fun v => v.category).sum ≤ 8) (hk : k + mcc ≤ mc) (hn : n + msc ≤ ms) (d : decode cc pc = .ok (.invokestatic 90, 3))
    (K : ∀ v h', post v h' → GW G E Q nL (pc + 3) L (v.toList ++ rest) h' (k + mcc) (n + msc)) : GW G E Q nL pc L st h k n :=
  g_callH X (uw_at 603 (by decide +kernel) rfl) (uw_at 605 (by decide +kernel) rfl) (uw_at 49 (by decide +kernel) rfl) ⟨by decide +kernel, by decide +kernel⟩ (by decide +kernel) (by decide) (uw_at 604 (by decide +kernel) rfl) hM hlv hA hst hW hk hn d K
theorem w_letter {lvc mcc msc : Nat} (x o : Nat) (p0 : Int32) {post0 : Option Value → hW → Prop} {px0 : String → hW → Prop} (hx : ∃ fs, h x = some (ob 6 fs)) (h11 : lvc ≤ 11) (hM : Ct G l lvc mcc msc M_X6_letter [.ref x, .int p0] h post0) (hp0 : ∀ v h1, post0 v h1 → ∃ (r : Int32) (fo : Nat → Int64), v = some (.int r) ∧ h1 o = some (aJ G 1 fo)) : CtH G l 12 mcc msc M_L_letter hh_letter [.ref x, .int p0, .ref o] h (fun v h' => ∃ (r : Int32) (h1 : hW) (fo : Nat → Int64), post0 (some (.int r)) h1 ∧ h1 o = some (aJ G 1 fo) ∧ v = some (.int 0) ∧ h' = hup h1 o (aJ G 1 (vp_updL fo 0 r.toInt64))) := by
  refine CtH.of (by decide +kernel) (Nat.le_of_ble_eq_true rfl) (fun E hE X R9 T9 => ?_)
  have X : Gc G E "ComplaintDeskLaw" cL_letter 4 12 mcc msc := X
  obtain ⟨fs9, hx9⟩ := hx
  show GW G E _ 4 0 [(0, _), (1, _), (2, _)] [] _ 0 0
  refine g_aload_n X dL_letter_0 2 rfl ?_
  refine g_iconst X (v := 0) dL_letter_1 ki_0 ?_
  refine g_aload_n X dL_letter_2 0 rfl ?_
  refine g_iload_n X dL_letter_3 1 rfl ?_
  refine g_catchV (post0 := post0) (px0 := fun _ _ => False) (rest := [.int 0, .ref o]) X T9 ml_L_23 (by rw [hE]; exact hM.toX (px := fun _ _ => False)) ⟨6, _, hx9, rfl⟩ (by omega) rfl rfl (Nat.le_of_ble_eq_true rfl) (Nat.le_of_eq (Nat.zero_add _)) (Nat.le_of_eq (Nat.zero_add _)) dL_letter_4 (fun v9 h9 q9 => ?_) (fun C9 h9 q9 => q9.elim)
  obtain ⟨r9, fo9, rfl, ho9⟩ := hp0 v9 h9 q9
  refine g_st (st' := [.int r9, .int 0, .ref o]) rfl ?_
  refine g_i2l X dL_letter_7 ?_
  refine g_lastore X dL_letter_8 ho9 (by unfold vp_in; decide) ?_
  refine g_goto X 18 dL_letter_9 (by decide) ?_
  refine g_iconst X (v := 0) dL_letter_18 ki_0 ?_
  refine g_iretR X R9 rfl dL_letter_19 (Nat.le_of_eq (Nat.zero_add _)) (Nat.le_of_eq (Nat.zero_add _)) ?_
  exact ⟨r9, h9, fo9, q9, ho9, rfl, rfl⟩
theorem w_letter_1 {lvc mcc msc : Nat} (x o : Nat) (p0 : Int32) {post0 : Option Value → hW → Prop} {px0 : String → hW → Prop} (hx : ∃ fs, h x = some (ob 6 fs)) (h11 : lvc ≤ 11) (hM : CtX G l lvc mcc msc M_X6_letter [.ref x, .int p0] h (fun _ _ => False) px0) (hpx : ∀ C h', px0 C h' → C = "java/lang/IllegalArgumentException") : CtH G l 12 mcc msc M_L_letter hh_letter [.ref x, .int p0, .ref o] h (fun v h' => px0 "java/lang/IllegalArgumentException" h' ∧ v = some (.int 1)) := by
  refine CtH.of (by decide +kernel) (Nat.le_of_ble_eq_true rfl) (fun E hE X R9 T9 => ?_)
  have X : Gc G E "ComplaintDeskLaw" cL_letter 4 12 mcc msc := X
  obtain ⟨fs9, hx9⟩ := hx
  show GW G E _ 4 0 [(0, _), (1, _), (2, _)] [] _ 0 0
  refine g_aload_n X dL_letter_0 2 rfl ?_
  refine g_iconst X (v := 0) dL_letter_1 ki_0 ?_
  refine g_aload_n X dL_letter_2 0 rfl ?_
  refine g_iload_n X dL_letter_3 1 rfl ?_
  refine g_catchV (post0 := fun _ _ => False) (px0 := px0) (rest := [.int 0, .ref o]) X T9 ml_L_23 (by rw [hE]; exact hM) ⟨6, _, hx9, rfl⟩ (by omega) rfl rfl (Nat.le_of_ble_eq_true rfl) (Nat.le_of_eq (Nat.zero_add _)) (Nat.le_of_eq (Nat.zero_add _)) dL_letter_4 (fun v9 h9 q9 => q9.elim) (fun C9 h9 q9 => by
      have e9 := hpx C9 h9 q9
      subst e9
      refine ⟨[], ⟨0, 9, 12, 15⟩, [⟨0, 9, 15, 17⟩], rfl, fun z hz => absurd hz List.not_mem_nil, by decide, by decide, ⟨"java/lang/IllegalArgumentException", uw_at 283 (by decide +kernel) rfl, cst_Illeg⟩, fun q0 => ?_⟩
      show GW G E _ 4 12 _ _ _ _ _
      refine g_astore_n X dL_letter_12 (Nat.le_of_ble_eq_true rfl) [(3, _), (0, _), (1, _), (2, _)] rfl ?_
      refine g_iconst X (v := 1) dL_letter_13 ki_1 ?_
      refine g_iretR X R9 rfl dL_letter_14 (Nat.le_of_eq (Nat.zero_add _)) (Nat.le_of_eq (Nat.zero_add _)) ?_
      exact ⟨q9, rfl⟩)
theorem w_letter_2 {lvc mcc msc : Nat} (x o : Nat) (p0 : Int32) {post0 : Option Value → hW → Prop} {px0 : String → hW → Prop} (hx : ∃ fs, h x = some (ob 6 fs)) (h11 : lvc ≤ 11) (hM : CtX G l lvc mcc msc M_X6_letter [.ref x, .int p0] h (fun _ _ => False) px0) (hpx : ∀ C h', px0 C h' → C = "java/lang/UnsupportedOperationException") : CtH G l 12 mcc msc M_L_letter hh_letter [.ref x, .int p0, .ref o] h (fun v h' => px0 "java/lang/UnsupportedOperationException" h' ∧ v = some (.int 2)) := by
  refine CtH.of (by decide +kernel) (Nat.le_of_ble_eq_true rfl) (fun E hE X R9 T9 => ?_)
  have X : Gc G E "ComplaintDeskLaw" cL_letter 4 12 mcc msc := X
  obtain ⟨fs9, hx9⟩ := hx
  show GW G E _ 4 0 [(0, _), (1, _), (2, _)] [] _ 0 0
  refine g_aload_n X dL_letter_0 2 rfl ?_
  refine g_iconst X (v := 0) dL_letter_1 ki_0 ?_
  refine g_aload_n X dL_letter_2 0 rfl ?_
  refine g_iload_n X dL_letter_3 1 rfl ?_
  refine g_catchV (post0 := fun _ _ => False) (px0 := px0) (rest := [.int 0, .ref o]) X T9 ml_L_23 (by rw [hE]; exact hM) ⟨6, _, hx9, rfl⟩ (by omega) rfl rfl (Nat.le_of_ble_eq_true rfl) (Nat.le_of_eq (Nat.zero_add _)) (Nat.le_of_eq (Nat.zero_add _)) dL_letter_4 (fun v9 h9 q9 => q9.elim) (fun C9 h9 q9 => by
      have e9 := hpx C9 h9 q9
      subst e9
      refine ⟨[⟨0, 9, 12, 15⟩], ⟨0, 9, 15, 17⟩, [], rfl, fun z hz => by
        simp only [List.mem_cons, List.not_mem_nil, or_false] at hz
        rcases hz with rfl
        · exact ⟨by decide, "java/lang/IllegalArgumentException", uw_at 283 (by decide +kernel) rfl, by decide +kernel⟩, by decide, by decide, ⟨"java/lang/UnsupportedOperationException", uw_at 284 (by decide +kernel) rfl, cst_Unsup⟩, fun q0 => ?_⟩
      show GW G E _ 4 15 _ _ _ _ _
      refine g_astore_n X dL_letter_15 (Nat.le_of_ble_eq_true rfl) [(3, _), (0, _), (1, _), (2, _)] rfl ?_
      refine g_iconst X (v := 2) dL_letter_16 ki_2 ?_
      refine g_iretR X R9 rfl dL_letter_17 (Nat.le_of_eq (Nat.zero_add _)) (Nat.le_of_eq (Nat.zero_add _)) ?_
      exact ⟨q9, rfl⟩)
abbrev M_L_hours : gM := (yL_hours, cL_hours, 4, some .int)
abbrev hh_hours : List (Nat × Nat × Nat × Nat) := [(0, 6, 9, 13), (0, 6, 12, 15)]
theorem mlh_hours {E : gE} {cc : ByteArray} {nL lv mc ms pc k n lvc mcc msc : Nat} {Q : State → Prop} {L : List (Nat × Value)} {st : List Value} (X : Gc G E "ComplaintDeskLaw" cc nL lv mc ms) {As rest : List Value} {post : Option Value → hW → Prop} (hM : CtH G E.l lvc mcc msc M_L_hours hh_hours As h post) (hlv : lvc + 1 ≤ lv) (hA : As.length = 3) (hst : st = As.reverse ++ rest) (hW : (rest.map fun v => v.category).sum ≤ 8) (hk : k + mcc ≤ mc) (hn : n + msc ≤ ms) (d : decode cc pc = .ok (.invokestatic 97, 3))
    (K : ∀ v h', post v h' → GW G E Q nL (pc + 3) L (v.toList ++ rest) h' (k + mcc) (n + msc)) : GW G E Q nL pc L st h k n :=
  g_callH X (uw_at 900 (by decide +kernel) rfl) (uw_at 902 (by decide +kernel) rfl) (uw_at 49 (by decide +kernel) rfl) ⟨by decide +kernel, by decide +kernel⟩ (by decide +kernel) (by decide) (uw_at 901 (by decide +kernel) rfl) hM hlv hA hst hW hk hn d K
theorem w_hours {lvc mcc msc : Nat} (x : Nat) (p0 p1 : Int32) {post0 : Option Value → hW → Prop} {px0 : String → hW → Prop} (hx : ∃ fs, h x = some (ob 6 fs)) (h11 : lvc ≤ 11) (hM : Ct G l lvc mcc msc M_X6_hours [.ref x, .int p0, .int p1] h post0) (hp0 : ∀ v h1, post0 v h1 → v = none) : CtH G l 12 mcc msc M_L_hours hh_hours [.ref x, .int p0, .int p1] h (fun v h' => ∃ h1, post0 none h1 ∧ v = some (.int 0) ∧ h' = h1) := by
  refine CtH.of (by decide +kernel) (Nat.le_of_ble_eq_true rfl) (fun E hE X R9 T9 => ?_)
  have X : Gc G E "ComplaintDeskLaw" cL_hours 4 12 mcc msc := X
  obtain ⟨fs9, hx9⟩ := hx
  show GW G E _ 4 0 [(0, _), (1, _), (2, _)] [] _ 0 0
  refine g_aload_n X dL_hours_0 0 rfl ?_
  refine g_iload_n X dL_hours_1 1 rfl ?_
  refine g_iload_n X dL_hours_2 2 rfl ?_
  refine g_catchV (post0 := post0) (px0 := fun _ _ => False) (rest := []) X T9 ml_L_26 (by rw [hE]; exact hM.toX (px := fun _ _ => False)) ⟨6, _, hx9, rfl⟩ (by omega) rfl rfl (Nat.le_of_ble_eq_true rfl) (Nat.le_of_eq (Nat.zero_add _)) (Nat.le_of_eq (Nat.zero_add _)) dL_hours_3 (fun v9 h9 q9 => ?_) (fun C9 h9 q9 => q9.elim)
  have e9 := hp0 v9 h9 q9
  subst e9
  refine g_st (st' := []) rfl ?_
  refine g_goto X 15 dL_hours_6 (by decide) ?_
  refine g_iconst X (v := 0) dL_hours_15 ki_0 ?_
  refine g_iretR X R9 rfl dL_hours_16 (Nat.le_of_eq (Nat.zero_add _)) (Nat.le_of_eq (Nat.zero_add _)) ?_
  exact ⟨h9, q9, rfl, rfl⟩
theorem w_hours_1 {lvc mcc msc : Nat} (x : Nat) (p0 p1 : Int32) {post0 : Option Value → hW → Prop} {px0 : String → hW → Prop} (hx : ∃ fs, h x = some (ob 6 fs)) (h11 : lvc ≤ 11) (hM : CtX G l lvc mcc msc M_X6_hours [.ref x, .int p0, .int p1] h (fun _ _ => False) px0) (hpx : ∀ C h', px0 C h' → C = "java/lang/IndexOutOfBoundsException") : CtH G l 12 mcc msc M_L_hours hh_hours [.ref x, .int p0, .int p1] h (fun v h' => px0 "java/lang/IndexOutOfBoundsException" h' ∧ v = some (.int 1)) := by
  refine CtH.of (by decide +kernel) (Nat.le_of_ble_eq_true rfl) (fun E hE X R9 T9 => ?_)
  have X : Gc G E "ComplaintDeskLaw" cL_hours 4 12 mcc msc := X
  obtain ⟨fs9, hx9⟩ := hx
  show GW G E _ 4 0 [(0, _), (1, _), (2, _)] [] _ 0 0
  refine g_aload_n X dL_hours_0 0 rfl ?_
  refine g_iload_n X dL_hours_1 1 rfl ?_
  refine g_iload_n X dL_hours_2 2 rfl ?_
  refine g_catchV (post0 := fun _ _ => False) (px0 := px0) (rest := []) X T9 ml_L_26 (by rw [hE]; exact hM) ⟨6, _, hx9, rfl⟩ (by omega) rfl rfl (Nat.le_of_ble_eq_true rfl) (Nat.le_of_eq (Nat.zero_add _)) (Nat.le_of_eq (Nat.zero_add _)) dL_hours_3 (fun v9 h9 q9 => q9.elim) (fun C9 h9 q9 => by
      have e9 := hpx C9 h9 q9
      subst e9
      refine ⟨[], ⟨0, 6, 9, 13⟩, [⟨0, 6, 12, 15⟩], rfl, fun z hz => absurd hz List.not_mem_nil, by decide, by decide, ⟨"java/lang/IndexOutOfBoundsException", uw_at 282 (by decide +kernel) rfl, cst_Index⟩, fun q0 => ?_⟩
      show GW G E _ 4 9 _ _ _ _ _
      refine g_astore_n X dL_hours_9 (Nat.le_of_ble_eq_true rfl) [(3, _), (0, _), (1, _), (2, _)] rfl ?_
      refine g_iconst X (v := 1) dL_hours_10 ki_1 ?_
      refine g_iretR X R9 rfl dL_hours_11 (Nat.le_of_eq (Nat.zero_add _)) (Nat.le_of_eq (Nat.zero_add _)) ?_
      exact ⟨q9, rfl⟩)
theorem w_hours_2 {lvc mcc msc : Nat} (x : Nat) (p0 p1 : Int32) {post0 : Option Value → hW → Prop} {px0 : String → hW → Prop} (hx : ∃ fs, h x = some (ob 6 fs)) (h11 : lvc ≤ 11) (hM : CtX G l lvc mcc msc M_X6_hours [.ref x, .int p0, .int p1] h (fun _ _ => False) px0) (hpx : ∀ C h', px0 C h' → C = "java/lang/IllegalArgumentException") : CtH G l 12 mcc msc M_L_hours hh_hours [.ref x, .int p0, .int p1] h (fun v h' => px0 "java/lang/IllegalArgumentException" h' ∧ v = some (.int 2)) := by
  refine CtH.of (by decide +kernel) (Nat.le_of_ble_eq_true rfl) (fun E hE X R9 T9 => ?_)
  have X : Gc G E "ComplaintDeskLaw" cL_hours 4 12 mcc msc := X
  obtain ⟨fs9, hx9⟩ := hx
  show GW G E _ 4 0 [(0, _), (1, _), (2, _)] [] _ 0 0
  refine g_aload_n X dL_hours_0 0 rfl ?_
  refine g_iload_n X dL_hours_1 1 rfl ?_
  refine g_iload_n X dL_hours_2 2 rfl ?_
  refine g_catchV (post0 := fun _ _ => False) (px0 := px0) (rest := []) X T9 ml_L_26 (by rw [hE]; exact hM) ⟨6, _, hx9, rfl⟩ (by omega) rfl rfl (Nat.le_of_ble_eq_true rfl) (Nat.le_of_eq (Nat.zero_add _)) (Nat.le_of_eq (Nat.zero_add _)) dL_hours_3 (fun v9 h9 q9 => q9.elim) (fun C9 h9 q9 => by
      have e9 := hpx C9 h9 q9
      subst e9
      refine ⟨[⟨0, 6, 9, 13⟩], ⟨0, 6, 12, 15⟩, [], rfl, fun z hz => by
        simp only [List.mem_cons, List.not_mem_nil, or_false] at hz
        rcases hz with rfl
        · exact ⟨by decide, "java/lang/IndexOutOfBoundsException", uw_at 282 (by decide +kernel) rfl, by decide +kernel⟩, by decide, by decide, ⟨"java/lang/IllegalArgumentException", uw_at 283 (by decide +kernel) rfl, cst_Illeg⟩, fun q0 => ?_⟩
      show GW G E _ 4 12 _ _ _ _ _
      refine g_astore_n X dL_hours_12 (Nat.le_of_ble_eq_true rfl) [(3, _), (0, _), (1, _), (2, _)] rfl ?_
      refine g_iconst X (v := 2) dL_hours_13 ki_2 ?_
      refine g_iretR X R9 rfl dL_hours_14 (Nat.le_of_eq (Nat.zero_add _)) (Nat.le_of_eq (Nat.zero_add _)) ?_
      exact ⟨q9, rfl⟩)
abbrev M_L_days : gM := (yL_days, cL_days, 4, some .int)
abbrev hh_days : List (Nat × Nat × Nat × Nat) := [(0, 9, 12, 15)]
theorem mlh_days {E : gE} {cc : ByteArray} {nL lv mc ms pc k n lvc mcc msc : Nat} {Q : State → Prop} {L : List (Nat × Value)} {st : List Value} (X : Gc G E "ComplaintDeskLaw" cc nL lv mc ms) {As rest : List Value} {post : Option Value → hW → Prop} (hM : CtH G E.l lvc mcc msc M_L_days hh_days As h post) (hlv : lvc + 1 ≤ lv) (hA : As.length = 3) (hst : st = As.reverse ++ rest) (hW : (rest.map fun v => v.category).sum ≤ 8) (hk : k + mcc ≤ mc) (hn : n + msc ≤ ms) (d : decode cc pc = .ok (.invokestatic 101, 3))
    (K : ∀ v h', post v h' → GW G E Q nL (pc + 3) L (v.toList ++ rest) h' (k + mcc) (n + msc)) : GW G E Q nL pc L st h k n :=
  g_callH X (uw_at 908 (by decide +kernel) rfl) (uw_at 910 (by decide +kernel) rfl) (uw_at 49 (by decide +kernel) rfl) ⟨by decide +kernel, by decide +kernel⟩ (by decide +kernel) (by decide) (uw_at 909 (by decide +kernel) rfl) hM hlv hA hst hW hk hn d K
theorem w_days {lvc mcc msc : Nat} (x o : Nat) (p0 : Int32) {post0 : Option Value → hW → Prop} {px0 : String → hW → Prop} (hx : ∃ fs, h x = some (ob 6 fs)) (h11 : lvc ≤ 11) (hM : Ct G l lvc mcc msc M_X6_days [.ref x, .int p0] h post0) (hp0 : ∀ v h1, post0 v h1 → ∃ (r : Int32) (fo : Nat → Int64), v = some (.int r) ∧ h1 o = some (aJ G 1 fo)) : CtH G l 12 mcc msc M_L_days hh_days [.ref x, .int p0, .ref o] h (fun v h' => ∃ (r : Int32) (h1 : hW) (fo : Nat → Int64), post0 (some (.int r)) h1 ∧ h1 o = some (aJ G 1 fo) ∧ v = some (.int 0) ∧ h' = hup h1 o (aJ G 1 (vp_updL fo 0 r.toInt64))) := by
  refine CtH.of (by decide +kernel) (Nat.le_of_ble_eq_true rfl) (fun E hE X R9 T9 => ?_)
  have X : Gc G E "ComplaintDeskLaw" cL_days 4 12 mcc msc := X
  obtain ⟨fs9, hx9⟩ := hx
  show GW G E _ 4 0 [(0, _), (1, _), (2, _)] [] _ 0 0
  refine g_aload_n X dL_days_0 2 rfl ?_
  refine g_iconst X (v := 0) dL_days_1 ki_0 ?_
  refine g_aload_n X dL_days_2 0 rfl ?_
  refine g_iload_n X dL_days_3 1 rfl ?_
  refine g_catchV (post0 := post0) (px0 := fun _ _ => False) (rest := [.int 0, .ref o]) X T9 ml_L_30 (by rw [hE]; exact hM.toX (px := fun _ _ => False)) ⟨6, _, hx9, rfl⟩ (by omega) rfl rfl (Nat.le_of_ble_eq_true rfl) (Nat.le_of_eq (Nat.zero_add _)) (Nat.le_of_eq (Nat.zero_add _)) dL_days_4 (fun v9 h9 q9 => ?_) (fun C9 h9 q9 => q9.elim)
  obtain ⟨r9, fo9, rfl, ho9⟩ := hp0 v9 h9 q9
  refine g_st (st' := [.int r9, .int 0, .ref o]) rfl ?_
  refine g_i2l X dL_days_7 ?_
  refine g_lastore X dL_days_8 ho9 (by unfold vp_in; decide) ?_
  refine g_goto X 15 dL_days_9 (by decide) ?_
  refine g_iconst X (v := 0) dL_days_15 ki_0 ?_
  refine g_iretR X R9 rfl dL_days_16 (Nat.le_of_eq (Nat.zero_add _)) (Nat.le_of_eq (Nat.zero_add _)) ?_
  exact ⟨r9, h9, fo9, q9, ho9, rfl, rfl⟩
theorem w_days_1 {lvc mcc msc : Nat} (x o : Nat) (p0 : Int32) {post0 : Option Value → hW → Prop} {px0 : String → hW → Prop} (hx : ∃ fs, h x = some (ob 6 fs)) (h11 : lvc ≤ 11) (hM : CtX G l lvc mcc msc M_X6_days [.ref x, .int p0] h (fun _ _ => False) px0) (hpx : ∀ C h', px0 C h' → C = "java/lang/IllegalArgumentException") : CtH G l 12 mcc msc M_L_days hh_days [.ref x, .int p0, .ref o] h (fun v h' => px0 "java/lang/IllegalArgumentException" h' ∧ v = some (.int 1)) := by
  refine CtH.of (by decide +kernel) (Nat.le_of_ble_eq_true rfl) (fun E hE X R9 T9 => ?_)
  have X : Gc G E "ComplaintDeskLaw" cL_days 4 12 mcc msc := X
  obtain ⟨fs9, hx9⟩ := hx
  show GW G E _ 4 0 [(0, _), (1, _), (2, _)] [] _ 0 0
  refine g_aload_n X dL_days_0 2 rfl ?_
  refine g_iconst X (v := 0) dL_days_1 ki_0 ?_
  refine g_aload_n X dL_days_2 0 rfl ?_
  refine g_iload_n X dL_days_3 1 rfl ?_
  refine g_catchV (post0 := fun _ _ => False) (px0 := px0) (rest := [.int 0, .ref o]) X T9 ml_L_30 (by rw [hE]; exact hM) ⟨6, _, hx9, rfl⟩ (by omega) rfl rfl (Nat.le_of_ble_eq_true rfl) (Nat.le_of_eq (Nat.zero_add _)) (Nat.le_of_eq (Nat.zero_add _)) dL_days_4 (fun v9 h9 q9 => q9.elim) (fun C9 h9 q9 => by
      have e9 := hpx C9 h9 q9
      subst e9
      refine ⟨[], ⟨0, 9, 12, 15⟩, [], rfl, fun z hz => absurd hz List.not_mem_nil, by decide, by decide, ⟨"java/lang/IllegalArgumentException", uw_at 283 (by decide +kernel) rfl, cst_Illeg⟩, fun q0 => ?_⟩
      show GW G E _ 4 12 _ _ _ _ _
      refine g_astore_n X dL_days_12 (Nat.le_of_ble_eq_true rfl) [(3, _), (0, _), (1, _), (2, _)] rfl ?_
      refine g_iconst X (v := 1) dL_days_13 ki_1 ?_
      refine g_iretR X R9 rfl dL_days_14 (Nat.le_of_eq (Nat.zero_add _)) (Nat.le_of_eq (Nat.zero_add _)) ?_
      exact ⟨q9, rfl⟩)
abbrev M_L_answer : gM := (yL_answer, cL_answer, 5, some .int)
abbrev hh_answer : List (Nat × Nat × Nat × Nat) := [(0, 17, 20, 13)]
theorem mlh_answer {E : gE} {cc : ByteArray} {nL lv mc ms pc k n lvc mcc msc : Nat} {Q : State → Prop} {L : List (Nat × Value)} {st : List Value} (X : Gc G E "ComplaintDeskLaw" cc nL lv mc ms) {As rest : List Value} {post : Option Value → hW → Prop} (hM : CtH G E.l lvc mcc msc M_L_answer hh_answer As h post) (hlv : lvc + 1 ≤ lv) (hA : As.length = 4) (hst : st = As.reverse ++ rest) (hW : (rest.map fun v => v.category).sum ≤ 8) (hk : k + mcc ≤ mc) (hn : n + msc ≤ ms) (d : decode cc pc = .ok (.invokestatic 104, 3))
    (K : ∀ v h', post v h' → GW G E Q nL (pc + 3) L (v.toList ++ rest) h' (k + mcc) (n + msc)) : GW G E Q nL pc L st h k n :=
  g_callH X (uw_at 935 (by decide +kernel) rfl) (uw_at 937 (by decide +kernel) rfl) (uw_at 49 (by decide +kernel) rfl) ⟨by decide +kernel, by decide +kernel⟩ (by decide +kernel) (by decide) (uw_at 936 (by decide +kernel) rfl) hM hlv hA hst hW hk hn d K
theorem w_answer {lvc mcc msc : Nat} (x o : Nat) (p0 p1 : Int32) {post0 : Option Value → hW → Prop} {px0 : String → hW → Prop} (hx : ∃ fs, h x = some (ob 6 fs)) (h11 : lvc ≤ 11) (hM : Ct G l lvc mcc msc M_X6_answer [.ref x, .int p0, .int p1] h post0) (hp0 : ∀ v h1, post0 v h1 → ∃ (r : Int32) (fo : Nat → Int64), v = some (.int r) ∧ h1 o = some (aJ G 1 fo)) : CtH G l 12 mcc msc M_L_answer hh_answer [.ref x, .int p0, .int p1, .ref o] h (fun v h' => ∃ (r : Int32) (h1 : hW) (fo : Nat → Int64), post0 (some (.int r)) h1 ∧ h1 o = some (aJ G 1 fo) ∧ v = some (.int 0) ∧ h' = hup h1 o (aJ G 1 (vp_updL fo 0 (if r = 0 then 0 else 1)))) := by
  refine CtH.of (by decide +kernel) (Nat.le_of_ble_eq_true rfl) (fun E hE X R9 T9 => ?_)
  have X : Gc G E "ComplaintDeskLaw" cL_answer 5 12 mcc msc := X
  obtain ⟨fs9, hx9⟩ := hx
  show GW G E _ 5 0 [(0, _), (1, _), (2, _), (3, _)] [] _ 0 0
  refine g_aload_n X dL_answer_0 3 rfl ?_
  refine g_iconst X (v := 0) dL_answer_1 ki_0 ?_
  refine g_aload_n X dL_answer_2 0 rfl ?_
  refine g_iload_n X dL_answer_3 1 rfl ?_
  refine g_iload_n X dL_answer_4 2 rfl ?_
  refine g_catchV (post0 := post0) (px0 := fun _ _ => False) (rest := [.int 0, .ref o]) X T9 ml_L_33 (by rw [hE]; exact hM.toX (px := fun _ _ => False)) ⟨6, _, hx9, rfl⟩ (by omega) rfl rfl (Nat.le_of_ble_eq_true rfl) (Nat.le_of_eq (Nat.zero_add _)) (Nat.le_of_eq (Nat.zero_add _)) dL_answer_5 (fun v9 h9 q9 => ?_) (fun C9 h9 q9 => q9.elim)
  obtain ⟨r9, fo9, rfl, ho9⟩ := hp0 v9 h9 q9
  refine g_st (st' := [.int r9, .int 0, .ref o]) rfl ?_
  refine g_if_eq X 15 dL_answer_8 (by decide) (fun c9 => ?_) (fun c9 => ?_)
  · refine g_lconst X (v := 0) dL_answer_15 rfl ?_
    refine g_lastore X dL_answer_16 ho9 (by unfold vp_in; decide) ?_
    refine g_goto X 24 dL_answer_17 (by decide) ?_
    refine g_iconst X (v := 0) dL_answer_24 ki_0 ?_
    refine g_iretR X R9 rfl dL_answer_25 (Nat.le_of_eq (Nat.zero_add _)) (Nat.le_of_eq (Nat.zero_add _)) ?_
    exact ⟨r9, h9, fo9, q9, ho9, rfl, by rw [if_pos c9]; rfl⟩
  · refine g_lconst X (v := 1) dL_answer_11 rfl ?_
    refine g_goto X 16 dL_answer_12 (by decide) ?_
    refine g_lastore X dL_answer_16 ho9 (by unfold vp_in; decide) ?_
    refine g_goto X 24 dL_answer_17 (by decide) ?_
    refine g_iconst X (v := 0) dL_answer_24 ki_0 ?_
    refine g_iretR X R9 rfl dL_answer_25 (Nat.le_of_eq (Nat.zero_add _)) (Nat.le_of_eq (Nat.zero_add _)) ?_
    exact ⟨r9, h9, fo9, q9, ho9, rfl, by rw [if_neg c9]; rfl⟩
theorem w_answer_1 {lvc mcc msc : Nat} (x o : Nat) (p0 p1 : Int32) {post0 : Option Value → hW → Prop} {px0 : String → hW → Prop} (hx : ∃ fs, h x = some (ob 6 fs)) (h11 : lvc ≤ 11) (hM : CtX G l lvc mcc msc M_X6_answer [.ref x, .int p0, .int p1] h (fun _ _ => False) px0) (hpx : ∀ C h', px0 C h' → C = "java/lang/IndexOutOfBoundsException") : CtH G l 12 mcc msc M_L_answer hh_answer [.ref x, .int p0, .int p1, .ref o] h (fun v h' => px0 "java/lang/IndexOutOfBoundsException" h' ∧ v = some (.int 1)) := by
  refine CtH.of (by decide +kernel) (Nat.le_of_ble_eq_true rfl) (fun E hE X R9 T9 => ?_)
  have X : Gc G E "ComplaintDeskLaw" cL_answer 5 12 mcc msc := X
  obtain ⟨fs9, hx9⟩ := hx
  show GW G E _ 5 0 [(0, _), (1, _), (2, _), (3, _)] [] _ 0 0
  refine g_aload_n X dL_answer_0 3 rfl ?_
  refine g_iconst X (v := 0) dL_answer_1 ki_0 ?_
  refine g_aload_n X dL_answer_2 0 rfl ?_
  refine g_iload_n X dL_answer_3 1 rfl ?_
  refine g_iload_n X dL_answer_4 2 rfl ?_
  refine g_catchV (post0 := fun _ _ => False) (px0 := px0) (rest := [.int 0, .ref o]) X T9 ml_L_33 (by rw [hE]; exact hM) ⟨6, _, hx9, rfl⟩ (by omega) rfl rfl (Nat.le_of_ble_eq_true rfl) (Nat.le_of_eq (Nat.zero_add _)) (Nat.le_of_eq (Nat.zero_add _)) dL_answer_5 (fun v9 h9 q9 => q9.elim) (fun C9 h9 q9 => by
      have e9 := hpx C9 h9 q9
      subst e9
      refine ⟨[], ⟨0, 17, 20, 13⟩, [], rfl, fun z hz => absurd hz List.not_mem_nil, by decide, by decide, ⟨"java/lang/IndexOutOfBoundsException", uw_at 282 (by decide +kernel) rfl, cst_Index⟩, fun q0 => ?_⟩
      show GW G E _ 5 20 _ _ _ _ _
      refine g_astore X dL_answer_20 (Nat.le_of_ble_eq_true rfl) [(4, _), (0, _), (1, _), (2, _), (3, _)] rfl ?_
      refine g_iconst X (v := 1) dL_answer_22 ki_1 ?_
      refine g_iretR X R9 rfl dL_answer_23 (Nat.le_of_eq (Nat.zero_add _)) (Nat.le_of_eq (Nat.zero_add _)) ?_
      exact ⟨q9, rfl⟩)
abbrev M_L_point : gM := (yL_point, cL_point, 6, some .int)
abbrev hh_point : List (Nat × Nat × Nat × Nat) := [(0, 12, 15, 13), (0, 12, 19, 41)]
theorem mlh_point {E : gE} {cc : ByteArray} {nL lv mc ms pc k n lvc mcc msc : Nat} {Q : State → Prop} {L : List (Nat × Value)} {st : List Value} (X : Gc G E "ComplaintDeskLaw" cc nL lv mc ms) {As rest : List Value} {post : Option Value → hW → Prop} (hM : CtH G E.l lvc mcc msc M_L_point hh_point As h post) (hlv : lvc + 1 ≤ lv) (hA : As.length = 5) (hst : st = As.reverse ++ rest) (hW : (rest.map fun v => v.category).sum ≤ 8) (hk : k + mcc ≤ mc) (hn : n + msc ≤ ms) (d : decode cc pc = .ok (.invokestatic 108, 3))
    (K : ∀ v h', post v h' → GW G E Q nL (pc + 3) L (v.toList ++ rest) h' (k + mcc) (n + msc)) : GW G E Q nL pc L st h k n :=
  g_callH X (uw_at 954 (by decide +kernel) rfl) (uw_at 956 (by decide +kernel) rfl) (uw_at 49 (by decide +kernel) rfl) ⟨by decide +kernel, by decide +kernel⟩ (by decide +kernel) (by decide) (uw_at 955 (by decide +kernel) rfl) hM hlv hA hst hW hk hn d K
theorem w_point {lvc mcc msc : Nat} (x o : Nat) (p0 p1 p2 : Int32) {post0 : Option Value → hW → Prop} {px0 : String → hW → Prop} (hx : ∃ fs, h x = some (ob 6 fs)) (h11 : lvc ≤ 11) (hM : Ct G l lvc mcc msc M_X6_point [.ref x, .int p0, .int p1, .int p2] h post0) (hp0 : ∀ v h1, post0 v h1 → ∃ (r : Int32) (fo : Nat → Int64), v = some (.int r) ∧ h1 o = some (aJ G 1 fo)) : CtH G l 12 mcc msc M_L_point hh_point [.ref x, .int p0, .int p1, .int p2, .ref o] h (fun v h' => ∃ (r : Int32) (h1 : hW) (fo : Nat → Int64), post0 (some (.int r)) h1 ∧ h1 o = some (aJ G 1 fo) ∧ v = some (.int 0) ∧ h' = hup h1 o (aJ G 1 (vp_updL fo 0 r.toInt64))) := by
  refine CtH.of (by decide +kernel) (Nat.le_of_ble_eq_true rfl) (fun E hE X R9 T9 => ?_)
  have X : Gc G E "ComplaintDeskLaw" cL_point 6 12 mcc msc := X
  obtain ⟨fs9, hx9⟩ := hx
  show GW G E _ 6 0 [(0, _), (1, _), (2, _), (3, _), (4, _)] [] _ 0 0
  refine g_aload X dL_point_0 4 rfl ?_
  refine g_iconst X (v := 0) dL_point_2 ki_0 ?_
  refine g_aload_n X dL_point_3 0 rfl ?_
  refine g_iload_n X dL_point_4 1 rfl ?_
  refine g_iload_n X dL_point_5 2 rfl ?_
  refine g_iload_n X dL_point_6 3 rfl ?_
  refine g_catchV (post0 := post0) (px0 := fun _ _ => False) (rest := [.int 0, .ref o]) X T9 ml_L_37 (by rw [hE]; exact hM.toX (px := fun _ _ => False)) ⟨6, _, hx9, rfl⟩ (by omega) rfl rfl (Nat.le_of_ble_eq_true rfl) (Nat.le_of_eq (Nat.zero_add _)) (Nat.le_of_eq (Nat.zero_add _)) dL_point_7 (fun v9 h9 q9 => ?_) (fun C9 h9 q9 => q9.elim)
  obtain ⟨r9, fo9, rfl, ho9⟩ := hp0 v9 h9 q9
  refine g_st (st' := [.int r9, .int 0, .ref o]) rfl ?_
  refine g_i2l X dL_point_10 ?_
  refine g_lastore X dL_point_11 ho9 (by unfold vp_in; decide) ?_
  refine g_goto X 23 dL_point_12 (by decide) ?_
  refine g_iconst X (v := 0) dL_point_23 ki_0 ?_
  refine g_iretR X R9 rfl dL_point_24 (Nat.le_of_eq (Nat.zero_add _)) (Nat.le_of_eq (Nat.zero_add _)) ?_
  exact ⟨r9, h9, fo9, q9, ho9, rfl, rfl⟩
theorem w_point_1 {lvc mcc msc : Nat} (x o : Nat) (p0 p1 p2 : Int32) {post0 : Option Value → hW → Prop} {px0 : String → hW → Prop} (hx : ∃ fs, h x = some (ob 6 fs)) (h11 : lvc ≤ 11) (hM : CtX G l lvc mcc msc M_X6_point [.ref x, .int p0, .int p1, .int p2] h (fun _ _ => False) px0) (hpx : ∀ C h', px0 C h' → C = "java/lang/IndexOutOfBoundsException") : CtH G l 12 mcc msc M_L_point hh_point [.ref x, .int p0, .int p1, .int p2, .ref o] h (fun v h' => px0 "java/lang/IndexOutOfBoundsException" h' ∧ v = some (.int 1)) := by
  refine CtH.of (by decide +kernel) (Nat.le_of_ble_eq_true rfl) (fun E hE X R9 T9 => ?_)
  have X : Gc G E "ComplaintDeskLaw" cL_point 6 12 mcc msc := X
  obtain ⟨fs9, hx9⟩ := hx
  show GW G E _ 6 0 [(0, _), (1, _), (2, _), (3, _), (4, _)] [] _ 0 0
  refine g_aload X dL_point_0 4 rfl ?_
  refine g_iconst X (v := 0) dL_point_2 ki_0 ?_
  refine g_aload_n X dL_point_3 0 rfl ?_
  refine g_iload_n X dL_point_4 1 rfl ?_
  refine g_iload_n X dL_point_5 2 rfl ?_
  refine g_iload_n X dL_point_6 3 rfl ?_
  refine g_catchV (post0 := fun _ _ => False) (px0 := px0) (rest := [.int 0, .ref o]) X T9 ml_L_37 (by rw [hE]; exact hM) ⟨6, _, hx9, rfl⟩ (by omega) rfl rfl (Nat.le_of_ble_eq_true rfl) (Nat.le_of_eq (Nat.zero_add _)) (Nat.le_of_eq (Nat.zero_add _)) dL_point_7 (fun v9 h9 q9 => q9.elim) (fun C9 h9 q9 => by
      have e9 := hpx C9 h9 q9
      subst e9
      refine ⟨[], ⟨0, 12, 15, 13⟩, [⟨0, 12, 19, 41⟩], rfl, fun z hz => absurd hz List.not_mem_nil, by decide, by decide, ⟨"java/lang/IndexOutOfBoundsException", uw_at 282 (by decide +kernel) rfl, cst_Index⟩, fun q0 => ?_⟩
      show GW G E _ 6 15 _ _ _ _ _
      refine g_astore X dL_point_15 (Nat.le_of_ble_eq_true rfl) [(5, _), (0, _), (1, _), (2, _), (3, _), (4, _)] rfl ?_
      refine g_iconst X (v := 1) dL_point_17 ki_1 ?_
      refine g_iretR X R9 rfl dL_point_18 (Nat.le_of_eq (Nat.zero_add _)) (Nat.le_of_eq (Nat.zero_add _)) ?_
      exact ⟨q9, rfl⟩)
theorem w_point_2 {lvc mcc msc : Nat} (x o : Nat) (p0 p1 p2 : Int32) {post0 : Option Value → hW → Prop} {px0 : String → hW → Prop} (hx : ∃ fs, h x = some (ob 6 fs)) (h11 : lvc ≤ 11) (hM : CtX G l lvc mcc msc M_X6_point [.ref x, .int p0, .int p1, .int p2] h (fun _ _ => False) px0) (hpx : ∀ C h', px0 C h' → C = "java/util/NoSuchElementException") : CtH G l 12 mcc msc M_L_point hh_point [.ref x, .int p0, .int p1, .int p2, .ref o] h (fun v h' => px0 "java/util/NoSuchElementException" h' ∧ v = some (.int 2)) := by
  refine CtH.of (by decide +kernel) (Nat.le_of_ble_eq_true rfl) (fun E hE X R9 T9 => ?_)
  have X : Gc G E "ComplaintDeskLaw" cL_point 6 12 mcc msc := X
  obtain ⟨fs9, hx9⟩ := hx
  show GW G E _ 6 0 [(0, _), (1, _), (2, _), (3, _), (4, _)] [] _ 0 0
  refine g_aload X dL_point_0 4 rfl ?_
  refine g_iconst X (v := 0) dL_point_2 ki_0 ?_
  refine g_aload_n X dL_point_3 0 rfl ?_
  refine g_iload_n X dL_point_4 1 rfl ?_
  refine g_iload_n X dL_point_5 2 rfl ?_
  refine g_iload_n X dL_point_6 3 rfl ?_
  refine g_catchV (post0 := fun _ _ => False) (px0 := px0) (rest := [.int 0, .ref o]) X T9 ml_L_37 (by rw [hE]; exact hM) ⟨6, _, hx9, rfl⟩ (by omega) rfl rfl (Nat.le_of_ble_eq_true rfl) (Nat.le_of_eq (Nat.zero_add _)) (Nat.le_of_eq (Nat.zero_add _)) dL_point_7 (fun v9 h9 q9 => q9.elim) (fun C9 h9 q9 => by
      have e9 := hpx C9 h9 q9
      subst e9
      refine ⟨[⟨0, 12, 15, 13⟩], ⟨0, 12, 19, 41⟩, [], rfl, fun z hz => by
        simp only [List.mem_cons, List.not_mem_nil, or_false] at hz
        rcases hz with rfl
        · exact ⟨by decide, "java/lang/IndexOutOfBoundsException", uw_at 282 (by decide +kernel) rfl, by decide +kernel⟩, by decide, by decide, ⟨"java/util/NoSuchElementException", uw_at 957 (by decide +kernel) rfl, cst_NoSuc⟩, fun q0 => ?_⟩
      show GW G E _ 6 19 _ _ _ _ _
      refine g_astore X dL_point_19 (Nat.le_of_ble_eq_true rfl) [(5, _), (0, _), (1, _), (2, _), (3, _), (4, _)] rfl ?_
      refine g_iconst X (v := 2) dL_point_21 ki_2 ?_
      refine g_iretR X R9 rfl dL_point_22 (Nat.le_of_eq (Nat.zero_add _)) (Nat.le_of_eq (Nat.zero_add _)) ?_
      exact ⟨q9, rfl⟩)
abbrev M_L_look : gM := (yL_look, cL_look, 5, some .int)
abbrev hh_look : List (Nat × Nat × Nat × Nat) := [(0, 10, 13, 13), (0, 10, 17, 41)]
theorem mlh_look {E : gE} {cc : ByteArray} {nL lv mc ms pc k n lvc mcc msc : Nat} {Q : State → Prop} {L : List (Nat × Value)} {st : List Value} (X : Gc G E "ComplaintDeskLaw" cc nL lv mc ms) {As rest : List Value} {post : Option Value → hW → Prop} (hM : CtH G E.l lvc mcc msc M_L_look hh_look As h post) (hlv : lvc + 1 ≤ lv) (hA : As.length = 4) (hst : st = As.reverse ++ rest) (hW : (rest.map fun v => v.category).sum ≤ 8) (hk : k + mcc ≤ mc) (hn : n + msc ≤ ms) (d : decode cc pc = .ok (.invokestatic 112, 3))
    (K : ∀ v h', post v h' → GW G E Q nL (pc + 3) L (v.toList ++ rest) h' (k + mcc) (n + msc)) : GW G E Q nL pc L st h k n :=
  g_callH X (uw_at 982 (by decide +kernel) rfl) (uw_at 984 (by decide +kernel) rfl) (uw_at 49 (by decide +kernel) rfl) ⟨by decide +kernel, by decide +kernel⟩ (by decide +kernel) (by decide) (uw_at 983 (by decide +kernel) rfl) hM hlv hA hst hW hk hn d K
theorem w_look {lvc mcc msc : Nat} (x o : Nat) (p0 p1 : Int32) {post0 : Option Value → hW → Prop} {px0 : String → hW → Prop} (hx : ∃ fs, h x = some (ob 6 fs)) (h11 : lvc ≤ 11) (hM : Ct G l lvc mcc msc M_X6_look [.ref x, .int p0, .int p1] h post0) (hp0 : ∀ v h1, post0 v h1 → ∃ (r : Int32) (fo : Nat → Int64), v = some (.int r) ∧ h1 o = some (aJ G 1 fo)) : CtH G l 12 mcc msc M_L_look hh_look [.ref x, .int p0, .int p1, .ref o] h (fun v h' => ∃ (r : Int32) (h1 : hW) (fo : Nat → Int64), post0 (some (.int r)) h1 ∧ h1 o = some (aJ G 1 fo) ∧ v = some (.int 0) ∧ h' = hup h1 o (aJ G 1 (vp_updL fo 0 r.toInt64))) := by
  refine CtH.of (by decide +kernel) (Nat.le_of_ble_eq_true rfl) (fun E hE X R9 T9 => ?_)
  have X : Gc G E "ComplaintDeskLaw" cL_look 5 12 mcc msc := X
  obtain ⟨fs9, hx9⟩ := hx
  show GW G E _ 5 0 [(0, _), (1, _), (2, _), (3, _)] [] _ 0 0
  refine g_aload_n X dL_look_0 3 rfl ?_
  refine g_iconst X (v := 0) dL_look_1 ki_0 ?_
  refine g_aload_n X dL_look_2 0 rfl ?_
  refine g_iload_n X dL_look_3 1 rfl ?_
  refine g_iload_n X dL_look_4 2 rfl ?_
  refine g_catchV (post0 := post0) (px0 := fun _ _ => False) (rest := [.int 0, .ref o]) X T9 ml_L_43 (by rw [hE]; exact hM.toX (px := fun _ _ => False)) ⟨6, _, hx9, rfl⟩ (by omega) rfl rfl (Nat.le_of_ble_eq_true rfl) (Nat.le_of_eq (Nat.zero_add _)) (Nat.le_of_eq (Nat.zero_add _)) dL_look_5 (fun v9 h9 q9 => ?_) (fun C9 h9 q9 => q9.elim)
  obtain ⟨r9, fo9, rfl, ho9⟩ := hp0 v9 h9 q9
  refine g_st (st' := [.int r9, .int 0, .ref o]) rfl ?_
  refine g_i2l X dL_look_8 ?_
  refine g_lastore X dL_look_9 ho9 (by unfold vp_in; decide) ?_
  refine g_goto X 21 dL_look_10 (by decide) ?_
  refine g_iconst X (v := 0) dL_look_21 ki_0 ?_
  refine g_iretR X R9 rfl dL_look_22 (Nat.le_of_eq (Nat.zero_add _)) (Nat.le_of_eq (Nat.zero_add _)) ?_
  exact ⟨r9, h9, fo9, q9, ho9, rfl, rfl⟩
theorem w_look_1 {lvc mcc msc : Nat} (x o : Nat) (p0 p1 : Int32) {post0 : Option Value → hW → Prop} {px0 : String → hW → Prop} (hx : ∃ fs, h x = some (ob 6 fs)) (h11 : lvc ≤ 11) (hM : CtX G l lvc mcc msc M_X6_look [.ref x, .int p0, .int p1] h (fun _ _ => False) px0) (hpx : ∀ C h', px0 C h' → C = "java/lang/IndexOutOfBoundsException") : CtH G l 12 mcc msc M_L_look hh_look [.ref x, .int p0, .int p1, .ref o] h (fun v h' => px0 "java/lang/IndexOutOfBoundsException" h' ∧ v = some (.int 1)) := by
  refine CtH.of (by decide +kernel) (Nat.le_of_ble_eq_true rfl) (fun E hE X R9 T9 => ?_)
  have X : Gc G E "ComplaintDeskLaw" cL_look 5 12 mcc msc := X
  obtain ⟨fs9, hx9⟩ := hx
  show GW G E _ 5 0 [(0, _), (1, _), (2, _), (3, _)] [] _ 0 0
  refine g_aload_n X dL_look_0 3 rfl ?_
  refine g_iconst X (v := 0) dL_look_1 ki_0 ?_
  refine g_aload_n X dL_look_2 0 rfl ?_
  refine g_iload_n X dL_look_3 1 rfl ?_
  refine g_iload_n X dL_look_4 2 rfl ?_
  refine g_catchV (post0 := fun _ _ => False) (px0 := px0) (rest := [.int 0, .ref o]) X T9 ml_L_43 (by rw [hE]; exact hM) ⟨6, _, hx9, rfl⟩ (by omega) rfl rfl (Nat.le_of_ble_eq_true rfl) (Nat.le_of_eq (Nat.zero_add _)) (Nat.le_of_eq (Nat.zero_add _)) dL_look_5 (fun v9 h9 q9 => q9.elim) (fun C9 h9 q9 => by
      have e9 := hpx C9 h9 q9
      subst e9
      refine ⟨[], ⟨0, 10, 13, 13⟩, [⟨0, 10, 17, 41⟩], rfl, fun z hz => absurd hz List.not_mem_nil, by decide, by decide, ⟨"java/lang/IndexOutOfBoundsException", uw_at 282 (by decide +kernel) rfl, cst_Index⟩, fun q0 => ?_⟩
      show GW G E _ 5 13 _ _ _ _ _
      refine g_astore X dL_look_13 (Nat.le_of_ble_eq_true rfl) [(4, _), (0, _), (1, _), (2, _), (3, _)] rfl ?_
      refine g_iconst X (v := 1) dL_look_15 ki_1 ?_
      refine g_iretR X R9 rfl dL_look_16 (Nat.le_of_eq (Nat.zero_add _)) (Nat.le_of_eq (Nat.zero_add _)) ?_
      exact ⟨q9, rfl⟩)
theorem w_look_2 {lvc mcc msc : Nat} (x o : Nat) (p0 p1 : Int32) {post0 : Option Value → hW → Prop} {px0 : String → hW → Prop} (hx : ∃ fs, h x = some (ob 6 fs)) (h11 : lvc ≤ 11) (hM : CtX G l lvc mcc msc M_X6_look [.ref x, .int p0, .int p1] h (fun _ _ => False) px0) (hpx : ∀ C h', px0 C h' → C = "java/util/NoSuchElementException") : CtH G l 12 mcc msc M_L_look hh_look [.ref x, .int p0, .int p1, .ref o] h (fun v h' => px0 "java/util/NoSuchElementException" h' ∧ v = some (.int 2)) := by
  refine CtH.of (by decide +kernel) (Nat.le_of_ble_eq_true rfl) (fun E hE X R9 T9 => ?_)
  have X : Gc G E "ComplaintDeskLaw" cL_look 5 12 mcc msc := X
  obtain ⟨fs9, hx9⟩ := hx
  show GW G E _ 5 0 [(0, _), (1, _), (2, _), (3, _)] [] _ 0 0
  refine g_aload_n X dL_look_0 3 rfl ?_
  refine g_iconst X (v := 0) dL_look_1 ki_0 ?_
  refine g_aload_n X dL_look_2 0 rfl ?_
  refine g_iload_n X dL_look_3 1 rfl ?_
  refine g_iload_n X dL_look_4 2 rfl ?_
  refine g_catchV (post0 := fun _ _ => False) (px0 := px0) (rest := [.int 0, .ref o]) X T9 ml_L_43 (by rw [hE]; exact hM) ⟨6, _, hx9, rfl⟩ (by omega) rfl rfl (Nat.le_of_ble_eq_true rfl) (Nat.le_of_eq (Nat.zero_add _)) (Nat.le_of_eq (Nat.zero_add _)) dL_look_5 (fun v9 h9 q9 => q9.elim) (fun C9 h9 q9 => by
      have e9 := hpx C9 h9 q9
      subst e9
      refine ⟨[⟨0, 10, 13, 13⟩], ⟨0, 10, 17, 41⟩, [], rfl, fun z hz => by
        simp only [List.mem_cons, List.not_mem_nil, or_false] at hz
        rcases hz with rfl
        · exact ⟨by decide, "java/lang/IndexOutOfBoundsException", uw_at 282 (by decide +kernel) rfl, by decide +kernel⟩, by decide, by decide, ⟨"java/util/NoSuchElementException", uw_at 957 (by decide +kernel) rfl, cst_NoSuc⟩, fun q0 => ?_⟩
      show GW G E _ 5 17 _ _ _ _ _
      refine g_astore X dL_look_17 (Nat.le_of_ble_eq_true rfl) [(4, _), (0, _), (1, _), (2, _), (3, _)] rfl ?_
      refine g_iconst X (v := 2) dL_look_19 ki_2 ?_
      refine g_iretR X R9 rfl dL_look_20 (Nat.le_of_eq (Nat.zero_add _)) (Nat.le_of_eq (Nat.zero_add _)) ?_
      exact ⟨q9, rfl⟩)
abbrev M_L_late : gM := (yL_late, cL_late, 4, some .int)
abbrev hh_late : List (Nat × Nat × Nat × Nat) := [(0, 9, 12, 13)]
theorem mlh_late {E : gE} {cc : ByteArray} {nL lv mc ms pc k n lvc mcc msc : Nat} {Q : State → Prop} {L : List (Nat × Value)} {st : List Value} (X : Gc G E "ComplaintDeskLaw" cc nL lv mc ms) {As rest : List Value} {post : Option Value → hW → Prop} (hM : CtH G E.l lvc mcc msc M_L_late hh_late As h post) (hlv : lvc + 1 ≤ lv) (hA : As.length = 3) (hst : st = As.reverse ++ rest) (hW : (rest.map fun v => v.category).sum ≤ 8) (hk : k + mcc ≤ mc) (hn : n + msc ≤ ms) (d : decode cc pc = .ok (.invokestatic 115, 3))
    (K : ∀ v h', post v h' → GW G E Q nL (pc + 3) L (v.toList ++ rest) h' (k + mcc) (n + msc)) : GW G E Q nL pc L st h k n :=
  g_callH X (uw_at 1008 (by decide +kernel) rfl) (uw_at 1010 (by decide +kernel) rfl) (uw_at 49 (by decide +kernel) rfl) ⟨by decide +kernel, by decide +kernel⟩ (by decide +kernel) (by decide) (uw_at 1009 (by decide +kernel) rfl) hM hlv hA hst hW hk hn d K
theorem w_late {lvc mcc msc : Nat} (x o : Nat) (p0 : Int32) {post0 : Option Value → hW → Prop} {px0 : String → hW → Prop} (hx : ∃ fs, h x = some (ob 6 fs)) (h11 : lvc ≤ 11) (hM : Ct G l lvc mcc msc M_X6_late [.ref x, .int p0] h post0) (hp0 : ∀ v h1, post0 v h1 → ∃ (r : Int32) (fo : Nat → Int64), v = some (.int r) ∧ h1 o = some (aJ G 1 fo)) : CtH G l 12 mcc msc M_L_late hh_late [.ref x, .int p0, .ref o] h (fun v h' => ∃ (r : Int32) (h1 : hW) (fo : Nat → Int64), post0 (some (.int r)) h1 ∧ h1 o = some (aJ G 1 fo) ∧ v = some (.int 0) ∧ h' = hup h1 o (aJ G 1 (vp_updL fo 0 r.toInt64))) := by
  refine CtH.of (by decide +kernel) (Nat.le_of_ble_eq_true rfl) (fun E hE X R9 T9 => ?_)
  have X : Gc G E "ComplaintDeskLaw" cL_late 4 12 mcc msc := X
  obtain ⟨fs9, hx9⟩ := hx
  show GW G E _ 4 0 [(0, _), (1, _), (2, _)] [] _ 0 0
  refine g_aload_n X dL_late_0 2 rfl ?_
  refine g_iconst X (v := 0) dL_late_1 ki_0 ?_
  refine g_aload_n X dL_late_2 0 rfl ?_
  refine g_iload_n X dL_late_3 1 rfl ?_
  refine g_catchV (post0 := post0) (px0 := fun _ _ => False) (rest := [.int 0, .ref o]) X T9 ml_L_47 (by rw [hE]; exact hM.toX (px := fun _ _ => False)) ⟨6, _, hx9, rfl⟩ (by omega) rfl rfl (Nat.le_of_ble_eq_true rfl) (Nat.le_of_eq (Nat.zero_add _)) (Nat.le_of_eq (Nat.zero_add _)) dL_late_4 (fun v9 h9 q9 => ?_) (fun C9 h9 q9 => q9.elim)
  obtain ⟨r9, fo9, rfl, ho9⟩ := hp0 v9 h9 q9
  refine g_st (st' := [.int r9, .int 0, .ref o]) rfl ?_
  refine g_i2l X dL_late_7 ?_
  refine g_lastore X dL_late_8 ho9 (by unfold vp_in; decide) ?_
  refine g_goto X 15 dL_late_9 (by decide) ?_
  refine g_iconst X (v := 0) dL_late_15 ki_0 ?_
  refine g_iretR X R9 rfl dL_late_16 (Nat.le_of_eq (Nat.zero_add _)) (Nat.le_of_eq (Nat.zero_add _)) ?_
  exact ⟨r9, h9, fo9, q9, ho9, rfl, rfl⟩
theorem w_late_1 {lvc mcc msc : Nat} (x o : Nat) (p0 : Int32) {post0 : Option Value → hW → Prop} {px0 : String → hW → Prop} (hx : ∃ fs, h x = some (ob 6 fs)) (h11 : lvc ≤ 11) (hM : CtX G l lvc mcc msc M_X6_late [.ref x, .int p0] h (fun _ _ => False) px0) (hpx : ∀ C h', px0 C h' → C = "java/lang/IndexOutOfBoundsException") : CtH G l 12 mcc msc M_L_late hh_late [.ref x, .int p0, .ref o] h (fun v h' => px0 "java/lang/IndexOutOfBoundsException" h' ∧ v = some (.int 1)) := by
  refine CtH.of (by decide +kernel) (Nat.le_of_ble_eq_true rfl) (fun E hE X R9 T9 => ?_)
  have X : Gc G E "ComplaintDeskLaw" cL_late 4 12 mcc msc := X
  obtain ⟨fs9, hx9⟩ := hx
  show GW G E _ 4 0 [(0, _), (1, _), (2, _)] [] _ 0 0
  refine g_aload_n X dL_late_0 2 rfl ?_
  refine g_iconst X (v := 0) dL_late_1 ki_0 ?_
  refine g_aload_n X dL_late_2 0 rfl ?_
  refine g_iload_n X dL_late_3 1 rfl ?_
  refine g_catchV (post0 := fun _ _ => False) (px0 := px0) (rest := [.int 0, .ref o]) X T9 ml_L_47 (by rw [hE]; exact hM) ⟨6, _, hx9, rfl⟩ (by omega) rfl rfl (Nat.le_of_ble_eq_true rfl) (Nat.le_of_eq (Nat.zero_add _)) (Nat.le_of_eq (Nat.zero_add _)) dL_late_4 (fun v9 h9 q9 => q9.elim) (fun C9 h9 q9 => by
      have e9 := hpx C9 h9 q9
      subst e9
      refine ⟨[], ⟨0, 9, 12, 13⟩, [], rfl, fun z hz => absurd hz List.not_mem_nil, by decide, by decide, ⟨"java/lang/IndexOutOfBoundsException", uw_at 282 (by decide +kernel) rfl, cst_Index⟩, fun q0 => ?_⟩
      show GW G E _ 4 12 _ _ _ _ _
      refine g_astore_n X dL_late_12 (Nat.le_of_ble_eq_true rfl) [(3, _), (0, _), (1, _), (2, _)] rfl ?_
      refine g_iconst X (v := 1) dL_late_13 ki_1 ?_
      refine g_iretR X R9 rfl dL_late_14 (Nat.le_of_eq (Nat.zero_add _)) (Nat.le_of_eq (Nat.zero_add _)) ?_
      exact ⟨q9, rfl⟩)
abbrev M_L_waits : gM := (yL_waits, cL_waits, 4, some .int)
abbrev hh_waits : List (Nat × Nat × Nat × Nat) := [(0, 9, 12, 13)]
theorem mlh_waits {E : gE} {cc : ByteArray} {nL lv mc ms pc k n lvc mcc msc : Nat} {Q : State → Prop} {L : List (Nat × Value)} {st : List Value} (X : Gc G E "ComplaintDeskLaw" cc nL lv mc ms) {As rest : List Value} {post : Option Value → hW → Prop} (hM : CtH G E.l lvc mcc msc M_L_waits hh_waits As h post) (hlv : lvc + 1 ≤ lv) (hA : As.length = 3) (hst : st = As.reverse ++ rest) (hW : (rest.map fun v => v.category).sum ≤ 8) (hk : k + mcc ≤ mc) (hn : n + msc ≤ ms) (d : decode cc pc = .ok (.invokestatic 118, 3))
    (K : ∀ v h', post v h' → GW G E Q nL (pc + 3) L (v.toList ++ rest) h' (k + mcc) (n + msc)) : GW G E Q nL pc L st h k n :=
  g_callH X (uw_at 1023 (by decide +kernel) rfl) (uw_at 1025 (by decide +kernel) rfl) (uw_at 49 (by decide +kernel) rfl) ⟨by decide +kernel, by decide +kernel⟩ (by decide +kernel) (by decide) (uw_at 1024 (by decide +kernel) rfl) hM hlv hA hst hW hk hn d K
theorem w_waits {lvc mcc msc : Nat} (x o : Nat) (p0 : Int32) {post0 : Option Value → hW → Prop} {px0 : String → hW → Prop} (hx : ∃ fs, h x = some (ob 6 fs)) (h11 : lvc ≤ 11) (hM : Ct G l lvc mcc msc M_X6_waits [.ref x, .int p0] h post0) (hp0 : ∀ v h1, post0 v h1 → ∃ (r : Int32) (fo : Nat → Int64), v = some (.int r) ∧ h1 o = some (aJ G 1 fo)) : CtH G l 12 mcc msc M_L_waits hh_waits [.ref x, .int p0, .ref o] h (fun v h' => ∃ (r : Int32) (h1 : hW) (fo : Nat → Int64), post0 (some (.int r)) h1 ∧ h1 o = some (aJ G 1 fo) ∧ v = some (.int 0) ∧ h' = hup h1 o (aJ G 1 (vp_updL fo 0 r.toInt64))) := by
  refine CtH.of (by decide +kernel) (Nat.le_of_ble_eq_true rfl) (fun E hE X R9 T9 => ?_)
  have X : Gc G E "ComplaintDeskLaw" cL_waits 4 12 mcc msc := X
  obtain ⟨fs9, hx9⟩ := hx
  show GW G E _ 4 0 [(0, _), (1, _), (2, _)] [] _ 0 0
  refine g_aload_n X dL_waits_0 2 rfl ?_
  refine g_iconst X (v := 0) dL_waits_1 ki_0 ?_
  refine g_aload_n X dL_waits_2 0 rfl ?_
  refine g_iload_n X dL_waits_3 1 rfl ?_
  refine g_catchV (post0 := post0) (px0 := fun _ _ => False) (rest := [.int 0, .ref o]) X T9 ml_L_50 (by rw [hE]; exact hM.toX (px := fun _ _ => False)) ⟨6, _, hx9, rfl⟩ (by omega) rfl rfl (Nat.le_of_ble_eq_true rfl) (Nat.le_of_eq (Nat.zero_add _)) (Nat.le_of_eq (Nat.zero_add _)) dL_waits_4 (fun v9 h9 q9 => ?_) (fun C9 h9 q9 => q9.elim)
  obtain ⟨r9, fo9, rfl, ho9⟩ := hp0 v9 h9 q9
  refine g_st (st' := [.int r9, .int 0, .ref o]) rfl ?_
  refine g_i2l X dL_waits_7 ?_
  refine g_lastore X dL_waits_8 ho9 (by unfold vp_in; decide) ?_
  refine g_goto X 15 dL_waits_9 (by decide) ?_
  refine g_iconst X (v := 0) dL_waits_15 ki_0 ?_
  refine g_iretR X R9 rfl dL_waits_16 (Nat.le_of_eq (Nat.zero_add _)) (Nat.le_of_eq (Nat.zero_add _)) ?_
  exact ⟨r9, h9, fo9, q9, ho9, rfl, rfl⟩
theorem w_waits_1 {lvc mcc msc : Nat} (x o : Nat) (p0 : Int32) {post0 : Option Value → hW → Prop} {px0 : String → hW → Prop} (hx : ∃ fs, h x = some (ob 6 fs)) (h11 : lvc ≤ 11) (hM : CtX G l lvc mcc msc M_X6_waits [.ref x, .int p0] h (fun _ _ => False) px0) (hpx : ∀ C h', px0 C h' → C = "java/lang/IndexOutOfBoundsException") : CtH G l 12 mcc msc M_L_waits hh_waits [.ref x, .int p0, .ref o] h (fun v h' => px0 "java/lang/IndexOutOfBoundsException" h' ∧ v = some (.int 1)) := by
  refine CtH.of (by decide +kernel) (Nat.le_of_ble_eq_true rfl) (fun E hE X R9 T9 => ?_)
  have X : Gc G E "ComplaintDeskLaw" cL_waits 4 12 mcc msc := X
  obtain ⟨fs9, hx9⟩ := hx
  show GW G E _ 4 0 [(0, _), (1, _), (2, _)] [] _ 0 0
  refine g_aload_n X dL_waits_0 2 rfl ?_
  refine g_iconst X (v := 0) dL_waits_1 ki_0 ?_
  refine g_aload_n X dL_waits_2 0 rfl ?_
  refine g_iload_n X dL_waits_3 1 rfl ?_
  refine g_catchV (post0 := fun _ _ => False) (px0 := px0) (rest := [.int 0, .ref o]) X T9 ml_L_50 (by rw [hE]; exact hM) ⟨6, _, hx9, rfl⟩ (by omega) rfl rfl (Nat.le_of_ble_eq_true rfl) (Nat.le_of_eq (Nat.zero_add _)) (Nat.le_of_eq (Nat.zero_add _)) dL_waits_4 (fun v9 h9 q9 => q9.elim) (fun C9 h9 q9 => by
      have e9 := hpx C9 h9 q9
      subst e9
      refine ⟨[], ⟨0, 9, 12, 13⟩, [], rfl, fun z hz => absurd hz List.not_mem_nil, by decide, by decide, ⟨"java/lang/IndexOutOfBoundsException", uw_at 282 (by decide +kernel) rfl, cst_Index⟩, fun q0 => ?_⟩
      show GW G E _ 4 12 _ _ _ _ _
      refine g_astore_n X dL_waits_12 (Nat.le_of_ble_eq_true rfl) [(3, _), (0, _), (1, _), (2, _)] rfl ?_
      refine g_iconst X (v := 1) dL_waits_13 ki_1 ?_
      refine g_iretR X R9 rfl dL_waits_14 (Nat.le_of_eq (Nat.zero_add _)) (Nat.le_of_eq (Nat.zero_add _)) ?_
      exact ⟨q9, rfl⟩)
abbrev M_L_template : gM := (yL_template, cL_template, 4, some .int)
abbrev hh_template : List (Nat × Nat × Nat × Nat) := [(0, 9, 12, 15)]
theorem mlh_template {E : gE} {cc : ByteArray} {nL lv mc ms pc k n lvc mcc msc : Nat} {Q : State → Prop} {L : List (Nat × Value)} {st : List Value} (X : Gc G E "ComplaintDeskLaw" cc nL lv mc ms) {As rest : List Value} {post : Option Value → hW → Prop} (hM : CtH G E.l lvc mcc msc M_L_template hh_template As h post) (hlv : lvc + 1 ≤ lv) (hA : As.length = 3) (hst : st = As.reverse ++ rest) (hW : (rest.map fun v => v.category).sum ≤ 8) (hk : k + mcc ≤ mc) (hn : n + msc ≤ ms) (d : decode cc pc = .ok (.invokestatic 121, 3))
    (K : ∀ v h', post v h' → GW G E Q nL (pc + 3) L (v.toList ++ rest) h' (k + mcc) (n + msc)) : GW G E Q nL pc L st h k n :=
  g_callH X (uw_at 1030 (by decide +kernel) rfl) (uw_at 1032 (by decide +kernel) rfl) (uw_at 49 (by decide +kernel) rfl) ⟨by decide +kernel, by decide +kernel⟩ (by decide +kernel) (by decide) (uw_at 1031 (by decide +kernel) rfl) hM hlv hA hst hW hk hn d K
theorem w_template {lvc mcc msc : Nat} (x o : Nat) (p0 : Int32) {post0 : Option Value → hW → Prop} {px0 : String → hW → Prop} (hx : ∃ fs, h x = some (ob 6 fs)) (h11 : lvc ≤ 11) (hM : Ct G l lvc mcc msc M_X6_template [.ref x, .int p0] h post0) (hp0 : ∀ v h1, post0 v h1 → ∃ (r : Int32) (fo : Nat → Int64), v = some (.int r) ∧ h1 o = some (aJ G 1 fo)) : CtH G l 12 mcc msc M_L_template hh_template [.ref x, .int p0, .ref o] h (fun v h' => ∃ (r : Int32) (h1 : hW) (fo : Nat → Int64), post0 (some (.int r)) h1 ∧ h1 o = some (aJ G 1 fo) ∧ v = some (.int 0) ∧ h' = hup h1 o (aJ G 1 (vp_updL fo 0 r.toInt64))) := by
  refine CtH.of (by decide +kernel) (Nat.le_of_ble_eq_true rfl) (fun E hE X R9 T9 => ?_)
  have X : Gc G E "ComplaintDeskLaw" cL_template 4 12 mcc msc := X
  obtain ⟨fs9, hx9⟩ := hx
  show GW G E _ 4 0 [(0, _), (1, _), (2, _)] [] _ 0 0
  refine g_aload_n X dL_template_0 2 rfl ?_
  refine g_iconst X (v := 0) dL_template_1 ki_0 ?_
  refine g_aload_n X dL_template_2 0 rfl ?_
  refine g_iload_n X dL_template_3 1 rfl ?_
  refine g_catchV (post0 := post0) (px0 := fun _ _ => False) (rest := [.int 0, .ref o]) X T9 ml_L_53 (by rw [hE]; exact hM.toX (px := fun _ _ => False)) ⟨6, _, hx9, rfl⟩ (by omega) rfl rfl (Nat.le_of_ble_eq_true rfl) (Nat.le_of_eq (Nat.zero_add _)) (Nat.le_of_eq (Nat.zero_add _)) dL_template_4 (fun v9 h9 q9 => ?_) (fun C9 h9 q9 => q9.elim)
  obtain ⟨r9, fo9, rfl, ho9⟩ := hp0 v9 h9 q9
  refine g_st (st' := [.int r9, .int 0, .ref o]) rfl ?_
  refine g_i2l X dL_template_7 ?_
  refine g_lastore X dL_template_8 ho9 (by unfold vp_in; decide) ?_
  refine g_goto X 15 dL_template_9 (by decide) ?_
  refine g_iconst X (v := 0) dL_template_15 ki_0 ?_
  refine g_iretR X R9 rfl dL_template_16 (Nat.le_of_eq (Nat.zero_add _)) (Nat.le_of_eq (Nat.zero_add _)) ?_
  exact ⟨r9, h9, fo9, q9, ho9, rfl, rfl⟩
theorem w_template_1 {lvc mcc msc : Nat} (x o : Nat) (p0 : Int32) {post0 : Option Value → hW → Prop} {px0 : String → hW → Prop} (hx : ∃ fs, h x = some (ob 6 fs)) (h11 : lvc ≤ 11) (hM : CtX G l lvc mcc msc M_X6_template [.ref x, .int p0] h (fun _ _ => False) px0) (hpx : ∀ C h', px0 C h' → C = "java/lang/IllegalArgumentException") : CtH G l 12 mcc msc M_L_template hh_template [.ref x, .int p0, .ref o] h (fun v h' => px0 "java/lang/IllegalArgumentException" h' ∧ v = some (.int 1)) := by
  refine CtH.of (by decide +kernel) (Nat.le_of_ble_eq_true rfl) (fun E hE X R9 T9 => ?_)
  have X : Gc G E "ComplaintDeskLaw" cL_template 4 12 mcc msc := X
  obtain ⟨fs9, hx9⟩ := hx
  show GW G E _ 4 0 [(0, _), (1, _), (2, _)] [] _ 0 0
  refine g_aload_n X dL_template_0 2 rfl ?_
  refine g_iconst X (v := 0) dL_template_1 ki_0 ?_
  refine g_aload_n X dL_template_2 0 rfl ?_
  refine g_iload_n X dL_template_3 1 rfl ?_
  refine g_catchV (post0 := fun _ _ => False) (px0 := px0) (rest := [.int 0, .ref o]) X T9 ml_L_53 (by rw [hE]; exact hM) ⟨6, _, hx9, rfl⟩ (by omega) rfl rfl (Nat.le_of_ble_eq_true rfl) (Nat.le_of_eq (Nat.zero_add _)) (Nat.le_of_eq (Nat.zero_add _)) dL_template_4 (fun v9 h9 q9 => q9.elim) (fun C9 h9 q9 => by
      have e9 := hpx C9 h9 q9
      subst e9
      refine ⟨[], ⟨0, 9, 12, 15⟩, [], rfl, fun z hz => absurd hz List.not_mem_nil, by decide, by decide, ⟨"java/lang/IllegalArgumentException", uw_at 283 (by decide +kernel) rfl, cst_Illeg⟩, fun q0 => ?_⟩
      show GW G E _ 4 12 _ _ _ _ _
      refine g_astore_n X dL_template_12 (Nat.le_of_ble_eq_true rfl) [(3, _), (0, _), (1, _), (2, _)] rfl ?_
      refine g_iconst X (v := 1) dL_template_13 ki_1 ?_
      refine g_iretR X R9 rfl dL_template_14 (Nat.le_of_eq (Nat.zero_add _)) (Nat.le_of_eq (Nat.zero_add _)) ?_
      exact ⟨q9, rfl⟩)
abbrev M_L_counts : gM := (yL_counts, cL_counts, 5, some .int)
abbrev hh_counts : List (Nat × Nat × Nat × Nat) := [(0, 10, 13, 13)]
theorem mlh_counts {E : gE} {cc : ByteArray} {nL lv mc ms pc k n lvc mcc msc : Nat} {Q : State → Prop} {L : List (Nat × Value)} {st : List Value} (X : Gc G E "ComplaintDeskLaw" cc nL lv mc ms) {As rest : List Value} {post : Option Value → hW → Prop} (hM : CtH G E.l lvc mcc msc M_L_counts hh_counts As h post) (hlv : lvc + 1 ≤ lv) (hA : As.length = 4) (hst : st = As.reverse ++ rest) (hW : (rest.map fun v => v.category).sum ≤ 8) (hk : k + mcc ≤ mc) (hn : n + msc ≤ ms) (d : decode cc pc = .ok (.invokestatic 124, 3))
    (K : ∀ v h', post v h' → GW G E Q nL (pc + 3) L (v.toList ++ rest) h' (k + mcc) (n + msc)) : GW G E Q nL pc L st h k n :=
  g_callH X (uw_at 1038 (by decide +kernel) rfl) (uw_at 1040 (by decide +kernel) rfl) (uw_at 49 (by decide +kernel) rfl) ⟨by decide +kernel, by decide +kernel⟩ (by decide +kernel) (by decide) (uw_at 1039 (by decide +kernel) rfl) hM hlv hA hst hW hk hn d K
theorem w_counts {lvc mcc msc : Nat} (x o : Nat) (p0 p1 : Int32) {post0 : Option Value → hW → Prop} {px0 : String → hW → Prop} (hx : ∃ fs, h x = some (ob 6 fs)) (h11 : lvc ≤ 11) (hM : Ct G l lvc mcc msc M_X6_counts [.ref x, .int p0, .int p1] h post0) (hp0 : ∀ v h1, post0 v h1 → ∃ (r : Int32) (fo : Nat → Int64), v = some (.int r) ∧ h1 o = some (aJ G 1 fo)) : CtH G l 12 mcc msc M_L_counts hh_counts [.ref x, .int p0, .int p1, .ref o] h (fun v h' => ∃ (r : Int32) (h1 : hW) (fo : Nat → Int64), post0 (some (.int r)) h1 ∧ h1 o = some (aJ G 1 fo) ∧ v = some (.int 0) ∧ h' = hup h1 o (aJ G 1 (vp_updL fo 0 r.toInt64))) := by
  refine CtH.of (by decide +kernel) (Nat.le_of_ble_eq_true rfl) (fun E hE X R9 T9 => ?_)
  have X : Gc G E "ComplaintDeskLaw" cL_counts 5 12 mcc msc := X
  obtain ⟨fs9, hx9⟩ := hx
  show GW G E _ 5 0 [(0, _), (1, _), (2, _), (3, _)] [] _ 0 0
  refine g_aload_n X dL_counts_0 3 rfl ?_
  refine g_iconst X (v := 0) dL_counts_1 ki_0 ?_
  refine g_aload_n X dL_counts_2 0 rfl ?_
  refine g_iload_n X dL_counts_3 1 rfl ?_
  refine g_iload_n X dL_counts_4 2 rfl ?_
  refine g_catchV (post0 := post0) (px0 := fun _ _ => False) (rest := [.int 0, .ref o]) X T9 ml_L_56 (by rw [hE]; exact hM.toX (px := fun _ _ => False)) ⟨6, _, hx9, rfl⟩ (by omega) rfl rfl (Nat.le_of_ble_eq_true rfl) (Nat.le_of_eq (Nat.zero_add _)) (Nat.le_of_eq (Nat.zero_add _)) dL_counts_5 (fun v9 h9 q9 => ?_) (fun C9 h9 q9 => q9.elim)
  obtain ⟨r9, fo9, rfl, ho9⟩ := hp0 v9 h9 q9
  refine g_st (st' := [.int r9, .int 0, .ref o]) rfl ?_
  refine g_i2l X dL_counts_8 ?_
  refine g_lastore X dL_counts_9 ho9 (by unfold vp_in; decide) ?_
  refine g_goto X 17 dL_counts_10 (by decide) ?_
  refine g_iconst X (v := 0) dL_counts_17 ki_0 ?_
  refine g_iretR X R9 rfl dL_counts_18 (Nat.le_of_eq (Nat.zero_add _)) (Nat.le_of_eq (Nat.zero_add _)) ?_
  exact ⟨r9, h9, fo9, q9, ho9, rfl, rfl⟩
theorem w_counts_1 {lvc mcc msc : Nat} (x o : Nat) (p0 p1 : Int32) {post0 : Option Value → hW → Prop} {px0 : String → hW → Prop} (hx : ∃ fs, h x = some (ob 6 fs)) (h11 : lvc ≤ 11) (hM : CtX G l lvc mcc msc M_X6_counts [.ref x, .int p0, .int p1] h (fun _ _ => False) px0) (hpx : ∀ C h', px0 C h' → C = "java/lang/IndexOutOfBoundsException") : CtH G l 12 mcc msc M_L_counts hh_counts [.ref x, .int p0, .int p1, .ref o] h (fun v h' => px0 "java/lang/IndexOutOfBoundsException" h' ∧ v = some (.int 1)) := by
  refine CtH.of (by decide +kernel) (Nat.le_of_ble_eq_true rfl) (fun E hE X R9 T9 => ?_)
  have X : Gc G E "ComplaintDeskLaw" cL_counts 5 12 mcc msc := X
  obtain ⟨fs9, hx9⟩ := hx
  show GW G E _ 5 0 [(0, _), (1, _), (2, _), (3, _)] [] _ 0 0
  refine g_aload_n X dL_counts_0 3 rfl ?_
  refine g_iconst X (v := 0) dL_counts_1 ki_0 ?_
  refine g_aload_n X dL_counts_2 0 rfl ?_
  refine g_iload_n X dL_counts_3 1 rfl ?_
  refine g_iload_n X dL_counts_4 2 rfl ?_
  refine g_catchV (post0 := fun _ _ => False) (px0 := px0) (rest := [.int 0, .ref o]) X T9 ml_L_56 (by rw [hE]; exact hM) ⟨6, _, hx9, rfl⟩ (by omega) rfl rfl (Nat.le_of_ble_eq_true rfl) (Nat.le_of_eq (Nat.zero_add _)) (Nat.le_of_eq (Nat.zero_add _)) dL_counts_5 (fun v9 h9 q9 => q9.elim) (fun C9 h9 q9 => by
      have e9 := hpx C9 h9 q9
      subst e9
      refine ⟨[], ⟨0, 10, 13, 13⟩, [], rfl, fun z hz => absurd hz List.not_mem_nil, by decide, by decide, ⟨"java/lang/IndexOutOfBoundsException", uw_at 282 (by decide +kernel) rfl, cst_Index⟩, fun q0 => ?_⟩
      show GW G E _ 5 13 _ _ _ _ _
      refine g_astore X dL_counts_13 (Nat.le_of_ble_eq_true rfl) [(4, _), (0, _), (1, _), (2, _), (3, _)] rfl ?_
      refine g_iconst X (v := 1) dL_counts_15 ki_1 ?_
      refine g_iretR X R9 rfl dL_counts_16 (Nat.le_of_eq (Nat.zero_add _)) (Nat.le_of_eq (Nat.zero_add _)) ?_
      exact ⟨q9, rfl⟩)
abbrev M_L_wave : gM := (yL_wave, cL_wave, 4, some .int)
abbrev hh_wave : List (Nat × Nat × Nat × Nat) := [(0, 9, 12, 13)]
theorem mlh_wave {E : gE} {cc : ByteArray} {nL lv mc ms pc k n lvc mcc msc : Nat} {Q : State → Prop} {L : List (Nat × Value)} {st : List Value} (X : Gc G E "ComplaintDeskLaw" cc nL lv mc ms) {As rest : List Value} {post : Option Value → hW → Prop} (hM : CtH G E.l lvc mcc msc M_L_wave hh_wave As h post) (hlv : lvc + 1 ≤ lv) (hA : As.length = 3) (hst : st = As.reverse ++ rest) (hW : (rest.map fun v => v.category).sum ≤ 8) (hk : k + mcc ≤ mc) (hn : n + msc ≤ ms) (d : decode cc pc = .ok (.invokestatic 127, 3))
    (K : ∀ v h', post v h' → GW G E Q nL (pc + 3) L (v.toList ++ rest) h' (k + mcc) (n + msc)) : GW G E Q nL pc L st h k n :=
  g_callH X (uw_at 1057 (by decide +kernel) rfl) (uw_at 1059 (by decide +kernel) rfl) (uw_at 49 (by decide +kernel) rfl) ⟨by decide +kernel, by decide +kernel⟩ (by decide +kernel) (by decide) (uw_at 1058 (by decide +kernel) rfl) hM hlv hA hst hW hk hn d K
theorem w_wave {lvc mcc msc : Nat} (x o : Nat) (p0 : Int32) {post0 : Option Value → hW → Prop} {px0 : String → hW → Prop} (hx : ∃ fs, h x = some (ob 6 fs)) (h11 : lvc ≤ 11) (hM : Ct G l lvc mcc msc M_X6_wave [.ref x, .int p0] h post0) (hp0 : ∀ v h1, post0 v h1 → ∃ (r : Int32) (fo : Nat → Int64), v = some (.int r) ∧ h1 o = some (aJ G 1 fo)) : CtH G l 12 mcc msc M_L_wave hh_wave [.ref x, .int p0, .ref o] h (fun v h' => ∃ (r : Int32) (h1 : hW) (fo : Nat → Int64), post0 (some (.int r)) h1 ∧ h1 o = some (aJ G 1 fo) ∧ v = some (.int 0) ∧ h' = hup h1 o (aJ G 1 (vp_updL fo 0 r.toInt64))) := by
  refine CtH.of (by decide +kernel) (Nat.le_of_ble_eq_true rfl) (fun E hE X R9 T9 => ?_)
  have X : Gc G E "ComplaintDeskLaw" cL_wave 4 12 mcc msc := X
  obtain ⟨fs9, hx9⟩ := hx
  show GW G E _ 4 0 [(0, _), (1, _), (2, _)] [] _ 0 0
  refine g_aload_n X dL_wave_0 2 rfl ?_
  refine g_iconst X (v := 0) dL_wave_1 ki_0 ?_
  refine g_aload_n X dL_wave_2 0 rfl ?_
  refine g_iload_n X dL_wave_3 1 rfl ?_
  refine g_catchV (post0 := post0) (px0 := fun _ _ => False) (rest := [.int 0, .ref o]) X T9 ml_L_59 (by rw [hE]; exact hM.toX (px := fun _ _ => False)) ⟨6, _, hx9, rfl⟩ (by omega) rfl rfl (Nat.le_of_ble_eq_true rfl) (Nat.le_of_eq (Nat.zero_add _)) (Nat.le_of_eq (Nat.zero_add _)) dL_wave_4 (fun v9 h9 q9 => ?_) (fun C9 h9 q9 => q9.elim)
  obtain ⟨r9, fo9, rfl, ho9⟩ := hp0 v9 h9 q9
  refine g_st (st' := [.int r9, .int 0, .ref o]) rfl ?_
  refine g_i2l X dL_wave_7 ?_
  refine g_lastore X dL_wave_8 ho9 (by unfold vp_in; decide) ?_
  refine g_goto X 15 dL_wave_9 (by decide) ?_
  refine g_iconst X (v := 0) dL_wave_15 ki_0 ?_
  refine g_iretR X R9 rfl dL_wave_16 (Nat.le_of_eq (Nat.zero_add _)) (Nat.le_of_eq (Nat.zero_add _)) ?_
  exact ⟨r9, h9, fo9, q9, ho9, rfl, rfl⟩
theorem w_wave_1 {lvc mcc msc : Nat} (x o : Nat) (p0 : Int32) {post0 : Option Value → hW → Prop} {px0 : String → hW → Prop} (hx : ∃ fs, h x = some (ob 6 fs)) (h11 : lvc ≤ 11) (hM : CtX G l lvc mcc msc M_X6_wave [.ref x, .int p0] h (fun _ _ => False) px0) (hpx : ∀ C h', px0 C h' → C = "java/lang/IndexOutOfBoundsException") : CtH G l 12 mcc msc M_L_wave hh_wave [.ref x, .int p0, .ref o] h (fun v h' => px0 "java/lang/IndexOutOfBoundsException" h' ∧ v = some (.int 1)) := by
  refine CtH.of (by decide +kernel) (Nat.le_of_ble_eq_true rfl) (fun E hE X R9 T9 => ?_)
  have X : Gc G E "ComplaintDeskLaw" cL_wave 4 12 mcc msc := X
  obtain ⟨fs9, hx9⟩ := hx
  show GW G E _ 4 0 [(0, _), (1, _), (2, _)] [] _ 0 0
  refine g_aload_n X dL_wave_0 2 rfl ?_
  refine g_iconst X (v := 0) dL_wave_1 ki_0 ?_
  refine g_aload_n X dL_wave_2 0 rfl ?_
  refine g_iload_n X dL_wave_3 1 rfl ?_
  refine g_catchV (post0 := fun _ _ => False) (px0 := px0) (rest := [.int 0, .ref o]) X T9 ml_L_59 (by rw [hE]; exact hM) ⟨6, _, hx9, rfl⟩ (by omega) rfl rfl (Nat.le_of_ble_eq_true rfl) (Nat.le_of_eq (Nat.zero_add _)) (Nat.le_of_eq (Nat.zero_add _)) dL_wave_4 (fun v9 h9 q9 => q9.elim) (fun C9 h9 q9 => by
      have e9 := hpx C9 h9 q9
      subst e9
      refine ⟨[], ⟨0, 9, 12, 13⟩, [], rfl, fun z hz => absurd hz List.not_mem_nil, by decide, by decide, ⟨"java/lang/IndexOutOfBoundsException", uw_at 282 (by decide +kernel) rfl, cst_Index⟩, fun q0 => ?_⟩
      show GW G E _ 4 12 _ _ _ _ _
      refine g_astore_n X dL_wave_12 (Nat.le_of_ble_eq_true rfl) [(3, _), (0, _), (1, _), (2, _)] rfl ?_
      refine g_iconst X (v := 1) dL_wave_13 ki_1 ?_
      refine g_iretR X R9 rfl dL_wave_14 (Nat.le_of_eq (Nat.zero_add _)) (Nat.le_of_eq (Nat.zero_add _)) ?_
      exact ⟨q9, rfl⟩)
end Q6
