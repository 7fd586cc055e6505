section K14
variable {G : gG} {l : Launch} {h h0 : hW}
def gX (G : gG) (px : String → hW → Prop) : String → State → State → Prop := fun C st t => (∃ h' : hW, px C h' ∧ gWo G h' t.heap) ∧ va_F (gA G) st t
abbrev gMX (G : gG) (E : gE) (mc ms : Nat) (post : Option Value → hW → Prop) (px : String → hW → Prop) : State → Prop := vx_MQ E.below (gQ G post) (gX G px) E.args E.s mc ms (gA G)
/-- a contract of a method that returns or throws -/
def CtX (G : gG) (l : Launch) (lv mc ms : Nat) (M : gM) (av : List Value) (h : hW) (post : Option Value → hW → Prop) (px : String → hW → Prop) : Prop :=
  vx_Met l M.1 (.code M.1 M.2.1 M.2.2.1 M.2.2.2 :: uw) (gRm lv mc ms) (va_Pc av (fun U => gWo G h U.heap ∧ gOld G U U.heap)) (gQ G post) (gX G px) mc ms (gA G)
theorem CtX.of {lv mc ms : Nat} {M : gM} {av : List Value} {post : Option Value → hW → Prop} {px : String → hW → Prop} (hy : plainName M.1.cls = true) (hlen : (lg_sl av).length ≤ M.2.2.1)
    (body : ∀ E : gE, E.l = l → Gc G E M.1.cls M.2.1 M.2.2.1 lv mc ms → gF E M → GW G E (gMX G E mc ms post px) M.2.2.1 0 (lv_args 0 av) [] h 0 0) : CtX G l lv mc ms M av h post px := by
  refine vx_ofW (cc := M.2.1) (maxL := M.2.2.1) (ret := M.2.2.2) hy rfl ?_
  intro p e s m args below meth c s₁ B hml ht hv
  obtain ⟨rfl, hw, ho⟩ := hv
  have hts := atoms_spec (ws := .code M.1 M.2.1 M.2.2.1 M.2.2.2 :: uw) B.pre
  have hown : s.vm.findClass M.1.cls = some m.cls := findClass_of_methodNamed B.named
  have K := body (p, l, e, (headSpec (.code M.1 M.2.1 M.2.2.1 M.2.2.2 :: uw) (gRm lv mc ms)).room, s, m, av.toArray, below, meth, c) rfl
    ⟨B.exec, B.bytes, hml, hown, fun w hw => hts w (List.mem_cons_of_mem _ hw), ho, B.notSynchronized, Nat.le_refl _, Nat.le_refl _, Nat.le_refl _, Nat.le_refl _⟩
    ⟨B.returns, (name_of_methodNamed B.named B.method).1, ht⟩
  have hl := lv_entry av hlen
  rw [lg_entry_eq]
  exact K s.heap [] _ hw va_S.rf hl
theorem CtX.mono {lv mc ms : Nat} {M : gM} {av : List Value} {post post' : Option Value → hW → Prop} {px px' : String → hW → Prop} (hp : ∀ v h', post v h' → post' v h') (hq : ∀ C h', px C h' → px' C h') (K : CtX G l lv mc ms M av h post px) : CtX G l lv mc ms M av h post' px' := by
  intro p e ha hc hk s m args below hf happ hP hx
  obtain ⟨t, o, b0, b1, b2, hq2⟩ := K p e ha hc hk s m args below hf happ hP hx
  refine ⟨t, o, b0, b1, b2, ?_⟩
  rcases hq2 with ⟨⟨⟨v, h', e1, e2, e3⟩, e4⟩, e5⟩ | ⟨q, e1, C, ce, L, ⟨⟨h', e2, e3⟩, e4⟩, e5⟩
  · exact Or.inl ⟨⟨⟨v, h', e1, hp v h' e2, e3⟩, e4⟩, e5⟩
  · exact Or.inr ⟨q, e1, C, ce, L, ⟨⟨h', hq C h' e2, e3⟩, e4⟩, e5⟩
section XR
variable {E : gE} {own : String} {cc : ByteArray} {nL lv mc ms pc k n : Nat} {Q : State → Prop} {L : List (Nat × Value)} {st : List Value} {mc' ms' : Nat} {M : gM} {post : Option Value → hW → Prop} {px : String → hW → Prop}
theorem g_xr (K : GW G E (gMQ G E mc' ms' post) nL pc L st h k n) : GW G E (gMX G E mc' ms' post px) nL pc L st h k n := fun H locs ls a b c => vx_ret (K H locs ls a b c)
theorem gWo.more {H H1 : Heap} (w : gWo G h H) (hq : ∀ q : Nat, q < H.size → H1[q]? = H[q]?) : gWo G h H1 := by
  obtain ⟨ws, hP, hD, hh⟩ := w
  exact ⟨ws, hP.kept (fun k q hk => hq _ (hP k q hk).lt), hD, hh⟩
/-- behind a call that returns or throws -/
theorem g_xbehind (X : Gc G E own cc nL lv mc ms) (F : gF E M) {lvc mcc msc : Nat} {post0 : Option Value → hW → Prop} {px0 : String → hW → Prop} {rest : List Value} {a : Array Value} {st0 : List Value} {H : Heap} {locs : List Loc} {ls : Array Slot} (hr : vx_Run E.p E.l E.e E.R E.s E.m E.args E.below E.meth E.c H locs k n mcc msc (F0 E.m pc ls st0) rest (gQ G post0 a) (gX G px0) (gA G)) (b : va_S (gA G) E.s.heap H locs) (c : lv_has ls nL L)
    (hpx : ∀ C h', px0 C h' → px C h') (hk : k + mcc ≤ mc') (hn : n + msc ≤ ms')
    (K : ∀ v h', post0 v h' → GW G E (gMX G E mc' ms' post px) nL (pc + 3) L (v.toList ++ rest) h' (k + mcc) (n + msc)) : W E.p E.l E.e E.R E.s E.m E.args E.below E.meth E.c H locs k n (gMX G E mc' ms' post px) (F0 E.m pc ls st0) := by
  intro T hT XT
  have hS : ∀ {st₀ t T' : State} {Ls : List Loc}, st₀.heap = H → T'.heap = t.heap → (∀ q ∈ Ls, gA G q.base) → va_F (gA G) st₀ t → va_S (gA G) E.s.heap T'.heap (locs ++ Ls) := by
    intro st₀ t T' Ls h0 e1 hL hF
    obtain ⟨hz, hk2⟩ := hF
    rw [h0] at hz hk2
    exact ⟨Nat.le_trans b.1 (by rw [e1]; exact hz), fun q h1 h2 => by rw [e1, hk2 q (Nat.lt_of_lt_of_le h1 b.1) h2]; exact b.2.1 q h1 h2, fun q hq => by
      rcases List.mem_append.mp hq with hq | hq
      · exact b.2.2 q hq
      · exact hL q hq⟩
  rcases hr T hT XT with ⟨v, st₀, t, T', Ls, h0, X', hL, e1, e2, ⟨⟨v', h', hv, hp, hw⟩, hF⟩, st⟩ | ⟨q, st₀, t, T', Ls, C, ce, h0, X', hL, e1, e2, ⟨⟨h', hp, hw⟩, hF⟩, hce, hcv, hcl, st⟩
  · cases hv
    obtain ⟨t2, a1, b1⟩ := K v h' hp T'.heap (locs ++ Ls) ls (by rw [e1]; exact hw) (hS h0 e1 hL hF) c T' rfl X'
    exact ⟨t2, st t2 a1, b1⟩
  · have b' := hS h0 e1 hL hF
    obtain ⟨t2, a1, b1⟩ := vx_out (Qc := gQ G post) (XC := gX G px) (pc := pc) (ls := ls) (rest := rest) (mc := mc') (ms := ms') (free := gA G) (H := T'.heap) (fun x hx => (F.2.2 x hx).elim) X.2.2.2.2.2.2.1 (by rw [e1]; exact hce) hcv hcl
      (fun t3 ht3 _ => ⟨⟨h', hpx C h' hp, by rw [ht3, e1]; exact hw⟩, b'.F ht3⟩) b'.2.2 hk hn T' rfl X'
    exact ⟨t2, st.trans a1, b1⟩
theorem g_xV (X : Gc G E own cc nL lv mc ms) (F : gF E M) {idx nA lvc mcc msc : Nat} {M0 : gM} (ml : MLv own idx M0 nA) {b : Nat} {As rest : List Value} {post0 : Option Value → hW → Prop} {px0 : String → hW → Prop} (hM : CtX G E.l lvc mcc msc M0 (.ref b :: As) h post0 px0) (hb : ∃ ci fs, h b = some (ob ci fs) ∧ (vwCl[ci]?).map (·.1) = some M0.1.cls) (hpx : ∀ C h', px0 C h' → px C h') (hlv : lvc + 1 ≤ lv) (hA : As.length = nA) (hst : st = As.reverse ++ .ref b :: rest) (hW : (rest.map fun v => v.category).sum ≤ 8) (hk : k + mcc ≤ mc) (hn : n + msc ≤ ms) (hk2 : k + mcc ≤ mc') (hn2 : n + msc ≤ ms') (d : decode cc pc = .ok (.invokevirtual idx, 3))
    (K : ∀ v h', post0 v h' → GW G E (gMX G E mc' ms' post px) nL (pc + 3) L (v.toList ++ rest) h' (k + mcc) (n + msc)) : GW G E (gMX G E mc' ms' post px) nL pc L st h k n := by
  intro H locs ls w bb c
  obtain ⟨ci, fs, hb1, hb2⟩ := hb
  have r := X.2.2.2.2.2.2.2.2.2
  have hc : ∃ q : vw_C, vwCl[ci]? = some q ∧ q.1 = M0.1.cls := by
    cases hq : vwCl[ci]? with
    | none => rw [hq] at hb2; cases hb2
    | some q => rw [hq] at hb2; exact ⟨q, rfl, Option.some.inj hb2⟩
  obtain ⟨q, hq1, hq2⟩ := hc
  have hrec := va_recv X.2.2.2.2.2.1.2.1 (w.one hb1) hq1 (q0 := 0) rfl
  rw [hq2] at hrec
  exact g_xbehind X F (lvc := lvc) (vx_runV (As := As) (rest := rest) ⟨X.1, X.2.1, X.2.2.1, X.2.2.2.1, X.2.2.2.2.1⟩ hM ⟨g_callB X ml.1 hlv, X.2.2.2.2.1 _ ml.2.1, X.2.2.2.2.1 _ ml.2.2⟩ ⟨g_blind, hrec, g_pre X w bb _⟩ rfl hA c.1 hst (lv_room hW) d ⟨Nat.le_trans hk r.1, Nat.le_trans hn r.2⟩) bb c hpx hk2 hn2 K
theorem g_xS (X : Gc G E own cc nL lv mc ms) (F : gF E M) {idx nA lvc mcc msc : Nat} {M0 : gM} (ml : MLs own idx M0 nA) {As rest : List Value} {post0 : Option Value → hW → Prop} {px0 : String → hW → Prop} (hM : CtX G E.l lvc mcc msc M0 As h post0 px0) (hpx : ∀ C h', px0 C h' → px C h') (hlv : lvc + 1 ≤ lv) (hA : As.length = nA) (hst : st = As.reverse ++ rest) (hW : (rest.map fun v => v.category).sum ≤ 8) (hk : k + mcc ≤ mc) (hn : n + msc ≤ ms) (hk2 : k + mcc ≤ mc') (hn2 : n + msc ≤ ms') (d : decode cc pc = .ok (.invokestatic idx, 3))
    (K : ∀ v h', post0 v h' → GW G E (gMX G E mc' ms' post px) nL (pc + 3) L (v.toList ++ rest) h' (k + mcc) (n + msc)) : GW G E (gMX G E mc' ms' post px) nL pc L st h k n := by
  intro H locs ls w bb c
  have r := X.2.2.2.2.2.2.2.2.2
  exact g_xbehind X F (lvc := lvc) (vx_runS (As := As) (rest := rest) ⟨X.1, X.2.1, X.2.2.1, X.2.2.2.1, X.2.2.2.2.1⟩ hM ⟨g_callB X ml.1 hlv, X.2.2.2.2.1 _ ml.2⟩ ⟨g_blind, g_pre X w bb _⟩ rfl hA c.1 hst (lv_room hW) d ⟨Nat.le_trans hk r.1, Nat.le_trans hn r.2⟩) bb c hpx hk2 hn2 K
/-- the words of 'throw new cls(text)' -/
abbrev thN : List String := ["java/lang/RuntimeException", "java/lang/Exception"]
def ThR (own cls text : String) (ik is ic : Nat) : Prop := Bundle.fit cls = true ∧ Cond.classLink own ik cls ∈ uw ∧ Cond.initialized cls ∈ uw ∧ (own, is, text) ∈ gStr ∧ (∀ w ∈ vx_atS own ic cls thN, w ∈ lw_tbl) ∧ (vx_atS own ic cls thN).all (fun w => goodWord w || (gWst w && w.onTables)) = true ∧ (Cond.classLink own ik cls :: Cond.initialized cls :: vx_atS own ic cls thN).all vx_ot = true
theorem gOld.sr {u : State} {H : Heap} (o : gOld G u H) : ∀ q ∈ gStr, ∃ a, vk_R q.1 q.2.1 q.2.2 a u := o.2.2.2.1
theorem g_throwS (X : Gc G E own cc nL lv mc ms) (F : gF E M) (hl : E.l.stackTraces = false) {cls text : String} {ik is ic : Nat} (R : ThR own cls text ik is ic)
    (d0 : decode cc pc = .ok (.new ik, 3)) (d3 : decode cc (pc + 3) = .ok (.dup, 1)) (d4 : decode cc (pc + 4) = .ok (.ldc is, 2)) (d6 : decode cc (pc + 6) = .ok (.invokespecial ic, 3)) (d9 : decode cc (pc + 9) = .ok (.athrow, 1))
    (hlv : 6 ≤ lv) (hk : k + 1 ≤ mc) (hn : n + 6 ≤ ms) (hk2 : k + 1 ≤ mc') (hn2 : n + 6 ≤ ms') (hp : px cls h) : GW G E (gMX G E mc' ms' post px) nL pc L [] h k n := by
  intro H locs ls w b c
  obtain ⟨r1, r2, r3, r4, r5, r6, r7⟩ := R
  have r := X.2.2.2.2.2.2.2
  obtain ⟨sa, hsa⟩ := gOld.sr X.2.2.2.2.2.1 _ r4
  refine vx_throwS X.1 X.2.1 hl (names := thN) X.2.2.2.1 r1 (by decide +kernel) (X.2.2.2.2.1 _ r2) (X.2.2.2.2.1 _ r3) hsa (fun z hz => ?_) (fun z hz => List.all_eq_true.mp r7 z hz) X.2.2.2.2.2.1.2.2.1.1 X.2.2.2.2.2.1.2.2.1.2 b (c.1.trans X.2.2.1.symm) d0 d3 d4 d6 d9 (fun x hx => (F.2.2 x hx).elim) ?_ ?_ (Nat.le_trans hk r.2.2.1) (Nat.le_trans hn r.2.2.2) X.2.2.2.2.2.2.1
    (fun t hv hz hq => ⟨⟨h, hp, w.more hq⟩, Nat.le_trans b.1 hz, fun q h1 h2 => by rw [hq q (Nat.lt_of_lt_of_le h1 b.1)]; exact b.2.1 q h1 h2⟩) b.2.2 hk2 hn2
  · have h1 := List.all_eq_true.mp r6 z hz
    simp only [Bool.or_eq_true, Bool.and_eq_true] at h1
    rcases h1 with g | ⟨g1, g2⟩
    · exact X.2.2.2.2.1 _ (List.mem_filter.mpr ⟨r5 z hz, g⟩)
    · exact va_Nw.use g2 (X.old.nw z (r5 z hz) g1)
  · have := r.1
    show 2 + 3 < E.R.frames
    omega
  · have := r.2.1
    show 0 + (13 * (2 + 1) + 43) ≤ E.R.locals
    omega
theorem thr_m {Ls : List Cond} (ps : List Nat) (hz : Ls = ps.filterMap (fun i => lw_tbl[i]?)) : ∀ w ∈ Ls, w ∈ lw_tbl := by
  intro w hw
  rw [hz] at hw
  obtain ⟨i, -, hi⟩ := List.mem_filterMap.mp hw
  exact List.mem_of_getElem? hi
end XR
theorem thr_m_X6_85 : ∀ w ∈ vx_atS "ComplaintDesk" 85 "java/lang/IllegalArgumentException" thN, w ∈ lw_tbl := thr_m [57, 319, 328, 333, 336, 338, 320, 321, 87, 88, 322, 327, 334, 354, 309, 355, 311, 356, 313, 323, 325, 315, 350, 351, 353, 315, 381, 382, 383, 344, 301, 344, 345, 346, 347, 303, 347, 348, 349, 350, 305, 380, 371, 372, 373, 330, 374, 375, 376, 377, 318, 317, 378] (by decide +kernel)
theorem thr_g_X6_85 : (vx_atS "ComplaintDesk" 85 "java/lang/IllegalArgumentException" thN).all (fun w => goodWord w || (gWst w && w.onTables)) = true := by decide +kernel
theorem thr_o_X6_85 : (Cond.classLink "ComplaintDesk" 81 "java/lang/IllegalArgumentException" :: Cond.initialized "java/lang/IllegalArgumentException" :: vx_atS "ComplaintDesk" 85 "java/lang/IllegalArgumentException" thN).all vx_ot = true := by decide +kernel
theorem thr_i_X6_85 : Cond.initialized "java/lang/IllegalArgumentException" ∈ uw := uw_at 63 (by decide +kernel) rfl
theorem thr_X6_85_248 : ThR "ComplaintDesk" "java/lang/IllegalArgumentException" "no such cause" 81 248 85 := ⟨by decide +kernel, cl_X6_81, thr_i_X6_85, by decide +kernel, thr_m_X6_85, thr_g_X6_85, thr_o_X6_85⟩
theorem thr_X6_85_253 : ThR "ComplaintDesk" "java/lang/IllegalArgumentException" "no such desk" 81 253 85 := ⟨by decide +kernel, cl_X6_81, thr_i_X6_85, by decide +kernel, thr_m_X6_85, thr_g_X6_85, thr_o_X6_85⟩
theorem thr_X6_85_83 : ThR "ComplaintDesk" "java/lang/IllegalArgumentException" "no days" 81 83 85 := ⟨by decide +kernel, cl_X6_81, thr_i_X6_85, by decide +kernel, thr_m_X6_85, thr_g_X6_85, thr_o_X6_85⟩
theorem thr_X6_85_125 : ThR "ComplaintDesk" "java/lang/IllegalArgumentException" "the text is wrong" 81 125 85 := ⟨by decide +kernel, cl_X6_81, thr_i_X6_85, by decide +kernel, thr_m_X6_85, thr_g_X6_85, thr_o_X6_85⟩
theorem thr_X6_85_98 : ThR "ComplaintDesk" "java/lang/IllegalArgumentException" "no more causes" 81 98 85 := ⟨by decide +kernel, cl_X6_81, thr_i_X6_85, by decide +kernel, thr_m_X6_85, thr_g_X6_85, thr_o_X6_85⟩
theorem thr_X6_85_117 : ThR "ComplaintDesk" "java/lang/IllegalArgumentException" "no writer" 81 117 85 := ⟨by decide +kernel, cl_X6_81, thr_i_X6_85, by decide +kernel, thr_m_X6_85, thr_g_X6_85, thr_o_X6_85⟩
theorem thr_X6_85_127 : ThR "ComplaintDesk" "java/lang/IllegalArgumentException" "no more letters" 81 127 85 := ⟨by decide +kernel, cl_X6_81, thr_i_X6_85, by decide +kernel, thr_m_X6_85, thr_g_X6_85, thr_o_X6_85⟩
theorem thr_X6_85_158 : ThR "ComplaintDesk" "java/lang/IllegalArgumentException" "no hours" 81 158 85 := ⟨by decide +kernel, cl_X6_81, thr_i_X6_85, by decide +kernel, thr_m_X6_85, thr_g_X6_85, thr_o_X6_85⟩
theorem thr_X6_85_251 : ThR "ComplaintDesk" "java/lang/IllegalArgumentException" "no such letter" 81 251 85 := ⟨by decide +kernel, cl_X6_81, thr_i_X6_85, by decide +kernel, thr_m_X6_85, thr_g_X6_85, thr_o_X6_85⟩
theorem thr_X6_85_200 : ThR "ComplaintDesk" "java/lang/IllegalArgumentException" "nothing else is told of a point" 81 200 85 := ⟨by decide +kernel, cl_X6_81, thr_i_X6_85, by decide +kernel, thr_m_X6_85, thr_g_X6_85, thr_o_X6_85⟩
theorem thr_X6_85_213 : ThR "ComplaintDesk" "java/lang/IllegalArgumentException" "nothing else is told of a letter" 81 213 85 := ⟨by decide +kernel, cl_X6_81, thr_i_X6_85, by decide +kernel, thr_m_X6_85, thr_g_X6_85, thr_o_X6_85⟩
theorem thr_X6_85_231 : ThR "ComplaintDesk" "java/lang/IllegalArgumentException" "bits of no cause, or none" 81 231 85 := ⟨by decide +kernel, cl_X6_81, thr_i_X6_85, by decide +kernel, thr_m_X6_85, thr_g_X6_85, thr_o_X6_85⟩
theorem thr_m_X6_250 : ∀ w ∈ vx_atS "ComplaintDesk" 250 "java/lang/IndexOutOfBoundsException" thN, w ∈ lw_tbl := thr_m [57, 319, 328, 333, 336, 338, 320, 321, 87, 88, 322, 327, 334, 354, 309, 355, 311, 356, 313, 323, 325, 315, 350, 351, 353, 315, 341, 342, 343, 344, 301, 344, 345, 346, 347, 303, 347, 348, 349, 350, 305, 340, 298, 299, 306, 307, 308, 310, 312, 314, 318, 317, 316] (by decide +kernel)
theorem thr_g_X6_250 : (vx_atS "ComplaintDesk" 250 "java/lang/IndexOutOfBoundsException" thN).all (fun w => goodWord w || (gWst w && w.onTables)) = true := by decide +kernel
theorem thr_o_X6_250 : (Cond.classLink "ComplaintDesk" 246 "java/lang/IndexOutOfBoundsException" :: Cond.initialized "java/lang/IndexOutOfBoundsException" :: vx_atS "ComplaintDesk" 250 "java/lang/IndexOutOfBoundsException" thN).all vx_ot = true := by decide +kernel
theorem thr_i_X6_250 : Cond.initialized "java/lang/IndexOutOfBoundsException" ∈ uw := uw_at 60 (by decide +kernel) rfl
theorem thr_X6_250_248 : ThR "ComplaintDesk" "java/lang/IndexOutOfBoundsException" "no such cause" 246 248 250 := ⟨by decide +kernel, cl_X6_246, thr_i_X6_250, by decide +kernel, thr_m_X6_250, thr_g_X6_250, thr_o_X6_250⟩
theorem thr_X6_250_253 : ThR "ComplaintDesk" "java/lang/IndexOutOfBoundsException" "no such desk" 246 253 250 := ⟨by decide +kernel, cl_X6_246, thr_i_X6_250, by decide +kernel, thr_m_X6_250, thr_g_X6_250, thr_o_X6_250⟩
theorem thr_X6_250_83 : ThR "ComplaintDesk" "java/lang/IndexOutOfBoundsException" "no days" 246 83 250 := ⟨by decide +kernel, cl_X6_246, thr_i_X6_250, by decide +kernel, thr_m_X6_250, thr_g_X6_250, thr_o_X6_250⟩
theorem thr_X6_250_125 : ThR "ComplaintDesk" "java/lang/IndexOutOfBoundsException" "the text is wrong" 246 125 250 := ⟨by decide +kernel, cl_X6_246, thr_i_X6_250, by decide +kernel, thr_m_X6_250, thr_g_X6_250, thr_o_X6_250⟩
theorem thr_X6_250_98 : ThR "ComplaintDesk" "java/lang/IndexOutOfBoundsException" "no more causes" 246 98 250 := ⟨by decide +kernel, cl_X6_246, thr_i_X6_250, by decide +kernel, thr_m_X6_250, thr_g_X6_250, thr_o_X6_250⟩
theorem thr_X6_250_117 : ThR "ComplaintDesk" "java/lang/IndexOutOfBoundsException" "no writer" 246 117 250 := ⟨by decide +kernel, cl_X6_246, thr_i_X6_250, by decide +kernel, thr_m_X6_250, thr_g_X6_250, thr_o_X6_250⟩
theorem thr_X6_250_127 : ThR "ComplaintDesk" "java/lang/IndexOutOfBoundsException" "no more letters" 246 127 250 := ⟨by decide +kernel, cl_X6_246, thr_i_X6_250, by decide +kernel, thr_m_X6_250, thr_g_X6_250, thr_o_X6_250⟩
theorem thr_X6_250_158 : ThR "ComplaintDesk" "java/lang/IndexOutOfBoundsException" "no hours" 246 158 250 := ⟨by decide +kernel, cl_X6_246, thr_i_X6_250, by decide +kernel, thr_m_X6_250, thr_g_X6_250, thr_o_X6_250⟩
theorem thr_X6_250_251 : ThR "ComplaintDesk" "java/lang/IndexOutOfBoundsException" "no such letter" 246 251 250 := ⟨by decide +kernel, cl_X6_246, thr_i_X6_250, by decide +kernel, thr_m_X6_250, thr_g_X6_250, thr_o_X6_250⟩
theorem thr_X6_250_200 : ThR "ComplaintDesk" "java/lang/IndexOutOfBoundsException" "nothing else is told of a point" 246 200 250 := ⟨by decide +kernel, cl_X6_246, thr_i_X6_250, by decide +kernel, thr_m_X6_250, thr_g_X6_250, thr_o_X6_250⟩
theorem thr_X6_250_213 : ThR "ComplaintDesk" "java/lang/IndexOutOfBoundsException" "nothing else is told of a letter" 246 213 250 := ⟨by decide +kernel, cl_X6_246, thr_i_X6_250, by decide +kernel, thr_m_X6_250, thr_g_X6_250, thr_o_X6_250⟩
theorem thr_X6_250_231 : ThR "ComplaintDesk" "java/lang/IndexOutOfBoundsException" "bits of no cause, or none" 246 231 250 := ⟨by decide +kernel, cl_X6_246, thr_i_X6_250, by decide +kernel, thr_m_X6_250, thr_g_X6_250, thr_o_X6_250⟩
theorem thr_m_X6_100 : ∀ w ∈ vx_atS "ComplaintDesk" 100 "java/lang/UnsupportedOperationException" thN, w ∈ lw_tbl := thr_m [57, 319, 328, 333, 336, 338, 320, 321, 87, 88, 322, 327, 334, 354, 309, 355, 311, 356, 313, 323, 325, 315, 350, 351, 353, 315, 483, 484, 485, 344, 301, 344, 345, 346, 347, 303, 347, 348, 349, 350, 305, 482, 473, 474, 475, 331, 476, 477, 478, 479, 318, 317, 480] (by decide +kernel)
theorem thr_g_X6_100 : (vx_atS "ComplaintDesk" 100 "java/lang/UnsupportedOperationException" thN).all (fun w => goodWord w || (gWst w && w.onTables)) = true := by decide +kernel
theorem thr_o_X6_100 : (Cond.classLink "ComplaintDesk" 96 "java/lang/UnsupportedOperationException" :: Cond.initialized "java/lang/UnsupportedOperationException" :: vx_atS "ComplaintDesk" 100 "java/lang/UnsupportedOperationException" thN).all vx_ot = true := by decide +kernel
theorem thr_i_X6_100 : Cond.initialized "java/lang/UnsupportedOperationException" ∈ uw := uw_at 68 (by decide +kernel) rfl
theorem thr_X6_100_248 : ThR "ComplaintDesk" "java/lang/UnsupportedOperationException" "no such cause" 96 248 100 := ⟨by decide +kernel, cl_X6_96, thr_i_X6_100, by decide +kernel, thr_m_X6_100, thr_g_X6_100, thr_o_X6_100⟩
theorem thr_X6_100_253 : ThR "ComplaintDesk" "java/lang/UnsupportedOperationException" "no such desk" 96 253 100 := ⟨by decide +kernel, cl_X6_96, thr_i_X6_100, by decide +kernel, thr_m_X6_100, thr_g_X6_100, thr_o_X6_100⟩
theorem thr_X6_100_83 : ThR "ComplaintDesk" "java/lang/UnsupportedOperationException" "no days" 96 83 100 := ⟨by decide +kernel, cl_X6_96, thr_i_X6_100, by decide +kernel, thr_m_X6_100, thr_g_X6_100, thr_o_X6_100⟩
theorem thr_X6_100_125 : ThR "ComplaintDesk" "java/lang/UnsupportedOperationException" "the text is wrong" 96 125 100 := ⟨by decide +kernel, cl_X6_96, thr_i_X6_100, by decide +kernel, thr_m_X6_100, thr_g_X6_100, thr_o_X6_100⟩
theorem thr_X6_100_98 : ThR "ComplaintDesk" "java/lang/UnsupportedOperationException" "no more causes" 96 98 100 := ⟨by decide +kernel, cl_X6_96, thr_i_X6_100, by decide +kernel, thr_m_X6_100, thr_g_X6_100, thr_o_X6_100⟩
theorem thr_X6_100_117 : ThR "ComplaintDesk" "java/lang/UnsupportedOperationException" "no writer" 96 117 100 := ⟨by decide +kernel, cl_X6_96, thr_i_X6_100, by decide +kernel, thr_m_X6_100, thr_g_X6_100, thr_o_X6_100⟩
theorem thr_X6_100_127 : ThR "ComplaintDesk" "java/lang/UnsupportedOperationException" "no more letters" 96 127 100 := ⟨by decide +kernel, cl_X6_96, thr_i_X6_100, by decide +kernel, thr_m_X6_100, thr_g_X6_100, thr_o_X6_100⟩
theorem thr_X6_100_158 : ThR "ComplaintDesk" "java/lang/UnsupportedOperationException" "no hours" 96 158 100 := ⟨by decide +kernel, cl_X6_96, thr_i_X6_100, by decide +kernel, thr_m_X6_100, thr_g_X6_100, thr_o_X6_100⟩
theorem thr_X6_100_251 : ThR "ComplaintDesk" "java/lang/UnsupportedOperationException" "no such letter" 96 251 100 := ⟨by decide +kernel, cl_X6_96, thr_i_X6_100, by decide +kernel, thr_m_X6_100, thr_g_X6_100, thr_o_X6_100⟩
theorem thr_X6_100_200 : ThR "ComplaintDesk" "java/lang/UnsupportedOperationException" "nothing else is told of a point" 96 200 100 := ⟨by decide +kernel, cl_X6_96, thr_i_X6_100, by decide +kernel, thr_m_X6_100, thr_g_X6_100, thr_o_X6_100⟩
theorem thr_X6_100_213 : ThR "ComplaintDesk" "java/lang/UnsupportedOperationException" "nothing else is told of a letter" 96 213 100 := ⟨by decide +kernel, cl_X6_96, thr_i_X6_100, by decide +kernel, thr_m_X6_100, thr_g_X6_100, thr_o_X6_100⟩
theorem thr_X6_100_231 : ThR "ComplaintDesk" "java/lang/UnsupportedOperationException" "bits of no cause, or none" 96 231 100 := ⟨by decide +kernel, cl_X6_96, thr_i_X6_100, by decide +kernel, thr_m_X6_100, thr_g_X6_100, thr_o_X6_100⟩
theorem thr_m_X1_72 : ∀ w ∈ vx_atS "ComplaintDesk$Letter" 72 "java/lang/IndexOutOfBoundsException" thN, w ∈ lw_tbl := thr_m [57, 319, 328, 333, 336, 338, 320, 321, 87, 88, 322, 327, 334, 354, 309, 355, 311, 356, 313, 323, 325, 315, 350, 351, 353, 315, 341, 342, 343, 344, 301, 344, 345, 346, 347, 303, 347, 348, 349, 350, 305, 953, 298, 299, 306, 307, 308, 310, 312, 314, 318, 317, 316] (by decide +kernel)
theorem thr_g_X1_72 : (vx_atS "ComplaintDesk$Letter" 72 "java/lang/IndexOutOfBoundsException" thN).all (fun w => goodWord w || (gWst w && w.onTables)) = true := by decide +kernel
theorem thr_o_X1_72 : (Cond.classLink "ComplaintDesk$Letter" 68 "java/lang/IndexOutOfBoundsException" :: Cond.initialized "java/lang/IndexOutOfBoundsException" :: vx_atS "ComplaintDesk$Letter" 72 "java/lang/IndexOutOfBoundsException" thN).all vx_ot = true := by decide +kernel
theorem thr_i_X1_72 : Cond.initialized "java/lang/IndexOutOfBoundsException" ∈ uw := uw_at 60 (by decide +kernel) rfl
theorem thr_X1_72_70 : ThR "ComplaintDesk$Letter" "java/lang/IndexOutOfBoundsException" "no such point" 68 70 72 := ⟨by decide +kernel, cl_X1_68, thr_i_X1_72, by decide +kernel, thr_m_X1_72, thr_g_X1_72, thr_o_X1_72⟩
end K14
