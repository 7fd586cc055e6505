section J2
variable {G : gG} {l : Launch} {h : hW}
section ObjRows
variable {E : gE} {own : String} {cc : ByteArray} {nL lv mc ms pc k n : Nat} {Q : State → Prop} {L : List (Nat × Value)} {st : List Value}
theorem gOld.nw {u : State} {H : Heap} (o : gOld G u H) : ∀ w ∈ lw_tbl, gWst w = true → va_Nw w u := o.2.2.2.2.2.2.2.2.2.2.2.1
theorem gOld.ao {u : State} {H : Heap} (o : gOld G u H) : va_AO "java/lang/Object" u := o.2.2.2.2.2.2.2.2.2.2.1.2.2
theorem gOld.mi {u : State} {H : Heap} (o : gOld G u H) : va_Mi "[Ljava/lang/Object;" (G.2.2.2.1 4) u := o.2.2.2.2.2.2.2.2.2.2.1.1
theorem gOld.dc {u : State} {H : Heap} (o : gOld G u H) : va_Dc u := o.2.2.2.2.2.2.2.2.2.2.1.2.1
theorem gOld.ez {u : State} {H : Heap} (o : gOld G u H) : va_Z "java/util/ArrayList" "DEFAULTCAPACITY_EMPTY_ELEMENTDATA" "[Ljava/lang/Object;" (.ref (G.2.2.2.1 3)) (gA G) u H := o.2.2.2.2.2.2.1
theorem gOld.et {u : State} {H : Heap} (o : gOld G u H) : va_T (.object "java/lang/Object") (G.2.2.2.1 3) 0 (fun _ => .null) (gA G) u H := o.2.2.2.2.2.2.2.1
theorem hup_up {q : Nat} {e e' : va_E} : hup (hup h q e) q e' = hup h q e' := by
  funext b
  unfold hup
  split <;> rfl
theorem hup_self {q : Nat} {e : va_E} (he : h q = some e) : hup h q e = h := by
  funext b
  unfold hup
  split
  · rename_i hb; rw [hb, he]
  · rfl
theorem g_newq (X : Gc G E own cc nL lv mc ms) {idx N : Nat} {z : Int32} (hcl : Cond.classLink own idx "java/lang/Object" ∈ uw) (hz : ¬ z < 0) (hN : z.toNatClampNeg = N) (hbytes : N * 4 ≤ 536870912) (hk : k + 1 ≤ mc) (hn : n + N ≤ ms) (d : decode cc pc = .ok (.anewarray idx, 3))
    (K : ∀ q : Nat, h q = none → gA G q → GW G E Q nL (pc + 3) L (.ref q :: st) (hup h q (aO G N (fun _ => none))) (k + 1) (n + N)) : GW G E Q nL pc L (.int z :: st) h k n := by
  intro H locs ls w b c
  obtain ⟨ws, hP, hD, hh⟩ := w
  have hR := X.2.2.2.2.2.2.2.2.2
  have hK0 := X.2.2.2.2.2.1.2.1
  refine va_newq X.1 X.2.1 X.2.2.2.1 (X.2.2.2.2.1 _ hcl) X.old.ao hK0 hP hD b (fun q hq => Nat.le_trans X.2.2.2.2.2.1.1 hq) hz hN hbytes (Nat.le_trans hk hR.1) (Nat.le_trans hn hR.2) d (fun q cB H1 p0 p1 p2 p3 => ?_)
  have e : cB = G.2.1 4 := by
    have q1 := (hK0.2 4 _ rfl).2
    have q2 := (p0.2 (gTys G).length (cB, .object "java/lang/Object") (by rw [List.getElem?_append_right (Nat.le_refl _), Nat.sub_self]; rfl)).2
    obtain ⟨_, _, _, _, _, r1⟩ := q1
    obtain ⟨_, _, _, _, _, r2⟩ := q2
    exact Option.some.inj (r2.symm.trans r1)
  subst e
  have hs := gpush_spec p2 hh
  exact K q hs.1 (p2.2 _ _ (show (ws ++ [(q, _)])[ws.length]? = some _ by rw [List.getElem?_append_right (Nat.le_refl _), Nat.sub_self]; rfl)) H1 locs ls ⟨_, p1, p2, hs.2⟩ p3 c
/-- an object that a list may hold -/
def gEl (h : hW) (y : Nat) : Prop := ∃ (ci : Nat) (fs : List Value) (r : vw_C), h y = some (ob ci fs) ∧ vwCl[ci]? = some r ∧ Cond.castable r.1 "java/lang/Object" ∈ lw_tbl
theorem gEl.any (X : Gc G E own cc nL lv mc ms) {H : Heap} (w : gWo G h H) {y : Nat} (e : gEl h y) : va_Any "java/lang/Object" E.s H y := by
  obtain ⟨ci, fs, r, h1, h2, h3⟩ := e
  exact va_rAny X.2.2.2.2.2.1.2.1 (w.one h1) (q0 := 0) rfl h2 (vb_asgC (X.old.nw _ h3 rfl))
theorem g_astq (X : Gc G E own cc nL lv mc ms) {a v n' : Nat} {f : Nat → Option Nat} {i : Int32} (d : decode cc pc = .ok (.aastore, 1)) (ha : h a = some (aO G n' f)) (hv : gEl h v) (hi : vp_in i n') (K : GW G E Q nL (pc + 1) L st (hup h a (aO G n' (va_up f i.toNatClampNeg (some v)))) k n) : GW G E Q nL pc L (.ref v :: .int i :: .ref a :: st) h k n := by
  intro H locs ls w b c
  have hr := hv.any X w
  obtain ⟨ws, hP, hD, hh⟩ := w
  obtain ⟨j, hj⟩ := List.getElem?_of_mem ((hh a _).mp ha)
  exact va_astqM X.1 X.2.1 X.2.2.2.2.2.1.2.1 hP hD b j 4 hj rfl hr hi d (fun H1 locs1 p1 p2 p3 => K H1 locs1 ls ⟨_, p1, p2, gset_spec hD hh hj⟩ p3 c)
theorem ac_n : Cond.native arraycopyName ∈ uw := uw_at 453 (by decide +kernel) rfl
theorem ac_s : Cond.static arraycopyName ∈ uw := uw_at 452 (by decide +kernel) rfl
theorem ac_i : Cond.initialized "java/lang/System" ∈ uw := uw_at 67 (by decide +kernel) rfl
theorem ac_l : Cond.methodLink "java/util/Arrays" 150 arraycopyName ∈ uw := uw_at 451 (by decide +kernel) rfl
theorem g_copyq (X : Gc G E own cc nL lv mc ms) {idx a0 a n0 n1 : Nat} {f g : Nat → Option Nat} {sp dp z : Int32} (hl : Cond.methodLink own idx arraycopyName ∈ uw) (ha0 : h a0 = some (aO G n0 f)) (ha : h a = some (aO G n1 g)) (h1 : ¬ sp < 0) (h2 : ¬ dp < 0) (h3 : ¬ z < 0) (h4 : sp.toNatClampNeg + z.toNatClampNeg ≤ n0) (h5 : dp.toNatClampNeg + z.toNatClampNeg ≤ n1) (hel : ∀ i : Nat, i < z.toNatClampNeg → ∀ y : Nat, f (sp.toNatClampNeg + i) = some y → gEl h y) (hlv : 1 ≤ lv) (hW : (st.map fun v => v.category).sum ≤ 8) (d : decode cc pc = .ok (.invokestatic idx, 3))
    (K : GW G E Q nL (pc + 3) L st (hup h a (aO G n1 (va_cpy f g sp.toNatClampNeg dp.toNatClampNeg z.toNatClampNeg))) k n) : GW G E Q nL pc L (.int z :: .int dp :: .ref a :: .int sp :: .ref a0 :: st) h k n := by
  intro H locs ls w b c
  have r := X.2.2.2.2.2.2.2
  have hel2 : ∀ i : Nat, i < z.toNatClampNeg → ∀ y : Nat, f (sp.toNatClampNeg + i) = some y → va_Any "java/lang/Object" E.s H y := fun i hi y hy => (hel i hi y hy).any X w
  obtain ⟨ws, hP, hD, hh⟩ := w
  obtain ⟨j0, hj0⟩ := List.getElem?_of_mem ((hh a0 _).mp ha0)
  obtain ⟨j, hj⟩ := List.getElem?_of_mem ((hh a _).mp ha)
  refine va_copyM X.1 X.2.1 (X.2.2.1.trans c.1.symm) X.2.2.2.1 (X.2.2.2.2.1 _ hl) (X.2.2.2.2.1 _ ac_n) (X.2.2.2.2.1 _ ac_s) (X.2.2.2.2.1 _ ac_i) X.2.2.2.2.2.1.2.1 hP hD b j0 j 4 4 hj0 hj rfl rfl h1 h2 h3 h4 h5 hel2 (Nat.le_trans hlv r.1) ?_ d (fun H1 locs1 p1 p2 p3 => K H1 locs1 ls ⟨_, p1, p2, gset_spec hD hh hj⟩ p3 c)
  have := r.2.1
  have e : nativeFrameWords "java/lang/System" "arraycopy" 5 + 11 ≤ 80 := by decide
  omega
theorem g_copyi (X : Gc G E own cc nL lv mc ms) {idx a0 a n0 n1 : Nat} {f g : Nat → Int32} {sp dp z : Int32} (hl : Cond.methodLink own idx arraycopyName ∈ uw) (ha0 : h a0 = some (aI G n0 f)) (ha : h a = some (aI G n1 g)) (h1 : ¬ sp < 0) (h2 : ¬ dp < 0) (h3 : ¬ z < 0) (h4 : sp.toNatClampNeg + z.toNatClampNeg ≤ n0) (h5 : dp.toNatClampNeg + z.toNatClampNeg ≤ n1) (hlv : 1 ≤ lv) (hW : (st.map fun v => v.category).sum ≤ 8) (d : decode cc pc = .ok (.invokestatic idx, 3))
    (K : GW G E Q nL (pc + 3) L st (hup h a (aI G n1 (va_cpy f g sp.toNatClampNeg dp.toNatClampNeg z.toNatClampNeg))) k n) : GW G E Q nL pc L (.int z :: .int dp :: .ref a :: .int sp :: .ref a0 :: st) h k n := by
  intro H locs ls w b c
  have r := X.2.2.2.2.2.2.2
  obtain ⟨ws, hP, hD, hh⟩ := w
  obtain ⟨j0, hj0⟩ := List.getElem?_of_mem ((hh a0 _).mp ha0)
  obtain ⟨j, hj⟩ := List.getElem?_of_mem ((hh a _).mp ha)
  refine va_copyi X.1 X.2.1 (X.2.2.1.trans c.1.symm) X.2.2.2.1 (X.2.2.2.2.1 _ hl) (X.2.2.2.2.1 _ ac_n) (X.2.2.2.2.1 _ ac_s) (X.2.2.2.2.1 _ ac_i) X.2.2.2.2.2.1.2.1 hP hD b j0 j 0 0 hj0 hj rfl rfl rfl h1 h2 h3 h4 h5 (fun _ _ => rfl) (Nat.le_trans hlv r.1) ?_ d (fun H1 locs1 p1 p2 p3 => K H1 locs1 ls ⟨_, p1, p2, gset_spec hD hh hj⟩ p3 c)
  have := r.2.1
  have e : nativeFrameWords "java/lang/System" "arraycopy" 5 + 11 ≤ 80 := by decide
  omega
theorem g_copyl (X : Gc G E own cc nL lv mc ms) {idx a0 a n0 n1 : Nat} {f g : Nat → Int64} {sp dp z : Int32} (hl : Cond.methodLink own idx arraycopyName ∈ uw) (ha0 : h a0 = some (aJ G n0 f)) (ha : h a = some (aJ G n1 g)) (h1 : ¬ sp < 0) (h2 : ¬ dp < 0) (h3 : ¬ z < 0) (h4 : sp.toNatClampNeg + z.toNatClampNeg ≤ n0) (h5 : dp.toNatClampNeg + z.toNatClampNeg ≤ n1) (hlv : 1 ≤ lv) (hW : (st.map fun v => v.category).sum ≤ 8) (d : decode cc pc = .ok (.invokestatic idx, 3))
    (K : GW G E Q nL (pc + 3) L st (hup h a (aJ G n1 (va_cpy f g sp.toNatClampNeg dp.toNatClampNeg z.toNatClampNeg))) k n) : GW G E Q nL pc L (.int z :: .int dp :: .ref a :: .int sp :: .ref a0 :: st) h k n := by
  intro H locs ls w b c
  have r := X.2.2.2.2.2.2.2
  obtain ⟨ws, hP, hD, hh⟩ := w
  obtain ⟨j0, hj0⟩ := List.getElem?_of_mem ((hh a0 _).mp ha0)
  obtain ⟨j, hj⟩ := List.getElem?_of_mem ((hh a _).mp ha)
  refine va_copyl X.1 X.2.1 (X.2.2.1.trans c.1.symm) X.2.2.2.1 (X.2.2.2.2.1 _ hl) (X.2.2.2.2.1 _ ac_n) (X.2.2.2.2.1 _ ac_s) (X.2.2.2.2.1 _ ac_i) X.2.2.2.2.2.1.2.1 hP hD b j0 j 2 2 hj0 hj rfl rfl rfl h1 h2 h3 h4 h5 (fun _ _ => rfl) (Nat.le_trans hlv r.1) ?_ d (fun H1 locs1 p1 p2 p3 => K H1 locs1 ls ⟨_, p1, p2, gset_spec hD hh hj⟩ p3 c)
  have := r.2.1
  have e : nativeFrameWords "java/lang/System" "arraycopy" 5 + 11 ≤ 80 := by decide
  omega
theorem mm_i : Cond.initialized "java/lang/Math" ∈ uw := uw_at 66 (by decide +kernel) rfl
theorem mm_mins : Cond.static Lib.Math.min.name ∈ uw := uw_at 449 (by decide +kernel) rfl
theorem mm_minc : Cond.code Lib.Math.min.name Lib.Math.min.code 2 (some .int) ∈ uw := uw_at 450 (by decide +kernel) rfl
theorem g_mmin (X : Gc G E own cc nL lv mc ms) {idx : Nat} {x y : Int32} (hl : Cond.methodLink own idx Lib.Math.min.name ∈ uw) (hlv : 1 ≤ lv) (hW : (st.map fun v => v.category).sum ≤ 8) (hk : k ≤ mc) (hn : n ≤ ms) (d : decode cc pc = .ok (.invokestatic idx, 3)) (K : GW G E Q nL (pc + 3) L (.int (if y < x then y else x) :: st) h k n) : GW G E Q nL pc L (.int y :: .int x :: st) h k n := by
  intro H locs ls w b c
  have r := X.2.2.2.2.2.2.2
  refine va_mmin X.1 X.2.1 (X.2.2.1.trans c.1.symm) X.2.2.2.1 (X.2.2.2.2.1 _ hl) (X.2.2.2.2.1 _ mm_mins) (X.2.2.2.2.1 _ mm_i) (X.2.2.2.2.1 _ mm_minc) (Nat.le_trans hlv r.1) ?_ (Nat.le_trans hk r.2.2.1) (Nat.le_trans hn r.2.2.2) d (K H locs ls w b c)
  have := r.2.1
  omega
theorem mm_X6_218 : Cond.methodLink "ComplaintDesk" 218 Lib.Math.min.name ∈ uw := uw_at 1022 (by decide +kernel) rfl
theorem mm_AR_304 : Cond.methodLink "java/util/Arrays" 304 Lib.Math.min.name ∈ uw := uw_at 448 (by decide +kernel) rfl
theorem mm_maxs : Cond.static Lib.Math.max.name ∈ uw := uw_at 539 (by decide +kernel) rfl
theorem mm_maxc : Cond.code Lib.Math.max.name Lib.Math.max.code 2 (some .int) ∈ uw := uw_at 540 (by decide +kernel) rfl
theorem g_mmax (X : Gc G E own cc nL lv mc ms) {idx : Nat} {x y : Int32} (hl : Cond.methodLink own idx Lib.Math.max.name ∈ uw) (hlv : 1 ≤ lv) (hW : (st.map fun v => v.category).sum ≤ 8) (hk : k ≤ mc) (hn : n ≤ ms) (d : decode cc pc = .ok (.invokestatic idx, 3)) (K : GW G E Q nL (pc + 3) L (.int (if x < y then y else x) :: st) h k n) : GW G E Q nL pc L (.int y :: .int x :: st) h k n := by
  intro H locs ls w b c
  have r := X.2.2.2.2.2.2.2
  refine va_mmax X.1 X.2.1 (X.2.2.1.trans c.1.symm) X.2.2.2.1 (X.2.2.2.2.1 _ hl) (X.2.2.2.2.1 _ mm_maxs) (X.2.2.2.2.1 _ mm_i) (X.2.2.2.2.1 _ mm_maxc) (Nat.le_trans hlv r.1) ?_ (Nat.le_trans hk r.2.2.1) (Nat.le_trans hn r.2.2.2) d (K H locs ls w b c)
  have := r.2.1
  omega
theorem mm_AL_79 : Cond.methodLink "java/util/ArrayList" 79 Lib.Math.max.name ∈ uw := uw_at 573 (by decide +kernel) rfl
theorem mm_AS_194 : Cond.methodLink "jdk/internal/util/ArraysSupport" 194 Lib.Math.max.name ∈ uw := uw_at 538 (by decide +kernel) rfl
theorem fp_ABL_7 : FL "java/util/AbstractList" 7 8 0 .int false := ⟨RJx4a65c, TJx4a65c, 3, tyJx4a65c, ck8, by decide, uw_at 164 (by decide +kernel) rfl, rfl, by decide +kernel, fun h => by cases h⟩
theorem sf_mod : Cond.sameField "java/util/ArrayList" "java/util/AbstractList" "modCount" "I" ∈ uw := uw_at 166 (by decide +kernel) rfl
theorem fk_AL_63 : Cond.fieldLink "java/util/ArrayList" 63 "java/util/ArrayList" "modCount" "I" ∈ uw := uw_at 165 (by decide +kernel) rfl
theorem fk_AL_39 : Cond.fieldLink "java/util/ArrayList" 39 "java/util/ArrayList" "DEFAULTCAPACITY_EMPTY_ELEMENTDATA" "[Ljava/lang/Object;" ∈ uw := uw_at 160 (by decide +kernel) rfl
theorem g_getmod (X : Gc G E "java/util/ArrayList" cc nL lv mc ms) {a : Nat} {fs : List Value} {v : Value} (d : decode cc pc = .ok (.getfield 63, 3)) (ha : h a = some (ob 8 fs)) (hv : fs[0]? = some v) (K : GW G E Q nL (pc + 3) L (v :: st) h k n) : GW G E Q nL pc L (.ref a :: st) h k n := by
  intro H locs ls w b c
  obtain ⟨c1, c2, c3, c4⟩ := ck8
  exact va_get (C := RJx4a65c) (T := TJx4a65c) (N := 3) (ref := "java/util/ArrayList") X.1 X.2.1 (Ts := uw) X.2.2.2.2.1 c2 X.2.2.2.1 X.2.2.2.2.2.1.2.1 (w.one ha) 0 rfl c1 0 (by decide) (X.2.2.2.2.1 _ fk_AL_63) (u_same (X.2.2.2.2.1 _ sf_mod)) hv d (K H locs ls w b c)
theorem g_putmod (X : Gc G E "java/util/ArrayList" cc nL lv mc ms) {a : Nat} {fs : List Value} {v : Value} (d : decode cc pc = .ok (.putfield 63, 3)) (ha : h a = some (ob 8 fs)) (hl : 0 < fs.length) (hn : narrow .int v = v) (hf : fits .int v = true) (K : GW G E Q nL (pc + 3) L st (hup h a (ob 8 (fs.set 0 v))) k n) : GW G E Q nL pc L (v :: .ref a :: st) h k n := by
  intro H locs ls w b c
  obtain ⟨c1, c2, c3, c4⟩ := ck8
  obtain ⟨ws, hP, hD, hh⟩ := w
  obtain ⟨i, hi⟩ := List.getElem?_of_mem ((hh a _).mp ha)
  exact va_put (C := RJx4a65c) (T := TJx4a65c) (N := 3) (ref := "java/util/ArrayList") X.1 X.2.1 (Ts := uw) X.2.2.2.2.1 c2 tyJx4a65c c3 c4 X.2.2.2.1 X.2.2.2.2.2.1.2.1 hP hD b i hi c1 0 (by decide) (X.2.2.2.2.1 _ fk_AL_63) (u_same (X.2.2.2.2.1 _ sf_mod)) rfl (by decide +kernel) hn hf hl d (fun H1 locs1 p1 p2 p3 => K H1 locs1 ls ⟨_, p1, p2, gset_spec hD hh hi⟩ p3 c)
end ObjRows
abbrev mxF (x y : Int32) : Int32 := if x < y then y else x
abbrev mnF (x y : Int32) : Int32 := if y < x then y else x
theorem mxF_n {a b : Nat} (ha : a < 2 ^ 31) (hb : b < 2 ^ 31) : mxF (nI a) (nI b) = nI (max a b) := by
  by_cases hq : a < b
  · rw [show mxF (nI a) (nI b) = nI b from if_pos ((nI_ltI ha hb).mpr hq), Nat.max_eq_right (by omega)]
  · rw [show mxF (nI a) (nI b) = nI a from if_neg (fun z => hq ((nI_ltI ha hb).mp z)), Nat.max_eq_left (by omega)]
theorem mnF_n {a b : Nat} (ha : a < 2 ^ 31) (hb : b < 2 ^ 31) : mnF (nI a) (nI b) = nI (min a b) := by
  by_cases hq : b < a
  · rw [show mnF (nI a) (nI b) = nI b from if_pos ((nI_ltI hb ha).mpr hq), Nat.min_eq_right (by omega)]
  · rw [show mnF (nI a) (nI b) = nI a from if_neg (fun z => hq ((nI_ltI hb ha).mp z)), Nat.min_eq_left (by omega)]
theorem c_J8_newLength_cabcc (a g p : Nat) (ha : a ≤ 500) (hg : 1 ≤ g) (hg5 : g ≤ 500) (hp : p ≤ 500) : Ct G l 1 0 0 M_J8_newLength_cabcc [.int (nI a), .int (nI g), .int (nI p)] h (rX (some (.int (nI (a + max g p)))) h) := by
  refine Ct.of (by decide +kernel) (Nat.le_of_ble_eq_true rfl) (fun E hE X F => ?_)
  have X : Gc G E "jdk/internal/util/ArraysSupport" cJ8_newLength_cabcc 4 1 0 0 := X
  show GW G E _ 4 0 [(0, _), (1, _), (2, _)] [] _ 0 0
  refine g_iload_n X dJ8_newLength_cabcc_0 0 rfl ?_
  refine g_iload_n X dJ8_newLength_cabcc_1 1 rfl ?_
  refine g_iload_n X dJ8_newLength_cabcc_2 2 rfl ?_
  refine g_mmax X mm_AS_194 (Nat.le_of_ble_eq_true rfl) (Nat.le_of_ble_eq_true rfl) (Nat.zero_le _) (Nat.zero_le _) dJ8_newLength_cabcc_3 ?_
  refine g_eqi (y := nI (max g p)) (mxF_n (by omega) (by omega)) ?_
  refine g_iadd X dJ8_newLength_cabcc_6 ?_
  refine g_eqi (y := nI (a + max g p)) (nI_add _ _) ?_
  refine g_istore_n X dJ8_newLength_cabcc_7 (Nat.le_of_ble_eq_true rfl) [(3, _), (0, _), (1, _), (2, _)] rfl ?_
  refine g_iconst X (v := 0) dJ8_newLength_cabcc_8 ki_0 ?_
  refine g_iload_n X dJ8_newLength_cabcc_9 0 rfl ?_
  refine g_icmp_ge X 21 dJ8_newLength_cabcc_10 (by decide) (fun c_10 => absurd ((nI_leI (by omega) (b := 0) (by decide)).mp c_10) (by omega)) (fun c_10 => ?_)
  refine g_iload_n X dJ8_newLength_cabcc_13 0 rfl ?_
  refine g_ldc X dJ8_newLength_cabcc_14 con_AS_200 ?_
  refine g_icmp_gt X 21 dJ8_newLength_cabcc_16 (by decide) (fun c_16 => absurd ((nI_ltI (a := 2147483639) (by decide) (by omega)).mp c_16) (by omega)) (fun c_16 => ?_)
  refine g_iload_n X dJ8_newLength_cabcc_19 0 rfl ?_
  refine g_iret X F rfl rfl dJ8_newLength_cabcc_20 (Nat.zero_le _) (Nat.zero_le _) ?_
  exact ⟨rfl, rfl⟩
theorem c_J15_checkIndex_7cf53 (j N : Nat) (hj : j < N) (hN : N < 2 ^ 31) : Ct G l 1 0 0 M_J15_checkIndex_7cf53 [.int (nI j), .int (nI N)] h (rX (some (.int (nI j))) h) := by
  refine Ct.of (by decide +kernel) (Nat.le_of_ble_eq_true rfl) (fun E hE X F => ?_)
  have X : Gc G E "java/util/Objects" cJ15_checkIndex_7cf53 2 1 0 0 := X
  show GW G E _ 2 0 [(0, _), (1, _)] [] _ 0 0
  refine g_iload_n X dJ15_checkIndex_7cf53_0 0 rfl ?_
  refine g_iload_n X dJ15_checkIndex_7cf53_1 1 rfl ?_
  refine g_null X dJ15_checkIndex_7cf53_2 ?_
  refine g_cS X ml_OBJ_105 (c_J3_checkIndex_8e157 j N hj hN _ (Or.inl rfl)) (Nat.le_of_ble_eq_true rfl) rfl rfl (Nat.le_of_ble_eq_true rfl) (Nat.zero_le _) (Nat.zero_le _) dJ15_checkIndex_7cf53_3 ?_
  refine g_iret X F rfl rfl dJ15_checkIndex_7cf53_6 (Nat.zero_le _) (Nat.zero_le _) ?_
  exact ⟨rfl, rfl⟩
theorem c_Jx4a65c_size_8abf5 (q e N : Nat) (x0 : Int32) (hq : h q = some (ob 8 [.int x0, .ref e, .int (nI N)])) : Ct G l 0 0 0 M_Jx4a65c_size_8abf5 [.ref q] h (rX (some (.int (nI N))) h) := by
  refine Ct.of (by decide +kernel) (Nat.le_of_ble_eq_true rfl) (fun E hE X F => ?_)
  have X : Gc G E "java/util/ArrayList" cJx4a65c_size_8abf5 1 0 0 0 := X
  show GW G E _ 1 0 [(0, _)] [] _ 0 0
  refine g_aload_n X dJx4a65c_size_8abf5_0 0 rfl ?_
  refine g_getfield X fl_AL_48 dJx4a65c_size_8abf5_1 (by assumption) rfl ?_
  refine g_iret X F rfl rfl dJx4a65c_size_8abf5_4 (Nat.zero_le _) (Nat.zero_le _) ?_
  exact ⟨rfl, rfl⟩
theorem c_Jx4a65c_elementData_915e3 (q e N N1 i y : Nat) (f : Nat → Option Nat) (x0 : Int32) (hq : h q = some (ob 8 [.int x0, .ref e, .int (nI N)])) (he : h e = some (aO G N1 f)) (hi : i < N1) (hN1 : N1 < 2 ^ 31) (hy : f i = some y) : Ct G l 0 0 0 M_Jx4a65c_elementData_915e3 [.ref q, .int (nI i)] h (rX (some (.ref y)) h) := by
  refine Ct.of (by decide +kernel) (Nat.le_of_ble_eq_true rfl) (fun E hE X F => ?_)
  have X : Gc G E "java/util/ArrayList" cJx4a65c_elementData_915e3 2 0 0 0 := X
  show GW G E _ 2 0 [(0, _), (1, _)] [] _ 0 0
  refine g_aload_n X dJx4a65c_elementData_915e3_0 0 rfl ?_
  refine g_getfield X fl_AL_9 dJx4a65c_elementData_915e3_1 (by assumption) rfl ?_
  refine g_iload_n X dJx4a65c_elementData_915e3_4 1 rfl ?_
  refine g_aaload X dJx4a65c_elementData_915e3_5 he (vp_in_nI hi (by omega)) ?_
  refine g_st (st' := [.ref y]) (by rw [nI_clamp (by omega), hy]; rfl) ?_
  refine g_aret X F rfl (Or.inl ⟨_, rfl⟩) (Or.inr ⟨_, rfl⟩) dJx4a65c_elementData_915e3_6 (Nat.zero_le _) (Nat.zero_le _) ?_
  exact ⟨rfl, rfl⟩
theorem c_Jx4a65c_get_915e3 (q e N N1 i y : Nat) (f : Nat → Option Nat) (x0 : Int32) (hq : h q = some (ob 8 [.int x0, .ref e, .int (nI N)])) (he : h e = some (aO G N1 f)) (hi : i < N) (hN : N ≤ N1) (hN1 : N1 < 2 ^ 31) (hy : f i = some y) : Ct G l 2 0 0 M_Jx4a65c_get_915e3 [.ref q, .int (nI i)] h (rX (some (.ref y)) h) := by
  refine Ct.of (by decide +kernel) (Nat.le_of_ble_eq_true rfl) (fun E hE X F => ?_)
  have X : Gc G E "java/util/ArrayList" cJx4a65c_get_915e3 2 2 0 0 := X
  show GW G E _ 2 0 [(0, _), (1, _)] [] _ 0 0
  refine g_iload_n X dJx4a65c_get_915e3_0 1 rfl ?_
  refine g_aload_n X dJx4a65c_get_915e3_1 0 rfl ?_
  refine g_getfield X fl_AL_48 dJx4a65c_get_915e3_2 (by assumption) rfl ?_
  refine g_cS X ml_AL_118 (c_J15_checkIndex_7cf53 i N hi (by omega)) (Nat.le_of_ble_eq_true rfl) rfl rfl (Nat.le_of_ble_eq_true rfl) (Nat.zero_le _) (Nat.zero_le _) dJx4a65c_get_915e3_5 ?_
  refine g_pop X dJx4a65c_get_915e3_8 rfl ?_
  refine g_aload_n X dJx4a65c_get_915e3_9 0 rfl ?_
  refine g_iload_n X dJx4a65c_get_915e3_10 1 rfl ?_
  refine g_cV X ml_AL_123 (c_Jx4a65c_elementData_915e3 q e N N1 i y f x0 hq he (by omega) hN1 hy) ⟨8, _, hq, rfl⟩ (Nat.le_of_ble_eq_true rfl) rfl rfl (Nat.le_of_ble_eq_true rfl) (Nat.zero_le _) (Nat.zero_le _) dJx4a65c_get_915e3_11 ?_
  refine g_aret X F rfl (Or.inl ⟨_, rfl⟩) (Or.inr ⟨_, rfl⟩) dJx4a65c_get_915e3_14 (Nat.zero_le _) (Nat.zero_le _) ?_
  exact ⟨rfl, rfl⟩
theorem c_Jxa1e45_init_da8c8 (q : Nat) : Ct G l 1 0 0 M_Jxa1e45_init_da8c8 [.ref q] h (rX none h) := by
  refine Ct.of (by decide +kernel) (Nat.le_of_ble_eq_true rfl) (fun E hE X F => ?_)
  have X : Gc G E "java/util/AbstractCollection" cJxa1e45_init_da8c8 1 1 0 0 := X
  show GW G E _ 1 0 [(0, _)] [] _ 0 0
  refine g_aload_n X dJxa1e45_init_da8c8_0 0 rfl ?_
  refine g_objI X ol_ABC_1 (Nat.le_of_ble_eq_true rfl) (Nat.le_of_ble_eq_true rfl) dJxa1e45_init_da8c8_1 ?_
  refine g_ret0 X F rfl dJxa1e45_init_da8c8_4 (Nat.zero_le _) (Nat.zero_le _) ?_
  exact ⟨rfl, rfl⟩
theorem c_Jxc12de_init_da8c8 (q : Nat) (hq : h q = some (ob 8 [.int 0, .null, .int 0])) : Ct G l 2 0 0 M_Jxc12de_init_da8c8 [.ref q] h (rX none h) := by
  refine Ct.of (by decide +kernel) (Nat.le_of_ble_eq_true rfl) (fun E hE X F => ?_)
  have X : Gc G E "java/util/AbstractList" cJxc12de_init_da8c8 1 2 0 0 := X
  show GW G E _ 1 0 [(0, _)] [] _ 0 0
  refine g_aload_n X dJxc12de_init_da8c8_0 0 rfl ?_
  refine g_cI0 X ml_ABL_1 rfl (c_Jxa1e45_init_da8c8 q) (Nat.le_of_ble_eq_true rfl) rfl rfl (Nat.le_of_ble_eq_true rfl) (Nat.zero_le _) (Nat.zero_le _) dJxc12de_init_da8c8_1 ?_
  refine g_aload_n X dJxc12de_init_da8c8_4 0 rfl ?_
  refine g_iconst X (v := 0) dJxc12de_init_da8c8_5 ki_0 ?_
  refine g_putfield X fp_ABL_7 dJxc12de_init_da8c8_6 (by assumption) (Nat.le_of_ble_eq_true rfl) rfl rfl _ rfl ?_
  refine g_ret0 X F rfl dJxc12de_init_da8c8_9 (Nat.zero_le _) (Nat.zero_le _) ?_
  exact ⟨rfl, hup_self hq⟩
theorem c_Jx4a65c_init_da8c8 (q : Nat) (hq : h q = some (ob 8 [.int 0, .null, .int 0])) : Ct G l 3 0 0 M_Jx4a65c_init_da8c8 [.ref q] h (rX none (hup h q (ob 8 [.int 0, .ref (G.2.2.2.1 3), .int 0]))) := by
  refine Ct.of (by decide +kernel) (Nat.le_of_ble_eq_true rfl) (fun E hE X F => ?_)
  have X : Gc G E "java/util/ArrayList" cJx4a65c_init_da8c8 1 3 0 0 := X
  show GW G E _ 1 0 [(0, _)] [] _ 0 0
  refine g_aload_n X dJx4a65c_init_da8c8_0 0 rfl ?_
  refine g_cI0 X ml_AL_1 rfl (c_Jxc12de_init_da8c8 q hq) (Nat.le_of_ble_eq_true rfl) rfl rfl (Nat.le_of_ble_eq_true rfl) (Nat.zero_le _) (Nat.zero_le _) dJx4a65c_init_da8c8_1 ?_
  refine g_aload_n X dJx4a65c_init_da8c8_4 0 rfl ?_
  refine g_getstatic X X.old.ez fk_AL_39 dJx4a65c_init_da8c8_5 ?_
  refine g_putfield X fp_AL_9 dJx4a65c_init_da8c8_8 (by assumption) (Nat.le_of_ble_eq_true rfl) rfl rfl _ rfl ?_
  refine g_ret0 X F rfl dJx4a65c_init_da8c8_11 (Nat.zero_le _) (Nat.zero_le _) ?_
  exact ⟨rfl, rfl⟩
theorem fl_s {f : Nat → Int32} {v : Int32} {k : Nat} : upd (fun i => if i < k then v else f i) k v = fun i => if i < k + 1 then v else f i := by
  funext i
  unfold upd
  by_cases hz : i = k
  · rw [if_pos hz, if_pos (by omega)]
  · rw [if_neg hz]
    show (if i < k then v else f i) = _
    by_cases hy : i < k
    · rw [if_pos hy, if_pos (by omega)]
    · rw [if_neg hy, if_neg (by omega)]
theorem lp_J7_fill_53178_5 {E : gE} (X : Gc G E "java/util/Arrays" cJ7_fill_53178 4 0 0 0) (F : gF E M_J7_fill_53178) (a N : Nat) (v : Int32) (f : Nat → Int32) (hN : N < 2 ^ 31) (ha : h a = some (aI G N f))  : ∀ (f9 : Nat) (k : Nat), k ≤ N → N - k < f9 → GW G E (gMQ G E 0 0 (rX none (hup h a (aI G N (fun i => if i < N then v else f i))))) 4 5 [(0, .ref a), (1, .int v), (2, .int (nI k)), (3, .int (nI N))] [] (hup h a (aI G N (fun i => if i < k then v else f i))) 0 0 := by
  intro f9
  induction f9 with
  | zero => intro k hk hf; exact absurd hf (Nat.not_lt_zero _)
  | succ f9 ih =>
    intro k hk hf
    refine g_iload_n X dJ7_fill_53178_5 2 rfl ?_
    refine g_iload_n X dJ7_fill_53178_6 3 rfl ?_
    refine g_icmp_ge X 20 dJ7_fill_53178_7 (by decide) (fun c_7 => ?_) (fun c_7 => ?_)
    · have hqe : k = N := by have := (nI_leI (by omega) (by omega)).mp c_7; omega
      subst hqe
      refine g_ret0 X F rfl dJ7_fill_53178_20 (Nat.zero_le _) (Nat.zero_le _) ?_
      exact ⟨rfl, rfl⟩
    · have hqe : k < N := (nI_ltI (by omega) (by omega)).mp (Int32.not_le.mp c_7)
      refine g_aload_n X dJ7_fill_53178_10 0 rfl ?_
      refine g_iload_n X dJ7_fill_53178_11 2 rfl ?_
      refine g_iload_n X dJ7_fill_53178_12 1 rfl ?_
      refine g_iastore X dJ7_fill_53178_13 hup_s (vp_in_nI (by omega) (by omega)) ?_
      refine g_iinc X (v := nI (k + 1)) dJ7_fill_53178_14 2 rfl (nI_1 k) (Nat.le_of_ble_eq_true rfl) [(2, _), (0, _), (1, _), (3, _)] rfl ?_
      refine g_goto X 5 dJ7_fill_53178_17 (by decide) ?_
      refine g_L [1, 2, 0, 3] (L' := [(0, _), (1, _), (2, _), (3, _)]) rfl ?_
      refine g_h (h' := (hup h a (aI G N (fun i => if i < (k + 1) then v else f i)))) (by rw [hup_up, nI_clamp (by omega), fl_s]) ?_
      exact ih (k + 1) (by omega) (by omega)
theorem c_J7_fill_53178 (a N : Nat) (v : Int32) (f : Nat → Int32) (hN : N < 2 ^ 31) (ha : h a = some (aI G N f))  : Ct G l 0 0 0 M_J7_fill_53178 [.ref a, .int v] h (rX none (hup h a (aI G N (fun i => if i < N then v else f i)))) := by
  refine Ct.of (by decide +kernel) (Nat.le_of_ble_eq_true rfl) (fun E hE X F => ?_)
  have X : Gc G E "java/util/Arrays" cJ7_fill_53178 4 0 0 0 := X
  show GW G E _ 4 0 [(0, _), (1, _)] [] _ 0 0
  refine g_iconst X (v := 0) dJ7_fill_53178_0 ki_0 ?_
  refine g_istore_n X dJ7_fill_53178_1 (Nat.le_of_ble_eq_true rfl) [(2, _), (0, _), (1, _)] rfl ?_
  refine g_aload_n X dJ7_fill_53178_2 1 rfl ?_
  refine g_alen X dJ7_fill_53178_3 (t := 0) rfl ha (nI N) rfl ?_
  refine g_istore_n X dJ7_fill_53178_4 (Nat.le_of_ble_eq_true rfl) [(3, _), (2, _), (0, _), (1, _)] rfl ?_
  refine g_L [2, 3, 1, 0] (L' := [(0, _), (1, _), (2, _), (3, _)]) rfl ?_
  refine g_h (h' := (hup h a (aI G N (fun i => if i < 0 then v else f i)))) (by rw [show (fun i => if i < 0 then v else f i) = f from funext fun i => if_neg (Nat.not_lt_zero i), hup_self ha]) ?_
  exact lp_J7_fill_53178_5 X F a N v f hN ha (N + 1) 0 (Nat.zero_le _) (by omega)
end J2
