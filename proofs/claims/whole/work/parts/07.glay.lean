/-! THE G LAYER: an abstract heap as a function from addresses to things; one goal form GW; a row an instruction -/
abbrev hW : Type := Nat → Option va_E
def hup (h : hW) (a : Nat) (e : va_E) : hW := fun b => if b = a then some e else h b
theorem hup_s {h : hW} {a : Nat} {e : va_E} : hup h a e a = some e := by simp [hup]
theorem hup_n {h : hW} {a b : Nat} {e : va_E} (n : b ≠ a) : hup h a e b = h b := by simp [hup, n]
/-- the claim's constants: the classes' numbers, the array classes, the first new address, the old cells' addresses -/
abbrev gG : Type := va_G × (Nat → ClassId) × Nat × (Nat → Nat) × (Nat → Nat)
abbrev gA (G : gG) : Nat → Prop := fun q => G.2.2.1 ≤ q
def gTys (G : gG) : List (ClassId × FieldType) := [(G.2.1 0, .int), (G.2.1 1, .byte), (G.2.1 2, .long), (G.2.1 3, .boolean), (G.2.1 4, .object "java/lang/Object")]
abbrev aI (G : gG) (n : Nat) (f : Nat → Int32) : va_E := .inl (G.2.1 0, (n, .inl f))
abbrev aB (G : gG) (n : Nat) (f : Nat → Int32) : va_E := .inl (G.2.1 1, (n, .inl f))
abbrev aJ (G : gG) (n : Nat) (f : Nat → Int64) : va_E := .inl (G.2.1 2, (n, .inr (.inl f)))
abbrev aZ (G : gG) (n : Nat) (f : Nat → Int32) : va_E := .inl (G.2.1 3, (n, .inl f))
abbrev aO (G : gG) (n : Nat) (f : Nat → Option Nat) : va_E := .inl (G.2.1 4, (n, .inr (.inr (.inr (.inr f)))))
abbrev ob (ci : Nat) (fs : List Value) : va_E := .inr (ci, fs)
def gWo (G : gG) (h : hW) (H : Heap) : Prop := ∃ ws : va_W, va_P G.1 vwCl ws H ∧ va_D (gA G) ws ∧ ∀ (a : Nat) (e : va_E), h a = some e ↔ (a, e) ∈ ws
theorem gWo.one {G : gG} {h : hW} {H : Heap} (w : gWo G h H) {a : Nat} {e : va_E} (ha : h a = some e) : va_P G.1 vwCl [(a, e)] H := by
  obtain ⟨ws, hP, hD, hh⟩ := w
  obtain ⟨i, hi⟩ := List.getElem?_of_mem ((hh a e).mp ha)
  intro k q hk
  cases k with
  | zero => cases hk; exact hP i _ hi
  | succ k => simp at hk
theorem gWo.lt {G : gG} {h : hW} {H : Heap} (w : gWo G h H) {a : Nat} {e : va_E} (ha : h a = some e) : a < H.size := (w.one ha 0 _ rfl).lt
theorem gWo.inA {G : gG} {h : hW} {H : Heap} (w : gWo G h H) {a : Nat} {e : va_E} (ha : h a = some e) : gA G a := by
  obtain ⟨ws, hP, hD, hh⟩ := w
  obtain ⟨i, hi⟩ := List.getElem?_of_mem ((hh a e).mp ha)
  exact hD.2 i _ hi
theorem gset_spec {ws : va_W} {A : Nat → Prop} {h : hW} (hD : va_D A ws) (hh : ∀ (a : Nat) (e : va_E), h a = some e ↔ (a, e) ∈ ws) {i a : Nat} {e0 e1 : va_E} (hi : ws[i]? = some (a, e0)) (b : Nat) (e : va_E) : hup h a e1 b = some e ↔ (b, e) ∈ ws.set i (a, e1) := by
  have hl := (List.getElem?_eq_some_iff.mp hi).1
  unfold hup
  constructor
  · intro q
    by_cases hb : b = a
    · rw [if_pos hb] at q
      cases q
      subst hb
      exact List.mem_of_getElem? (i := i) (List.getElem?_set_self hl)
    · rw [if_neg hb] at q
      obtain ⟨j, hj⟩ := List.getElem?_of_mem ((hh b e).mp q)
      have hij : i ≠ j := by
        intro z
        subst z
        rw [hi] at hj
        cases hj
        exact hb rfl
      exact List.mem_of_getElem? (i := j) (by rw [List.getElem?_set_ne hij]; exact hj)
  · intro q
    obtain ⟨j, hj⟩ := List.getElem?_of_mem q
    by_cases hij : i = j
    · subst hij
      rw [List.getElem?_set_self hl] at hj
      cases hj
      rw [if_pos rfl]
    · rw [List.getElem?_set_ne hij] at hj
      have hb : b ≠ a := fun z => hij (hD.1 i j _ _ hi hj z.symm)
      rw [if_neg hb]
      exact (hh b e).mpr (List.mem_of_getElem? hj)
theorem gpush_spec {ws : va_W} {A : Nat → Prop} {h : hW} {q : Nat} {e0 : va_E} (hD : va_D A (ws ++ [(q, e0)])) (hh : ∀ (a : Nat) (e : va_E), h a = some e ↔ (a, e) ∈ ws) : h q = none ∧ ∀ (b : Nat) (e : va_E), hup h q e0 b = some e ↔ (b, e) ∈ ws ++ [(q, e0)] := by
  have hn : h q = none := by
    cases hq : h q with
    | none => rfl
    | some e =>
      obtain ⟨j, hj⟩ := List.getElem?_of_mem ((hh q e).mp hq)
      have hl := (List.getElem?_eq_some_iff.mp hj).1
      have h1 : (ws ++ [(q, e0)])[j]? = some (q, e) := by rw [List.getElem?_append_left hl]; exact hj
      have h2 : (ws ++ [(q, e0)])[ws.length]? = some (q, e0) := by rw [List.getElem?_append_right (Nat.le_refl _), Nat.sub_self]; rfl
      have := hD.1 _ _ _ _ h1 h2 rfl
      omega
  refine ⟨hn, fun b e => ?_⟩
  unfold hup
  rw [List.mem_append, List.mem_singleton]
  by_cases hb : b = q
  · subst hb
    rw [if_pos rfl]
    constructor
    · intro z; cases z; exact Or.inr rfl
    · rintro (z | z)
      · rw [(hh b e).mpr z] at hn; cases hn
      · cases z; rfl
  · rw [if_neg hb, hh b e]
    constructor
    · exact Or.inl
    · rintro (z | z)
      · exact z
      · cases z; exact absurd rfl hb
/-- what the old cells hold, and what the tables say, as long as nothing old is written -/
def gStr : List (String × Nat × String) := [("ComplaintDesk", 117, "no writer"), ("ComplaintDesk", 125, "the text is wrong"), ("ComplaintDesk", 127, "no more letters"), ("ComplaintDesk", 158, "no hours"), ("ComplaintDesk", 200, "nothing else is told of a point"), ("ComplaintDesk", 213, "nothing else is told of a letter"), ("ComplaintDesk", 231, "bits of no cause, or none"), ("ComplaintDesk", 248, "no such cause"), ("ComplaintDesk", 251, "no such letter"), ("ComplaintDesk", 253, "no such desk"), ("ComplaintDesk", 83, "no days"), ("ComplaintDesk", 98, "no more causes"), ("ComplaintDesk$Letter", 70, "no such point")]
def gSgn : List (String × Nat × String) := [("ComplaintDeskModel", 137, "and"), ("ComplaintDeskModel", 143, "or"), ("ComplaintDeskModel", 145, "not")]
def gLen : List Nat := [3, 2, 3]
def gByt : List (List Int32) := [[97, 110, 100], [111, 114], [110, 111, 116]]
/-- words of the tables that warming keeps, beside the good ones -/
def gWst : Cond → Bool
  | .castable _ _ => true
  | .methodLinkNest _ _ _ _ => true
  | .declares _ => true
  | _ => false
def gNcs : List (String × String) := [("java/lang/IllegalArgumentException", "java/lang/IndexOutOfBoundsException"), ("java/lang/UnsupportedOperationException", "java/lang/IndexOutOfBoundsException"), ("java/lang/UnsupportedOperationException", "java/lang/IllegalArgumentException"), ("java/util/NoSuchElementException", "java/lang/IndexOutOfBoundsException")]
def gOld (G : gG) (U : State) (H : Heap) : Prop :=
  G.2.2.1 ≤ H.size ∧ va_K G.1 vwCl (gTys G) U ∧
  (vx_Zq Bundle.tN "UNASSIGNED_STACK" Bundle.steD (gA G) U H ∧ vx_Zq Bundle.tN "SUPPRESSED_SENTINEL" Bundle.listD (gA G) U H) ∧
  (∀ q ∈ gStr, ∃ a, vk_R q.1 q.2.1 q.2.2 a U) ∧
  (∀ (i : Nat) (q : String × Nat × String), gSgn[i]? = some q → vk_R q.1 q.2.1 q.2.2 (G.2.2.2.1 i) U) ∧
  vk_S 3 gLen gByt G.2.2.2.1 G.2.2.2.2 (gA G) U H ∧
  va_Z "java/util/ArrayList" "DEFAULTCAPACITY_EMPTY_ELEMENTDATA" "[Ljava/lang/Object;" (.ref (G.2.2.2.1 3)) (gA G) U H ∧
  va_T (.object "java/lang/Object") (G.2.2.2.1 3) 0 (fun _ => .null) (gA G) U H ∧
  va_Z "java/lang/String" "COMPACT_STRINGS" "Z" (.int 1) (gA G) U H ∧
  va_Zq "jdk/internal/util/Preconditions" "SIOOBE_FORMATTER" "Ljava/util/function/BiFunction;" (gA G) U H ∧
  (va_Mi "[Ljava/lang/Object;" (G.2.2.2.1 4) U ∧ va_Dc U ∧ va_AO "java/lang/Object" U) ∧
  (∀ w ∈ lw_tbl, gWst w = true → va_Nw w U) ∧
  (∀ q ∈ gNcs, va_Nc q.1 q.2 U)
theorem gOld.move {G : gG} {u U : State} {H H1 : Heap} (h : gOld G u H) (hW : u.WarmedH U.vm) (hz : H.size ≤ H1.size) (hk : ∀ a : Nat, a < H.size → ¬ gA G a → H1[a]? = H[a]?) : gOld G U H1 := by
  obtain ⟨h1, h2, ⟨h3, h4⟩, h5, h6, h7, h8, h9, h10, h11, ⟨h12, h13, h14⟩, h15, h16⟩ := h
  have al := hW.alike
  refine ⟨Nat.le_trans h1 hz, va_K.moved al h2, ⟨vx_Zq.moved al (h3.kept hk), vx_Zq.moved al (h4.kept hk)⟩, fun q hq => by obtain ⟨a, ha⟩ := h5 q hq; exact ⟨a, ha.warm hW⟩, fun i q hq => (h6 i q hq).warm hW, vk_S.moved al (h7.kept hk), va_Z.moved al (h8.kept hk), va_T.moved al (h9.kept hk), va_Z.moved al (h10.kept hk), va_Zq.moved al (h11.kept hk), ⟨va_Mi.moved al h12, va_Dc.moved al h13, va_AO.moved al h14⟩, fun w hw hg => ?_, fun q hq => va_Nc.moved al (h16 q hq)⟩
  have h := h15 w hw hg
  cases w <;> first | exact va_Nw.warmC hW h | exact va_Nw.warmM hW h | exact va_Nw.warmD hW h | cases hg
theorem gOld.same {G : gG} {u U : State} {H : Heap} (h : gOld G u H) (hv : U.vm = u.vm) : gOld G U H :=
  h.move (by rw [hv]; exact State.WarmedH.refl u) (Nat.le_refl _) (fun _ _ _ => rfl)
abbrev gE : Type := Program × Launch × Env × Room × State × MethodId × Array Value × List Frame × Method × Code
abbrev gE.p (E : gE) : Program := E.1
abbrev gE.l (E : gE) : Launch := E.2.1
abbrev gE.e (E : gE) : Env := E.2.2.1
abbrev gE.R (E : gE) : Room := E.2.2.2.1
abbrev gE.s (E : gE) : State := E.2.2.2.2.1
abbrev gE.m (E : gE) : MethodId := E.2.2.2.2.2.1
abbrev gE.args (E : gE) : Array Value := E.2.2.2.2.2.2.1
abbrev gE.below (E : gE) : List Frame := E.2.2.2.2.2.2.2.1
abbrev gE.meth (E : gE) : Method := E.2.2.2.2.2.2.2.2.1
abbrev gE.c (E : gE) : Code := E.2.2.2.2.2.2.2.2.2
/-- a method's fixed things: its class, its code, its locals, its level and what it may make -/
def Gc (G : gG) (E : gE) (own : String) (cc : ByteArray) (nL lv mc ms : Nat) : Prop :=
  E.p.tables.exec = Jvm.exec ∧ E.c.code = cc ∧ E.c.maxLocals = nL ∧ E.s.vm.findClass own = some E.m.cls ∧ (∀ w ∈ uw, w.before E.args E.s = true) ∧ gOld G E.s E.s.heap ∧ E.meth.locks = false ∧ lv ≤ E.R.frames ∧ 100 * lv ≤ E.R.locals ∧ mc ≤ E.R.cells ∧ ms ≤ E.R.slots
def GW (G : gG) (E : gE) (Q : State → Prop) (nL pc : Nat) (L : List (Nat × Value)) (st : List Value) (h : hW) (k n : Nat) : Prop :=
  ∀ (H : Heap) (locs : List Loc) (ls : Array Slot), gWo G h H → va_S (gA G) E.s.heap H locs → lv_has ls nL L → W E.p E.l E.e E.R E.s E.m E.args E.below E.meth E.c H locs k n Q (F0 E.m pc ls st)
section GR
variable {G : gG} {E : gE} {own : String} {cc : ByteArray} {nL lv mc ms pc k n : Nat} {Q : State → Prop} {L : List (Nat × Value)} {st : List Value} {h : hW}
theorem g_iconst (X : Gc G E own cc nL lv mc ms) {z : Int} {v : Int32} (d : decode cc pc = .ok (.iconst z, 1)) (hv : Int32.ofInt z = v) (K : GW G E Q nL (pc + 1) L (.int v :: st) h k n) : GW G E Q nL pc L st h k n :=
  fun H locs ls a b c => lv_iconst X.1 X.2.1 d hv (K H locs ls a b c)
theorem g_bipush (X : Gc G E own cc nL lv mc ms) {z : Int} {v : Int32} (d : decode cc pc = .ok (.bipush z, 2)) (hv : (Int8.ofInt z).toInt32 = v) (K : GW G E Q nL (pc + 2) L (.int v :: st) h k n) : GW G E Q nL pc L st h k n :=
  fun H locs ls a b c => lv_bipush X.1 X.2.1 d hv (K H locs ls a b c)
theorem g_sipush (X : Gc G E own cc nL lv mc ms) {z : Int} {v : Int32} (d : decode cc pc = .ok (.sipush z, 3)) (hv : (Int16.ofInt z).toInt32 = v) (K : GW G E Q nL (pc + 3) L (.int v :: st) h k n) : GW G E Q nL pc L st h k n :=
  fun H locs ls a b c => lv_sipush X.1 X.2.1 d hv (K H locs ls a b c)
theorem g_lconst (X : Gc G E own cc nL lv mc ms) {z : Fin 2} {v : Int64} (d : decode cc pc = .ok (.lconst z, 1)) (hv : Int64.ofNat (z : Nat) = v) (K : GW G E Q nL (pc + 1) L (.long v :: st) h k n) : GW G E Q nL pc L st h k n :=
  fun H locs ls a b c => lv_lconst X.1 X.2.1 d hv (K H locs ls a b c)
theorem g_null (X : Gc G E own cc nL lv mc ms) (d : decode cc pc = .ok (.aconst_null, 1)) (K : GW G E Q nL (pc + 1) L (.null :: st) h k n) : GW G E Q nL pc L st h k n :=
  fun H locs ls a b c => lv_null X.1 X.2.1 d (K H locs ls a b c)
theorem g_iload_n (X : Gc G E own cc nL lv mc ms) {j : Fin 4} (d : decode cc pc = .ok (.iload_n j, 1)) (i : Nat) {x : Int32} (hi : L[i]? = some ((j : Nat), .int x)) (K : GW G E Q nL (pc + 1) L (.int x :: st) h k n) : GW G E Q nL pc L st h k n :=
  fun H locs ls a b c => lv_iload_n X.1 X.2.1 d rfl (lv_at c i hi) (K H locs ls a b c)
theorem g_iload (X : Gc G E own cc nL lv mc ms) {j : Nat} (d : decode cc pc = .ok (.iload j, 2)) (i : Nat) {x : Int32} (hi : L[i]? = some (j, .int x)) (K : GW G E Q nL (pc + 2) L (.int x :: st) h k n) : GW G E Q nL pc L st h k n :=
  fun H locs ls a b c => lv_iload X.1 X.2.1 d (lv_at c i hi) (K H locs ls a b c)
theorem g_lload_n (X : Gc G E own cc nL lv mc ms) {j : Fin 4} (d : decode cc pc = .ok (.lload_n j, 1)) (i : Nat) {x : Int64} (hi : L[i]? = some ((j : Nat), .long x)) (K : GW G E Q nL (pc + 1) L (.long x :: st) h k n) : GW G E Q nL pc L st h k n :=
  fun H locs ls a b c => lv_lload_n X.1 X.2.1 d rfl (lv_at c i hi) (K H locs ls a b c)
theorem g_lload (X : Gc G E own cc nL lv mc ms) {j : Nat} (d : decode cc pc = .ok (.lload j, 2)) (i : Nat) {x : Int64} (hi : L[i]? = some (j, .long x)) (K : GW G E Q nL (pc + 2) L (.long x :: st) h k n) : GW G E Q nL pc L st h k n :=
  fun H locs ls a b c => lv_lload X.1 X.2.1 d (lv_at c i hi) (K H locs ls a b c)
theorem g_aload_n (X : Gc G E own cc nL lv mc ms) {j : Fin 4} (d : decode cc pc = .ok (.aload_n j, 1)) (i : Nat) {x : Nat} (hi : L[i]? = some ((j : Nat), .ref x)) (K : GW G E Q nL (pc + 1) L (.ref x :: st) h k n) : GW G E Q nL pc L st h k n :=
  fun H locs ls a b c => lv_aload_n X.1 X.2.1 d rfl (lv_at c i hi) (K H locs ls a b c)
theorem g_aload (X : Gc G E own cc nL lv mc ms) {j : Nat} (d : decode cc pc = .ok (.aload j, 2)) (i : Nat) {x : Nat} (hi : L[i]? = some (j, .ref x)) (K : GW G E Q nL (pc + 2) L (.ref x :: st) h k n) : GW G E Q nL pc L st h k n :=
  fun H locs ls a b c => lv_aload X.1 X.2.1 d (lv_at c i hi) (K H locs ls a b c)
theorem g_aload_nQ (X : Gc G E own cc nL lv mc ms) {j : Fin 4} (d : decode cc pc = .ok (.aload_n j, 1)) (i : Nat) {x : Option Nat} (hi : L[i]? = some ((j : Nat), va_rf x)) (K : GW G E Q nL (pc + 1) L (va_rf x :: st) h k n) : GW G E Q nL pc L st h k n := by
  intro H locs ls a b c
  cases x with
  | none => exact lv_aload_nN X.1 X.2.1 d rfl (lv_at c i hi) (K H locs ls a b c)
  | some x => exact lv_aload_n X.1 X.2.1 d rfl (lv_at c i hi) (K H locs ls a b c)
theorem g_aloadQ (X : Gc G E own cc nL lv mc ms) {j : Nat} (d : decode cc pc = .ok (.aload j, 2)) (i : Nat) {x : Option Nat} (hi : L[i]? = some (j, va_rf x)) (K : GW G E Q nL (pc + 2) L (va_rf x :: st) h k n) : GW G E Q nL pc L st h k n := by
  intro H locs ls a b c
  cases x with
  | none => exact lv_aloadN X.1 X.2.1 d (lv_at c i hi) (K H locs ls a b c)
  | some x => exact lv_aload X.1 X.2.1 d (lv_at c i hi) (K H locs ls a b c)
abbrev g1 (L : List (Nat × Value)) (i : Nat) (v : Value) : List (Nat × Value) := (i, v) :: L.filter (fun q => !(q.1 == i) && !(q.1 + 1 == i && q.2.category == 2))
abbrev g2 (L : List (Nat × Value)) (i : Nat) (v : Value) : List (Nat × Value) := (i, v) :: L.filter (fun q => !(q.1 == i) && (!(q.1 == i + 1) && !(q.1 + 1 == i && q.2.category == 2)))
theorem g_istore_n (X : Gc G E own cc nL lv mc ms) {j : Fin 4} {x : Int32} (d : decode cc pc = .ok (.istore_n j, 1)) (hn : (j : Nat) < nL) (L' : List (Nat × Value)) (hl : g1 L (j : Nat) (.int x) = L') (K : GW G E Q nL (pc + 1) L' st h k n) : GW G E Q nL pc L (.int x :: st) h k n :=
  fun H locs ls a b c => lv_istore_n X.1 X.2.1 d rfl c hn hl (fun ls c => K H locs ls a b c)
theorem g_istore (X : Gc G E own cc nL lv mc ms) {j : Nat} {x : Int32} (d : decode cc pc = .ok (.istore j, 2)) (hn : j < nL) (L' : List (Nat × Value)) (hl : g1 L j (.int x) = L') (K : GW G E Q nL (pc + 2) L' st h k n) : GW G E Q nL pc L (.int x :: st) h k n :=
  fun H locs ls a b c => lv_istore X.1 X.2.1 d c hn hl (fun ls c => K H locs ls a b c)
theorem g_lstore_n (X : Gc G E own cc nL lv mc ms) {j : Fin 4} {x : Int64} (d : decode cc pc = .ok (.lstore_n j, 1)) (hn : (j : Nat) + 1 < nL) (L' : List (Nat × Value)) (hl : g2 L (j : Nat) (.long x) = L') (K : GW G E Q nL (pc + 1) L' st h k n) : GW G E Q nL pc L (.long x :: st) h k n :=
  fun H locs ls a b c => lv_lstore_n X.1 X.2.1 d rfl c hn hl (fun ls c => K H locs ls a b c)
theorem g_lstore (X : Gc G E own cc nL lv mc ms) {j : Nat} {x : Int64} (d : decode cc pc = .ok (.lstore j, 2)) (hn : j + 1 < nL) (L' : List (Nat × Value)) (hl : g2 L j (.long x) = L') (K : GW G E Q nL (pc + 2) L' st h k n) : GW G E Q nL pc L (.long x :: st) h k n :=
  fun H locs ls a b c => lv_lstore X.1 X.2.1 d c hn hl (fun ls c => K H locs ls a b c)
theorem g_astore_n (X : Gc G E own cc nL lv mc ms) {j : Fin 4} {x : Nat} (d : decode cc pc = .ok (.astore_n j, 1)) (hn : (j : Nat) < nL) (L' : List (Nat × Value)) (hl : g1 L (j : Nat) (.ref x) = L') (K : GW G E Q nL (pc + 1) L' st h k n) : GW G E Q nL pc L (.ref x :: st) h k n :=
  fun H locs ls a b c => lv_astore_n X.1 X.2.1 d rfl c hn hl (fun ls c => K H locs ls a b c)
theorem g_astore (X : Gc G E own cc nL lv mc ms) {j : Nat} {x : Nat} (d : decode cc pc = .ok (.astore j, 2)) (hn : j < nL) (L' : List (Nat × Value)) (hl : g1 L j (.ref x) = L') (K : GW G E Q nL (pc + 2) L' st h k n) : GW G E Q nL pc L (.ref x :: st) h k n :=
  fun H locs ls a b c => lv_astore X.1 X.2.1 d c hn hl (fun ls c => K H locs ls a b c)
theorem g_astore_nQ (X : Gc G E own cc nL lv mc ms) {j : Fin 4} {x : Option Nat} (d : decode cc pc = .ok (.astore_n j, 1)) (hn : (j : Nat) < nL) (L' : List (Nat × Value)) (hl : g1 L (j : Nat) (va_rf x) = L') (K : GW G E Q nL (pc + 1) L' st h k n) : GW G E Q nL pc L (va_rf x :: st) h k n := by
  intro H locs ls a b c
  cases x with
  | none => exact lv_astore_nN X.1 X.2.1 d rfl c hn hl (fun ls c => K H locs ls a b c)
  | some x => exact lv_astore_n X.1 X.2.1 d rfl c hn hl (fun ls c => K H locs ls a b c)
theorem g_astoreQ (X : Gc G E own cc nL lv mc ms) {j : Nat} {x : Option Nat} (d : decode cc pc = .ok (.astore j, 2)) (hn : j < nL) (L' : List (Nat × Value)) (hl : g1 L j (va_rf x) = L') (K : GW G E Q nL (pc + 2) L' st h k n) : GW G E Q nL pc L (va_rf x :: st) h k n := by
  intro H locs ls a b c
  cases x with
  | none => exact lv_astoreN X.1 X.2.1 d c hn hl (fun ls c => K H locs ls a b c)
  | some x => exact lv_astore X.1 X.2.1 d c hn hl (fun ls c => K H locs ls a b c)
theorem g_iinc (X : Gc G E own cc nL lv mc ms) {j : Nat} {z : Int} {x v : Int32} (d : decode cc pc = .ok (.iinc j z, 3)) (i : Nat) (hi : L[i]? = some (j, .int x)) (hv : x + Int32.ofInt z = v) (hn : j < nL) (L' : List (Nat × Value)) (hl : g1 L j (.int v) = L') (K : GW G E Q nL (pc + 3) L' st h k n) : GW G E Q nL pc L st h k n :=
  fun H locs ls a b c => lv_iinc X.1 X.2.1 d c (k := i) hi hv hn hl (fun ls c => K H locs ls a b c)
theorem g_iadd (X : Gc G E own cc nL lv mc ms) {x y : Int32} (d : decode cc pc = .ok (.iadd, 1))  (K : GW G E Q nL (pc + 1) L (.int (x + y) :: st) h k n) : GW G E Q nL pc L (.int y :: .int x :: st) h k n :=
  fun H locs ls a b c => lv_iadd X.1 X.2.1 d (K H locs ls a b c)
theorem g_isub (X : Gc G E own cc nL lv mc ms) {x y : Int32} (d : decode cc pc = .ok (.isub, 1))  (K : GW G E Q nL (pc + 1) L (.int (x - y) :: st) h k n) : GW G E Q nL pc L (.int y :: .int x :: st) h k n :=
  fun H locs ls a b c => lv_isub X.1 X.2.1 d (K H locs ls a b c)
theorem g_imul (X : Gc G E own cc nL lv mc ms) {x y : Int32} (d : decode cc pc = .ok (.imul, 1))  (K : GW G E Q nL (pc + 1) L (.int (x * y) :: st) h k n) : GW G E Q nL pc L (.int y :: .int x :: st) h k n :=
  fun H locs ls a b c => lv_imul X.1 X.2.1 d (K H locs ls a b c)
theorem g_iand (X : Gc G E own cc nL lv mc ms) {x y : Int32} (d : decode cc pc = .ok (.iand, 1))  (K : GW G E Q nL (pc + 1) L (.int (x &&& y) :: st) h k n) : GW G E Q nL pc L (.int y :: .int x :: st) h k n :=
  fun H locs ls a b c => lv_iand X.1 X.2.1 d (K H locs ls a b c)
theorem g_ior (X : Gc G E own cc nL lv mc ms) {x y : Int32} (d : decode cc pc = .ok (.ior, 1))  (K : GW G E Q nL (pc + 1) L (.int (x ||| y) :: st) h k n) : GW G E Q nL pc L (.int y :: .int x :: st) h k n :=
  fun H locs ls a b c => lv_ior X.1 X.2.1 d (K H locs ls a b c)
theorem g_ixor (X : Gc G E own cc nL lv mc ms) {x y : Int32} (d : decode cc pc = .ok (.ixor, 1))  (K : GW G E Q nL (pc + 1) L (.int (x ^^^ y) :: st) h k n) : GW G E Q nL pc L (.int y :: .int x :: st) h k n :=
  fun H locs ls a b c => lv_ixor X.1 X.2.1 d (K H locs ls a b c)
theorem g_ishl (X : Gc G E own cc nL lv mc ms) {x y : Int32} (d : decode cc pc = .ok (.ishl, 1))  (K : GW G E Q nL (pc + 1) L (.int (x <<< (y &&& 31)) :: st) h k n) : GW G E Q nL pc L (.int y :: .int x :: st) h k n :=
  fun H locs ls a b c => lv_ishl X.1 X.2.1 d (K H locs ls a b c)
theorem g_ishr (X : Gc G E own cc nL lv mc ms) {x y : Int32} (d : decode cc pc = .ok (.ishr, 1))  (K : GW G E Q nL (pc + 1) L (.int (x >>> (y &&& 31)) :: st) h k n) : GW G E Q nL pc L (.int y :: .int x :: st) h k n :=
  fun H locs ls a b c => lv_ishr X.1 X.2.1 d (K H locs ls a b c)
theorem g_ladd (X : Gc G E own cc nL lv mc ms) {x y : Int64} (d : decode cc pc = .ok (.ladd, 1))  (K : GW G E Q nL (pc + 1) L (.long (x + y) :: st) h k n) : GW G E Q nL pc L (.long y :: .long x :: st) h k n :=
  fun H locs ls a b c => lv_ladd X.1 X.2.1 d (K H locs ls a b c)
theorem g_idiv (X : Gc G E own cc nL lv mc ms) {x y : Int32} (d : decode cc pc = .ok (.idiv, 1)) (hne : ¬ y = 0) (K : GW G E Q nL (pc + 1) L (.int (x / y) :: st) h k n) : GW G E Q nL pc L (.int y :: .int x :: st) h k n :=
  fun H locs ls a b c => lv_idiv X.1 X.2.1 d hne (K H locs ls a b c)
theorem g_irem (X : Gc G E own cc nL lv mc ms) {x y : Int32} (d : decode cc pc = .ok (.irem, 1)) (hne : ¬ y = 0) (K : GW G E Q nL (pc + 1) L (.int (x - x / y * y) :: st) h k n) : GW G E Q nL pc L (.int y :: .int x :: st) h k n :=
  fun H locs ls a b c => lv_irem X.1 X.2.1 d hne (K H locs ls a b c)
theorem g_iushr (X : Gc G E own cc nL lv mc ms) {x y : Int32} (d : decode cc pc = .ok (.iushr, 1))  (K : GW G E Q nL (pc + 1) L (.int (x.toUInt32 >>> (y.toUInt32 &&& Int32.toUInt32 31)).toInt32 :: st) h k n) : GW G E Q nL pc L (.int y :: .int x :: st) h k n :=
  fun H locs ls a b c => lv_iushr X.1 X.2.1 d rfl (K H locs ls a b c)
theorem g_lshl (X : Gc G E own cc nL lv mc ms) {x : Int64} {y : Int32} (d : decode cc pc = .ok (.lshl, 1))  (K : GW G E Q nL (pc + 1) L (.long (x <<< (y.toInt64 &&& 63)) :: st) h k n) : GW G E Q nL pc L (.int y :: .long x :: st) h k n :=
  fun H locs ls a b c => lv_lshl X.1 X.2.1 d rfl (K H locs ls a b c)
theorem g_i2l (X : Gc G E own cc nL lv mc ms) {x : Int32} (d : decode cc pc = .ok (.i2l, 1))  (K : GW G E Q nL (pc + 1) L (.long x.toInt64 :: st) h k n) : GW G E Q nL pc L (.int x :: st) h k n :=
  fun H locs ls a b c => lv_i2l X.1 X.2.1 d rfl (K H locs ls a b c)
theorem g_i2b (X : Gc G E own cc nL lv mc ms) {x : Int32} (d : decode cc pc = .ok (.i2b, 1))  (K : GW G E Q nL (pc + 1) L (.int x.toInt8.toInt32 :: st) h k n) : GW G E Q nL pc L (.int x :: st) h k n :=
  fun H locs ls a b c => lv_i2b X.1 X.2.1 d rfl (K H locs ls a b c)
theorem g_i2c (X : Gc G E own cc nL lv mc ms) {x : Int32} (d : decode cc pc = .ok (.i2c, 1))  (K : GW G E Q nL (pc + 1) L (.int (x.toUInt32 % 65536).toInt32 :: st) h k n) : GW G E Q nL pc L (.int x :: st) h k n :=
  fun H locs ls a b c => lv_i2c X.1 X.2.1 d rfl (K H locs ls a b c)
theorem g_lcmp (X : Gc G E own cc nL lv mc ms) {x y : Int64} (d : decode cc pc = .ok (.lcmp, 1))  (K : GW G E Q nL (pc + 1) L (.int (lg_cmp x y) :: st) h k n) : GW G E Q nL pc L (.long y :: .long x :: st) h k n :=
  fun H locs ls a b c => W.lcmp X.1 X.2.1 d (K H locs ls a b c)
theorem g_dup (X : Gc G E own cc nL lv mc ms) {v : Value} (d : decode cc pc = .ok (.dup, 1)) (hv : v.category = 1) (K : GW G E Q nL (pc + 1) L (v :: v :: st) h k n) : GW G E Q nL pc L (v :: st) h k n :=
  fun H locs ls a b c => lv_dup X.1 X.2.1 d hv (K H locs ls a b c)
theorem g_pop (X : Gc G E own cc nL lv mc ms) {v : Value} (d : decode cc pc = .ok (.pop, 1)) (hv : v.category = 1) (K : GW G E Q nL (pc + 1) L (st) h k n) : GW G E Q nL pc L (v :: st) h k n :=
  fun H locs ls a b c => lv_pop X.1 X.2.1 d hv (K H locs ls a b c)
theorem g_dup_x1 (X : Gc G E own cc nL lv mc ms) {v w : Value} (d : decode cc pc = .ok (.dup_x1, 1)) (hv : v.category = 1) (hw : w.category = 1) (K : GW G E Q nL (pc + 1) L (v :: w :: v :: st) h k n) : GW G E Q nL pc L (v :: w :: st) h k n :=
  fun H locs ls a b c => lv_dup_x1 X.1 X.2.1 d hv hw (K H locs ls a b c)
theorem g_dup2 (X : Gc G E own cc nL lv mc ms) {v w : Value} (d : decode cc pc = .ok (.dup2, 1)) (hv : v.category = 1) (hw : w.category = 1) (K : GW G E Q nL (pc + 1) L (v :: w :: v :: w :: st) h k n) : GW G E Q nL pc L (v :: w :: st) h k n :=
  fun H locs ls a b c => lv_dup2_11 X.1 X.2.1 d hv hw (K H locs ls a b c)
theorem g_ldc (X : Gc G E own cc nL lv mc ms) {v : Int32} {idx : Nat} (d : decode cc pc = .ok (.ldc idx, 2)) (hc : Cond.constant own idx v ∈ uw) (K : GW G E Q nL (pc + 2) L (.int v :: st) h k n) : GW G E Q nL pc L (st) h k n :=
  fun H locs ls a b c => lv_ldc X.1 X.2.1 X.2.2.2.1 (X.2.2.2.2.1 _ hc) d (K H locs ls a b c)
theorem g_ldc2 (X : Gc G E own cc nL lv mc ms) {v : Int64} {idx : Nat} (d : decode cc pc = .ok (.ldc2_w idx, 3)) (hc : Cond.constantLong own idx v ∈ uw) (K : GW G E Q nL (pc + 3) L (.long v :: st) h k n) : GW G E Q nL pc L (st) h k n :=
  fun H locs ls a b c => lv_ldc2 X.1 X.2.1 X.2.2.2.1 (X.2.2.2.2.1 _ hc) d (K H locs ls a b c)
theorem g_goto (X : Gc G E own cc nL lv mc ms) {off : Int} (tgt : Nat) (d : decode cc pc = .ok (.goto off, 3)) (ht : (pc : Int) + off = (tgt : Int)) (K : GW G E Q nL tgt L st h k n) : GW G E Q nL pc L st h k n :=
  fun H locs ls a b c => lv_goto X.1 X.2.1 d ht (K H locs ls a b c)
theorem g_if_eq (X : Gc G E own cc nL lv mc ms) {x : Int32} {off : Int} (tgt : Nat) (d : decode cc pc = .ok (.ifCond .eq off, 3)) (ht : (pc : Int) + off = (tgt : Int)) (kt : x = 0 → GW G E Q nL tgt L st h k n) (kf : ¬ x = 0 → GW G E Q nL (pc + 3) L st h k n) : GW G E Q nL pc L (.int x :: st) h k n :=
  fun H locs ls a b c => lv_if_eq X.1 X.2.1 d ht (fun q => kt q H locs ls a b c) (fun q => kf q H locs ls a b c)
theorem g_icmp_eq (X : Gc G E own cc nL lv mc ms) {x y : Int32} {off : Int} (tgt : Nat) (d : decode cc pc = .ok (.if_icmp .eq off, 3)) (ht : (pc : Int) + off = (tgt : Int)) (kt : x = y → GW G E Q nL tgt L st h k n) (kf : ¬ x = y → GW G E Q nL (pc + 3) L st h k n) : GW G E Q nL pc L (.int y :: .int x :: st) h k n :=
  fun H locs ls a b c => lv_icmp_eq X.1 X.2.1 d ht (fun q => kt q H locs ls a b c) (fun q => kf q H locs ls a b c)
theorem g_if_ne (X : Gc G E own cc nL lv mc ms) {x : Int32} {off : Int} (tgt : Nat) (d : decode cc pc = .ok (.ifCond .ne off, 3)) (ht : (pc : Int) + off = (tgt : Int)) (kt : ¬ x = 0 → GW G E Q nL tgt L st h k n) (kf : x = 0 → GW G E Q nL (pc + 3) L st h k n) : GW G E Q nL pc L (.int x :: st) h k n :=
  fun H locs ls a b c => lv_if_ne X.1 X.2.1 d ht (fun q => kt q H locs ls a b c) (fun q => kf q H locs ls a b c)
theorem g_icmp_ne (X : Gc G E own cc nL lv mc ms) {x y : Int32} {off : Int} (tgt : Nat) (d : decode cc pc = .ok (.if_icmp .ne off, 3)) (ht : (pc : Int) + off = (tgt : Int)) (kt : ¬ x = y → GW G E Q nL tgt L st h k n) (kf : x = y → GW G E Q nL (pc + 3) L st h k n) : GW G E Q nL pc L (.int y :: .int x :: st) h k n :=
  fun H locs ls a b c => lv_icmp_ne X.1 X.2.1 d ht (fun q => kt q H locs ls a b c) (fun q => kf q H locs ls a b c)
theorem g_if_lt (X : Gc G E own cc nL lv mc ms) {x : Int32} {off : Int} (tgt : Nat) (d : decode cc pc = .ok (.ifCond .lt off, 3)) (ht : (pc : Int) + off = (tgt : Int)) (kt : x < 0 → GW G E Q nL tgt L st h k n) (kf : ¬ x < 0 → GW G E Q nL (pc + 3) L st h k n) : GW G E Q nL pc L (.int x :: st) h k n :=
  fun H locs ls a b c => lv_if_lt X.1 X.2.1 d ht (fun q => kt q H locs ls a b c) (fun q => kf q H locs ls a b c)
theorem g_icmp_lt (X : Gc G E own cc nL lv mc ms) {x y : Int32} {off : Int} (tgt : Nat) (d : decode cc pc = .ok (.if_icmp .lt off, 3)) (ht : (pc : Int) + off = (tgt : Int)) (kt : x < y → GW G E Q nL tgt L st h k n) (kf : ¬ x < y → GW G E Q nL (pc + 3) L st h k n) : GW G E Q nL pc L (.int y :: .int x :: st) h k n :=
  fun H locs ls a b c => lv_icmp_lt X.1 X.2.1 d ht (fun q => kt q H locs ls a b c) (fun q => kf q H locs ls a b c)
theorem g_if_ge (X : Gc G E own cc nL lv mc ms) {x : Int32} {off : Int} (tgt : Nat) (d : decode cc pc = .ok (.ifCond .ge off, 3)) (ht : (pc : Int) + off = (tgt : Int)) (kt : 0 ≤ x → GW G E Q nL tgt L st h k n) (kf : ¬ 0 ≤ x → GW G E Q nL (pc + 3) L st h k n) : GW G E Q nL pc L (.int x :: st) h k n :=
  fun H locs ls a b c => lv_if_ge X.1 X.2.1 d ht (fun q => kt q H locs ls a b c) (fun q => kf q H locs ls a b c)
theorem g_icmp_ge (X : Gc G E own cc nL lv mc ms) {x y : Int32} {off : Int} (tgt : Nat) (d : decode cc pc = .ok (.if_icmp .ge off, 3)) (ht : (pc : Int) + off = (tgt : Int)) (kt : y ≤ x → GW G E Q nL tgt L st h k n) (kf : ¬ y ≤ x → GW G E Q nL (pc + 3) L st h k n) : GW G E Q nL pc L (.int y :: .int x :: st) h k n :=
  fun H locs ls a b c => lv_icmp_ge X.1 X.2.1 d ht (fun q => kt q H locs ls a b c) (fun q => kf q H locs ls a b c)
theorem g_if_gt (X : Gc G E own cc nL lv mc ms) {x : Int32} {off : Int} (tgt : Nat) (d : decode cc pc = .ok (.ifCond .gt off, 3)) (ht : (pc : Int) + off = (tgt : Int)) (kt : 0 < x → GW G E Q nL tgt L st h k n) (kf : ¬ 0 < x → GW G E Q nL (pc + 3) L st h k n) : GW G E Q nL pc L (.int x :: st) h k n :=
  fun H locs ls a b c => lv_if_gt X.1 X.2.1 d ht (fun q => kt q H locs ls a b c) (fun q => kf q H locs ls a b c)
theorem g_icmp_gt (X : Gc G E own cc nL lv mc ms) {x y : Int32} {off : Int} (tgt : Nat) (d : decode cc pc = .ok (.if_icmp .gt off, 3)) (ht : (pc : Int) + off = (tgt : Int)) (kt : y < x → GW G E Q nL tgt L st h k n) (kf : ¬ y < x → GW G E Q nL (pc + 3) L st h k n) : GW G E Q nL pc L (.int y :: .int x :: st) h k n :=
  fun H locs ls a b c => lv_icmp_gt X.1 X.2.1 d ht (fun q => kt q H locs ls a b c) (fun q => kf q H locs ls a b c)
theorem g_if_le (X : Gc G E own cc nL lv mc ms) {x : Int32} {off : Int} (tgt : Nat) (d : decode cc pc = .ok (.ifCond .le off, 3)) (ht : (pc : Int) + off = (tgt : Int)) (kt : x ≤ 0 → GW G E Q nL tgt L st h k n) (kf : ¬ x ≤ 0 → GW G E Q nL (pc + 3) L st h k n) : GW G E Q nL pc L (.int x :: st) h k n :=
  fun H locs ls a b c => lv_if_le X.1 X.2.1 d ht (fun q => kt q H locs ls a b c) (fun q => kf q H locs ls a b c)
theorem g_icmp_le (X : Gc G E own cc nL lv mc ms) {x y : Int32} {off : Int} (tgt : Nat) (d : decode cc pc = .ok (.if_icmp .le off, 3)) (ht : (pc : Int) + off = (tgt : Int)) (kt : x ≤ y → GW G E Q nL tgt L st h k n) (kf : ¬ x ≤ y → GW G E Q nL (pc + 3) L st h k n) : GW G E Q nL pc L (.int y :: .int x :: st) h k n :=
  fun H locs ls a b c => lv_icmp_le X.1 X.2.1 d ht (fun q => kt q H locs ls a b c) (fun q => kf q H locs ls a b c)
theorem g_acmp_eq (X : Gc G E own cc nL lv mc ms) {rx ry : Option Nat} {vx vy : Value} {off : Int} (tgt : Nat) (d : decode cc pc = .ok (.if_acmp .eq off, 3)) (ht : (pc : Int) + off = (tgt : Int)) (hx : va_rf rx = vx) (hy : va_rf ry = vy) (kt : rx = ry → GW G E Q nL tgt L st h k n) (kf : ¬ rx = ry → GW G E Q nL (pc + 3) L st h k n) : GW G E Q nL pc L (vy :: vx :: st) h k n := by
  subst hx; subst hy
  exact fun H locs ls a b c => lv_acmp_eq X.1 X.2.1 d ht (fun q => kt q H locs ls a b c) (fun q => kf q H locs ls a b c)
theorem g_acmp_ne (X : Gc G E own cc nL lv mc ms) {rx ry : Option Nat} {vx vy : Value} {off : Int} (tgt : Nat) (d : decode cc pc = .ok (.if_acmp .ne off, 3)) (ht : (pc : Int) + off = (tgt : Int)) (hx : va_rf rx = vx) (hy : va_rf ry = vy) (kt : ¬ rx = ry → GW G E Q nL tgt L st h k n) (kf : rx = ry → GW G E Q nL (pc + 3) L st h k n) : GW G E Q nL pc L (vy :: vx :: st) h k n := by
  subst hx; subst hy
  exact fun H locs ls a b c => lv_acmp_ne X.1 X.2.1 d ht (fun q => kt q H locs ls a b c) (fun q => kf q H locs ls a b c)
theorem g_ifnull (X : Gc G E own cc nL lv mc ms) {x : Option Nat} {v : Value} {off : Int} (tgt : Nat) (d : decode cc pc = .ok (.ifnull off, 3)) (ht : (pc : Int) + off = (tgt : Int)) (hv : va_rf x = v) (kt : x = none → GW G E Q nL tgt L st h k n) (kf : ∀ y, x = some y → GW G E Q nL (pc + 3) L st h k n) : GW G E Q nL pc L (v :: st) h k n := by
  subst hv
  intro H locs ls a b c
  cases x with
  | none => exact lv_ifnullN X.1 X.2.1 d ht (kt rfl H locs ls a b c)
  | some y => exact lv_ifnull X.1 X.2.1 d (kf y rfl H locs ls a b c)
theorem g_ifnonnull (X : Gc G E own cc nL lv mc ms) {x : Option Nat} {v : Value} {off : Int} (tgt : Nat) (d : decode cc pc = .ok (.ifnonnull off, 3)) (ht : (pc : Int) + off = (tgt : Int)) (hv : va_rf x = v) (kt : ∀ y, x = some y → GW G E Q nL tgt L st h k n) (kf : x = none → GW G E Q nL (pc + 3) L st h k n) : GW G E Q nL pc L (v :: st) h k n := by
  subst hv
  intro H locs ls a b c
  cases x with
  | none => exact lv_ifnonnullN X.1 X.2.1 d (kf rfl H locs ls a b c)
  | some y => exact lv_ifnonnull X.1 X.2.1 d ht (kt y rfl H locs ls a b c)
theorem g_topi {x : Int32} (K : ∀ y : Int32, y = x → GW G E Q nL pc L (.int y :: st) h k n) : GW G E Q nL pc L (.int x :: st) h k n := K x rfl
theorem g_topl {x : Int64} (K : ∀ y : Int64, y = x → GW G E Q nL pc L (.long y :: st) h k n) : GW G E Q nL pc L (.long x :: st) h k n := K x rfl
theorem g_pc {pc' : Nat} (e : pc = pc') (K : GW G E Q nL pc' L st h k n) : GW G E Q nL pc L st h k n := e ▸ K
theorem g_L {L' : List (Nat × Value)} (ks : List Nat) (e : lv_pick L ks = L') (K : GW G E Q nL pc L' st h k n) : GW G E Q nL pc L st h k n := fun H locs ls a b c => K H locs ls a b (lv_sub c ks e)
theorem g_widen {k' n' : Nat} (hk : k ≤ k') (hn : n ≤ n') (K : GW G E Q nL pc L st h k' n') : GW G E Q nL pc L st h k n := fun H locs ls a b c => W.widen hk hn (K H locs ls a b c)
theorem g_st {st' : List Value} (e : st = st') (K : GW G E Q nL pc L st' h k n) : GW G E Q nL pc L st h k n := e ▸ K
theorem g_h {h' : hW} (e : h = h') (K : GW G E Q nL pc L st h' k n) : GW G E Q nL pc L st h k n := e ▸ K
theorem g_getfield (X : Gc G E own cc nL lv mc ms) {idx ci j : Nat} (fl : FR own idx ci j) {a : Nat} {fs : List Value} {v : Value} (d : decode cc pc = .ok (.getfield idx, 3)) (ha : h a = some (ob ci fs)) (hv : fs[j]? = some v) (K : GW G E Q nL (pc + 3) L (v :: st) h k n) : GW G E Q nL pc L (.ref a :: st) h k n := by
  intro H locs ls w b c
  obtain ⟨C, T, N, ty0, ⟨c1, c2, c3, c4⟩, f1, f2⟩ := fl
  exact va_get (C := C) (T := T) (N := N) (ref := (T j).1) X.1 X.2.1 (Ts := uw) X.2.2.2.2.1 c2 X.2.2.2.1 X.2.2.2.2.2.1.2.1 (w.one ha) 0 rfl c1 j f1 (X.2.2.2.2.1 _ f2) (fun _ q => q) hv d (K H locs ls w b c)
theorem g_putfield (X : Gc G E own cc nL lv mc ms) {idx ci j : Nat} {ty : FieldType} (fl : FL own idx ci j ty false) {a : Nat} {fs : List Value} {v : Value} (d : decode cc pc = .ok (.putfield idx, 3)) (ha : h a = some (ob ci fs)) (hl : j < fs.length) (hn : narrow ty v = v) (hf : fits ty v = true) (fs' : List Value) (he : fs.set j v = fs') (K : GW G E Q nL (pc + 3) L st (hup h a (ob ci fs')) k n) : GW G E Q nL pc L (v :: .ref a :: st) h k n := by
  intro H locs ls w b c
  obtain ⟨C, T, N, ty0, ⟨c1, c2, c3, c4⟩, f1, f2, f3, f4, f5⟩ := fl
  obtain ⟨ws, hP, hD, hh⟩ := w
  obtain ⟨i, hi⟩ := List.getElem?_of_mem ((hh a _).mp ha)
  subst he
  exact va_put (C := C) (T := T) (N := N) (ref := (T j).1) X.1 X.2.1 (Ts := uw) X.2.2.2.2.1 c2 ty0 c3 c4 X.2.2.2.1 X.2.2.2.2.2.1.2.1 hP hD b i hi c1 j f1 (X.2.2.2.2.1 _ f2) (fun _ q => q) f3 f4 hn hf hl d (fun H1 locs1 p1 p2 p3 => K H1 locs1 ls ⟨_, p1, p2, gset_spec hD hh hi⟩ p3 c)
theorem g_putfieldF (X : Gc G E own cc nL lv mc ms) (hin : E.meth.name = "<init>") {idx ci j : Nat} {ty : FieldType} (fl : FL own idx ci j ty true) {a : Nat} {fs : List Value} {v : Value} (d : decode cc pc = .ok (.putfield idx, 3)) (ha : h a = some (ob ci fs)) (hl : j < fs.length) (hn : narrow ty v = v) (hf : fits ty v = true) (fs' : List Value) (he : fs.set j v = fs') (K : GW G E Q nL (pc + 3) L st (hup h a (ob ci fs')) k n) : GW G E Q nL pc L (v :: .ref a :: st) h k n := by
  intro H locs ls w b c
  obtain ⟨C, T, N, ty0, ⟨c1, c2, c3, c4⟩, f1, f2, f3, f4, f5⟩ := fl
  obtain ⟨ws, hP, hD, hh⟩ := w
  obtain ⟨i, hi⟩ := List.getElem?_of_mem ((hh a _).mp ha)
  subst he
  exact va_putF (C := C) (T := T) (N := N) (ref := (T j).1) X.1 X.2.1 (Ts := uw) X.2.2.2.2.1 c2 ty0 c3 c4 X.2.2.2.1 X.2.2.2.2.2.1.2.1 hP hD b i hi c1 j f1 (X.2.2.2.2.1 _ f2) (fun _ q => q) f3 hin (f5 rfl) f4 hn hf hl d (fun H1 locs1 p1 p2 p3 => K H1 locs1 ls ⟨_, p1, p2, gset_spec hD hh hi⟩ p3 c)
theorem g_new (X : Gc G E own cc nL lv mc ms) {idx ci N : Nat} {C : String} {T : u_T} {ty0 : Nat → FieldType} (ck : CK ci C T N ty0) (w1 : Cond.classLink own idx C ∈ uw) (w2 : Cond.instantiable C N ∈ uw) (w3 : Cond.initialized C ∈ uw) (fs : List Value) (hfs : ∀ j, j < N → defaultValue (ty0 j) = vp_V fs j) (d : decode cc pc = .ok (.new idx, 3)) (hk : k + 1 ≤ mc) (hn : n + N ≤ ms)
    (K : ∀ q : Nat, h q = none → gA G q → GW G E Q nL (pc + 3) L (.ref q :: st) (hup h q (ob ci fs)) (k + 1) (n + N)) : GW G E Q nL pc L st h k n := by
  intro H locs ls w b c
  obtain ⟨ws, hP, hD, hh⟩ := w
  obtain ⟨c1, c2, c3, c4⟩ := ck
  have hR := X.2.2.2.2.2.2.2.2.2
  exact va_new (C := C) (T := T) (N := N) X.1 X.2.1 (Ts := uw) X.2.2.2.2.1 c2 ty0 c3 X.2.2.2.1 (X.2.2.2.2.1 _ w1) (X.2.2.2.2.1 _ w2) (X.2.2.2.2.1 _ w3) X.2.2.2.2.2.1.2.1 hP hD b (fun q hq => Nat.le_trans X.2.2.2.2.2.1.1 hq) c1 hfs (Nat.le_trans hk hR.1) (Nat.le_trans hn hR.2) d (fun q H1 p1 p2 p3 => by
    have hs := gpush_spec p2 hh
    exact K q hs.1 (p2.2 _ _ (show (ws ++ [(q, _)])[ws.length]? = some _ by rw [List.getElem?_append_right (Nat.le_refl _), Nat.sub_self]; rfl)) H1 locs ls ⟨_, p1, p2, hs.2⟩ p3 c)
theorem g_iaload (X : Gc G E own cc nL lv mc ms) {a n' : Nat} {f : Nat → Int32} {i : Int32} (d : decode cc pc = .ok (.iaload, 1)) (ha : h a = some (aI G n' f)) (hi : vp_in i n') (K : GW G E Q nL (pc + 1) L (.int (f i.toNatClampNeg) :: st) h k n) : GW G E Q nL pc L (.int i :: .ref a :: st) h k n :=
  fun H locs ls w b c => va_iald X.1 X.2.1 X.2.2.2.2.2.1.2.1 (w.one ha) 0 0 rfl rfl hi d (K H locs ls w b c)
theorem g_baload (X : Gc G E own cc nL lv mc ms) {a n' : Nat} {f : Nat → Int32} {i : Int32} (d : decode cc pc = .ok (.baload, 1)) (ha : h a = some (aB G n' f)) (hi : vp_in i n') (K : GW G E Q nL (pc + 1) L (.int (f i.toNatClampNeg) :: st) h k n) : GW G E Q nL pc L (.int i :: .ref a :: st) h k n :=
  fun H locs ls w b c => va_bald X.1 X.2.1 X.2.2.2.2.2.1.2.1 (w.one ha) 0 1 rfl rfl hi d (K H locs ls w b c)
theorem g_laload (X : Gc G E own cc nL lv mc ms) {a n' : Nat} {f : Nat → Int64} {i : Int32} (d : decode cc pc = .ok (.laload, 1)) (ha : h a = some (aJ G n' f)) (hi : vp_in i n') (K : GW G E Q nL (pc + 1) L (.long (f i.toNatClampNeg) :: st) h k n) : GW G E Q nL pc L (.int i :: .ref a :: st) h k n :=
  fun H locs ls w b c => va_lald X.1 X.2.1 X.2.2.2.2.2.1.2.1 (w.one ha) 0 2 rfl rfl hi d (K H locs ls w b c)
theorem g_zaload (X : Gc G E own cc nL lv mc ms) {a n' : Nat} {f : Nat → Int32} {i : Int32} (d : decode cc pc = .ok (.baload, 1)) (ha : h a = some (aZ G n' f)) (hi : vp_in i n') (K : GW G E Q nL (pc + 1) L (.int (f i.toNatClampNeg) :: st) h k n) : GW G E Q nL pc L (.int i :: .ref a :: st) h k n :=
  fun H locs ls w b c => va_zald X.1 X.2.1 X.2.2.2.2.2.1.2.1 (w.one ha) 0 3 rfl rfl hi d (K H locs ls w b c)
theorem g_aaload (X : Gc G E own cc nL lv mc ms) {a n' : Nat} {f : Nat → Option Nat} {i : Int32} (d : decode cc pc = .ok (.aaload, 1)) (ha : h a = some (aO G n' f)) (hi : vp_in i n') (K : GW G E Q nL (pc + 1) L (va_rf (f i.toNatClampNeg) :: st) h k n) : GW G E Q nL pc L (.int i :: .ref a :: st) h k n :=
  fun H locs ls w b c => va_aldq X.1 X.2.1 X.2.2.2.2.2.1.2.1 (w.one ha) 0 4 rfl rfl hi d (K H locs ls w b c)
theorem g_iastore (X : Gc G E own cc nL lv mc ms) {a n' : Nat} {f : Nat → Int32} {i : Int32} {x : Int32} (d : decode cc pc = .ok (.iastore, 1)) (ha : h a = some (aI G n' f)) (hi : vp_in i n') (K : GW G E Q nL (pc + 1) L st (hup h a (aI G n' (upd f i.toNatClampNeg x))) k n) : GW G E Q nL pc L (.int x :: .int i :: .ref a :: st) h k n := by
  intro H locs ls w b c
  obtain ⟨ws, hP, hD, hh⟩ := w
  obtain ⟨j, hj⟩ := List.getElem?_of_mem ((hh a _).mp ha)
  exact va_iast X.1 X.2.1 X.2.2.2.2.2.1.2.1 hP hD b j 0 hj rfl hi d (fun H1 locs1 p1 p2 p3 => K H1 locs1 ls ⟨_, p1, p2, gset_spec hD hh hj⟩ p3 c)
theorem g_bastore (X : Gc G E own cc nL lv mc ms) {a n' : Nat} {f : Nat → Int32} {i : Int32} {x : Int32} (d : decode cc pc = .ok (.bastore, 1)) (ha : h a = some (aB G n' f)) (hi : vp_in i n') (K : GW G E Q nL (pc + 1) L st (hup h a (aB G n' (upd f i.toNatClampNeg (vp_nar .byte x)))) k n) : GW G E Q nL pc L (.int x :: .int i :: .ref a :: st) h k n := by
  intro H locs ls w b c
  obtain ⟨ws, hP, hD, hh⟩ := w
  obtain ⟨j, hj⟩ := List.getElem?_of_mem ((hh a _).mp ha)
  exact va_bast X.1 X.2.1 X.2.2.2.2.2.1.2.1 hP hD b j 1 hj rfl hi d (fun H1 locs1 p1 p2 p3 => K H1 locs1 ls ⟨_, p1, p2, gset_spec hD hh hj⟩ p3 c)
theorem g_zastore (X : Gc G E own cc nL lv mc ms) {a n' : Nat} {f : Nat → Int32} {i : Int32} {x : Int32} (d : decode cc pc = .ok (.bastore, 1)) (ha : h a = some (aZ G n' f)) (hi : vp_in i n') (K : GW G E Q nL (pc + 1) L st (hup h a (aZ G n' (upd f i.toNatClampNeg (vp_nar .boolean x)))) k n) : GW G E Q nL pc L (.int x :: .int i :: .ref a :: st) h k n := by
  intro H locs ls w b c
  obtain ⟨ws, hP, hD, hh⟩ := w
  obtain ⟨j, hj⟩ := List.getElem?_of_mem ((hh a _).mp ha)
  exact va_zast X.1 X.2.1 X.2.2.2.2.2.1.2.1 hP hD b j 3 hj rfl hi d (fun H1 locs1 p1 p2 p3 => K H1 locs1 ls ⟨_, p1, p2, gset_spec hD hh hj⟩ p3 c)
theorem g_lastore (X : Gc G E own cc nL lv mc ms) {a n' : Nat} {f : Nat → Int64} {i : Int32} {x : Int64} (d : decode cc pc = .ok (.lastore, 1)) (ha : h a = some (aJ G n' f)) (hi : vp_in i n') (K : GW G E Q nL (pc + 1) L st (hup h a (aJ G n' (vp_updL f i.toNatClampNeg x))) k n) : GW G E Q nL pc L (.long x :: .int i :: .ref a :: st) h k n := by
  intro H locs ls w b c
  obtain ⟨ws, hP, hD, hh⟩ := w
  obtain ⟨j, hj⟩ := List.getElem?_of_mem ((hh a _).mp ha)
  exact va_last X.1 X.2.1 X.2.2.2.2.2.1.2.1 hP hD b j 2 hj rfl hi d (fun H1 locs1 p1 p2 p3 => K H1 locs1 ls ⟨_, p1, p2, gset_spec hD hh hj⟩ p3 c)
theorem g_alen (X : Gc G E own cc nL lv mc ms) {a : Nat} {t : Nat} {ty : FieldType} {cA : ClassId} {x : vp_A} (d : decode cc pc = .ok (.arraylength, 1)) (ht : (gTys G)[t]? = some (cA, ty)) (ha : h a = some (.inl (cA, x))) (v : Int32) (hv : Int32.ofNat x.1 = v) (K : GW G E Q nL (pc + 1) L (.int v :: st) h k n) : GW G E Q nL pc L (.ref a :: st) h k n :=
  fun H locs ls w b c => va_alen X.1 X.2.1 X.2.2.2.2.2.1.2.1 (w.one ha) 0 t rfl ht hv d (K H locs ls w b c)
theorem g_newarr (X : Gc G E own cc nL lv mc ms) {atype : ArrayType} {ty : FieldType} (hty : newarray.typeOf atype = ty) (hw : Cond.arrayClass (newarray.typeOf atype) ∈ uw) {t : Nat} {cA : ClassId} (ht : (gTys G)[t]? = some (cA, ty)) (hp : ∀ C, ty ≠ .object C) {z : Int32} {N : Nat} (a0 : vp_A) (ha : ∀ cA : ClassId, vp_cell cA a0 = arrV cA N (fun _ => defaultValue ty)) (hz : ¬ z < 0) (hN : z.toNatClampNeg = N) (hbytes : N * componentBytes ty ≤ 536870912) (hk : k + 1 ≤ mc) (hn : n + N ≤ ms) (d : decode cc pc = .ok (.newarray atype, 2))
    (K : ∀ q : Nat, h q = none → gA G q → GW G E Q nL (pc + 2) L (.ref q :: st) (hup h q (.inl (cA, a0))) (k + 1) (n + N)) : GW G E Q nL pc L (.int z :: st) h k n := by
  intro H locs ls w b c
  obtain ⟨ws, hP, hD, hh⟩ := w
  have hR := X.2.2.2.2.2.2.2.2.2
  have hK0 := X.2.2.2.2.2.1.2.1
  refine va_newa X.1 X.2.1 (X.2.2.2.2.1 _ hw) hty hK0 hP hD b (fun q hq => Nat.le_trans X.2.2.2.2.2.1.1 hq) ha hz hN hbytes (Nat.le_trans hk hR.1) (Nat.le_trans hn hR.2) d (fun q cB H1 p0 p1 p2 p3 => ?_)
  have e : cB = cA := by
    have q1 := (hK0.2 t _ ht).2
    have q2 := (p0.2 (gTys G).length (cB, ty) (by rw [List.getElem?_append_right (Nat.le_refl _), Nat.sub_self]; rfl)).2
    unfold va_RA at q1 q2
    cases ty with
    | object C => exact absurd rfl (hp C)
    | _ => exact Option.some.inj (q2.symm.trans q1)
  subst e
  have hs := gpush_spec p2 hh
  exact K q hs.1 (p2.2 _ _ (show (ws ++ [(q, _)])[ws.length]? = some _ by rw [List.getElem?_append_right (Nat.le_refl _), Nat.sub_self]; rfl)) H1 locs ls ⟨_, p1, p2, hs.2⟩ p3 c
/-- what a method owes that returns -/
def gQ (G : gG) (post : Option Value → hW → Prop) : Array Value → State → Outcome → State → Prop := fun _ st oc t => (∃ (v : Option Value) (h' : hW), oc = .returned v ∧ post v h' ∧ gWo G h' t.heap) ∧ va_F (gA G) st t
abbrev gMQ (G : gG) (E : gE) (mc ms : Nat) (post : Option Value → hW → Prop) : State → Prop := MQ E.below (gQ G post) E.args E.s mc ms (gA G)
abbrev gRm (lv mc ms : Nat) : Room := { frames := lv, cells := mc, slots := ms, locals := 100 * lv }
/-- a method's contract, over the abstract heap -/
def Ct (G : gG) (l : Launch) (lv mc ms : Nat) (M : gM) (av : List Value) (h : hW) (post : Option Value → hW → Prop) : Prop :=
  Met l M.1 (.code M.1 M.2.1 M.2.2.1 M.2.2.2 :: uw) (gRm lv mc ms) (va_Pc av (fun U => gWo G h U.heap ∧ gOld G U U.heap)) (gQ G post) mc ms (gA G)
theorem Ct.mono {G : gG} {l : Launch} {lv mc ms : Nat} {M : gM} {av : List Value} {h : hW} {post post' : Option Value → hW → Prop} (hp : ∀ v h', post v h' → post' v h') (K : Ct G l lv mc ms M av h post) : Ct G l lv mc ms M av h post' := by
  intro p e ha hc hk s m args below hf happ hP hx
  obtain ⟨t, o, b0, b1, b2, ⟨⟨v, h', e1, e2, e3⟩, e4⟩, e5⟩ := K p e ha hc hk s m args below hf happ hP hx
  exact ⟨t, o, b0, b1, b2, ⟨⟨v, h', e1, hp v h' e2, e3⟩, e4⟩, e5⟩
/-- facts of the method itself -/
def gF (E : gE) (M : gM) : Prop := E.meth.sig.returnType = M.2.2.2 ∧ E.meth.name = M.1.name ∧ ∀ x ∈ E.c.exceptionTable.toList, False
theorem Ct.of {l : Launch} {M : gM} {av : List Value} {post : Option Value → hW → Prop} (hy : plainName M.1.cls = true) (hlen : (lg_sl av).length ≤ M.2.2.1)
    (body : ∀ E : gE, E.l = l → Gc G E M.1.cls M.2.1 M.2.2.1 lv mc ms → gF E M → GW G E (gMQ G E mc ms post) M.2.2.1 0 (lv_args 0 av) [] h 0 0) : Ct G l lv mc ms M av h post := by
  refine Met.ofW (cc := M.2.1) (maxL := M.2.2.1) (ret := M.2.2.2) hy rfl ?_
  intro p e s m args below meth c s₁ B hml hv
  obtain ⟨rfl, hw, ho⟩ := hv
  have hts := atoms_spec (ws := .code M.1 M.2.1 M.2.2.1 M.2.2.2 :: uw) B.pre
  have ht : ∀ x ∈ c.exceptionTable.toList, False := by
    obtain ⟨meth9, c9, h1, h2, -, -, -, -, h7, -⟩ := Cond.code_spec B.named (hts _ List.mem_cons_self)
    cases Option.some.inj (h1.symm.trans B.method)
    cases Option.some.inj (h2.symm.trans (Stand.of_body B).code)
    intro x hx
    rw [Array.isEmpty_iff.mp h7] at hx
    cases hx
  have hown : s.vm.findClass M.1.cls = some m.cls := findClass_of_methodNamed B.named
  have K := body (p, l, e, (headSpec (.code M.1 M.2.1 M.2.2.1 M.2.2.2 :: uw) (gRm lv mc ms)).room, s, m, av.toArray, below, meth, c) rfl
    ⟨B.exec, B.bytes, hml, hown, fun w hw => hts w (List.mem_cons_of_mem _ hw), ho, B.notSynchronized, Nat.le_refl _, Nat.le_refl _, Nat.le_refl _, Nat.le_refl _⟩
    ⟨B.returns, (name_of_methodNamed B.named B.method).1, ht⟩
  have hl := lv_entry av hlen
  rw [lg_entry_eq]
  exact K s.heap [] _ hw va_S.rf hl
theorem g_ret0 (X : Gc G E own cc nL lv mc ms) {mc' ms' : Nat} {M : gM} (F : gF E M) (hM : M.2.2.2 = none) {post : Option Value → hW → Prop} (d : decode cc pc = .ok (.return_, 1)) (hk : k ≤ mc') (hn : n ≤ ms') (hq : post none h) : GW G E (gMQ G E mc' ms' post) nL pc L [] h k n := by
  intro H locs ls w b c
  refine W.widen hk hn (W.vret X.1 X.2.1 (F.1.trans hM) (fun t ht hW => ⟨⟨none, h, rfl, hq, by rw [ht]; exact w⟩, b.F ht⟩) b.2.2 d (hlocks := X.2.2.2.2.2.2.1))
theorem g_iret (X : Gc G E own cc nL lv mc ms) {mc' ms' : Nat} {M : gM} (F : gF E M) {ty : FieldType} (hM : M.2.2.2 = some ty) {x : Int32} (hx : narrow ty (.int x) = .int x) {post : Option Value → hW → Prop} (d : decode cc pc = .ok (.ireturn, 1)) (hk : k ≤ mc') (hn : n ≤ ms') (hq : post (some (.int x)) h) : GW G E (gMQ G E mc' ms' post) nL pc L [.int x] h k n := by
  intro H locs ls w b c
  refine W.widen hk hn (W.zret X.1 X.2.1 (F.1.trans hM) hx (fun t ht hW => ⟨⟨some (.int x), h, rfl, hq, by rw [ht]; exact w⟩, b.F ht⟩) b.2.2 d (hlocks := X.2.2.2.2.2.2.1))
theorem g_lret (X : Gc G E own cc nL lv mc ms) {mc' ms' : Nat} {M : gM} (F : gF E M) (hM : M.2.2.2 = some .long) {x : Int64} {post : Option Value → hW → Prop} (d : decode cc pc = .ok (.lreturn, 1)) (hk : k ≤ mc') (hn : n ≤ ms') (hq : post (some (.long x)) h) : GW G E (gMQ G E mc' ms' post) nL pc L [.long x] h k n := by
  intro H locs ls w b c
  refine W.widen hk hn (W.lret X.1 X.2.1 (F.1.trans hM) (fun t ht hW => ⟨⟨some (.long x), h, rfl, hq, by rw [ht]; exact w⟩, b.F ht⟩) b.2.2 d (hlocks := X.2.2.2.2.2.2.1))
theorem g_aret (X : Gc G E own cc nL lv mc ms) {mc' ms' : Nat} {M : gM} (F : gF E M) {rt : FieldType} (hM : M.2.2.2 = some rt) (hrt : (∃ n, rt = .object n) ∨ ∃ t, rt = .array t) {v : Value} (hv : v = .null ∨ ∃ a, v = .ref a) {post : Option Value → hW → Prop} (d : decode cc pc = .ok (.areturn, 1)) (hk : k ≤ mc') (hn : n ≤ ms') (hq : post (some v) h) : GW G E (gMQ G E mc' ms' post) nL pc L [v] h k n := by
  intro H locs ls w b c
  refine W.widen hk hn (W.aret X.1 X.2.1 (F.1.trans hM) hrt hv (fun t ht hW => ⟨⟨some v, h, rfl, hq, by rw [ht]; exact w⟩, b.F ht⟩) b.2.2 d (hlocks := X.2.2.2.2.2.2.1))
theorem g_callB (X : Gc G E own cc nL lv mc ms) {idx nA lvc mcc msc : Nat} {M : gM} (ml : MLb own idx M nA) (hlv : lvc + 1 ≤ lv) : CallB E.R E.s E.args own idx M.1 M.2.1 M.2.2.1 M.2.2.2 (.code M.1 M.2.1 M.2.2.1 M.2.2.2 :: uw) (gRm lvc mcc msc) mcc msc nA := by
  obtain ⟨m1, m2, m3, m4, m5, m6⟩ := ml
  obtain ⟨-, -, -, -, hts, -, -, r1, r2, r3, r4⟩ := X
  refine ⟨rfl, rfl, Nat.le_trans hlv r1, ?_, fun w hw a' U hW => ?_, List.mem_cons_self, hts _ m2, hts _ m3, m4, fun sig hs => ?_, hts _ m1⟩
  · show 8 + (M.2.2.1 + 11) + 100 * lvc ≤ E.R.locals
    omega
  · rcases List.mem_cons.mp hw with rfl | hw
    · exact word_at hW (uw_good m2) (hts _ m2)
    · exact word_at hW (uw_good hw) (hts _ hw)
  · rw [hs] at m5
    exact (Option.some.inj m5).symm
theorem g_blind {av : List Value} : FrameBlind (va_Pc av (fun U => gWo G h U.heap ∧ gOld G U U.heap)) := fun a U g mk q => ⟨q.1, q.2.1, q.2.2.same (U := U.calling g mk a) rfl⟩
theorem g_pre (X : Gc G E own cc nL lv mc ms) {H : Heap} {locs : List Loc} (w : gWo G h H) (b : va_S (gA G) E.s.heap H locs) (av : List Value) : ∀ U : State, U.heap = H → E.s.WarmedH U.vm → va_Pc av (fun U => gWo G h U.heap ∧ gOld G U U.heap) av.toArray U :=
  fun U hU hW => ⟨rfl, by rw [hU]; exact w, by rw [hU]; exact X.2.2.2.2.2.1.move hW b.1 b.2.1⟩
theorem g_behind {lvc mcc msc : Nat} {post : Option Value → hW → Prop} {rest : List Value} {a : Array Value} {st0 : List Value} {H : Heap} {locs : List Loc} {ls : Array Slot} (hr : va_Run E.p E.l E.e E.R E.s E.m E.args E.below E.meth E.c H locs k n mcc msc (F0 E.m pc ls st0) rest (gQ G post a) (gA G)) (b : va_S (gA G) E.s.heap H locs) (c : lv_has ls nL L)
    (K : ∀ v h', post v h' → GW G E Q nL (pc + 3) L (v.toList ++ rest) h' (k + mcc) (n + msc)) : W E.p E.l E.e E.R E.s E.m E.args E.below E.meth E.c H locs k n Q (F0 E.m pc ls st0) := by
  intro T hT XT
  obtain ⟨v, st₀, t, T', Ls, h0, X', hL, e1, e2, ⟨⟨v', h', hv, hp, hw⟩, hz, hk⟩, st⟩ := hr T hT XT
  cases hv
  rw [h0] at hz hk
  obtain ⟨t2, a1, b1⟩ := K v h' hp T'.heap (locs ++ Ls) ls (by rw [e1]; exact hw) ⟨Nat.le_trans b.1 (by rw [e1]; exact hz), fun q h1 h2 => by rw [e1, hk q (Nat.lt_of_lt_of_le h1 b.1) h2]; exact b.2.1 q h1 h2, fun q hq => by
      rcases List.mem_append.mp hq with h | h
      · exact b.2.2 q h
      · exact hL q h⟩ c T' rfl X'
  exact ⟨t2, st t2 a1, b1⟩
theorem g_callV (X : Gc G E own cc nL lv mc ms) {idx nA lvc mcc msc : Nat} {M : gM} (ml : MLv own idx M nA) {b : Nat} {As rest : List Value} {post : Option Value → hW → Prop} (hM : Ct G E.l lvc mcc msc M (.ref b :: As) h post) (hb : ∃ ci fs, h b = some (ob ci fs) ∧ (vwCl[ci]?).map (·.1) = some M.1.cls) (hlv : lvc + 1 ≤ lv) (hA : As.length = nA) (hst : st = As.reverse ++ .ref b :: rest) (hW : (rest.map fun v => v.category).sum ≤ 8) (hk : k + mcc ≤ mc) (hn : n + msc ≤ ms) (d : decode cc pc = .ok (.invokevirtual idx, 3))
    (K : ∀ v h', post v h' → GW G E Q nL (pc + 3) L (v.toList ++ rest) h' (k + mcc) (n + msc)) : GW G E Q nL pc L st h k n := by
  intro H locs ls w bb c
  obtain ⟨ci, fs, hb1, hb2⟩ := hb
  have r := X.2.2.2.2.2.2.2.2.2
  have hc : ∃ q : vw_C, vwCl[ci]? = some q ∧ q.1 = M.1.cls := by
    cases hq : vwCl[ci]? with
    | none => rw [hq] at hb2; cases hb2
    | some q => rw [hq] at hb2; exact ⟨q, rfl, Option.some.inj hb2⟩
  obtain ⟨q, hq1, hq2⟩ := hc
  have hrec := va_recv X.2.2.2.2.2.1.2.1 (w.one hb1) hq1 (q0 := 0) rfl
  rw [hq2] at hrec
  exact g_behind (lvc := lvc) (va_runV (As := As) (rest := rest) ⟨X.1, X.2.1, X.2.2.1, X.2.2.2.1, X.2.2.2.2.1⟩ hM ⟨g_callB X ml.1 hlv, X.2.2.2.2.1 _ ml.2.1, X.2.2.2.2.1 _ ml.2.2⟩ ⟨g_blind, hrec, g_pre X w bb _⟩ rfl hA c.1 hst (lv_room hW) d ⟨Nat.le_trans hk r.1, Nat.le_trans hn r.2⟩) bb c K
theorem g_callI (X : Gc G E own cc nL lv mc ms) {idx nA lvc mcc msc : Nat} {M : gM} (ml : MLi own idx M nA) (hret : M.2.2.2 = none) {b : Nat} {As rest : List Value} {post : Option Value → hW → Prop} (hM : Ct G E.l lvc mcc msc M (.ref b :: As) h post) (hlv : lvc + 1 ≤ lv) (hA : As.length = nA) (hst : st = As.reverse ++ .ref b :: rest) (hW : (rest.map fun v => v.category).sum ≤ 8) (hk : k + mcc ≤ mc) (hn : n + msc ≤ ms) (d : decode cc pc = .ok (.invokespecial idx, 3))
    (K : ∀ v h', post v h' → GW G E Q nL (pc + 3) L (v.toList ++ rest) h' (k + mcc) (n + msc)) : GW G E Q nL pc L st h k n := by
  intro H locs ls w bb c
  have r := X.2.2.2.2.2.2.2.2.2
  obtain ⟨y, by9, ml9, rt⟩ := M
  dsimp only at hret
  subst hret
  exact g_behind (lvc := lvc) (va_runI (As := As) (rest := rest) ⟨X.1, X.2.1, X.2.2.1, X.2.2.2.1, X.2.2.2.2.1⟩ hM ⟨g_callB X ml.1 hlv, ml.2.2, X.2.2.2.2.1 _ ml.2.1⟩ ⟨g_blind, g_pre X w bb _⟩ rfl hA c.1 hst (lv_room hW) d ⟨Nat.le_trans hk r.1, Nat.le_trans hn r.2⟩) bb c K
theorem g_callS (X : Gc G E own cc nL lv mc ms) {idx nA lvc mcc msc : Nat} {M : gM} (ml : MLs own idx M nA) {As rest : List Value} {post : Option Value → hW → Prop} (hM : Ct G E.l lvc mcc msc M As h post) (hlv : lvc + 1 ≤ lv) (hA : As.length = nA) (hst : st = As.reverse ++ rest) (hW : (rest.map fun v => v.category).sum ≤ 8) (hk : k + mcc ≤ mc) (hn : n + msc ≤ ms) (d : decode cc pc = .ok (.invokestatic idx, 3))
    (K : ∀ v h', post v h' → GW G E Q nL (pc + 3) L (v.toList ++ rest) h' (k + mcc) (n + msc)) : GW G E Q nL pc L st h k n := by
  intro H locs ls w bb c
  have r := X.2.2.2.2.2.2.2.2.2
  exact g_behind (lvc := lvc) (va_runS (As := As) (rest := rest) ⟨X.1, X.2.1, X.2.2.1, X.2.2.2.1, X.2.2.2.2.1⟩ hM ⟨g_callB X ml.1 hlv, X.2.2.2.2.1 _ ml.2⟩ ⟨g_blind, g_pre X w bb _⟩ rfl hA c.1 hst (lv_room hW) d ⟨Nat.le_trans hk r.1, Nat.le_trans hn r.2⟩) bb c K
end GR
