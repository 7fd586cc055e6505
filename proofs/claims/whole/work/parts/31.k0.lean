section K0
variable {G : gG} {l : Launch} {m : Nat} {h0 h : hW}
theorem oi_i : Cond.instanceMethod objectInit ∈ uw := uw_at 87 (by decide +kernel) rfl
theorem oi_c : Cond.code objectInit ⟨#[0xb1]⟩ 1 none ∈ uw := uw_at 88 (by decide +kernel) rfl
theorem ol_X6_1 : Cond.methodLink "ComplaintDesk" 1 objectInit ∈ uw := uw_at 86 (by decide +kernel) rfl
theorem ol_X0_1 : Cond.methodLink "ComplaintDesk$Cause" 1 objectInit ∈ uw := uw_at 492 (by decide +kernel) rfl
theorem ol_X1_3 : Cond.methodLink "ComplaintDesk$Letter" 3 objectInit ∈ uw := uw_at 629 (by decide +kernel) rfl
theorem ol_X2_3 : Cond.methodLink "ComplaintDesk$Pattern" 3 objectInit ∈ uw := uw_at 437 (by decide +kernel) rfl
theorem ol_X3_3 : Cond.methodLink "ComplaintDesk$Point" 3 objectInit ∈ uw := uw_at 881 (by decide +kernel) rfl
theorem ol_X4_3 : Cond.methodLink "ComplaintDesk$Tape" 3 objectInit ∈ uw := uw_at 94 (by decide +kernel) rfl
theorem ol_X5_3 : Cond.methodLink "ComplaintDesk$Words" 3 objectInit ∈ uw := uw_at 122 (by decide +kernel) rfl
theorem ol_X7_1 : Cond.methodLink "ComplaintDeskModel" 1 objectInit ∈ uw := uw_at 1073 (by decide +kernel) rfl
theorem ol_STR_1 : Cond.methodLink "java/lang/String" 1 objectInit ∈ uw := uw_at 832 (by decide +kernel) rfl
theorem ol_ABC_1 : Cond.methodLink "java/util/AbstractCollection" 1 objectInit ∈ uw := uw_at 159 (by decide +kernel) rfl
theorem g_objI {E : gE} {own : String} {cc : ByteArray} {nL lv mc ms pc k n : Nat} {Q : State → Prop} {L : List (Nat × Value)} (X : Gc G E own cc nL lv mc ms) {idx a : Nat} {rest : List Value} (hl : Cond.methodLink own idx objectInit ∈ uw) (hlv : 1 ≤ lv) (hW : (rest.map fun v => v.category).sum ≤ 8) (d : decode cc pc = .ok (.invokespecial idx, 3)) (K : GW G E Q nL (pc + 3) L rest h k n) : GW G E Q nL pc L (.ref a :: rest) h k n := by
  intro H locs ls w b c
  have r := X.2.2.2.2.2.2.2
  refine W.objInit X.1 X.2.1 X.2.2.2.1 (X.2.2.2.2.1 _ hl) (X.2.2.2.2.1 _ oi_i) (X.2.2.2.2.1 _ oi_c) rfl (c.1.trans X.2.2.1.symm) rfl d (Nat.le_trans hlv r.1) ?_ (K H locs ls w b c)
  have := r.2.1
  show 2 * 0 + (rest.map fun v => v.category).sum + 12 ≤ _
  omega
/-- the reference under way: its object and the arrays that it has so far -/
abbrev bC : Type := Nat × Nat × (Nat → Int32)
def bH (G : gG) (h0 : hW) (m : Nat) (cs : List bC) (fs : List Value) : hW := fun b => if b = m then some (ob 7 fs) else match cs.find? (fun c => c.1 == b) with
  | some c => some (mE G c.2.1 c.2.2)
  | none => h0 b
theorem bH_m {cs : List bC} {fs : List Value} : bH G h0 m cs fs m = some (ob 7 fs) := if_pos rfl
theorem bH_put {cs : List bC} {fs fs' : List Value} : hup (bH G h0 m cs fs) m (ob 7 fs') = bH G h0 m cs fs' := by
  funext b
  unfold hup bH
  by_cases hb : b = m
  · rw [if_pos hb, if_pos hb]
  · rw [if_neg hb, if_neg hb, if_neg hb]
theorem bH_q {cs : List bC} {fs : List Value} {q j : Nat} {f : Nat → Int32} (hq : q ≠ m) : bH G h0 m ((q, j, f) :: cs) fs q = some (mE G j f) := by
  unfold bH
  rw [if_neg hq]
  simp
theorem bH_new {cs : List bC} {fs : List Value} {q j : Nat} {f : Nat → Int32} (hq : q ≠ m) : hup (bH G h0 m cs fs) q (mE G j f) = bH G h0 m ((q, j, f) :: cs) fs := by
  funext b
  by_cases hb : b = q
  · subst hb; rw [hup_s, bH_q hq]
  · rw [hup_n hb]
    unfold bH
    by_cases hm : b = m
    · rw [if_pos hm, if_pos hm]
    · rw [if_neg hm, if_neg hm]
      have : ((q, j, f).1 == b) = false := by simpa using fun z => hb z.symm
      rw [List.find?_cons, this]
theorem bH_top {cs : List bC} {fs : List Value} {q j : Nat} {f f' : Nat → Int32} (hq : q ≠ m) : hup (bH G h0 m ((q, j, f) :: cs) fs) q (mE G j f') = bH G h0 m ((q, j, f') :: cs) fs := by
  rw [← bH_new hq, ← bH_new hq]
  funext b
  by_cases hb : b = q
  · subst hb; rw [hup_s, hup_s]
  · rw [hup_n hb, hup_n hb, hup_n hb]
theorem bH_fr {cs : List bC} {fs : List Value} {q : Nat} (hq : bH G h0 m cs fs q = none) : q ≠ m ∧ (∀ c ∈ cs, c.1 ≠ q) ∧ h0 q = none := by
  unfold bH at hq
  by_cases hm : q = m
  · rw [if_pos hm] at hq; cases hq
  · rw [if_neg hm] at hq
    cases hf : cs.find? (fun c => c.1 == q) with
    | some c => rw [hf] at hq; cases hq
    | none =>
      rw [hf] at hq
      exact ⟨hm, fun c hc z => by have := List.find?_eq_none.mp hf c hc; simp [z] at this, hq⟩
theorem bH_0 {fs : List Value} (hm : h m = some (ob 7 fs)) : h = bH G h m [] fs := by
  funext b
  unfold bH
  by_cases hb : b = m
  · rw [if_pos hb, hb, hm]
  · rw [if_neg hb]; rfl
/-- the cells are apart -/
def bN (h0 : hW) (m : Nat) (cs : List bC) : Prop := (cs.map (fun c => c.1)).Nodup ∧ ∀ c ∈ cs, c.1 ≠ m ∧ h0 c.1 = none
theorem bN.cons {cs : List bC} {fs : List Value} {q j : Nat} {f : Nat → Int32} (h : bN h0 m cs) (hq : bH G h0 m cs fs q = none) : bN h0 m ((q, j, f) :: cs) := by
  obtain ⟨h1, h2, h3⟩ := bH_fr hq
  refine ⟨List.nodup_cons.mpr ⟨fun z => ?_, h.1⟩, fun c hc => ?_⟩
  · obtain ⟨c, hc, e⟩ := List.mem_map.mp z
    exact h2 c hc e
  · rcases List.mem_cons.mp hc with rfl | hc
    · exact ⟨h1, h3⟩
    · exact h.2 c hc
theorem bN.top {cs : List bC} {q j : Nat} {f f' : Nat → Int32} (h : bN h0 m ((q, j, f) :: cs)) : bN h0 m ((q, j, f') :: cs) :=
  ⟨h.1, fun c hc => (List.mem_cons.mp hc).elim (fun e => by subst e; exact h.2 (q, j, f) List.mem_cons_self) (fun e => h.2 c (List.mem_cons_of_mem _ e))⟩
def ixO (m : Nat) (cs : List bC) : Nat → Nat := fun b => if b = m then 1 else match cs.find? (fun c => c.1 == b) with
  | some c => c.2.1 + 2
  | none => 0
def adO (cs : List bC) : Nat → Nat := fun j => match cs.find? (fun c => c.2.1 == j) with
  | some c => c.1
  | none => 0
def arO (cs : List bC) : Nat → Nat → Int32 := fun j => match cs.find? (fun c => c.2.1 == j) with
  | some c => c.2.2
  | none => fun _ => 0
theorem find_key {α : Type} (ky : α → Nat) : ∀ {cs : List α} {c : α}, (cs.map ky).Nodup → c ∈ cs → cs.find? (fun x => ky x == ky c) = some c
  | x :: cs, c, hn, hc => by
    rw [List.map_cons, List.nodup_cons] at hn
    rcases List.mem_cons.mp hc with rfl | hc
    · simp
    · have hne : (ky x == ky c) = false := by
        rw [beq_eq_false_iff_ne]
        intro z
        exact hn.1 (z ▸ List.mem_map.mpr ⟨c, hc, rfl⟩)
      rw [List.find?_cons, hne]
      exact find_key ky hn.2 hc
theorem mJ_lt {j : Nat} (h : mJ j = true) : j < 35 := by
  unfold mJ at h
  rw [Bool.and_eq_true, decide_eq_true_eq] at h
  exact h.1
theorem arO_0 {cs : List bC} {j i : Nat} (h : ∀ c ∈ cs, c.2.1 = j → c.2.2 i = 0) : arO cs j i = 0 := by
  unfold arO
  cases hf : cs.find? (fun c => c.2.1 == j) with
  | none => rfl
  | some c => exact h c (List.mem_of_find?_eq_some hf) (by simpa using List.find?_some hf)
theorem bH_mH {cs : List bC} {I : Nat → Int32} (hN : bN h0 m cs) (js : List Nat) (hjs : cs.map (fun c => c.2.1) = js) (hj0 : js.Nodup) (hall0 : ∀ j, j < 35 → mJ j = true → j ∈ js) (hJ0 : ∀ j ∈ js, mJ j = true) :
    md (ixO m cs) m (adO cs) ∧ bH G h0 m cs (mF I (adO cs)) = mH G (ixO m cs) (adO cs) I (arO cs) h0 := by
  have hj : (cs.map (fun c => c.2.1)).Nodup := by rw [hjs]; exact hj0
  have hall : ∀ j, mJ j = true → j ∈ cs.map (fun c => c.2.1) := fun j q => by rw [hjs]; exact hall0 j (mJ_lt q) q
  have hJ : ∀ j ∈ cs.map (fun c => c.2.1), mJ j = true := fun j q => hJ0 j (by rw [hjs] at q; exact q)
  have fk : ∀ c ∈ cs, cs.find? (fun x => x.1 == c.1) = some c := fun c hc => find_key (fun x : bC => x.1) hN.1 hc
  have fj : ∀ c ∈ cs, cs.find? (fun x => x.2.1 == c.2.1) = some c := fun c hc => find_key (fun x : bC => x.2.1) hj hc
  refine ⟨⟨fun b => ?_, fun j hjj b => ?_⟩, ?_⟩
  · unfold ixO
    by_cases hb : b = m
    · simp [hb]
    · rw [if_neg hb]
      constructor
      · intro q; split at q <;> omega
      · intro q; exact absurd q hb
  · obtain ⟨c, hc, rfl⟩ := List.mem_map.mp (hall j hjj)
    have e : adO cs c.2.1 = c.1 := by unfold adO; rw [fj c hc]
    rw [e]
    unfold ixO
    by_cases hb : b = m
    · rw [if_pos hb]
      constructor
      · intro q; omega
      · intro q; exact absurd (q.symm.trans hb) (hN.2 c hc).1
    · rw [if_neg hb]
      constructor
      · intro q
        split at q
        · rename_i c2 hf
          have h1 := List.mem_of_find?_eq_some hf
          have h2 : c2.1 = b := by simpa using List.find?_some hf
          have h3 : c2.2.1 = c.2.1 := by omega
          have h4 := fj c2 h1
          rw [h3, fj c hc] at h4
          cases h4
          exact h2.symm
        · omega
      · intro q; subst q; rw [fk c hc]
  · funext b
    unfold bH mH ixO
    by_cases hb : b = m
    · rw [if_pos hb, if_pos hb]
    · rw [if_neg hb, if_neg hb]
      cases hf : cs.find? (fun c => c.1 == b) with
      | none => rfl
      | some c =>
        have h1 := List.mem_of_find?_eq_some hf
        have h2 : mJ c.2.1 = true := hJ _ (List.mem_map.mpr ⟨c, h1, rfl⟩)
        show some (mE G c.2.1 c.2.2) = if mJ c.2.1 = true then some (mE G c.2.1 (arO cs c.2.1)) else h0 b
        rw [if_pos h2]
        unfold arO
        rw [fj c h1]
theorem ixO_0 {cs : List bC} (hN : bN h0 m cs) {b : Nat} (hb : b ≠ m) (h : h0 b ≠ none) : ixO m cs b = 0 := by
  unfold ixO
  rw [if_neg hb]
  cases hf : cs.find? (fun c => c.1 == b) with
  | none => rfl
  | some c =>
    have h1 := (hN.2 c (List.mem_of_find?_eq_some hf)).2
    have h2 : c.1 = b := by simpa using List.find?_some hf
    rw [h2] at h1
    exact absurd h1 h
abbrev m00 : List Value := [.int 0, .int 0, .null, .null, .null, .null, .null, .null, .null, .null, .null, .int 0, .null, .null, .null, .null, .null, .null, .null, .null, .null, .int 0, .null, .null, .null, .null, .int 0, .null, .int 0, .int 0, .int 0, .int 0, .int 0, .null, .null]
/-- a new reference -/
abbrev m0I : Nat → Int32 := fun j => if j = 32 then -1 else 0
def m0A (Ar : Nat → Nat → Int32) : Prop := (∀ j, j ≠ 12 → ∀ i, Ar j i = 0) ∧ ∀ i, i < 4 → Ar 12 i = 5
abbrev m0Q (G : gG) (m : Nat) (h : hW) : Option Value → hW → Prop := fun v h' => v = none ∧ ∃ (ix ad : Nat → Nat) (Ar : Nat → Nat → Int32), md ix m ad ∧ h' = mH G ix ad m0I Ar h ∧ (∀ b, b ≠ m → h b ≠ none → ix b = 0) ∧ m0A Ar
theorem c_X7_init (hm : h m = some (ob 7 m00)) : Ct G l 1 25 51963 M_X7_init [.ref m] h (m0Q G m h) := by
  refine Ct.of (by decide +kernel) (Nat.le_of_ble_eq_true rfl) (fun E hE X F => ?_)
  have X : Gc G E "ComplaintDeskModel" cX7_init 1 1 25 51963 := X
  show GW G E _ 1 0 [(0, _)] [] _ 0 0
  refine g_h (bH_0 (G := G) hm) ?_
  have hb0 : bN h m [] := ⟨List.nodup_nil, fun c hc => by cases hc⟩
  refine g_aload_n X dX7_init_0 0 rfl ?_
  refine g_objI X ol_X7_1 (Nat.le_of_ble_eq_true rfl) (Nat.le_of_ble_eq_true rfl) dX7_init_1 ?_
  refine g_aload_n X dX7_init_4 0 rfl ?_
  refine g_bipush X (v := 12) dX7_init_5 kb_12 ?_
  refine g_newarr X (atype := .int) (ty := .int) rfl arc_int (t := 0) rfl (fun C qc => by cases qc) (N := 12) (12, .inl (fun _ => 0)) (fun _ => rfl) (by decide) (by decide) (by decide) (Nat.le_of_ble_eq_true rfl) (Nat.le_of_ble_eq_true rfl) dX7_init_7 (fun qq2 hf2 hg2 => ?_)
  have hb2 := hb0.cons (j := 2) (f := fun _ => 0) hf2
  have hm2 := (bH_fr hf2).1
  refine g_h (h' := bH G h m [(qq2, 2, fun _ => 0)] [.int 0, .int 0, .null, .null, .null, .null, .null, .null, .null, .null, .null, .int 0, .null, .null, .null, .null, .null, .null, .null, .null, .null, .int 0, .null, .null, .null, .null, .int 0, .null, .int 0, .int 0, .int 0, .int 0, .int 0, .null, .null]) (bH_new (j := 2) (f := fun _ => 0) hm2) ?_
  refine g_putfieldF X F.2.1 fp_X7_9 dX7_init_9 bH_m (Nat.le_of_ble_eq_true rfl) rfl rfl _ rfl ?_
  refine g_h (h' := bH G h m [(qq2, 2, fun _ => 0)] [.int 0, .int 0, .ref qq2, .null, .null, .null, .null, .null, .null, .null, .null, .int 0, .null, .null, .null, .null, .null, .null, .null, .null, .null, .int 0, .null, .null, .null, .null, .int 0, .null, .int 0, .int 0, .int 0, .int 0, .int 0, .null, .null]) bH_put ?_
  refine g_aload_n X dX7_init_12 0 rfl ?_
  refine g_bipush X (v := 12) dX7_init_13 kb_12 ?_
  refine g_newarr X (atype := .int) (ty := .int) rfl arc_int (t := 0) rfl (fun C qc => by cases qc) (N := 12) (12, .inl (fun _ => 0)) (fun _ => rfl) (by decide) (by decide) (by decide) (Nat.le_of_ble_eq_true rfl) (Nat.le_of_ble_eq_true rfl) dX7_init_15 (fun qq3 hf3 hg3 => ?_)
  have hb3 := hb2.cons (j := 3) (f := fun _ => 0) hf3
  have hm3 := (bH_fr hf3).1
  refine g_h (h' := bH G h m [(qq3, 3, fun _ => 0), (qq2, 2, fun _ => 0)] [.int 0, .int 0, .ref qq2, .null, .null, .null, .null, .null, .null, .null, .null, .int 0, .null, .null, .null, .null, .null, .null, .null, .null, .null, .int 0, .null, .null, .null, .null, .int 0, .null, .int 0, .int 0, .int 0, .int 0, .int 0, .null, .null]) (bH_new (j := 3) (f := fun _ => 0) hm3) ?_
  refine g_putfieldF X F.2.1 fp_X7_13 dX7_init_17 bH_m (Nat.le_of_ble_eq_true rfl) rfl rfl _ rfl ?_
  refine g_h (h' := bH G h m [(qq3, 3, fun _ => 0), (qq2, 2, fun _ => 0)] [.int 0, .int 0, .ref qq2, .ref qq3, .null, .null, .null, .null, .null, .null, .null, .int 0, .null, .null, .null, .null, .null, .null, .null, .null, .null, .int 0, .null, .null, .null, .null, .int 0, .null, .int 0, .int 0, .int 0, .int 0, .int 0, .null, .null]) bH_put ?_
  refine g_aload_n X dX7_init_20 0 rfl ?_
  refine g_bipush X (v := 12) dX7_init_21 kb_12 ?_
  refine g_newarr X (atype := .int) (ty := .int) rfl arc_int (t := 0) rfl (fun C qc => by cases qc) (N := 12) (12, .inl (fun _ => 0)) (fun _ => rfl) (by decide) (by decide) (by decide) (Nat.le_of_ble_eq_true rfl) (Nat.le_of_ble_eq_true rfl) dX7_init_23 (fun qq4 hf4 hg4 => ?_)
  have hb4 := hb3.cons (j := 4) (f := fun _ => 0) hf4
  have hm4 := (bH_fr hf4).1
  refine g_h (h' := bH G h m [(qq4, 4, fun _ => 0), (qq3, 3, fun _ => 0), (qq2, 2, fun _ => 0)] [.int 0, .int 0, .ref qq2, .ref qq3, .null, .null, .null, .null, .null, .null, .null, .int 0, .null, .null, .null, .null, .null, .null, .null, .null, .null, .int 0, .null, .null, .null, .null, .int 0, .null, .int 0, .int 0, .int 0, .int 0, .int 0, .null, .null]) (bH_new (j := 4) (f := fun _ => 0) hm4) ?_
  refine g_putfieldF X F.2.1 fp_X7_16 dX7_init_25 bH_m (Nat.le_of_ble_eq_true rfl) rfl rfl _ rfl ?_
  refine g_h (h' := bH G h m [(qq4, 4, fun _ => 0), (qq3, 3, fun _ => 0), (qq2, 2, fun _ => 0)] [.int 0, .int 0, .ref qq2, .ref qq3, .ref qq4, .null, .null, .null, .null, .null, .null, .int 0, .null, .null, .null, .null, .null, .null, .null, .null, .null, .int 0, .null, .null, .null, .null, .int 0, .null, .int 0, .int 0, .int 0, .int 0, .int 0, .null, .null]) bH_put ?_
  refine g_aload_n X dX7_init_28 0 rfl ?_
  refine g_bipush X (v := 12) dX7_init_29 kb_12 ?_
  refine g_newarr X (atype := .boolean) (ty := .boolean) rfl arc_boolean (t := 3) rfl (fun C qc => by cases qc) (N := 12) (12, .inl (fun _ => 0)) (fun _ => rfl) (by decide) (by decide) (by decide) (Nat.le_of_ble_eq_true rfl) (Nat.le_of_ble_eq_true rfl) dX7_init_31 (fun qq5 hf5 hg5 => ?_)
  have hb5 := hb4.cons (j := 5) (f := fun _ => 0) hf5
  have hm5 := (bH_fr hf5).1
  refine g_h (h' := bH G h m [(qq5, 5, fun _ => 0), (qq4, 4, fun _ => 0), (qq3, 3, fun _ => 0), (qq2, 2, fun _ => 0)] [.int 0, .int 0, .ref qq2, .ref qq3, .ref qq4, .null, .null, .null, .null, .null, .null, .int 0, .null, .null, .null, .null, .null, .null, .null, .null, .null, .int 0, .null, .null, .null, .null, .int 0, .null, .int 0, .int 0, .int 0, .int 0, .int 0, .null, .null]) (bH_new (j := 5) (f := fun _ => 0) hm5) ?_
  refine g_putfieldF X F.2.1 fp_X7_19 dX7_init_33 bH_m (Nat.le_of_ble_eq_true rfl) rfl rfl _ rfl ?_
  refine g_h (h' := bH G h m [(qq5, 5, fun _ => 0), (qq4, 4, fun _ => 0), (qq3, 3, fun _ => 0), (qq2, 2, fun _ => 0)] [.int 0, .int 0, .ref qq2, .ref qq3, .ref qq4, .ref qq5, .null, .null, .null, .null, .null, .int 0, .null, .null, .null, .null, .null, .null, .null, .null, .null, .int 0, .null, .null, .null, .null, .int 0, .null, .int 0, .int 0, .int 0, .int 0, .int 0, .null, .null]) bH_put ?_
  refine g_aload_n X dX7_init_36 0 rfl ?_
  refine g_bipush X (v := 13) dX7_init_37 kb_13 ?_
  refine g_newarr X (atype := .int) (ty := .int) rfl arc_int (t := 0) rfl (fun C qc => by cases qc) (N := 13) (13, .inl (fun _ => 0)) (fun _ => rfl) (by decide) (by decide) (by decide) (Nat.le_of_ble_eq_true rfl) (Nat.le_of_ble_eq_true rfl) dX7_init_39 (fun qq6 hf6 hg6 => ?_)
  have hb6 := hb5.cons (j := 6) (f := fun _ => 0) hf6
  have hm6 := (bH_fr hf6).1
  refine g_h (h' := bH G h m [(qq6, 6, fun _ => 0), (qq5, 5, fun _ => 0), (qq4, 4, fun _ => 0), (qq3, 3, fun _ => 0), (qq2, 2, fun _ => 0)] [.int 0, .int 0, .ref qq2, .ref qq3, .ref qq4, .ref qq5, .null, .null, .null, .null, .null, .int 0, .null, .null, .null, .null, .null, .null, .null, .null, .null, .int 0, .null, .null, .null, .null, .int 0, .null, .int 0, .int 0, .int 0, .int 0, .int 0, .null, .null]) (bH_new (j := 6) (f := fun _ => 0) hm6) ?_
  refine g_putfieldF X F.2.1 fp_X7_23 dX7_init_41 bH_m (Nat.le_of_ble_eq_true rfl) rfl rfl _ rfl ?_
  refine g_h (h' := bH G h m [(qq6, 6, fun _ => 0), (qq5, 5, fun _ => 0), (qq4, 4, fun _ => 0), (qq3, 3, fun _ => 0), (qq2, 2, fun _ => 0)] [.int 0, .int 0, .ref qq2, .ref qq3, .ref qq4, .ref qq5, .ref qq6, .null, .null, .null, .null, .int 0, .null, .null, .null, .null, .null, .null, .null, .null, .null, .int 0, .null, .null, .null, .null, .int 0, .null, .int 0, .int 0, .int 0, .int 0, .int 0, .null, .null]) bH_put ?_
  refine g_aload_n X dX7_init_44 0 rfl ?_
  refine g_sipush X (v := 1872) dX7_init_45 ks_1872 ?_
  refine g_newarr X (atype := .byte) (ty := .byte) rfl arc_byte (t := 1) rfl (fun C qc => by cases qc) (N := 1872) (1872, .inl (fun _ => 0)) (fun _ => rfl) (by decide) (by decide) (by decide) (Nat.le_of_ble_eq_true rfl) (Nat.le_of_ble_eq_true rfl) dX7_init_48 (fun qq7 hf7 hg7 => ?_)
  have hb7 := hb6.cons (j := 7) (f := fun _ => 0) hf7
  have hm7 := (bH_fr hf7).1
  refine g_h (h' := bH G h m [(qq7, 7, fun _ => 0), (qq6, 6, fun _ => 0), (qq5, 5, fun _ => 0), (qq4, 4, fun _ => 0), (qq3, 3, fun _ => 0), (qq2, 2, fun _ => 0)] [.int 0, .int 0, .ref qq2, .ref qq3, .ref qq4, .ref qq5, .ref qq6, .null, .null, .null, .null, .int 0, .null, .null, .null, .null, .null, .null, .null, .null, .null, .int 0, .null, .null, .null, .null, .int 0, .null, .int 0, .int 0, .int 0, .int 0, .int 0, .null, .null]) (bH_new (j := 7) (f := fun _ => 0) hm7) ?_
  refine g_putfieldF X F.2.1 fp_X7_26 dX7_init_50 bH_m (Nat.le_of_ble_eq_true rfl) rfl rfl _ rfl ?_
  refine g_h (h' := bH G h m [(qq7, 7, fun _ => 0), (qq6, 6, fun _ => 0), (qq5, 5, fun _ => 0), (qq4, 4, fun _ => 0), (qq3, 3, fun _ => 0), (qq2, 2, fun _ => 0)] [.int 0, .int 0, .ref qq2, .ref qq3, .ref qq4, .ref qq5, .ref qq6, .ref qq7, .null, .null, .null, .int 0, .null, .null, .null, .null, .null, .null, .null, .null, .null, .int 0, .null, .null, .null, .null, .int 0, .null, .int 0, .int 0, .int 0, .int 0, .int 0, .null, .null]) bH_put ?_
  refine g_aload_n X dX7_init_53 0 rfl ?_
  refine g_sipush X (v := 156) dX7_init_54 ks_156 ?_
  refine g_newarr X (atype := .int) (ty := .int) rfl arc_int (t := 0) rfl (fun C qc => by cases qc) (N := 156) (156, .inl (fun _ => 0)) (fun _ => rfl) (by decide) (by decide) (by decide) (Nat.le_of_ble_eq_true rfl) (Nat.le_of_ble_eq_true rfl) dX7_init_57 (fun qq8 hf8 hg8 => ?_)
  have hb8 := hb7.cons (j := 8) (f := fun _ => 0) hf8
  have hm8 := (bH_fr hf8).1
  refine g_h (h' := bH G h m [(qq8, 8, fun _ => 0), (qq7, 7, fun _ => 0), (qq6, 6, fun _ => 0), (qq5, 5, fun _ => 0), (qq4, 4, fun _ => 0), (qq3, 3, fun _ => 0), (qq2, 2, fun _ => 0)] [.int 0, .int 0, .ref qq2, .ref qq3, .ref qq4, .ref qq5, .ref qq6, .ref qq7, .null, .null, .null, .int 0, .null, .null, .null, .null, .null, .null, .null, .null, .null, .int 0, .null, .null, .null, .null, .int 0, .null, .int 0, .int 0, .int 0, .int 0, .int 0, .null, .null]) (bH_new (j := 8) (f := fun _ => 0) hm8) ?_
  refine g_putfieldF X F.2.1 fp_X7_30 dX7_init_59 bH_m (Nat.le_of_ble_eq_true rfl) rfl rfl _ rfl ?_
  refine g_h (h' := bH G h m [(qq8, 8, fun _ => 0), (qq7, 7, fun _ => 0), (qq6, 6, fun _ => 0), (qq5, 5, fun _ => 0), (qq4, 4, fun _ => 0), (qq3, 3, fun _ => 0), (qq2, 2, fun _ => 0)] [.int 0, .int 0, .ref qq2, .ref qq3, .ref qq4, .ref qq5, .ref qq6, .ref qq7, .ref qq8, .null, .null, .int 0, .null, .null, .null, .null, .null, .null, .null, .null, .null, .int 0, .null, .null, .null, .null, .int 0, .null, .int 0, .int 0, .int 0, .int 0, .int 0, .null, .null]) bH_put ?_
  refine g_aload_n X dX7_init_62 0 rfl ?_
  refine g_sipush X (v := 156) dX7_init_63 ks_156 ?_
  refine g_newarr X (atype := .boolean) (ty := .boolean) rfl arc_boolean (t := 3) rfl (fun C qc => by cases qc) (N := 156) (156, .inl (fun _ => 0)) (fun _ => rfl) (by decide) (by decide) (by decide) (Nat.le_of_ble_eq_true rfl) (Nat.le_of_ble_eq_true rfl) dX7_init_66 (fun qq9 hf9 hg9 => ?_)
  have hb9 := hb8.cons (j := 9) (f := fun _ => 0) hf9
  have hm9 := (bH_fr hf9).1
  refine g_h (h' := bH G h m [(qq9, 9, fun _ => 0), (qq8, 8, fun _ => 0), (qq7, 7, fun _ => 0), (qq6, 6, fun _ => 0), (qq5, 5, fun _ => 0), (qq4, 4, fun _ => 0), (qq3, 3, fun _ => 0), (qq2, 2, fun _ => 0)] [.int 0, .int 0, .ref qq2, .ref qq3, .ref qq4, .ref qq5, .ref qq6, .ref qq7, .ref qq8, .null, .null, .int 0, .null, .null, .null, .null, .null, .null, .null, .null, .null, .int 0, .null, .null, .null, .null, .int 0, .null, .int 0, .int 0, .int 0, .int 0, .int 0, .null, .null]) (bH_new (j := 9) (f := fun _ => 0) hm9) ?_
  refine g_putfieldF X F.2.1 fp_X7_33 dX7_init_68 bH_m (Nat.le_of_ble_eq_true rfl) rfl rfl _ rfl ?_
  refine g_h (h' := bH G h m [(qq9, 9, fun _ => 0), (qq8, 8, fun _ => 0), (qq7, 7, fun _ => 0), (qq6, 6, fun _ => 0), (qq5, 5, fun _ => 0), (qq4, 4, fun _ => 0), (qq3, 3, fun _ => 0), (qq2, 2, fun _ => 0)] [.int 0, .int 0, .ref qq2, .ref qq3, .ref qq4, .ref qq5, .ref qq6, .ref qq7, .ref qq8, .ref qq9, .null, .int 0, .null, .null, .null, .null, .null, .null, .null, .null, .null, .int 0, .null, .null, .null, .null, .int 0, .null, .int 0, .int 0, .int 0, .int 0, .int 0, .null, .null]) bH_put ?_
  refine g_aload_n X dX7_init_71 0 rfl ?_
  refine g_sipush X (v := 156) dX7_init_72 ks_156 ?_
  refine g_newarr X (atype := .boolean) (ty := .boolean) rfl arc_boolean (t := 3) rfl (fun C qc => by cases qc) (N := 156) (156, .inl (fun _ => 0)) (fun _ => rfl) (by decide) (by decide) (by decide) (Nat.le_of_ble_eq_true rfl) (Nat.le_of_ble_eq_true rfl) dX7_init_75 (fun qq10 hf10 hg10 => ?_)
  have hb10 := hb9.cons (j := 10) (f := fun _ => 0) hf10
  have hm10 := (bH_fr hf10).1
  refine g_h (h' := bH G h m [(qq10, 10, fun _ => 0), (qq9, 9, fun _ => 0), (qq8, 8, fun _ => 0), (qq7, 7, fun _ => 0), (qq6, 6, fun _ => 0), (qq5, 5, fun _ => 0), (qq4, 4, fun _ => 0), (qq3, 3, fun _ => 0), (qq2, 2, fun _ => 0)] [.int 0, .int 0, .ref qq2, .ref qq3, .ref qq4, .ref qq5, .ref qq6, .ref qq7, .ref qq8, .ref qq9, .null, .int 0, .null, .null, .null, .null, .null, .null, .null, .null, .null, .int 0, .null, .null, .null, .null, .int 0, .null, .int 0, .int 0, .int 0, .int 0, .int 0, .null, .null]) (bH_new (j := 10) (f := fun _ => 0) hm10) ?_
  refine g_putfieldF X F.2.1 fp_X7_36 dX7_init_77 bH_m (Nat.le_of_ble_eq_true rfl) rfl rfl _ rfl ?_
  refine g_h (h' := bH G h m [(qq10, 10, fun _ => 0), (qq9, 9, fun _ => 0), (qq8, 8, fun _ => 0), (qq7, 7, fun _ => 0), (qq6, 6, fun _ => 0), (qq5, 5, fun _ => 0), (qq4, 4, fun _ => 0), (qq3, 3, fun _ => 0), (qq2, 2, fun _ => 0)] [.int 0, .int 0, .ref qq2, .ref qq3, .ref qq4, .ref qq5, .ref qq6, .ref qq7, .ref qq8, .ref qq9, .ref qq10, .int 0, .null, .null, .null, .null, .null, .null, .null, .null, .null, .int 0, .null, .null, .null, .null, .int 0, .null, .int 0, .int 0, .int 0, .int 0, .int 0, .null, .null]) bH_put ?_
  refine g_aload_n X dX7_init_80 0 rfl ?_
  refine g_iconst X (v := 4) dX7_init_81 ki_4 ?_
  refine g_newarr X (atype := .int) (ty := .int) rfl arc_int (t := 0) rfl (fun C qc => by cases qc) (N := 4) (4, .inl (fun _ => 0)) (fun _ => rfl) (by decide) (by decide) (by decide) (Nat.le_of_ble_eq_true rfl) (Nat.le_of_ble_eq_true rfl) dX7_init_82 (fun qq12 hf12 hg12 => ?_)
  have hb12 := hb10.cons (j := 12) (f := fun _ => 0) hf12
  have hm12 := (bH_fr hf12).1
  refine g_h (h' := bH G h m [(qq12, 12, fun _ => 0), (qq10, 10, fun _ => 0), (qq9, 9, fun _ => 0), (qq8, 8, fun _ => 0), (qq7, 7, fun _ => 0), (qq6, 6, fun _ => 0), (qq5, 5, fun _ => 0), (qq4, 4, fun _ => 0), (qq3, 3, fun _ => 0), (qq2, 2, fun _ => 0)] [.int 0, .int 0, .ref qq2, .ref qq3, .ref qq4, .ref qq5, .ref qq6, .ref qq7, .ref qq8, .ref qq9, .ref qq10, .int 0, .null, .null, .null, .null, .null, .null, .null, .null, .null, .int 0, .null, .null, .null, .null, .int 0, .null, .int 0, .int 0, .int 0, .int 0, .int 0, .null, .null]) (bH_new (j := 12) (f := fun _ => 0) hm12) ?_
  refine g_dup X dX7_init_84 rfl ?_
  refine g_iconst X (v := 0) dX7_init_85 ki_0 ?_
  refine g_iconst X (v := 5) dX7_init_86 ki_5 ?_
  refine g_iastore X dX7_init_87 (bH_q (j := 12) hm12) (by unfold vp_in; decide) ?_
  refine g_h (h' := bH G h m [(qq12, 12, upd (fun _ => 0) 0 5), (qq10, 10, fun _ => 0), (qq9, 9, fun _ => 0), (qq8, 8, fun _ => 0), (qq7, 7, fun _ => 0), (qq6, 6, fun _ => 0), (qq5, 5, fun _ => 0), (qq4, 4, fun _ => 0), (qq3, 3, fun _ => 0), (qq2, 2, fun _ => 0)] [.int 0, .int 0, .ref qq2, .ref qq3, .ref qq4, .ref qq5, .ref qq6, .ref qq7, .ref qq8, .ref qq9, .ref qq10, .int 0, .null, .null, .null, .null, .null, .null, .null, .null, .null, .int 0, .null, .null, .null, .null, .int 0, .null, .int 0, .int 0, .int 0, .int 0, .int 0, .null, .null]) (bH_top (j := 12) hm12) ?_
  have hc12_0 := hb12.top (f' := upd (fun _ => 0) 0 5)
  refine g_dup X dX7_init_88 rfl ?_
  refine g_iconst X (v := 1) dX7_init_89 ki_1 ?_
  refine g_iconst X (v := 5) dX7_init_90 ki_5 ?_
  refine g_iastore X dX7_init_91 (bH_q (j := 12) hm12) (by unfold vp_in; decide) ?_
  refine g_h (h' := bH G h m [(qq12, 12, upd (upd (fun _ => 0) 0 5) 1 5), (qq10, 10, fun _ => 0), (qq9, 9, fun _ => 0), (qq8, 8, fun _ => 0), (qq7, 7, fun _ => 0), (qq6, 6, fun _ => 0), (qq5, 5, fun _ => 0), (qq4, 4, fun _ => 0), (qq3, 3, fun _ => 0), (qq2, 2, fun _ => 0)] [.int 0, .int 0, .ref qq2, .ref qq3, .ref qq4, .ref qq5, .ref qq6, .ref qq7, .ref qq8, .ref qq9, .ref qq10, .int 0, .null, .null, .null, .null, .null, .null, .null, .null, .null, .int 0, .null, .null, .null, .null, .int 0, .null, .int 0, .int 0, .int 0, .int 0, .int 0, .null, .null]) (bH_top (j := 12) hm12) ?_
  have hc12_1 := hc12_0.top (f' := upd (upd (fun _ => 0) 0 5) 1 5)
  refine g_dup X dX7_init_92 rfl ?_
  refine g_iconst X (v := 2) dX7_init_93 ki_2 ?_
  refine g_iconst X (v := 5) dX7_init_94 ki_5 ?_
  refine g_iastore X dX7_init_95 (bH_q (j := 12) hm12) (by unfold vp_in; decide) ?_
  refine g_h (h' := bH G h m [(qq12, 12, upd (upd (upd (fun _ => 0) 0 5) 1 5) 2 5), (qq10, 10, fun _ => 0), (qq9, 9, fun _ => 0), (qq8, 8, fun _ => 0), (qq7, 7, fun _ => 0), (qq6, 6, fun _ => 0), (qq5, 5, fun _ => 0), (qq4, 4, fun _ => 0), (qq3, 3, fun _ => 0), (qq2, 2, fun _ => 0)] [.int 0, .int 0, .ref qq2, .ref qq3, .ref qq4, .ref qq5, .ref qq6, .ref qq7, .ref qq8, .ref qq9, .ref qq10, .int 0, .null, .null, .null, .null, .null, .null, .null, .null, .null, .int 0, .null, .null, .null, .null, .int 0, .null, .int 0, .int 0, .int 0, .int 0, .int 0, .null, .null]) (bH_top (j := 12) hm12) ?_
  have hc12_2 := hc12_1.top (f' := upd (upd (upd (fun _ => 0) 0 5) 1 5) 2 5)
  refine g_dup X dX7_init_96 rfl ?_
  refine g_iconst X (v := 3) dX7_init_97 ki_3 ?_
  refine g_iconst X (v := 5) dX7_init_98 ki_5 ?_
  refine g_iastore X dX7_init_99 (bH_q (j := 12) hm12) (by unfold vp_in; decide) ?_
  refine g_h (h' := bH G h m [(qq12, 12, upd (upd (upd (upd (fun _ => 0) 0 5) 1 5) 2 5) 3 5), (qq10, 10, fun _ => 0), (qq9, 9, fun _ => 0), (qq8, 8, fun _ => 0), (qq7, 7, fun _ => 0), (qq6, 6, fun _ => 0), (qq5, 5, fun _ => 0), (qq4, 4, fun _ => 0), (qq3, 3, fun _ => 0), (qq2, 2, fun _ => 0)] [.int 0, .int 0, .ref qq2, .ref qq3, .ref qq4, .ref qq5, .ref qq6, .ref qq7, .ref qq8, .ref qq9, .ref qq10, .int 0, .null, .null, .null, .null, .null, .null, .null, .null, .null, .int 0, .null, .null, .null, .null, .int 0, .null, .int 0, .int 0, .int 0, .int 0, .int 0, .null, .null]) (bH_top (j := 12) hm12) ?_
  have hc12_3 := hc12_2.top (f' := upd (upd (upd (upd (fun _ => 0) 0 5) 1 5) 2 5) 3 5)
  refine g_putfieldF X F.2.1 fp_X7_39 dX7_init_100 bH_m (Nat.le_of_ble_eq_true rfl) rfl rfl _ rfl ?_
  refine g_h (h' := bH G h m [(qq12, 12, upd (upd (upd (upd (fun _ => 0) 0 5) 1 5) 2 5) 3 5), (qq10, 10, fun _ => 0), (qq9, 9, fun _ => 0), (qq8, 8, fun _ => 0), (qq7, 7, fun _ => 0), (qq6, 6, fun _ => 0), (qq5, 5, fun _ => 0), (qq4, 4, fun _ => 0), (qq3, 3, fun _ => 0), (qq2, 2, fun _ => 0)] [.int 0, .int 0, .ref qq2, .ref qq3, .ref qq4, .ref qq5, .ref qq6, .ref qq7, .ref qq8, .ref qq9, .ref qq10, .int 0, .ref qq12, .null, .null, .null, .null, .null, .null, .null, .null, .int 0, .null, .null, .null, .null, .int 0, .null, .int 0, .int 0, .int 0, .int 0, .int 0, .null, .null]) bH_put ?_
  refine g_aload_n X dX7_init_103 0 rfl ?_
  refine g_bipush X (v := 80) dX7_init_104 kb_80 ?_
  refine g_newarr X (atype := .int) (ty := .int) rfl arc_int (t := 0) rfl (fun C qc => by cases qc) (N := 80) (80, .inl (fun _ => 0)) (fun _ => rfl) (by decide) (by decide) (by decide) (Nat.le_of_ble_eq_true rfl) (Nat.le_of_ble_eq_true rfl) dX7_init_106 (fun qq13 hf13 hg13 => ?_)
  have hb13 := hc12_3.cons (j := 13) (f := fun _ => 0) hf13
  have hm13 := (bH_fr hf13).1
  refine g_h (h' := bH G h m [(qq13, 13, fun _ => 0), (qq12, 12, upd (upd (upd (upd (fun _ => 0) 0 5) 1 5) 2 5) 3 5), (qq10, 10, fun _ => 0), (qq9, 9, fun _ => 0), (qq8, 8, fun _ => 0), (qq7, 7, fun _ => 0), (qq6, 6, fun _ => 0), (qq5, 5, fun _ => 0), (qq4, 4, fun _ => 0), (qq3, 3, fun _ => 0), (qq2, 2, fun _ => 0)] [.int 0, .int 0, .ref qq2, .ref qq3, .ref qq4, .ref qq5, .ref qq6, .ref qq7, .ref qq8, .ref qq9, .ref qq10, .int 0, .ref qq12, .null, .null, .null, .null, .null, .null, .null, .null, .int 0, .null, .null, .null, .null, .int 0, .null, .int 0, .int 0, .int 0, .int 0, .int 0, .null, .null]) (bH_new (j := 13) (f := fun _ => 0) hm13) ?_
  refine g_putfieldF X F.2.1 fp_X7_42 dX7_init_108 bH_m (Nat.le_of_ble_eq_true rfl) rfl rfl _ rfl ?_
  refine g_h (h' := bH G h m [(qq13, 13, fun _ => 0), (qq12, 12, upd (upd (upd (upd (fun _ => 0) 0 5) 1 5) 2 5) 3 5), (qq10, 10, fun _ => 0), (qq9, 9, fun _ => 0), (qq8, 8, fun _ => 0), (qq7, 7, fun _ => 0), (qq6, 6, fun _ => 0), (qq5, 5, fun _ => 0), (qq4, 4, fun _ => 0), (qq3, 3, fun _ => 0), (qq2, 2, fun _ => 0)] [.int 0, .int 0, .ref qq2, .ref qq3, .ref qq4, .ref qq5, .ref qq6, .ref qq7, .ref qq8, .ref qq9, .ref qq10, .int 0, .ref qq12, .ref qq13, .null, .null, .null, .null, .null, .null, .null, .int 0, .null, .null, .null, .null, .int 0, .null, .int 0, .int 0, .int 0, .int 0, .int 0, .null, .null]) bH_put ?_
  refine g_aload_n X dX7_init_111 0 rfl ?_
  refine g_bipush X (v := 80) dX7_init_112 kb_80 ?_
  refine g_newarr X (atype := .int) (ty := .int) rfl arc_int (t := 0) rfl (fun C qc => by cases qc) (N := 80) (80, .inl (fun _ => 0)) (fun _ => rfl) (by decide) (by decide) (by decide) (Nat.le_of_ble_eq_true rfl) (Nat.le_of_ble_eq_true rfl) dX7_init_114 (fun qq14 hf14 hg14 => ?_)
  have hb14 := hb13.cons (j := 14) (f := fun _ => 0) hf14
  have hm14 := (bH_fr hf14).1
  refine g_h (h' := bH G h m [(qq14, 14, fun _ => 0), (qq13, 13, fun _ => 0), (qq12, 12, upd (upd (upd (upd (fun _ => 0) 0 5) 1 5) 2 5) 3 5), (qq10, 10, fun _ => 0), (qq9, 9, fun _ => 0), (qq8, 8, fun _ => 0), (qq7, 7, fun _ => 0), (qq6, 6, fun _ => 0), (qq5, 5, fun _ => 0), (qq4, 4, fun _ => 0), (qq3, 3, fun _ => 0), (qq2, 2, fun _ => 0)] [.int 0, .int 0, .ref qq2, .ref qq3, .ref qq4, .ref qq5, .ref qq6, .ref qq7, .ref qq8, .ref qq9, .ref qq10, .int 0, .ref qq12, .ref qq13, .null, .null, .null, .null, .null, .null, .null, .int 0, .null, .null, .null, .null, .int 0, .null, .int 0, .int 0, .int 0, .int 0, .int 0, .null, .null]) (bH_new (j := 14) (f := fun _ => 0) hm14) ?_
  refine g_putfieldF X F.2.1 fp_X7_45 dX7_init_116 bH_m (Nat.le_of_ble_eq_true rfl) rfl rfl _ rfl ?_
  refine g_h (h' := bH G h m [(qq14, 14, fun _ => 0), (qq13, 13, fun _ => 0), (qq12, 12, upd (upd (upd (upd (fun _ => 0) 0 5) 1 5) 2 5) 3 5), (qq10, 10, fun _ => 0), (qq9, 9, fun _ => 0), (qq8, 8, fun _ => 0), (qq7, 7, fun _ => 0), (qq6, 6, fun _ => 0), (qq5, 5, fun _ => 0), (qq4, 4, fun _ => 0), (qq3, 3, fun _ => 0), (qq2, 2, fun _ => 0)] [.int 0, .int 0, .ref qq2, .ref qq3, .ref qq4, .ref qq5, .ref qq6, .ref qq7, .ref qq8, .ref qq9, .ref qq10, .int 0, .ref qq12, .ref qq13, .ref qq14, .null, .null, .null, .null, .null, .null, .int 0, .null, .null, .null, .null, .int 0, .null, .int 0, .int 0, .int 0, .int 0, .int 0, .null, .null]) bH_put ?_
  refine g_aload_n X dX7_init_119 0 rfl ?_
  refine g_bipush X (v := 81) dX7_init_120 kb_81 ?_
  refine g_newarr X (atype := .int) (ty := .int) rfl arc_int (t := 0) rfl (fun C qc => by cases qc) (N := 81) (81, .inl (fun _ => 0)) (fun _ => rfl) (by decide) (by decide) (by decide) (Nat.le_of_ble_eq_true rfl) (Nat.le_of_ble_eq_true rfl) dX7_init_122 (fun qq15 hf15 hg15 => ?_)
  have hb15 := hb14.cons (j := 15) (f := fun _ => 0) hf15
  have hm15 := (bH_fr hf15).1
  refine g_h (h' := bH G h m [(qq15, 15, fun _ => 0), (qq14, 14, fun _ => 0), (qq13, 13, fun _ => 0), (qq12, 12, upd (upd (upd (upd (fun _ => 0) 0 5) 1 5) 2 5) 3 5), (qq10, 10, fun _ => 0), (qq9, 9, fun _ => 0), (qq8, 8, fun _ => 0), (qq7, 7, fun _ => 0), (qq6, 6, fun _ => 0), (qq5, 5, fun _ => 0), (qq4, 4, fun _ => 0), (qq3, 3, fun _ => 0), (qq2, 2, fun _ => 0)] [.int 0, .int 0, .ref qq2, .ref qq3, .ref qq4, .ref qq5, .ref qq6, .ref qq7, .ref qq8, .ref qq9, .ref qq10, .int 0, .ref qq12, .ref qq13, .ref qq14, .null, .null, .null, .null, .null, .null, .int 0, .null, .null, .null, .null, .int 0, .null, .int 0, .int 0, .int 0, .int 0, .int 0, .null, .null]) (bH_new (j := 15) (f := fun _ => 0) hm15) ?_
  refine g_putfieldF X F.2.1 fp_X7_48 dX7_init_124 bH_m (Nat.le_of_ble_eq_true rfl) rfl rfl _ rfl ?_
  refine g_h (h' := bH G h m [(qq15, 15, fun _ => 0), (qq14, 14, fun _ => 0), (qq13, 13, fun _ => 0), (qq12, 12, upd (upd (upd (upd (fun _ => 0) 0 5) 1 5) 2 5) 3 5), (qq10, 10, fun _ => 0), (qq9, 9, fun _ => 0), (qq8, 8, fun _ => 0), (qq7, 7, fun _ => 0), (qq6, 6, fun _ => 0), (qq5, 5, fun _ => 0), (qq4, 4, fun _ => 0), (qq3, 3, fun _ => 0), (qq2, 2, fun _ => 0)] [.int 0, .int 0, .ref qq2, .ref qq3, .ref qq4, .ref qq5, .ref qq6, .ref qq7, .ref qq8, .ref qq9, .ref qq10, .int 0, .ref qq12, .ref qq13, .ref qq14, .ref qq15, .null, .null, .null, .null, .null, .int 0, .null, .null, .null, .null, .int 0, .null, .int 0, .int 0, .int 0, .int 0, .int 0, .null, .null]) bH_put ?_
  refine g_aload_n X dX7_init_127 0 rfl ?_
  refine g_bipush X (v := 81) dX7_init_128 kb_81 ?_
  refine g_newarr X (atype := .int) (ty := .int) rfl arc_int (t := 0) rfl (fun C qc => by cases qc) (N := 81) (81, .inl (fun _ => 0)) (fun _ => rfl) (by decide) (by decide) (by decide) (Nat.le_of_ble_eq_true rfl) (Nat.le_of_ble_eq_true rfl) dX7_init_130 (fun qq16 hf16 hg16 => ?_)
  have hb16 := hb15.cons (j := 16) (f := fun _ => 0) hf16
  have hm16 := (bH_fr hf16).1
  refine g_h (h' := bH G h m [(qq16, 16, fun _ => 0), (qq15, 15, fun _ => 0), (qq14, 14, fun _ => 0), (qq13, 13, fun _ => 0), (qq12, 12, upd (upd (upd (upd (fun _ => 0) 0 5) 1 5) 2 5) 3 5), (qq10, 10, fun _ => 0), (qq9, 9, fun _ => 0), (qq8, 8, fun _ => 0), (qq7, 7, fun _ => 0), (qq6, 6, fun _ => 0), (qq5, 5, fun _ => 0), (qq4, 4, fun _ => 0), (qq3, 3, fun _ => 0), (qq2, 2, fun _ => 0)] [.int 0, .int 0, .ref qq2, .ref qq3, .ref qq4, .ref qq5, .ref qq6, .ref qq7, .ref qq8, .ref qq9, .ref qq10, .int 0, .ref qq12, .ref qq13, .ref qq14, .ref qq15, .null, .null, .null, .null, .null, .int 0, .null, .null, .null, .null, .int 0, .null, .int 0, .int 0, .int 0, .int 0, .int 0, .null, .null]) (bH_new (j := 16) (f := fun _ => 0) hm16) ?_
  refine g_putfieldF X F.2.1 fp_X7_51 dX7_init_132 bH_m (Nat.le_of_ble_eq_true rfl) rfl rfl _ rfl ?_
  refine g_h (h' := bH G h m [(qq16, 16, fun _ => 0), (qq15, 15, fun _ => 0), (qq14, 14, fun _ => 0), (qq13, 13, fun _ => 0), (qq12, 12, upd (upd (upd (upd (fun _ => 0) 0 5) 1 5) 2 5) 3 5), (qq10, 10, fun _ => 0), (qq9, 9, fun _ => 0), (qq8, 8, fun _ => 0), (qq7, 7, fun _ => 0), (qq6, 6, fun _ => 0), (qq5, 5, fun _ => 0), (qq4, 4, fun _ => 0), (qq3, 3, fun _ => 0), (qq2, 2, fun _ => 0)] [.int 0, .int 0, .ref qq2, .ref qq3, .ref qq4, .ref qq5, .ref qq6, .ref qq7, .ref qq8, .ref qq9, .ref qq10, .int 0, .ref qq12, .ref qq13, .ref qq14, .ref qq15, .ref qq16, .null, .null, .null, .null, .int 0, .null, .null, .null, .null, .int 0, .null, .int 0, .int 0, .int 0, .int 0, .int 0, .null, .null]) bH_put ?_
  refine g_aload_n X dX7_init_135 0 rfl ?_
  refine g_sipush X (v := 32400) dX7_init_136 ks_32400 ?_
  refine g_newarr X (atype := .byte) (ty := .byte) rfl arc_byte (t := 1) rfl (fun C qc => by cases qc) (N := 32400) (32400, .inl (fun _ => 0)) (fun _ => rfl) (by decide) (by decide) (by decide) (Nat.le_of_ble_eq_true rfl) (Nat.le_of_ble_eq_true rfl) dX7_init_139 (fun qq17 hf17 hg17 => ?_)
  have hb17 := hb16.cons (j := 17) (f := fun _ => 0) hf17
  have hm17 := (bH_fr hf17).1
  refine g_h (h' := bH G h m [(qq17, 17, fun _ => 0), (qq16, 16, fun _ => 0), (qq15, 15, fun _ => 0), (qq14, 14, fun _ => 0), (qq13, 13, fun _ => 0), (qq12, 12, upd (upd (upd (upd (fun _ => 0) 0 5) 1 5) 2 5) 3 5), (qq10, 10, fun _ => 0), (qq9, 9, fun _ => 0), (qq8, 8, fun _ => 0), (qq7, 7, fun _ => 0), (qq6, 6, fun _ => 0), (qq5, 5, fun _ => 0), (qq4, 4, fun _ => 0), (qq3, 3, fun _ => 0), (qq2, 2, fun _ => 0)] [.int 0, .int 0, .ref qq2, .ref qq3, .ref qq4, .ref qq5, .ref qq6, .ref qq7, .ref qq8, .ref qq9, .ref qq10, .int 0, .ref qq12, .ref qq13, .ref qq14, .ref qq15, .ref qq16, .null, .null, .null, .null, .int 0, .null, .null, .null, .null, .int 0, .null, .int 0, .int 0, .int 0, .int 0, .int 0, .null, .null]) (bH_new (j := 17) (f := fun _ => 0) hm17) ?_
  refine g_putfieldF X F.2.1 fp_X7_54 dX7_init_141 bH_m (Nat.le_of_ble_eq_true rfl) rfl rfl _ rfl ?_
  refine g_h (h' := bH G h m [(qq17, 17, fun _ => 0), (qq16, 16, fun _ => 0), (qq15, 15, fun _ => 0), (qq14, 14, fun _ => 0), (qq13, 13, fun _ => 0), (qq12, 12, upd (upd (upd (upd (fun _ => 0) 0 5) 1 5) 2 5) 3 5), (qq10, 10, fun _ => 0), (qq9, 9, fun _ => 0), (qq8, 8, fun _ => 0), (qq7, 7, fun _ => 0), (qq6, 6, fun _ => 0), (qq5, 5, fun _ => 0), (qq4, 4, fun _ => 0), (qq3, 3, fun _ => 0), (qq2, 2, fun _ => 0)] [.int 0, .int 0, .ref qq2, .ref qq3, .ref qq4, .ref qq5, .ref qq6, .ref qq7, .ref qq8, .ref qq9, .ref qq10, .int 0, .ref qq12, .ref qq13, .ref qq14, .ref qq15, .ref qq16, .ref qq17, .null, .null, .null, .int 0, .null, .null, .null, .null, .int 0, .null, .int 0, .int 0, .int 0, .int 0, .int 0, .null, .null]) bH_put ?_
  refine g_aload_n X dX7_init_144 0 rfl ?_
  refine g_sipush X (v := 4860) dX7_init_145 ks_4860 ?_
  refine g_newarr X (atype := .int) (ty := .int) rfl arc_int (t := 0) rfl (fun C qc => by cases qc) (N := 4860) (4860, .inl (fun _ => 0)) (fun _ => rfl) (by decide) (by decide) (by decide) (Nat.le_of_ble_eq_true rfl) (Nat.le_of_ble_eq_true rfl) dX7_init_148 (fun qq18 hf18 hg18 => ?_)
  have hb18 := hb17.cons (j := 18) (f := fun _ => 0) hf18
  have hm18 := (bH_fr hf18).1
  refine g_h (h' := bH G h m [(qq18, 18, fun _ => 0), (qq17, 17, fun _ => 0), (qq16, 16, fun _ => 0), (qq15, 15, fun _ => 0), (qq14, 14, fun _ => 0), (qq13, 13, fun _ => 0), (qq12, 12, upd (upd (upd (upd (fun _ => 0) 0 5) 1 5) 2 5) 3 5), (qq10, 10, fun _ => 0), (qq9, 9, fun _ => 0), (qq8, 8, fun _ => 0), (qq7, 7, fun _ => 0), (qq6, 6, fun _ => 0), (qq5, 5, fun _ => 0), (qq4, 4, fun _ => 0), (qq3, 3, fun _ => 0), (qq2, 2, fun _ => 0)] [.int 0, .int 0, .ref qq2, .ref qq3, .ref qq4, .ref qq5, .ref qq6, .ref qq7, .ref qq8, .ref qq9, .ref qq10, .int 0, .ref qq12, .ref qq13, .ref qq14, .ref qq15, .ref qq16, .ref qq17, .null, .null, .null, .int 0, .null, .null, .null, .null, .int 0, .null, .int 0, .int 0, .int 0, .int 0, .int 0, .null, .null]) (bH_new (j := 18) (f := fun _ => 0) hm18) ?_
  refine g_putfieldF X F.2.1 fp_X7_57 dX7_init_150 bH_m (Nat.le_of_ble_eq_true rfl) rfl rfl _ rfl ?_
  refine g_h (h' := bH G h m [(qq18, 18, fun _ => 0), (qq17, 17, fun _ => 0), (qq16, 16, fun _ => 0), (qq15, 15, fun _ => 0), (qq14, 14, fun _ => 0), (qq13, 13, fun _ => 0), (qq12, 12, upd (upd (upd (upd (fun _ => 0) 0 5) 1 5) 2 5) 3 5), (qq10, 10, fun _ => 0), (qq9, 9, fun _ => 0), (qq8, 8, fun _ => 0), (qq7, 7, fun _ => 0), (qq6, 6, fun _ => 0), (qq5, 5, fun _ => 0), (qq4, 4, fun _ => 0), (qq3, 3, fun _ => 0), (qq2, 2, fun _ => 0)] [.int 0, .int 0, .ref qq2, .ref qq3, .ref qq4, .ref qq5, .ref qq6, .ref qq7, .ref qq8, .ref qq9, .ref qq10, .int 0, .ref qq12, .ref qq13, .ref qq14, .ref qq15, .ref qq16, .ref qq17, .ref qq18, .null, .null, .int 0, .null, .null, .null, .null, .int 0, .null, .int 0, .int 0, .int 0, .int 0, .int 0, .null, .null]) bH_put ?_
  refine g_aload_n X dX7_init_153 0 rfl ?_
  refine g_sipush X (v := 4860) dX7_init_154 ks_4860 ?_
  refine g_newarr X (atype := .int) (ty := .int) rfl arc_int (t := 0) rfl (fun C qc => by cases qc) (N := 4860) (4860, .inl (fun _ => 0)) (fun _ => rfl) (by decide) (by decide) (by decide) (Nat.le_of_ble_eq_true rfl) (Nat.le_of_ble_eq_true rfl) dX7_init_157 (fun qq19 hf19 hg19 => ?_)
  have hb19 := hb18.cons (j := 19) (f := fun _ => 0) hf19
  have hm19 := (bH_fr hf19).1
  refine g_h (h' := bH G h m [(qq19, 19, fun _ => 0), (qq18, 18, fun _ => 0), (qq17, 17, fun _ => 0), (qq16, 16, fun _ => 0), (qq15, 15, fun _ => 0), (qq14, 14, fun _ => 0), (qq13, 13, fun _ => 0), (qq12, 12, upd (upd (upd (upd (fun _ => 0) 0 5) 1 5) 2 5) 3 5), (qq10, 10, fun _ => 0), (qq9, 9, fun _ => 0), (qq8, 8, fun _ => 0), (qq7, 7, fun _ => 0), (qq6, 6, fun _ => 0), (qq5, 5, fun _ => 0), (qq4, 4, fun _ => 0), (qq3, 3, fun _ => 0), (qq2, 2, fun _ => 0)] [.int 0, .int 0, .ref qq2, .ref qq3, .ref qq4, .ref qq5, .ref qq6, .ref qq7, .ref qq8, .ref qq9, .ref qq10, .int 0, .ref qq12, .ref qq13, .ref qq14, .ref qq15, .ref qq16, .ref qq17, .ref qq18, .null, .null, .int 0, .null, .null, .null, .null, .int 0, .null, .int 0, .int 0, .int 0, .int 0, .int 0, .null, .null]) (bH_new (j := 19) (f := fun _ => 0) hm19) ?_
  refine g_putfieldF X F.2.1 fp_X7_60 dX7_init_159 bH_m (Nat.le_of_ble_eq_true rfl) rfl rfl _ rfl ?_
  refine g_h (h' := bH G h m [(qq19, 19, fun _ => 0), (qq18, 18, fun _ => 0), (qq17, 17, fun _ => 0), (qq16, 16, fun _ => 0), (qq15, 15, fun _ => 0), (qq14, 14, fun _ => 0), (qq13, 13, fun _ => 0), (qq12, 12, upd (upd (upd (upd (fun _ => 0) 0 5) 1 5) 2 5) 3 5), (qq10, 10, fun _ => 0), (qq9, 9, fun _ => 0), (qq8, 8, fun _ => 0), (qq7, 7, fun _ => 0), (qq6, 6, fun _ => 0), (qq5, 5, fun _ => 0), (qq4, 4, fun _ => 0), (qq3, 3, fun _ => 0), (qq2, 2, fun _ => 0)] [.int 0, .int 0, .ref qq2, .ref qq3, .ref qq4, .ref qq5, .ref qq6, .ref qq7, .ref qq8, .ref qq9, .ref qq10, .int 0, .ref qq12, .ref qq13, .ref qq14, .ref qq15, .ref qq16, .ref qq17, .ref qq18, .ref qq19, .null, .int 0, .null, .null, .null, .null, .int 0, .null, .int 0, .int 0, .int 0, .int 0, .int 0, .null, .null]) bH_put ?_
  refine g_aload_n X dX7_init_162 0 rfl ?_
  refine g_sipush X (v := 4860) dX7_init_163 ks_4860 ?_
  refine g_newarr X (atype := .int) (ty := .int) rfl arc_int (t := 0) rfl (fun C qc => by cases qc) (N := 4860) (4860, .inl (fun _ => 0)) (fun _ => rfl) (by decide) (by decide) (by decide) (Nat.le_of_ble_eq_true rfl) (Nat.le_of_ble_eq_true rfl) dX7_init_166 (fun qq20 hf20 hg20 => ?_)
  have hb20 := hb19.cons (j := 20) (f := fun _ => 0) hf20
  have hm20 := (bH_fr hf20).1
  refine g_h (h' := bH G h m [(qq20, 20, fun _ => 0), (qq19, 19, fun _ => 0), (qq18, 18, fun _ => 0), (qq17, 17, fun _ => 0), (qq16, 16, fun _ => 0), (qq15, 15, fun _ => 0), (qq14, 14, fun _ => 0), (qq13, 13, fun _ => 0), (qq12, 12, upd (upd (upd (upd (fun _ => 0) 0 5) 1 5) 2 5) 3 5), (qq10, 10, fun _ => 0), (qq9, 9, fun _ => 0), (qq8, 8, fun _ => 0), (qq7, 7, fun _ => 0), (qq6, 6, fun _ => 0), (qq5, 5, fun _ => 0), (qq4, 4, fun _ => 0), (qq3, 3, fun _ => 0), (qq2, 2, fun _ => 0)] [.int 0, .int 0, .ref qq2, .ref qq3, .ref qq4, .ref qq5, .ref qq6, .ref qq7, .ref qq8, .ref qq9, .ref qq10, .int 0, .ref qq12, .ref qq13, .ref qq14, .ref qq15, .ref qq16, .ref qq17, .ref qq18, .ref qq19, .null, .int 0, .null, .null, .null, .null, .int 0, .null, .int 0, .int 0, .int 0, .int 0, .int 0, .null, .null]) (bH_new (j := 20) (f := fun _ => 0) hm20) ?_
  refine g_putfieldF X F.2.1 fp_X7_63 dX7_init_168 bH_m (Nat.le_of_ble_eq_true rfl) rfl rfl _ rfl ?_
  refine g_h (h' := bH G h m [(qq20, 20, fun _ => 0), (qq19, 19, fun _ => 0), (qq18, 18, fun _ => 0), (qq17, 17, fun _ => 0), (qq16, 16, fun _ => 0), (qq15, 15, fun _ => 0), (qq14, 14, fun _ => 0), (qq13, 13, fun _ => 0), (qq12, 12, upd (upd (upd (upd (fun _ => 0) 0 5) 1 5) 2 5) 3 5), (qq10, 10, fun _ => 0), (qq9, 9, fun _ => 0), (qq8, 8, fun _ => 0), (qq7, 7, fun _ => 0), (qq6, 6, fun _ => 0), (qq5, 5, fun _ => 0), (qq4, 4, fun _ => 0), (qq3, 3, fun _ => 0), (qq2, 2, fun _ => 0)] [.int 0, .int 0, .ref qq2, .ref qq3, .ref qq4, .ref qq5, .ref qq6, .ref qq7, .ref qq8, .ref qq9, .ref qq10, .int 0, .ref qq12, .ref qq13, .ref qq14, .ref qq15, .ref qq16, .ref qq17, .ref qq18, .ref qq19, .ref qq20, .int 0, .null, .null, .null, .null, .int 0, .null, .int 0, .int 0, .int 0, .int 0, .int 0, .null, .null]) bH_put ?_
  refine g_aload_n X dX7_init_171 0 rfl ?_
  refine g_sipush X (v := 480) dX7_init_172 ks_480 ?_
  refine g_newarr X (atype := .int) (ty := .int) rfl arc_int (t := 0) rfl (fun C qc => by cases qc) (N := 480) (480, .inl (fun _ => 0)) (fun _ => rfl) (by decide) (by decide) (by decide) (Nat.le_of_ble_eq_true rfl) (Nat.le_of_ble_eq_true rfl) dX7_init_175 (fun qq22 hf22 hg22 => ?_)
  have hb22 := hb20.cons (j := 22) (f := fun _ => 0) hf22
  have hm22 := (bH_fr hf22).1
  refine g_h (h' := bH G h m [(qq22, 22, fun _ => 0), (qq20, 20, fun _ => 0), (qq19, 19, fun _ => 0), (qq18, 18, fun _ => 0), (qq17, 17, fun _ => 0), (qq16, 16, fun _ => 0), (qq15, 15, fun _ => 0), (qq14, 14, fun _ => 0), (qq13, 13, fun _ => 0), (qq12, 12, upd (upd (upd (upd (fun _ => 0) 0 5) 1 5) 2 5) 3 5), (qq10, 10, fun _ => 0), (qq9, 9, fun _ => 0), (qq8, 8, fun _ => 0), (qq7, 7, fun _ => 0), (qq6, 6, fun _ => 0), (qq5, 5, fun _ => 0), (qq4, 4, fun _ => 0), (qq3, 3, fun _ => 0), (qq2, 2, fun _ => 0)] [.int 0, .int 0, .ref qq2, .ref qq3, .ref qq4, .ref qq5, .ref qq6, .ref qq7, .ref qq8, .ref qq9, .ref qq10, .int 0, .ref qq12, .ref qq13, .ref qq14, .ref qq15, .ref qq16, .ref qq17, .ref qq18, .ref qq19, .ref qq20, .int 0, .null, .null, .null, .null, .int 0, .null, .int 0, .int 0, .int 0, .int 0, .int 0, .null, .null]) (bH_new (j := 22) (f := fun _ => 0) hm22) ?_
  refine g_putfieldF X F.2.1 fp_X7_66 dX7_init_177 bH_m (Nat.le_of_ble_eq_true rfl) rfl rfl _ rfl ?_
  refine g_h (h' := bH G h m [(qq22, 22, fun _ => 0), (qq20, 20, fun _ => 0), (qq19, 19, fun _ => 0), (qq18, 18, fun _ => 0), (qq17, 17, fun _ => 0), (qq16, 16, fun _ => 0), (qq15, 15, fun _ => 0), (qq14, 14, fun _ => 0), (qq13, 13, fun _ => 0), (qq12, 12, upd (upd (upd (upd (fun _ => 0) 0 5) 1 5) 2 5) 3 5), (qq10, 10, fun _ => 0), (qq9, 9, fun _ => 0), (qq8, 8, fun _ => 0), (qq7, 7, fun _ => 0), (qq6, 6, fun _ => 0), (qq5, 5, fun _ => 0), (qq4, 4, fun _ => 0), (qq3, 3, fun _ => 0), (qq2, 2, fun _ => 0)] [.int 0, .int 0, .ref qq2, .ref qq3, .ref qq4, .ref qq5, .ref qq6, .ref qq7, .ref qq8, .ref qq9, .ref qq10, .int 0, .ref qq12, .ref qq13, .ref qq14, .ref qq15, .ref qq16, .ref qq17, .ref qq18, .ref qq19, .ref qq20, .int 0, .ref qq22, .null, .null, .null, .int 0, .null, .int 0, .int 0, .int 0, .int 0, .int 0, .null, .null]) bH_put ?_
  refine g_aload_n X dX7_init_180 0 rfl ?_
  refine g_sipush X (v := 480) dX7_init_181 ks_480 ?_
  refine g_newarr X (atype := .int) (ty := .int) rfl arc_int (t := 0) rfl (fun C qc => by cases qc) (N := 480) (480, .inl (fun _ => 0)) (fun _ => rfl) (by decide) (by decide) (by decide) (Nat.le_of_ble_eq_true rfl) (Nat.le_of_ble_eq_true rfl) dX7_init_184 (fun qq23 hf23 hg23 => ?_)
  have hb23 := hb22.cons (j := 23) (f := fun _ => 0) hf23
  have hm23 := (bH_fr hf23).1
  refine g_h (h' := bH G h m [(qq23, 23, fun _ => 0), (qq22, 22, fun _ => 0), (qq20, 20, fun _ => 0), (qq19, 19, fun _ => 0), (qq18, 18, fun _ => 0), (qq17, 17, fun _ => 0), (qq16, 16, fun _ => 0), (qq15, 15, fun _ => 0), (qq14, 14, fun _ => 0), (qq13, 13, fun _ => 0), (qq12, 12, upd (upd (upd (upd (fun _ => 0) 0 5) 1 5) 2 5) 3 5), (qq10, 10, fun _ => 0), (qq9, 9, fun _ => 0), (qq8, 8, fun _ => 0), (qq7, 7, fun _ => 0), (qq6, 6, fun _ => 0), (qq5, 5, fun _ => 0), (qq4, 4, fun _ => 0), (qq3, 3, fun _ => 0), (qq2, 2, fun _ => 0)] [.int 0, .int 0, .ref qq2, .ref qq3, .ref qq4, .ref qq5, .ref qq6, .ref qq7, .ref qq8, .ref qq9, .ref qq10, .int 0, .ref qq12, .ref qq13, .ref qq14, .ref qq15, .ref qq16, .ref qq17, .ref qq18, .ref qq19, .ref qq20, .int 0, .ref qq22, .null, .null, .null, .int 0, .null, .int 0, .int 0, .int 0, .int 0, .int 0, .null, .null]) (bH_new (j := 23) (f := fun _ => 0) hm23) ?_
  refine g_putfieldF X F.2.1 fp_X7_69 dX7_init_186 bH_m (Nat.le_of_ble_eq_true rfl) rfl rfl _ rfl ?_
  refine g_h (h' := bH G h m [(qq23, 23, fun _ => 0), (qq22, 22, fun _ => 0), (qq20, 20, fun _ => 0), (qq19, 19, fun _ => 0), (qq18, 18, fun _ => 0), (qq17, 17, fun _ => 0), (qq16, 16, fun _ => 0), (qq15, 15, fun _ => 0), (qq14, 14, fun _ => 0), (qq13, 13, fun _ => 0), (qq12, 12, upd (upd (upd (upd (fun _ => 0) 0 5) 1 5) 2 5) 3 5), (qq10, 10, fun _ => 0), (qq9, 9, fun _ => 0), (qq8, 8, fun _ => 0), (qq7, 7, fun _ => 0), (qq6, 6, fun _ => 0), (qq5, 5, fun _ => 0), (qq4, 4, fun _ => 0), (qq3, 3, fun _ => 0), (qq2, 2, fun _ => 0)] [.int 0, .int 0, .ref qq2, .ref qq3, .ref qq4, .ref qq5, .ref qq6, .ref qq7, .ref qq8, .ref qq9, .ref qq10, .int 0, .ref qq12, .ref qq13, .ref qq14, .ref qq15, .ref qq16, .ref qq17, .ref qq18, .ref qq19, .ref qq20, .int 0, .ref qq22, .ref qq23, .null, .null, .int 0, .null, .int 0, .int 0, .int 0, .int 0, .int 0, .null, .null]) bH_put ?_
  refine g_aload_n X dX7_init_189 0 rfl ?_
  refine g_sipush X (v := 480) dX7_init_190 ks_480 ?_
  refine g_newarr X (atype := .int) (ty := .int) rfl arc_int (t := 0) rfl (fun C qc => by cases qc) (N := 480) (480, .inl (fun _ => 0)) (fun _ => rfl) (by decide) (by decide) (by decide) (Nat.le_of_ble_eq_true rfl) (Nat.le_of_ble_eq_true rfl) dX7_init_193 (fun qq24 hf24 hg24 => ?_)
  have hb24 := hb23.cons (j := 24) (f := fun _ => 0) hf24
  have hm24 := (bH_fr hf24).1
  refine g_h (h' := bH G h m [(qq24, 24, fun _ => 0), (qq23, 23, fun _ => 0), (qq22, 22, fun _ => 0), (qq20, 20, fun _ => 0), (qq19, 19, fun _ => 0), (qq18, 18, fun _ => 0), (qq17, 17, fun _ => 0), (qq16, 16, fun _ => 0), (qq15, 15, fun _ => 0), (qq14, 14, fun _ => 0), (qq13, 13, fun _ => 0), (qq12, 12, upd (upd (upd (upd (fun _ => 0) 0 5) 1 5) 2 5) 3 5), (qq10, 10, fun _ => 0), (qq9, 9, fun _ => 0), (qq8, 8, fun _ => 0), (qq7, 7, fun _ => 0), (qq6, 6, fun _ => 0), (qq5, 5, fun _ => 0), (qq4, 4, fun _ => 0), (qq3, 3, fun _ => 0), (qq2, 2, fun _ => 0)] [.int 0, .int 0, .ref qq2, .ref qq3, .ref qq4, .ref qq5, .ref qq6, .ref qq7, .ref qq8, .ref qq9, .ref qq10, .int 0, .ref qq12, .ref qq13, .ref qq14, .ref qq15, .ref qq16, .ref qq17, .ref qq18, .ref qq19, .ref qq20, .int 0, .ref qq22, .ref qq23, .null, .null, .int 0, .null, .int 0, .int 0, .int 0, .int 0, .int 0, .null, .null]) (bH_new (j := 24) (f := fun _ => 0) hm24) ?_
  refine g_putfieldF X F.2.1 fp_X7_72 dX7_init_195 bH_m (Nat.le_of_ble_eq_true rfl) rfl rfl _ rfl ?_
  refine g_h (h' := bH G h m [(qq24, 24, fun _ => 0), (qq23, 23, fun _ => 0), (qq22, 22, fun _ => 0), (qq20, 20, fun _ => 0), (qq19, 19, fun _ => 0), (qq18, 18, fun _ => 0), (qq17, 17, fun _ => 0), (qq16, 16, fun _ => 0), (qq15, 15, fun _ => 0), (qq14, 14, fun _ => 0), (qq13, 13, fun _ => 0), (qq12, 12, upd (upd (upd (upd (fun _ => 0) 0 5) 1 5) 2 5) 3 5), (qq10, 10, fun _ => 0), (qq9, 9, fun _ => 0), (qq8, 8, fun _ => 0), (qq7, 7, fun _ => 0), (qq6, 6, fun _ => 0), (qq5, 5, fun _ => 0), (qq4, 4, fun _ => 0), (qq3, 3, fun _ => 0), (qq2, 2, fun _ => 0)] [.int 0, .int 0, .ref qq2, .ref qq3, .ref qq4, .ref qq5, .ref qq6, .ref qq7, .ref qq8, .ref qq9, .ref qq10, .int 0, .ref qq12, .ref qq13, .ref qq14, .ref qq15, .ref qq16, .ref qq17, .ref qq18, .ref qq19, .ref qq20, .int 0, .ref qq22, .ref qq23, .ref qq24, .null, .int 0, .null, .int 0, .int 0, .int 0, .int 0, .int 0, .null, .null]) bH_put ?_
  refine g_aload_n X dX7_init_198 0 rfl ?_
  refine g_bipush X (v := 10) dX7_init_199 kb_10 ?_
  refine g_newarr X (atype := .int) (ty := .int) rfl arc_int (t := 0) rfl (fun C qc => by cases qc) (N := 10) (10, .inl (fun _ => 0)) (fun _ => rfl) (by decide) (by decide) (by decide) (Nat.le_of_ble_eq_true rfl) (Nat.le_of_ble_eq_true rfl) dX7_init_201 (fun qq25 hf25 hg25 => ?_)
  have hb25 := hb24.cons (j := 25) (f := fun _ => 0) hf25
  have hm25 := (bH_fr hf25).1
  refine g_h (h' := bH G h m [(qq25, 25, fun _ => 0), (qq24, 24, fun _ => 0), (qq23, 23, fun _ => 0), (qq22, 22, fun _ => 0), (qq20, 20, fun _ => 0), (qq19, 19, fun _ => 0), (qq18, 18, fun _ => 0), (qq17, 17, fun _ => 0), (qq16, 16, fun _ => 0), (qq15, 15, fun _ => 0), (qq14, 14, fun _ => 0), (qq13, 13, fun _ => 0), (qq12, 12, upd (upd (upd (upd (fun _ => 0) 0 5) 1 5) 2 5) 3 5), (qq10, 10, fun _ => 0), (qq9, 9, fun _ => 0), (qq8, 8, fun _ => 0), (qq7, 7, fun _ => 0), (qq6, 6, fun _ => 0), (qq5, 5, fun _ => 0), (qq4, 4, fun _ => 0), (qq3, 3, fun _ => 0), (qq2, 2, fun _ => 0)] [.int 0, .int 0, .ref qq2, .ref qq3, .ref qq4, .ref qq5, .ref qq6, .ref qq7, .ref qq8, .ref qq9, .ref qq10, .int 0, .ref qq12, .ref qq13, .ref qq14, .ref qq15, .ref qq16, .ref qq17, .ref qq18, .ref qq19, .ref qq20, .int 0, .ref qq22, .ref qq23, .ref qq24, .null, .int 0, .null, .int 0, .int 0, .int 0, .int 0, .int 0, .null, .null]) (bH_new (j := 25) (f := fun _ => 0) hm25) ?_
  refine g_putfieldF X F.2.1 fp_X7_75 dX7_init_203 bH_m (Nat.le_of_ble_eq_true rfl) rfl rfl _ rfl ?_
  refine g_h (h' := bH G h m [(qq25, 25, fun _ => 0), (qq24, 24, fun _ => 0), (qq23, 23, fun _ => 0), (qq22, 22, fun _ => 0), (qq20, 20, fun _ => 0), (qq19, 19, fun _ => 0), (qq18, 18, fun _ => 0), (qq17, 17, fun _ => 0), (qq16, 16, fun _ => 0), (qq15, 15, fun _ => 0), (qq14, 14, fun _ => 0), (qq13, 13, fun _ => 0), (qq12, 12, upd (upd (upd (upd (fun _ => 0) 0 5) 1 5) 2 5) 3 5), (qq10, 10, fun _ => 0), (qq9, 9, fun _ => 0), (qq8, 8, fun _ => 0), (qq7, 7, fun _ => 0), (qq6, 6, fun _ => 0), (qq5, 5, fun _ => 0), (qq4, 4, fun _ => 0), (qq3, 3, fun _ => 0), (qq2, 2, fun _ => 0)] [.int 0, .int 0, .ref qq2, .ref qq3, .ref qq4, .ref qq5, .ref qq6, .ref qq7, .ref qq8, .ref qq9, .ref qq10, .int 0, .ref qq12, .ref qq13, .ref qq14, .ref qq15, .ref qq16, .ref qq17, .ref qq18, .ref qq19, .ref qq20, .int 0, .ref qq22, .ref qq23, .ref qq24, .ref qq25, .int 0, .null, .int 0, .int 0, .int 0, .int 0, .int 0, .null, .null]) bH_put ?_
  refine g_aload_n X dX7_init_206 0 rfl ?_
  refine g_sipush X (v := 400) dX7_init_207 ks_400 ?_
  refine g_newarr X (atype := .byte) (ty := .byte) rfl arc_byte (t := 1) rfl (fun C qc => by cases qc) (N := 400) (400, .inl (fun _ => 0)) (fun _ => rfl) (by decide) (by decide) (by decide) (Nat.le_of_ble_eq_true rfl) (Nat.le_of_ble_eq_true rfl) dX7_init_210 (fun qq27 hf27 hg27 => ?_)
  have hb27 := hb25.cons (j := 27) (f := fun _ => 0) hf27
  have hm27 := (bH_fr hf27).1
  refine g_h (h' := bH G h m [(qq27, 27, fun _ => 0), (qq25, 25, fun _ => 0), (qq24, 24, fun _ => 0), (qq23, 23, fun _ => 0), (qq22, 22, fun _ => 0), (qq20, 20, fun _ => 0), (qq19, 19, fun _ => 0), (qq18, 18, fun _ => 0), (qq17, 17, fun _ => 0), (qq16, 16, fun _ => 0), (qq15, 15, fun _ => 0), (qq14, 14, fun _ => 0), (qq13, 13, fun _ => 0), (qq12, 12, upd (upd (upd (upd (fun _ => 0) 0 5) 1 5) 2 5) 3 5), (qq10, 10, fun _ => 0), (qq9, 9, fun _ => 0), (qq8, 8, fun _ => 0), (qq7, 7, fun _ => 0), (qq6, 6, fun _ => 0), (qq5, 5, fun _ => 0), (qq4, 4, fun _ => 0), (qq3, 3, fun _ => 0), (qq2, 2, fun _ => 0)] [.int 0, .int 0, .ref qq2, .ref qq3, .ref qq4, .ref qq5, .ref qq6, .ref qq7, .ref qq8, .ref qq9, .ref qq10, .int 0, .ref qq12, .ref qq13, .ref qq14, .ref qq15, .ref qq16, .ref qq17, .ref qq18, .ref qq19, .ref qq20, .int 0, .ref qq22, .ref qq23, .ref qq24, .ref qq25, .int 0, .null, .int 0, .int 0, .int 0, .int 0, .int 0, .null, .null]) (bH_new (j := 27) (f := fun _ => 0) hm27) ?_
  refine g_putfieldF X F.2.1 fp_X7_78 dX7_init_212 bH_m (Nat.le_of_ble_eq_true rfl) rfl rfl _ rfl ?_
  refine g_h (h' := bH G h m [(qq27, 27, fun _ => 0), (qq25, 25, fun _ => 0), (qq24, 24, fun _ => 0), (qq23, 23, fun _ => 0), (qq22, 22, fun _ => 0), (qq20, 20, fun _ => 0), (qq19, 19, fun _ => 0), (qq18, 18, fun _ => 0), (qq17, 17, fun _ => 0), (qq16, 16, fun _ => 0), (qq15, 15, fun _ => 0), (qq14, 14, fun _ => 0), (qq13, 13, fun _ => 0), (qq12, 12, upd (upd (upd (upd (fun _ => 0) 0 5) 1 5) 2 5) 3 5), (qq10, 10, fun _ => 0), (qq9, 9, fun _ => 0), (qq8, 8, fun _ => 0), (qq7, 7, fun _ => 0), (qq6, 6, fun _ => 0), (qq5, 5, fun _ => 0), (qq4, 4, fun _ => 0), (qq3, 3, fun _ => 0), (qq2, 2, fun _ => 0)] [.int 0, .int 0, .ref qq2, .ref qq3, .ref qq4, .ref qq5, .ref qq6, .ref qq7, .ref qq8, .ref qq9, .ref qq10, .int 0, .ref qq12, .ref qq13, .ref qq14, .ref qq15, .ref qq16, .ref qq17, .ref qq18, .ref qq19, .ref qq20, .int 0, .ref qq22, .ref qq23, .ref qq24, .ref qq25, .int 0, .ref qq27, .int 0, .int 0, .int 0, .int 0, .int 0, .null, .null]) bH_put ?_
  refine g_aload_n X dX7_init_215 0 rfl ?_
  refine g_iconst X (v := (-1)) dX7_init_216 ki_m1 ?_
  refine g_putfield X fp_X7_81 dX7_init_217 bH_m (Nat.le_of_ble_eq_true rfl) rfl rfl _ rfl ?_
  refine g_h (h' := bH G h m [(qq27, 27, fun _ => 0), (qq25, 25, fun _ => 0), (qq24, 24, fun _ => 0), (qq23, 23, fun _ => 0), (qq22, 22, fun _ => 0), (qq20, 20, fun _ => 0), (qq19, 19, fun _ => 0), (qq18, 18, fun _ => 0), (qq17, 17, fun _ => 0), (qq16, 16, fun _ => 0), (qq15, 15, fun _ => 0), (qq14, 14, fun _ => 0), (qq13, 13, fun _ => 0), (qq12, 12, upd (upd (upd (upd (fun _ => 0) 0 5) 1 5) 2 5) 3 5), (qq10, 10, fun _ => 0), (qq9, 9, fun _ => 0), (qq8, 8, fun _ => 0), (qq7, 7, fun _ => 0), (qq6, 6, fun _ => 0), (qq5, 5, fun _ => 0), (qq4, 4, fun _ => 0), (qq3, 3, fun _ => 0), (qq2, 2, fun _ => 0)] [.int 0, .int 0, .ref qq2, .ref qq3, .ref qq4, .ref qq5, .ref qq6, .ref qq7, .ref qq8, .ref qq9, .ref qq10, .int 0, .ref qq12, .ref qq13, .ref qq14, .ref qq15, .ref qq16, .ref qq17, .ref qq18, .ref qq19, .ref qq20, .int 0, .ref qq22, .ref qq23, .ref qq24, .ref qq25, .int 0, .ref qq27, .int 0, .int 0, .int 0, .int 0, .int (-1), .null, .null]) bH_put ?_
  refine g_aload_n X dX7_init_220 0 rfl ?_
  refine g_iconst X (v := 5) dX7_init_221 ki_5 ?_
  refine g_newarr X (atype := .int) (ty := .int) rfl arc_int (t := 0) rfl (fun C qc => by cases qc) (N := 5) (5, .inl (fun _ => 0)) (fun _ => rfl) (by decide) (by decide) (by decide) (Nat.le_of_ble_eq_true rfl) (Nat.le_of_ble_eq_true rfl) dX7_init_222 (fun qq33 hf33 hg33 => ?_)
  have hb33 := hb27.cons (j := 33) (f := fun _ => 0) hf33
  have hm33 := (bH_fr hf33).1
  refine g_h (h' := bH G h m [(qq33, 33, fun _ => 0), (qq27, 27, fun _ => 0), (qq25, 25, fun _ => 0), (qq24, 24, fun _ => 0), (qq23, 23, fun _ => 0), (qq22, 22, fun _ => 0), (qq20, 20, fun _ => 0), (qq19, 19, fun _ => 0), (qq18, 18, fun _ => 0), (qq17, 17, fun _ => 0), (qq16, 16, fun _ => 0), (qq15, 15, fun _ => 0), (qq14, 14, fun _ => 0), (qq13, 13, fun _ => 0), (qq12, 12, upd (upd (upd (upd (fun _ => 0) 0 5) 1 5) 2 5) 3 5), (qq10, 10, fun _ => 0), (qq9, 9, fun _ => 0), (qq8, 8, fun _ => 0), (qq7, 7, fun _ => 0), (qq6, 6, fun _ => 0), (qq5, 5, fun _ => 0), (qq4, 4, fun _ => 0), (qq3, 3, fun _ => 0), (qq2, 2, fun _ => 0)] [.int 0, .int 0, .ref qq2, .ref qq3, .ref qq4, .ref qq5, .ref qq6, .ref qq7, .ref qq8, .ref qq9, .ref qq10, .int 0, .ref qq12, .ref qq13, .ref qq14, .ref qq15, .ref qq16, .ref qq17, .ref qq18, .ref qq19, .ref qq20, .int 0, .ref qq22, .ref qq23, .ref qq24, .ref qq25, .int 0, .ref qq27, .int 0, .int 0, .int 0, .int 0, .int (-1), .null, .null]) (bH_new (j := 33) (f := fun _ => 0) hm33) ?_
  refine g_putfieldF X F.2.1 fp_X7_85 dX7_init_224 bH_m (Nat.le_of_ble_eq_true rfl) rfl rfl _ rfl ?_
  refine g_h (h' := bH G h m [(qq33, 33, fun _ => 0), (qq27, 27, fun _ => 0), (qq25, 25, fun _ => 0), (qq24, 24, fun _ => 0), (qq23, 23, fun _ => 0), (qq22, 22, fun _ => 0), (qq20, 20, fun _ => 0), (qq19, 19, fun _ => 0), (qq18, 18, fun _ => 0), (qq17, 17, fun _ => 0), (qq16, 16, fun _ => 0), (qq15, 15, fun _ => 0), (qq14, 14, fun _ => 0), (qq13, 13, fun _ => 0), (qq12, 12, upd (upd (upd (upd (fun _ => 0) 0 5) 1 5) 2 5) 3 5), (qq10, 10, fun _ => 0), (qq9, 9, fun _ => 0), (qq8, 8, fun _ => 0), (qq7, 7, fun _ => 0), (qq6, 6, fun _ => 0), (qq5, 5, fun _ => 0), (qq4, 4, fun _ => 0), (qq3, 3, fun _ => 0), (qq2, 2, fun _ => 0)] [.int 0, .int 0, .ref qq2, .ref qq3, .ref qq4, .ref qq5, .ref qq6, .ref qq7, .ref qq8, .ref qq9, .ref qq10, .int 0, .ref qq12, .ref qq13, .ref qq14, .ref qq15, .ref qq16, .ref qq17, .ref qq18, .ref qq19, .ref qq20, .int 0, .ref qq22, .ref qq23, .ref qq24, .ref qq25, .int 0, .ref qq27, .int 0, .int 0, .int 0, .int 0, .int (-1), .ref qq33, .null]) bH_put ?_
  refine g_aload_n X dX7_init_227 0 rfl ?_
  refine g_sipush X (v := 401) dX7_init_228 ks_401 ?_
  refine g_newarr X (atype := .int) (ty := .int) rfl arc_int (t := 0) rfl (fun C qc => by cases qc) (N := 401) (401, .inl (fun _ => 0)) (fun _ => rfl) (by decide) (by decide) (by decide) (Nat.le_of_ble_eq_true rfl) (Nat.le_of_ble_eq_true rfl) dX7_init_231 (fun qq34 hf34 hg34 => ?_)
  have hb34 := hb33.cons (j := 34) (f := fun _ => 0) hf34
  have hm34 := (bH_fr hf34).1
  refine g_h (h' := bH G h m [(qq34, 34, fun _ => 0), (qq33, 33, fun _ => 0), (qq27, 27, fun _ => 0), (qq25, 25, fun _ => 0), (qq24, 24, fun _ => 0), (qq23, 23, fun _ => 0), (qq22, 22, fun _ => 0), (qq20, 20, fun _ => 0), (qq19, 19, fun _ => 0), (qq18, 18, fun _ => 0), (qq17, 17, fun _ => 0), (qq16, 16, fun _ => 0), (qq15, 15, fun _ => 0), (qq14, 14, fun _ => 0), (qq13, 13, fun _ => 0), (qq12, 12, upd (upd (upd (upd (fun _ => 0) 0 5) 1 5) 2 5) 3 5), (qq10, 10, fun _ => 0), (qq9, 9, fun _ => 0), (qq8, 8, fun _ => 0), (qq7, 7, fun _ => 0), (qq6, 6, fun _ => 0), (qq5, 5, fun _ => 0), (qq4, 4, fun _ => 0), (qq3, 3, fun _ => 0), (qq2, 2, fun _ => 0)] [.int 0, .int 0, .ref qq2, .ref qq3, .ref qq4, .ref qq5, .ref qq6, .ref qq7, .ref qq8, .ref qq9, .ref qq10, .int 0, .ref qq12, .ref qq13, .ref qq14, .ref qq15, .ref qq16, .ref qq17, .ref qq18, .ref qq19, .ref qq20, .int 0, .ref qq22, .ref qq23, .ref qq24, .ref qq25, .int 0, .ref qq27, .int 0, .int 0, .int 0, .int 0, .int (-1), .ref qq33, .null]) (bH_new (j := 34) (f := fun _ => 0) hm34) ?_
  refine g_putfieldF X F.2.1 fp_X7_88 dX7_init_233 bH_m (Nat.le_of_ble_eq_true rfl) rfl rfl _ rfl ?_
  refine g_h (h' := bH G h m [(qq34, 34, fun _ => 0), (qq33, 33, fun _ => 0), (qq27, 27, fun _ => 0), (qq25, 25, fun _ => 0), (qq24, 24, fun _ => 0), (qq23, 23, fun _ => 0), (qq22, 22, fun _ => 0), (qq20, 20, fun _ => 0), (qq19, 19, fun _ => 0), (qq18, 18, fun _ => 0), (qq17, 17, fun _ => 0), (qq16, 16, fun _ => 0), (qq15, 15, fun _ => 0), (qq14, 14, fun _ => 0), (qq13, 13, fun _ => 0), (qq12, 12, upd (upd (upd (upd (fun _ => 0) 0 5) 1 5) 2 5) 3 5), (qq10, 10, fun _ => 0), (qq9, 9, fun _ => 0), (qq8, 8, fun _ => 0), (qq7, 7, fun _ => 0), (qq6, 6, fun _ => 0), (qq5, 5, fun _ => 0), (qq4, 4, fun _ => 0), (qq3, 3, fun _ => 0), (qq2, 2, fun _ => 0)] [.int 0, .int 0, .ref qq2, .ref qq3, .ref qq4, .ref qq5, .ref qq6, .ref qq7, .ref qq8, .ref qq9, .ref qq10, .int 0, .ref qq12, .ref qq13, .ref qq14, .ref qq15, .ref qq16, .ref qq17, .ref qq18, .ref qq19, .ref qq20, .int 0, .ref qq22, .ref qq23, .ref qq24, .ref qq25, .int 0, .ref qq27, .int 0, .int 0, .int 0, .int 0, .int (-1), .ref qq33, .ref qq34]) bH_put ?_
  refine g_ret0 X F rfl dX7_init_236 (Nat.le_of_ble_eq_true rfl) (Nat.le_of_ble_eq_true rfl) ?_
  obtain ⟨he1, he2⟩ := bH_mH (G := G) (h0 := h) (m := m) (cs := [(qq34, 34, fun _ => 0), (qq33, 33, fun _ => 0), (qq27, 27, fun _ => 0), (qq25, 25, fun _ => 0), (qq24, 24, fun _ => 0), (qq23, 23, fun _ => 0), (qq22, 22, fun _ => 0), (qq20, 20, fun _ => 0), (qq19, 19, fun _ => 0), (qq18, 18, fun _ => 0), (qq17, 17, fun _ => 0), (qq16, 16, fun _ => 0), (qq15, 15, fun _ => 0), (qq14, 14, fun _ => 0), (qq13, 13, fun _ => 0), (qq12, 12, upd (upd (upd (upd (fun _ => 0) 0 5) 1 5) 2 5) 3 5), (qq10, 10, fun _ => 0), (qq9, 9, fun _ => 0), (qq8, 8, fun _ => 0), (qq7, 7, fun _ => 0), (qq6, 6, fun _ => 0), (qq5, 5, fun _ => 0), (qq4, 4, fun _ => 0), (qq3, 3, fun _ => 0), (qq2, 2, fun _ => 0)]) (I := m0I) hb34 [34, 33, 27, 25, 24, 23, 22, 20, 19, 18, 17, 16, 15, 14, 13, 12, 10, 9, 8, 7, 6, 5, 4, 3, 2] rfl (by decide) (by decide) (by decide)
  refine ⟨rfl, _, _, _, he1, he2, fun b hb hn => ixO_0 hb34 hb hn, ?_⟩
  refine ⟨fun j hj i => ?_, fun i hi => ?_⟩
  · refine arO_0 (fun c hc h2 => ?_)
    simp only [List.mem_cons, List.not_mem_nil, or_false] at hc
    rcases hc with rfl | rfl | rfl | rfl | rfl | rfl | rfl | rfl | rfl | rfl | rfl | rfl | rfl | rfl | rfl | rfl | rfl | rfl | rfl | rfl | rfl | rfl | rfl | rfl | rfl
    all_goals first | rfl | exact absurd h2.symm hj
  · match i, hi with
    | 0, _ => rfl
    | 1, _ => rfl
    | 2, _ => rfl
    | 3, _ => rfl
end K0
