section Q5
variable {s : State} {b : Nat}
theorem st_str (hts : ∀ w ∈ lw_tbl, w.before #[Value.ref b] s = true) (hs : ∀ w ∈ flatC (Jvm.Cond.and given_1 narrow_1), w.before #[Value.ref b] s = true) {own tx : String} {k : Nat} (h1 : Cond.stringRef own k tx ∈ lw_tbl) (h2 : Cond.exactly (.string own k) "java/lang/String" ∈ flatC (Jvm.Cond.and given_1 narrow_1)) : ∃ a, vk_R own k tx a s := by
  obtain ⟨a, c, cell, kA, q1, -⟩ := Cond.exactly_spec (args := #[Value.ref b]) (first := s) (o := none) (s := s) (idx := []) (hs _ h2)
  exact ⟨a, vk_R.of (hts _ h1) q1⟩
theorem st_strs (hts : ∀ w ∈ lw_tbl, w.before #[Value.ref b] s = true) (hs : ∀ w ∈ flatC (Jvm.Cond.and given_1 narrow_1), w.before #[Value.ref b] s = true) : ∀ q ∈ gStr, ∃ a, vk_R q.1 q.2.1 q.2.2 a s := by
  intro q hq
  simp only [gStr, List.mem_cons, List.not_mem_nil, or_false] at hq
  rcases hq with rfl | rfl | rfl | rfl | rfl | rfl | rfl | rfl | rfl | rfl | rfl | rfl | rfl
  · exact st_str hts hs (List.mem_of_getElem? (i := 610) (by decide +kernel)) (by decide +kernel)
  · exact st_str hts hs (List.mem_of_getElem? (i := 431) (by decide +kernel)) (by decide +kernel)
  · exact st_str hts hs (List.mem_of_getElem? (i := 624) (by decide +kernel)) (by decide +kernel)
  · exact st_str hts hs (List.mem_of_getElem? (i := 907) (by decide +kernel)) (by decide +kernel)
  · exact st_str hts hs (List.mem_of_getElem? (i := 975) (by decide +kernel)) (by decide +kernel)
  · exact st_str hts hs (List.mem_of_getElem? (i := 1007) (by decide +kernel)) (by decide +kernel)
  · exact st_str hts hs (List.mem_of_getElem? (i := 1037) (by decide +kernel)) (by decide +kernel)
  · exact st_str hts hs (List.mem_of_getElem? (i := 339) (by decide +kernel)) (by decide +kernel)
  · exact st_str hts hs (List.mem_of_getElem? (i := 946) (by decide +kernel)) (by decide +kernel)
  · exact st_str hts hs (List.mem_of_getElem? (i := 369) (by decide +kernel)) (by decide +kernel)
  · exact st_str hts hs (List.mem_of_getElem? (i := 379) (by decide +kernel)) (by decide +kernel)
  · exact st_str hts hs (List.mem_of_getElem? (i := 481) (by decide +kernel)) (by decide +kernel)
  · exact st_str hts hs (List.mem_of_getElem? (i := 952) (by decide +kernel)) (by decide +kernel)
theorem st_arr (hts : ∀ w ∈ lw_tbl, w.before #[Value.ref b] s = true) {ty : FieldType} (hp : ∀ C, ty ≠ .object C) (h : Cond.arrayClass ty ∈ lw_tbl) : ∃ cA, ArrOfT s cA ty ∧ va_RA s cA ty := by
  obtain ⟨c, k, comp, h1, h2, h3⟩ := Cond.arrayClass_spec (args := #[Value.ref b]) (first := s) (o := none) (s := s) (idx := []) (hts _ h)
  refine ⟨c, fun n z => ⟨fun k9 h9 => (by cases h9), k, h2, comp, h3⟩, ?_⟩
  cases ty with
  | object C => exact absurd rfl (hp C)
  | _ => exact h1
theorem st_arrO (hts : ∀ w ∈ lw_tbl, w.before #[Value.ref b] s = true) : ∃ cA, ArrOfT s cA (.object "java/lang/Object") ∧ va_RA s cA (.object "java/lang/Object") := by
  obtain ⟨comp, c, k, h1, h2, h3, h4, h5⟩ := Cond.arrayOver_spec (args := #[Value.ref b]) (first := s) (o := none) (s := s) (idx := []) (hts (.arrayOver (.object "java/lang/Object")) (List.mem_of_getElem? (i := 571) (by decide +kernel)))
  exact ⟨c, fun n z => ⟨fun k9 h9 => (by cases h9), k, h3, comp, h4⟩, k, comp, h3, h4, h1, h5⟩
theorem st_cls (hts : ∀ w ∈ lw_tbl, w.before #[Value.ref b] s = true) : ∃ (dC : Nat → ClassId) (dI : Nat → Nat → Nat), ∀ (k : Nat) (q : vw_C), vwCl[k]? = some q → u_Kn s q.1 q.2.1 q.2.2 (dC k) (dI k) := by
  have h0 : ∀ k : Nat, ∃ p : ClassId × (Nat → Nat), ∀ q : vw_C, vwCl[k]? = some q → u_Kn s q.1 q.2.1 q.2.2 p.1 p.2 := fun k => match k with
    | 0 => by
      obtain ⟨c9, i9, h9⟩ := u_known (n := 6) hts (fun w hw => uw_tbl (ck0.2.1 w hw)) (hts _ (uw_tbl ins_0))
      exact ⟨(c9, i9), fun q hq => by cases hq; exact h9⟩
    | 1 => by
      obtain ⟨c9, i9, h9⟩ := u_known (n := 3) hts (fun w hw => uw_tbl (ck1.2.1 w hw)) (hts _ (uw_tbl ins_1))
      exact ⟨(c9, i9), fun q hq => by cases hq; exact h9⟩
    | 2 => by
      obtain ⟨c9, i9, h9⟩ := u_known (n := 3) hts (fun w hw => uw_tbl (ck2.2.1 w hw)) (hts _ (uw_tbl ins_2))
      exact ⟨(c9, i9), fun q hq => by cases hq; exact h9⟩
    | 3 => by
      obtain ⟨c9, i9, h9⟩ := u_known (n := 4) hts (fun w hw => uw_tbl (ck3.2.1 w hw)) (hts _ (uw_tbl ins_3))
      exact ⟨(c9, i9), fun q hq => by cases hq; exact h9⟩
    | 4 => by
      obtain ⟨c9, i9, h9⟩ := u_known (n := 5) hts (fun w hw => uw_tbl (ck4.2.1 w hw)) (hts _ (uw_tbl ins_4))
      exact ⟨(c9, i9), fun q hq => by cases hq; exact h9⟩
    | 5 => by
      obtain ⟨c9, i9, h9⟩ := u_known (n := 5) hts (fun w hw => uw_tbl (ck5.2.1 w hw)) (hts _ (uw_tbl ins_5))
      exact ⟨(c9, i9), fun q hq => by cases hq; exact h9⟩
    | 6 => by
      obtain ⟨c9, i9, h9⟩ := u_known (n := 11) hts (fun w hw => uw_tbl (ck6.2.1 w hw)) (hts _ (uw_tbl ins_6))
      exact ⟨(c9, i9), fun q hq => by cases hq; exact h9⟩
    | 7 => by
      obtain ⟨c9, i9, h9⟩ := u_known (n := 35) hts (fun w hw => uw_tbl (ck7.2.1 w hw)) (hts _ (uw_tbl ins_7))
      exact ⟨(c9, i9), fun q hq => by cases hq; exact h9⟩
    | 8 => by
      obtain ⟨c9, i9, h9⟩ := u_known (n := 3) hts (fun w hw => uw_tbl (ck8.2.1 w hw)) (hts _ (uw_tbl ins_8))
      exact ⟨(c9, i9), fun q hq => by cases hq; exact h9⟩
    | k + 9 => ⟨(0, fun _ => 0), fun q hq => by simp [vwCl] at hq⟩
  obtain ⟨f, hf⟩ := Classical.axiomOfChoice h0
  exact ⟨fun k => (f k).1, fun k => (f k).2, hf⟩
abbrev stT (i : Nat) : Term := .string "ComplaintDeskModel" (match i with | 0 => 137 | 1 => 143 | _ => 145)
theorem st_sgn (hs : ∀ w ∈ flatC (Jvm.Cond.and given_1 narrow_1), w.before #[Value.ref b] s = true) {A : Nat → Prop} (hA : ∀ a : Nat, a < s.heap.size → ¬ A a) : ∃ adK adV : Nat → Nat, vk_S 3 gLen gByt adK adV A s s.heap ∧ ∀ i : Nat, i < 3 → (stT i).eval #[Value.ref b] s none [] s = some (.ref (adK i)) := by
  refine vk_Sof (args := #[Value.ref b]) (tm := stT) (fun i hi => ?_) (fun i hi => ?_) (fun i hi => ?_) (fun i hi => ?_) (fun i hi => ?_) (fun i hi j hj => ?_) (fun i j hi hj hn => ?_) hA
  · match i, hi with
    | 0, _ => decide
    | 1, _ => decide
    | 2, _ => decide
    | z + 3, hz => exact absurd hz (by omega)
  · match i, hi with
    | 0, _ => exact hs _ (by decide +kernel)
    | 1, _ => exact hs _ (by decide +kernel)
    | 2, _ => exact hs _ (by decide +kernel)
    | z + 3, hz => exact absurd hz (by omega)
  · match i, hi with
    | 0, _ => exact hs _ (by decide +kernel)
    | 1, _ => exact hs _ (by decide +kernel)
    | 2, _ => exact hs _ (by decide +kernel)
    | z + 3, hz => exact absurd hz (by omega)
  · match i, hi with
    | 0, _ => exact hs _ (by decide +kernel)
    | 1, _ => exact hs _ (by decide +kernel)
    | 2, _ => exact hs _ (by decide +kernel)
    | z + 3, hz => exact absurd hz (by omega)
  · match i, hi with
    | 0, _ => exact hs _ (by decide +kernel)
    | 1, _ => exact hs _ (by decide +kernel)
    | 2, _ => exact hs _ (by decide +kernel)
    | z + 3, hz => exact absurd hz (by omega)
  · match i, hi with
    | 0, _ => match j, hj with | 0, _ => exact hs _ (by decide +kernel) | 1, _ => exact hs _ (by decide +kernel) | 2, _ => exact hs _ (by decide +kernel) | z + 3, hz => exact absurd (show z + 3 < 3 from hz) (by omega)
    | 1, _ => match j, hj with | 0, _ => exact hs _ (by decide +kernel) | 1, _ => exact hs _ (by decide +kernel) | z + 2, hz => exact absurd (show z + 2 < 2 from hz) (by omega)
    | 2, _ => match j, hj with | 0, _ => exact hs _ (by decide +kernel) | 1, _ => exact hs _ (by decide +kernel) | 2, _ => exact hs _ (by decide +kernel) | z + 3, hz => exact absurd (show z + 3 < 3 from hz) (by omega)
    | z + 3, hz => exact absurd hz (by omega)
  · match i, j, hi, hj with
    | 0, 0, _, _ => exact absurd rfl hn
    | 1, 1, _, _ => exact absurd rfl hn
    | 2, 2, _, _ => exact absurd rfl hn
    | 0, 1, _, _ => first | exact Or.inl (hs _ (by decide +kernel)) | exact Or.inr (hs _ (by decide +kernel))
    | 0, 2, _, _ => first | exact Or.inl (hs _ (by decide +kernel)) | exact Or.inr (hs _ (by decide +kernel))
    | 1, 0, _, _ => first | exact Or.inl (hs _ (by decide +kernel)) | exact Or.inr (hs _ (by decide +kernel))
    | 1, 2, _, _ => first | exact Or.inl (hs _ (by decide +kernel)) | exact Or.inr (hs _ (by decide +kernel))
    | 2, 0, _, _ => first | exact Or.inl (hs _ (by decide +kernel)) | exact Or.inr (hs _ (by decide +kernel))
    | 2, 1, _, _ => first | exact Or.inl (hs _ (by decide +kernel)) | exact Or.inr (hs _ (by decide +kernel))
    | z + 3, _, hz, _ => exact absurd hz (by omega)
    | _, z + 3, _, hz => exact absurd hz (by omega)
set_option maxHeartbeats 4000000 in
/-- what is old, at the law's start -/
theorem gOld_start (hts : ∀ w ∈ lw_tbl, w.before #[Value.ref b] s = true) (hgv : (Jvm.Cond.and given_1 narrow_1).before #[Value.ref b] s = true) : ∃ G : gG, G.2.2.1 = s.heap.size ∧ gOld G s s.heap := by
  have hs : ∀ w ∈ flatC (Jvm.Cond.and given_1 narrow_1), w.before #[Value.ref b] s = true := flat_of_before _ hgv
  have hA : ∀ a : Nat, a < s.heap.size → ¬ (fun q : Nat => s.heap.size ≤ q) a := fun a ha => Nat.not_le.mpr ha
  obtain ⟨dC, dI, hK⟩ := st_cls hts
  obtain ⟨a0, h0⟩ := st_arr hts (ty := .int) (fun C q => by cases q) (List.mem_of_getElem? (i := 147) (by decide +kernel))
  obtain ⟨a1, h1⟩ := st_arr hts (ty := .byte) (fun C q => by cases q) (List.mem_of_getElem? (i := 116) (by decide +kernel))
  obtain ⟨a2, h2⟩ := st_arr hts (ty := .long) (fun C q => by cases q) (List.mem_of_getElem? (i := 146) (by decide +kernel))
  obtain ⟨a3, h3⟩ := st_arr hts (ty := .boolean) (fun C q => by cases q) (List.mem_of_getElem? (i := 1180) (by decide +kernel))
  obtain ⟨a4, h4⟩ := st_arrO hts
  obtain ⟨adK, adV, hS, hSe⟩ := st_sgn hs hA
  obtain ⟨t, ht, hT⟩ := va_Tof (args := #[Value.ref b]) (s := s) (tm := .static "java/util/ArrayList" "DEFAULTCAPACITY_EMPTY_ELEMENTDATA" "[Ljava/lang/Object;") (ty := .object "java/lang/Object") (N := 0) (f := fun _ => .null) (A := fun q : Nat => s.heap.size ≤ q) (by decide) (hs _ (by decide +kernel)) (va_eqt (hs _ (by decide +kernel))) (fun j hj => absurd hj (Nat.not_lt_zero j)) hA
  obtain ⟨mi, hmi⟩ := va_Mi.of (args := #[Value.ref b]) (s := s) (C := "[Ljava/lang/Object;") (hs _ (by decide +kernel))
  refine ⟨((dC, dI), (fun k => match k with | 0 => a0 | 1 => a1 | 2 => a2 | 3 => a3 | _ => a4), s.heap.size, (fun i => match i with | 0 => adK 0 | 1 => adK 1 | 2 => adK 2 | 3 => t | _ => mi), adV), rfl, Nat.le_refl _, ⟨hK, fun k q hq => ?_⟩, ⟨?_, ?_⟩, st_strs hts hs, fun i q hq => ?_, ⟨fun i hi => ?_, fun i j hi hj e => ?_⟩, ?_, hT, ?_, ?_, ⟨hmi, ?_, ?_⟩, fun w hw hg => ?_, fun q hq => ?_⟩
  · match k, hq with
    | 0, hq => cases hq; exact h0
    | 1, hq => cases hq; exact h1
    | 2, hq => cases hq; exact h2
    | 3, hq => cases hq; exact h3
    | 4, hq => cases hq; exact h4
    | k + 5, hq => simp [gTys] at hq
  · exact vx_Zqof (args := #[Value.ref b]) (hts _ (List.mem_of_getElem? (i := 324) (by decide +kernel))) (hts _ (List.mem_of_getElem? (i := 57) (by decide +kernel))) (hs _ (by decide +kernel)) hA
  · exact vx_Zqof (args := #[Value.ref b]) (hts _ (List.mem_of_getElem? (i := 326) (by decide +kernel))) (hts _ (List.mem_of_getElem? (i := 57) (by decide +kernel))) (hs _ (by decide +kernel)) hA
  · match i, hq with
    | 0, hq => cases hq; exact vk_R.of (hts _ (List.mem_of_getElem? (i := 1271) (by decide +kernel))) (hSe 0 (by decide))
    | 1, hq => cases hq; exact vk_R.of (hts _ (List.mem_of_getElem? (i := 1272) (by decide +kernel))) (hSe 1 (by decide))
    | 2, hq => cases hq; exact vk_R.of (hts _ (List.mem_of_getElem? (i := 1239) (by decide +kernel))) (hSe 2 (by decide))
    | i + 3, hq => simp [gSgn] at hq
  · match i, hi with
    | 0, _ => exact hS.1 0 (by decide)
    | 1, _ => exact hS.1 1 (by decide)
    | 2, _ => exact hS.1 2 (by decide)
    | z + 3, hz => exact absurd hz (by omega)
  · refine hS.2 i j hi hj ?_
    match i, j, hi, hj, e with
    | 0, 0, _, _, e => exact e
    | 0, 1, _, _, e => exact e
    | 0, 2, _, _, e => exact e
    | 1, 0, _, _, e => exact e
    | 1, 1, _, _, e => exact e
    | 1, 2, _, _, e => exact e
    | 2, 0, _, _, e => exact e
    | 2, 1, _, _, e => exact e
    | 2, 2, _, _, e => exact e
    | z + 3, _, hz, _, _ => exact absurd hz (by omega)
    | _, z + 3, _, hz, _ => exact absurd hz (by omega)
  · exact va_Zof (args := #[Value.ref b]) (hts _ (List.mem_of_getElem? (i := 161) (by decide +kernel))) (hts _ (List.mem_of_getElem? (i := 55) (by decide +kernel))) ht hA
  · exact va_Zof (args := #[Value.ref b]) (hts _ (List.mem_of_getElem? (i := 670) (by decide +kernel))) (hts _ (List.mem_of_getElem? (i := 71) (by decide +kernel))) (va_eqt (hs _ (by decide +kernel))) hA
  · exact va_Zqof (args := #[Value.ref b]) (hts _ (List.mem_of_getElem? (i := 744) (by decide +kernel))) (hts _ (List.mem_of_getElem? (i := 62) (by decide +kernel))) (hs _ (by decide +kernel)) hA
  · exact va_Dc.of (hts _ (List.mem_of_getElem? (i := 1421) (by decide +kernel)))
  · exact va_AO.of (A := #[Value.ref b]) (hts _ (List.mem_of_getElem? (i := 571) (by decide +kernel)))
  · have ht9 : w.onTables = true := by cases w <;> first | rfl | cases hg
    exact va_Nw.of ht9 (hts w hw)
  · simp only [gNcs, List.mem_cons, List.not_mem_nil, or_false] at hq
    rcases hq with rfl | rfl | rfl | rfl
    · exact va_Nc.of (args := #[Value.ref b]) (hs _ (by decide +kernel))
    · exact va_Nc.of (args := #[Value.ref b]) (hs _ (by decide +kernel))
    · exact va_Nc.of (args := #[Value.ref b]) (hs _ (by decide +kernel))
    · exact va_Nc.of (args := #[Value.ref b]) (hs _ (by decide +kernel))
end Q5
