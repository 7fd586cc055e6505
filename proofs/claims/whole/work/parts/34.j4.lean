section J4
variable {G : gG} {l : Launch} {h : hW}
theorem c_Jx4a65c_grow_d5877_z (q : Nat) (x0 : Int32) (hq : h q = some (ob 8 [.int x0, .ref (G.2.2.2.1 3), .int 0]))  : Ct G l 4 1 150 M_Jx4a65c_grow_d5877 [.ref q] h (fun v h' => ∃ (q2 : Nat), h q2 = none ∧ gA G q2 ∧ v = some (.ref q2) ∧ h' = hup (hup h q2 (aO G 10 (fun _ => none))) q (ob 8 [.int x0, .ref q2, .int 0])) := by
  refine Ct.of (by decide +kernel) (Nat.le_of_ble_eq_true rfl) (fun E hE X F => ?_)
  have X : Gc G E "java/util/ArrayList" cJx4a65c_grow_d5877 1 4 1 150 := X
  show GW G E _ 1 0 [(0, _)] [] _ 0 0
  refine g_aload_n X dJx4a65c_grow_d5877_0 0 rfl ?_
  refine g_aload_n X dJx4a65c_grow_d5877_1 0 rfl ?_
  refine g_getfield X fl_AL_48 dJx4a65c_grow_d5877_2 (by assumption) rfl ?_
  refine g_iconst X (v := 1) dJx4a65c_grow_d5877_5 ki_1 ?_
  refine g_iadd X dJx4a65c_grow_d5877_6 ?_
  refine g_eqi (y := (1 : Int32)) (by decide) ?_
  refine g_cVx X ml_AL_69 (c_Jx4a65c_grow_92f84_z q x0 hq) ⟨8, _, hq, rfl⟩ (Nat.le_of_ble_eq_true rfl) rfl rfl (Nat.le_of_ble_eq_true rfl) (Nat.le_of_ble_eq_true rfl) (Nat.le_of_ble_eq_true rfl) dJx4a65c_grow_d5877_7 ?_
  rintro v h1 ⟨q2, hf2, hg2, rfl, rfl⟩
  refine g_st (st' := [.ref q2]) rfl ?_
  refine g_aret X F rfl (Or.inr ⟨_, rfl⟩) (Or.inr ⟨_, rfl⟩) dJx4a65c_grow_d5877_10 (Nat.le_of_ble_eq_true rfl) (Nat.le_of_ble_eq_true rfl) ?_
  exact ⟨q2, hf2, hg2, rfl, rfl⟩
theorem c_Jx4a65c_grow_d5877 (q e N : Nat) (x0 : Int32) (f : Nat → Option Nat) (hq : h q = some (ob 8 [.int x0, .ref e, .int (nI N)])) (he : h e = some (aO G N f)) (hN1 : 1 ≤ N) (hN : N ≤ 80) (hs : (nI N >>> ((1 : Int32) &&& 31)) = nI (N / 2)) (hel : ∀ i, i < N → ∀ y, f i = some y → gEl h y)  : Ct G l 4 1 150 M_Jx4a65c_grow_d5877 [.ref q] h (fun v h' => ∃ (q2 : Nat) (gn : Nat → Option Nat), h q2 = none ∧ gA G q2 ∧ v = some (.ref q2) ∧ h' = hup (hup h q2 (aO G (N + max 1 (N / 2)) gn)) q (ob 8 [.int x0, .ref q2, .int (nI N)]) ∧ ∀ i, i < N → gn i = f i) := by
  refine Ct.of (by decide +kernel) (Nat.le_of_ble_eq_true rfl) (fun E hE X F => ?_)
  have X : Gc G E "java/util/ArrayList" cJx4a65c_grow_d5877 1 4 1 150 := X
  show GW G E _ 1 0 [(0, _)] [] _ 0 0
  refine g_aload_n X dJx4a65c_grow_d5877_0 0 rfl ?_
  refine g_aload_n X dJx4a65c_grow_d5877_1 0 rfl ?_
  refine g_getfield X fl_AL_48 dJx4a65c_grow_d5877_2 (by assumption) rfl ?_
  refine g_iconst X (v := 1) dJx4a65c_grow_d5877_5 ki_1 ?_
  refine g_iadd X dJx4a65c_grow_d5877_6 ?_
  refine g_eqi (y := nI (N + 1)) (nI_1 N) ?_
  refine g_cVx X ml_AL_69 (c_Jx4a65c_grow_92f84 q e N x0 f hq he hN1 hN hs hel) ⟨8, _, hq, rfl⟩ (Nat.le_of_ble_eq_true rfl) rfl rfl (Nat.le_of_ble_eq_true rfl) (Nat.le_of_ble_eq_true rfl) (Nat.le_of_ble_eq_true rfl) dJx4a65c_grow_d5877_7 ?_
  rintro v h1 ⟨q2, gn, hf2, hg2, rfl, rfl, hgn⟩
  refine g_st (st' := [.ref q2]) rfl ?_
  refine g_aret X F rfl (Or.inr ⟨_, rfl⟩) (Or.inr ⟨_, rfl⟩) dJx4a65c_grow_d5877_10 (Nat.le_of_ble_eq_true rfl) (Nat.le_of_ble_eq_true rfl) ?_
  exact ⟨q2, gn, hf2, hg2, rfl, rfl, hgn⟩
/-- a list q of N objects f, kept in e -/
abbrev alC : List Nat := [10, 15, 22, 33, 49, 73, 109]
def alE (G : gG) (h : hW) (q e N : Nat) (f : Nat → Option Nat) : Prop := (∃ x0 : Int32, h q = some (ob 8 [.int x0, .ref e, .int (nI N)])) ∧ ((N = 0 ∧ e = G.2.2.2.1 3) ∨ ∃ C, C ∈ alC ∧ h e = some (aO G C f) ∧ N ≤ C)
/-- what adding v has done -/
def adQ (G : gG) (h : hW) (q e N : Nat) (f : Nat → Option Nat) (v : Nat) (h' : hW) : Prop := ∃ (e' : Nat) (f' : Nat → Option Nat), alE G h' q e' (N + 1) f' ∧ (∀ i, i < N → f' i = f i) ∧ f' N = some v ∧ ((e' = e ∧ h e ≠ none) ∨ (h e' = none ∧ gA G e')) ∧ e' ≠ q ∧ ∀ b, b ≠ q → b ≠ e' → h' b = h b
theorem adQ_new {q e N q2 C v : Nat} {x0 : Int32} {o1 : va_E} {f gn : Nat → Option Nat} (hq2 : h q2 = none) (hg : gA G q2) (hne : q ≠ q2) (hC : C ∈ alC) (hN : N + 1 ≤ C) (hgn : ∀ i, i < N → gn i = f i) :
    adQ G h q e N f v (hup (hup (hup (hup h q2 (aO G C gn)) q o1) q2 (aO G C (va_up gn N (some v)))) q (ob 8 [.int x0, .ref q2, .int (nI (N + 1))])) := by
  refine ⟨q2, va_up gn N (some v), ⟨⟨x0, hup_s⟩, Or.inr ⟨C, hC, ?_, hN⟩⟩, fun i hi => ?_, by simp [va_up], Or.inr ⟨hq2, hg⟩, fun z => hne z.symm, fun b hb hb2 => ?_⟩
  · rw [hup_n (fun z => hne z.symm), hup_s]
  · have : i ≠ N := by omega
    simp only [va_up, if_neg this]; exact hgn i hi
  · rw [hup_n hb, hup_n hb2, hup_n hb, hup_n hb2]
theorem adQ_old {q e N C v : Nat} {x0 : Int32} {f : Nat → Option Nat} (hne : e ≠ q) (he : h e = some (aO G C f)) (hC : C ∈ alC) (hN : N + 1 ≤ C) :
    adQ G h q e N f v (hup (hup h e (aO G C (va_up f N (some v)))) q (ob 8 [.int x0, .ref e, .int (nI (N + 1))])) := by
  refine ⟨e, va_up f N (some v), ⟨⟨x0, hup_s⟩, Or.inr ⟨C, hC, ?_, hN⟩⟩, fun i hi => ?_, by simp [va_up], Or.inl ⟨rfl, by rw [he]; simp⟩, hne, fun b hb hb2 => ?_⟩
  · rw [hup_n hne, hup_s]
  · have : i ≠ N := by omega
    simp only [va_up, if_neg this]
  · rw [hup_n hb, hup_n hb2]
theorem gEl.ne {q y : Nat} {e : va_E} (hq : y ≠ q) (g : gEl h y) : gEl (hup h q e) y := by
  obtain ⟨ci, fs, r, h1, h2⟩ := g
  exact ⟨ci, fs, r, by rw [hup_n hq]; exact h1, h2⟩
theorem c_Jx4a65c_add_72be8_z (q : Nat) (x0 : Int32) (hq : h q = some (ob 8 [.int x0, .ref (G.2.2.2.1 3), .int 0])) (v : Nat) (hv : gEl h v) (hvq : v ≠ q) (f : Nat → Option Nat)  : Ct G l 5 1 150 M_Jx4a65c_add_72be8 [.ref q, .ref v, .ref (G.2.2.2.1 3), .int 0] h (fun r h' => r = none ∧ adQ G h q (G.2.2.2.1 3) 0 f v h') := by
  refine Ct.of (by decide +kernel) (Nat.le_of_ble_eq_true rfl) (fun E hE X F => ?_)
  have X : Gc G E "java/util/ArrayList" cJx4a65c_add_72be8 4 5 1 150 := X
  show GW G E _ 4 0 [(0, _), (1, _), (2, _), (3, _)] [] _ 0 0
  refine g_iload_n X dJx4a65c_add_72be8_0 3 rfl ?_
  refine g_aload_n X dJx4a65c_add_72be8_1 2 rfl ?_
  refine g_oalen X X.old.et dJx4a65c_add_72be8_2 ?_
  refine g_icmp_ne X 11 dJx4a65c_add_72be8_3 (by decide) (fun c_3 => absurd rfl c_3) (fun c_3 => ?_)
  refine g_aload_n X dJx4a65c_add_72be8_6 0 rfl ?_
  refine g_cVx X ml_AL_129 (c_Jx4a65c_grow_d5877_z q x0 hq) ⟨8, _, hq, rfl⟩ (Nat.le_of_ble_eq_true rfl) rfl rfl (Nat.le_of_ble_eq_true rfl) (Nat.le_of_ble_eq_true rfl) (Nat.le_of_ble_eq_true rfl) dJx4a65c_add_72be8_7 ?_
  rintro r1 h1 ⟨q2, hf2, hg2, rfl, rfl⟩
  have hna : q ≠ q2 := fun w => by rw [w, hf2] at hq; cases hq
  refine g_st (st' := [.ref q2]) rfl ?_
  refine g_astore_n X dJx4a65c_add_72be8_10 (Nat.le_of_ble_eq_true rfl) [(2, _), (0, _), (1, _), (3, _)] rfl ?_
  refine g_aload_n X dJx4a65c_add_72be8_11 0 rfl ?_
  refine g_iload_n X dJx4a65c_add_72be8_12 3 rfl ?_
  refine g_aload_n X dJx4a65c_add_72be8_13 2 rfl ?_
  refine g_astq X (n' := 10) (f := fun _ => none) dJx4a65c_add_72be8_14 (by rw [hup_n (fun z => hna z.symm), hup_s]) ((hv.new hf2).ne hvq) (by unfold vp_in; decide) ?_
  refine g_aload_n X dJx4a65c_add_72be8_15 1 rfl ?_
  refine g_iload_n X dJx4a65c_add_72be8_16 3 rfl ?_
  refine g_iconst X (v := 1) dJx4a65c_add_72be8_17 ki_1 ?_
  refine g_iadd X dJx4a65c_add_72be8_18 ?_
  refine g_putfield X fp_AL_48 dJx4a65c_add_72be8_19 (by rw [hup_n hna, hup_s]) (Nat.le_of_ble_eq_true rfl) rfl rfl _ rfl ?_
  refine g_ret0 X F rfl dJx4a65c_add_72be8_22 (Nat.le_of_ble_eq_true rfl) (Nat.le_of_ble_eq_true rfl) ?_
  exact ⟨rfl, adQ_new (C := 10) (N := 0) hf2 hg2 hna (by decide) (by decide) (fun i hi => absurd hi (Nat.not_lt_zero i))⟩
theorem c_Jx4a65c_add_72be8_r (q e N C : Nat) (x0 : Int32) (f : Nat → Option Nat) (hq : h q = some (ob 8 [.int x0, .ref e, .int (nI N)])) (he : h e = some (aO G C f)) (hC : C ∈ alC) (hNC : N < C) (hC2 : C < 2 ^ 31) (v : Nat) (hv : gEl h v) (hvq : v ≠ q)  : Ct G l 5 1 150 M_Jx4a65c_add_72be8 [.ref q, .ref v, .ref e, .int (nI N)] h (fun r h' => r = none ∧ adQ G h q e N f v h') := by
  refine Ct.of (by decide +kernel) (Nat.le_of_ble_eq_true rfl) (fun E hE X F => ?_)
  have X : Gc G E "java/util/ArrayList" cJx4a65c_add_72be8 4 5 1 150 := X
  show GW G E _ 4 0 [(0, _), (1, _), (2, _), (3, _)] [] _ 0 0
  have hne : e ≠ q := fun w => by rw [w, hq] at he; cases he
  refine g_iload_n X dJx4a65c_add_72be8_0 3 rfl ?_
  refine g_aload_n X dJx4a65c_add_72be8_1 2 rfl ?_
  refine g_alen X dJx4a65c_add_72be8_2 (t := 4) rfl he (nI C) rfl ?_
  refine g_icmp_ne X 11 dJx4a65c_add_72be8_3 (by decide) (fun c_3 => ?_) (fun c_3 => absurd ((nI_eq (by omega) hC2).mp c_3) (by omega))
  refine g_aload_n X dJx4a65c_add_72be8_11 2 rfl ?_
  refine g_iload_n X dJx4a65c_add_72be8_12 3 rfl ?_
  refine g_aload_n X dJx4a65c_add_72be8_13 1 rfl ?_
  refine g_astq X (n' := C) (f := f) dJx4a65c_add_72be8_14 he hv (vp_in_nI hNC (by omega)) ?_
  refine g_h (h' := hup h e (aO G C (va_up f N (some v)))) (by rw [nI_clamp (by omega)]) ?_
  refine g_aload_n X dJx4a65c_add_72be8_15 0 rfl ?_
  refine g_iload_n X dJx4a65c_add_72be8_16 3 rfl ?_
  refine g_iconst X (v := 1) dJx4a65c_add_72be8_17 ki_1 ?_
  refine g_iadd X dJx4a65c_add_72be8_18 ?_
  refine g_eqi (y := nI (N + 1)) (nI_1 N) ?_
  refine g_putfield X fp_AL_48 dJx4a65c_add_72be8_19 (by rw [hup_n (fun z => hne z.symm)]; exact hq) (Nat.le_of_ble_eq_true rfl) rfl rfl _ rfl ?_
  refine g_ret0 X F rfl dJx4a65c_add_72be8_22 (Nat.le_of_ble_eq_true rfl) (Nat.le_of_ble_eq_true rfl) ?_
  exact ⟨rfl, adQ_old hne he hC hNC⟩
theorem c_Jx4a65c_add_72be8_f (q e N : Nat) (x0 : Int32) (f : Nat → Option Nat) (hq : h q = some (ob 8 [.int x0, .ref e, .int (nI N)])) (he : h e = some (aO G N f)) (hN1 : 1 ≤ N) (hN : N ≤ 80) (hs : (nI N >>> ((1 : Int32) &&& 31)) = nI (N / 2)) (hel : ∀ i, i < N → ∀ y, f i = some y → gEl h y) (v : Nat) (hv : gEl h v) (hvq : v ≠ q) (hC : N + max 1 (N / 2) ∈ alC)  : Ct G l 5 1 150 M_Jx4a65c_add_72be8 [.ref q, .ref v, .ref e, .int (nI N)] h (fun r h' => r = none ∧ adQ G h q e N f v h') := by
  refine Ct.of (by decide +kernel) (Nat.le_of_ble_eq_true rfl) (fun E hE X F => ?_)
  have X : Gc G E "java/util/ArrayList" cJx4a65c_add_72be8 4 5 1 150 := X
  show GW G E _ 4 0 [(0, _), (1, _), (2, _), (3, _)] [] _ 0 0
  refine g_iload_n X dJx4a65c_add_72be8_0 3 rfl ?_
  refine g_aload_n X dJx4a65c_add_72be8_1 2 rfl ?_
  refine g_alen X dJx4a65c_add_72be8_2 (t := 4) rfl he (nI N) rfl ?_
  refine g_icmp_ne X 11 dJx4a65c_add_72be8_3 (by decide) (fun c_3 => absurd rfl c_3) (fun c_3 => ?_)
  refine g_aload_n X dJx4a65c_add_72be8_6 0 rfl ?_
  refine g_cVx X ml_AL_129 (c_Jx4a65c_grow_d5877 q e N x0 f hq he hN1 hN hs hel) ⟨8, _, hq, rfl⟩ (Nat.le_of_ble_eq_true rfl) rfl rfl (Nat.le_of_ble_eq_true rfl) (Nat.le_of_ble_eq_true rfl) (Nat.le_of_ble_eq_true rfl) dJx4a65c_add_72be8_7 ?_
  rintro r1 h1 ⟨q2, gn, hf2, hg2, rfl, rfl, hgn⟩
  have hna : q ≠ q2 := fun w => by rw [w, hf2] at hq; cases hq
  refine g_st (st' := [.ref q2]) rfl ?_
  refine g_astore_n X dJx4a65c_add_72be8_10 (Nat.le_of_ble_eq_true rfl) [(2, _), (0, _), (1, _), (3, _)] rfl ?_
  refine g_aload_n X dJx4a65c_add_72be8_11 0 rfl ?_
  refine g_iload_n X dJx4a65c_add_72be8_12 3 rfl ?_
  refine g_aload_n X dJx4a65c_add_72be8_13 2 rfl ?_
  refine g_astq X (n' := N + max 1 (N / 2)) (f := gn) dJx4a65c_add_72be8_14 (by rw [hup_n (fun z => hna z.symm), hup_s]) ((hv.new hf2).ne hvq) (vp_in_nI (by omega) (by omega)) ?_
  refine g_h (h' := hup (hup (hup h q2 (aO G (N + max 1 (N / 2)) gn)) q (ob 8 [.int x0, .ref q2, .int (nI N)])) q2 (aO G (N + max 1 (N / 2)) (va_up gn N (some v)))) (by rw [nI_clamp (by omega)]) ?_
  refine g_aload_n X dJx4a65c_add_72be8_15 1 rfl ?_
  refine g_iload_n X dJx4a65c_add_72be8_16 3 rfl ?_
  refine g_iconst X (v := 1) dJx4a65c_add_72be8_17 ki_1 ?_
  refine g_iadd X dJx4a65c_add_72be8_18 ?_
  refine g_eqi (y := nI (N + 1)) (nI_1 N) ?_
  refine g_putfield X fp_AL_48 dJx4a65c_add_72be8_19 (by rw [hup_n hna, hup_s]) (Nat.le_of_ble_eq_true rfl) rfl rfl _ rfl ?_
  refine g_ret0 X F rfl dJx4a65c_add_72be8_22 (Nat.le_of_ble_eq_true rfl) (Nat.le_of_ble_eq_true rfl) ?_
  exact ⟨rfl, adQ_new hf2 hg2 hna hC (by omega) hgn⟩
theorem c_add3 {q e N v : Nat} {x0 : Int32} {f : Nat → Option Nat} (hq : h q = some (ob 8 [.int x0, .ref e, .int (nI N)])) (hE : (N = 0 ∧ e = G.2.2.2.1 3) ∨ ∃ C, C ∈ alC ∧ h e = some (aO G C f) ∧ N ≤ C) (hN : N ≤ 80) (hel : ∀ i, i < N → ∀ y, f i = some y → gEl h y) (hv : gEl h v) (hvq : v ≠ q) :
    Ct G l 5 1 150 M_Jx4a65c_add_72be8 [.ref q, .ref v, .ref e, .int (nI N)] h (fun r h' => r = none ∧ adQ G h q e N f v h') := by
  rcases hE with ⟨rfl, rfl⟩ | ⟨C, hC, he, hNC⟩
  · exact c_Jx4a65c_add_72be8_z q x0 hq v hv hvq f
  · have hC2 : C < 2 ^ 31 := by simp only [List.mem_cons, List.not_mem_nil, or_false] at hC; omega
    by_cases hlt : N < C
    · exact c_Jx4a65c_add_72be8_r q e N C x0 f hq he hC hlt hC2 v hv hvq
    · have hNe : N = C := by omega
      subst hNe
      have hb : 1 ≤ N ∧ (nI N >>> ((1 : Int32) &&& 31)) = nI (N / 2) ∧ N + max 1 (N / 2) ∈ alC := by
        simp only [List.mem_cons, List.not_mem_nil, or_false] at hC
        rcases hC with rfl | rfl | rfl | rfl | rfl | rfl | rfl
        all_goals first | (exact absurd hN (by decide)) | (exact ⟨by decide, by decide, by decide⟩)
      exact c_Jx4a65c_add_72be8_f q e N x0 f hq he hb.1 hN hb.2.1 hel v hv hvq hb.2.2
theorem c_Jx4a65c_add_9ea2d (q e N v : Nat) (f : Nat → Option Nat) (hA : alE G h q e N f) (hN : N ≤ 80) (heq : e ≠ q) (hel : ∀ i, i < N → ∀ y, f i = some y → gEl h y ∧ y ≠ q) (hv : gEl h v) (hvq : v ≠ q)  : Ct G l 6 1 150 M_Jx4a65c_add_9ea2d [.ref q, .ref v] h (fun r h' => r = some (.int 1) ∧ adQ G h q e N f v h') := by
  refine Ct.of (by decide +kernel) (Nat.le_of_ble_eq_true rfl) (fun E hE X F => ?_)
  have X : Gc G E "java/util/ArrayList" cJx4a65c_add_9ea2d 2 6 1 150 := X
  show GW G E _ 2 0 [(0, _), (1, _)] [] _ 0 0
  obtain ⟨⟨x0, hq⟩, hE⟩ := hA
  refine g_aload_n X dJx4a65c_add_9ea2d_0 0 rfl ?_
  refine g_dup X dJx4a65c_add_9ea2d_1 rfl ?_
  refine g_getmod X dJx4a65c_add_9ea2d_2 hq rfl ?_
  refine g_iconst X (v := 1) dJx4a65c_add_9ea2d_5 ki_1 ?_
  refine g_iadd X dJx4a65c_add_9ea2d_6 ?_
  refine g_putmod X dJx4a65c_add_9ea2d_7 hq (Nat.le_of_ble_eq_true rfl) rfl rfl ?_
  refine g_h (h' := hup h q (ob 8 [.int (x0 + 1), .ref e, .int (nI N)])) rfl ?_
  refine g_aload_n X dJx4a65c_add_9ea2d_10 0 rfl ?_
  refine g_aload_n X dJx4a65c_add_9ea2d_11 1 rfl ?_
  refine g_aload_n X dJx4a65c_add_9ea2d_12 0 rfl ?_
  refine g_getfield X fl_AL_9 dJx4a65c_add_9ea2d_13 hup_s rfl ?_
  refine g_aload_n X dJx4a65c_add_9ea2d_16 0 rfl ?_
  refine g_getfield X fl_AL_48 dJx4a65c_add_9ea2d_17 hup_s rfl ?_
  refine g_cVx X ml_AL_131 (c_add3 (f := f) hup_s (hE.imp_right (fun ⟨C, a1, a2, a3⟩ => ⟨C, a1, by rw [hup_n heq]; exact a2, a3⟩)) hN (fun i hi y hy => (hel i hi y hy).1.ne (hel i hi y hy).2) (hv.ne hvq) hvq) ⟨8, _, hup_s, rfl⟩ (Nat.le_of_ble_eq_true rfl) rfl rfl (Nat.le_of_ble_eq_true rfl) (Nat.le_of_ble_eq_true rfl) (Nat.le_of_ble_eq_true rfl) dJx4a65c_add_9ea2d_20 ?_
  rintro r1 h1 ⟨rfl, e2, f2, hA2, hf2, hv2, ho2, hn2, hk2⟩
  refine g_st (st' := []) rfl ?_
  refine g_iconst X (v := 1) dJx4a65c_add_9ea2d_23 ki_1 ?_
  refine g_iret X F rfl rfl dJx4a65c_add_9ea2d_24 (Nat.le_of_ble_eq_true rfl) (Nat.le_of_ble_eq_true rfl) ?_
  refine ⟨rfl, e2, f2, hA2, hf2, hv2, ?_, hn2, fun b hb hb2 => (hk2 b hb hb2).trans (hup_n hb)⟩
  rcases ho2 with ⟨rfl, a2⟩ | ⟨a1, a2⟩
  · exact Or.inl ⟨rfl, by rw [hup_n heq] at a2; exact a2⟩
  · exact Or.inr ⟨by rw [hup_n hn2] at a1; exact a1, a2⟩
end J4
