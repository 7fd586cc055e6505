section J3
variable {G : gG} {l : Launch} {h : hW}
section MirRows
variable {E : gE} {own : String} {cc : ByteArray} {nL lv mc ms pc k n : Nat} {Q : State → Prop} {L : List (Nat × Value)} {st : List Value}
theorem gc_l : Cond.methodLink "java/util/Arrays" 86 ⟨"java/lang/Object", "getClass", "()Ljava/lang/Class;"⟩ ∈ uw := uw_at 548 (by decide +kernel) rfl
theorem gc_i : Cond.instanceMethod ⟨"java/lang/Object", "getClass", "()Ljava/lang/Class;"⟩ ∈ uw := uw_at 549 (by decide +kernel) rfl
theorem gc_n : Cond.native ⟨"java/lang/Object", "getClass", "()Ljava/lang/Class;"⟩ ∈ uw := uw_at 566 (by decide +kernel) rfl
theorem gc_s : Cond.selects "[Ljava/lang/Object;" ⟨"java/lang/Object", "getClass", "()Ljava/lang/Class;"⟩ ⟨"java/lang/Object", "getClass", "()Ljava/lang/Class;"⟩ ∈ uw := uw_at 1420 (by decide +kernel) rfl
theorem cl_AR_110o : Cond.classLink "java/util/Arrays" 110 "[Ljava/lang/Object;" ∈ uw := uw_at 570 (by decide +kernel) rfl
theorem g_ldcM (X : Gc G E own cc nL lv mc ms) {C : String} {idx mi : Nat} (hl : Cond.classLink own idx C ∈ uw) (hM : va_Mi C mi E.s) (d : decode cc pc = .ok (.ldc idx, 2)) (K : GW G E Q nL (pc + 2) L (.ref mi :: st) h k n) : GW G E Q nL pc L st h k n :=
  fun H locs ls w b c => va_ldcM X.1 X.2.1 X.2.2.2.1 (X.2.2.2.2.1 _ hl) hM d (K H locs ls w b c)
theorem g_getC (X : Gc G E own cc nL lv mc ms) {idx a N : Nat} {f : Nat → Option Nat} (hl : Cond.methodLink own idx ⟨"java/lang/Object", "getClass", "()Ljava/lang/Class;"⟩ ∈ uw) (ha : h a = some (aO G N f)) (hlv : 1 ≤ lv) (hW : (st.map fun v => v.category).sum ≤ 8) (d : decode cc pc = .ok (.invokevirtual idx, 3)) (K : GW G E Q nL (pc + 3) L (.ref (G.2.2.2.1 4) :: st) h k n) : GW G E Q nL pc L (.ref a :: st) h k n := by
  intro H locs ls w b c
  have r := X.2.2.2.2.2.2.2
  have hc := w.one ha 0 _ rfl
  obtain ⟨_, _, _, _, _, q1⟩ := (X.2.2.2.2.2.1.2.1.2 4 _ rfl).2
  refine va_getC X.1 X.2.1 (X.2.2.1.trans c.1.symm) X.2.2.2.1 (X.2.2.2.2.1 _ hl) X.old.dc.use (X.2.2.2.2.1 _ gc_s) (X.2.2.2.2.1 _ gc_i) (X.2.2.2.2.1 _ gc_n) X.old.mi ⟨_, hc, rfl, q1⟩ (Nat.le_trans hlv r.1) ?_ d (K H locs ls w b c)
  have := r.2.1
  omega
end MirRows
/-- a longer copy of an array of objects -/
abbrev cpQ (G : gG) (h : hW) (N z : Nat) (f : Nat → Option Nat) : Option Value → hW → Prop := fun v h' => ∃ (q2 : Nat) (gn : Nat → Option Nat), h q2 = none ∧ gA G q2 ∧ v = some (.ref q2) ∧ h' = hup h q2 (aO G z gn) ∧ ∀ i, i < N → gn i = f i
theorem gEl.new {q2 y : Nat} {e : va_E} (hq : h q2 = none) (g : gEl h y) : gEl (hup h q2 e) y := by
  obtain ⟨ci, fs, r, h1, h2⟩ := g
  have hne : y ≠ q2 := fun z => by rw [z, hq] at h1; cases h1
  exact ⟨ci, fs, r, by rw [hup_n hne]; exact h1, h2⟩
theorem nI_nn {a : Nat} (ha : a < 2 ^ 31) : ¬ nI a < 0 := fun q => by have := (nI_ltI ha (b := 0) (by decide)).mp q; omega
theorem c_J7_copyOf_6403c (a N z : Nat) (f : Nat → Option Nat) (ha : h a = some (aO G N f)) (hNz : N ≤ z) (hz2 : z ≤ 150) (hel : ∀ i, i < N → ∀ y, f i = some y → gEl h y)  : Ct G l 1 1 150 M_J7_copyOf_6403c [.ref a, .int (nI z), .ref (G.2.2.2.1 4)] h (cpQ G h N z f) := by
  refine Ct.of (by decide +kernel) (Nat.le_of_ble_eq_true rfl) (fun E hE X F => ?_)
  have X : Gc G E "java/util/Arrays" cJ7_copyOf_6403c 4 1 1 150 := X
  show GW G E _ 4 0 [(0, _), (1, _), (2, _)] [] _ 0 0
  refine g_aload_n X dJ7_copyOf_6403c_0 2 rfl ?_
  refine g_ldcM X cl_AR_110o X.old.mi dJ7_copyOf_6403c_1 ?_
  refine g_acmp_ne X 13 dJ7_copyOf_6403c_3 (by decide) (rx := some (G.2.2.2.1 4)) (ry := some (G.2.2.2.1 4)) rfl rfl (fun c_3 => absurd rfl c_3) (fun c_3 => ?_)
  refine g_iload_n X dJ7_copyOf_6403c_6 1 rfl ?_
  refine g_newq X cl_AR_2 (nI_nn (by omega)) (nI_clamp (by omega)) (by omega) (Nat.le_of_ble_eq_true rfl) (by omega) dJ7_copyOf_6403c_7 (fun q2 hf2 hg2 => ?_)
  have hna : a ≠ q2 := fun w => by rw [w, hf2] at ha; cases ha
  refine g_goto X 24 dJ7_copyOf_6403c_10 (by decide) ?_
  refine g_astore_n X dJ7_copyOf_6403c_24 (Nat.le_of_ble_eq_true rfl) [(3, _), (0, _), (1, _), (2, _)] rfl ?_
  refine g_aload_n X dJ7_copyOf_6403c_25 1 rfl ?_
  refine g_iconst X (v := 0) dJ7_copyOf_6403c_26 ki_0 ?_
  refine g_aload_n X dJ7_copyOf_6403c_27 0 rfl ?_
  refine g_iconst X (v := 0) dJ7_copyOf_6403c_28 ki_0 ?_
  refine g_aload_n X dJ7_copyOf_6403c_29 1 rfl ?_
  refine g_alen X dJ7_copyOf_6403c_30 (t := 4) rfl (by rw [hup_n hna]; exact ha) (nI N) rfl ?_
  refine g_iload_n X dJ7_copyOf_6403c_31 2 rfl ?_
  refine g_mmin X mm_AR_304 (Nat.le_of_ble_eq_true rfl) (Nat.le_of_ble_eq_true rfl) (Nat.le_of_ble_eq_true rfl) (by omega) dJ7_copyOf_6403c_32 ?_
  refine g_eqi (y := nI N) ((mnF_n (by omega) (by omega)).trans (by rw [Nat.min_eq_left hNz])) ?_
  refine g_copyq X ac_l (by rw [hup_n hna]; exact ha) hup_s (by decide) (by decide) (nI_nn (by omega)) (by rw [nI_clamp (by omega)]; show 0 + N ≤ N; omega) (by rw [nI_clamp (by omega)]; show 0 + N ≤ z; omega) (fun i hi y hy => (hel i (by rw [nI_clamp (by omega)] at hi; exact hi) y (by rw [show (0 : Int32).toNatClampNeg + i = i from Nat.zero_add i] at hy; exact hy)).new hf2) (Nat.le_of_ble_eq_true rfl) (Nat.le_of_ble_eq_true rfl) dJ7_copyOf_6403c_35 ?_
  refine g_h (h' := hup h q2 (aO G z (va_cpy f (fun _ => none) 0 0 N))) (by rw [hup_up, nI_clamp (by omega)]; rfl) ?_
  refine g_aload_n X dJ7_copyOf_6403c_38 0 rfl ?_
  refine g_aret X F rfl (Or.inr ⟨_, rfl⟩) (Or.inr ⟨_, rfl⟩) dJ7_copyOf_6403c_39 (Nat.le_of_ble_eq_true rfl) (by omega) ?_
  exact ⟨q2, _, hf2, hg2, rfl, rfl, fun i hi => by unfold va_cpy; rw [if_pos (by omega), Nat.zero_add, Nat.sub_zero]⟩
theorem c_J7_copyOf_1904c (a N z : Nat) (f : Nat → Option Nat) (ha : h a = some (aO G N f)) (hNz : N ≤ z) (hz2 : z ≤ 150) (hel : ∀ i, i < N → ∀ y, f i = some y → gEl h y)  : Ct G l 2 1 150 M_J7_copyOf_1904c [.ref a, .int (nI z)] h (cpQ G h N z f) := by
  refine Ct.of (by decide +kernel) (Nat.le_of_ble_eq_true rfl) (fun E hE X F => ?_)
  have X : Gc G E "java/util/Arrays" cJ7_copyOf_1904c 2 2 1 150 := X
  show GW G E _ 2 0 [(0, _), (1, _)] [] _ 0 0
  refine g_aload_n X dJ7_copyOf_1904c_0 0 rfl ?_
  refine g_iload_n X dJ7_copyOf_1904c_1 1 rfl ?_
  refine g_aload_n X dJ7_copyOf_1904c_2 0 rfl ?_
  refine g_getC X gc_l ha (Nat.le_of_ble_eq_true rfl) (Nat.le_of_ble_eq_true rfl) dJ7_copyOf_1904c_3 ?_
  refine g_cSx X ml_AR_300 (c_J7_copyOf_6403c a N z f ha hNz hz2 hel) (Nat.le_of_ble_eq_true rfl) rfl rfl (Nat.le_of_ble_eq_true rfl) (Nat.le_of_ble_eq_true rfl) (Nat.le_of_ble_eq_true rfl) dJ7_copyOf_1904c_6 ?_
  rintro v h1 ⟨q2, gn, hf2, hg2, rfl, rfl, hgn⟩
  refine g_st (st' := [.ref q2]) rfl ?_
  refine g_aret X F rfl (Or.inr ⟨_, rfl⟩) (Or.inr ⟨_, rfl⟩) dJ7_copyOf_1904c_9 (Nat.le_of_ble_eq_true rfl) (Nat.le_of_ble_eq_true rfl) ?_
  exact ⟨q2, gn, hf2, hg2, rfl, rfl, hgn⟩
theorem c_Jx4a65c_grow_92f84_z (q : Nat) (x0 : Int32) (hq : h q = some (ob 8 [.int x0, .ref (G.2.2.2.1 3), .int 0])) : Ct G l 3 1 150 M_Jx4a65c_grow_92f84 [.ref q, .int 1] h (fun v h' => ∃ (q2 : Nat), h q2 = none ∧ gA G q2 ∧ v = some (.ref q2) ∧ h' = hup (hup h q2 (aO G 10 (fun _ => none))) q (ob 8 [.int x0, .ref q2, .int 0])) := by
  refine Ct.of (by decide +kernel) (Nat.le_of_ble_eq_true rfl) (fun E hE X F => ?_)
  have X : Gc G E "java/util/ArrayList" cJx4a65c_grow_92f84 4 3 1 150 := X
  show GW G E _ 4 0 [(0, _), (1, _)] [] _ 0 0
  refine g_aload_n X dJx4a65c_grow_92f84_0 0 rfl ?_
  refine g_getfield X fl_AL_9 dJx4a65c_grow_92f84_1 (by assumption) rfl ?_
  refine g_oalen X X.old.et dJx4a65c_grow_92f84_4 ?_
  refine g_istore_n X dJx4a65c_grow_92f84_5 (Nat.le_of_ble_eq_true rfl) [(2, _), (0, _), (1, _)] rfl ?_
  refine g_iload_n X dJx4a65c_grow_92f84_6 0 rfl ?_
  refine g_if_gt X 20 dJx4a65c_grow_92f84_7 (by decide) (fun c_7 => absurd c_7 (by decide)) (fun c_7 => ?_)
  refine g_aload_n X dJx4a65c_grow_92f84_10 1 rfl ?_
  refine g_getfield X fl_AL_9 dJx4a65c_grow_92f84_11 (by assumption) rfl ?_
  refine g_getstatic X X.old.ez fk_AL_39 dJx4a65c_grow_92f84_14 ?_
  refine g_acmp_eq X 45 dJx4a65c_grow_92f84_17 (by decide) (rx := some (G.2.2.2.1 3)) (ry := some (G.2.2.2.1 3)) rfl rfl (fun c_17 => ?_) (fun c_17 => absurd rfl c_17)
  refine g_aload_n X dJx4a65c_grow_92f84_45 1 rfl ?_
  refine g_bipush X (v := 10) dJx4a65c_grow_92f84_46 kb_10 ?_
  refine g_iload_n X dJx4a65c_grow_92f84_48 2 rfl ?_
  refine g_mmax X mm_AL_79 (Nat.le_of_ble_eq_true rfl) (Nat.le_of_ble_eq_true rfl) (Nat.zero_le _) (Nat.zero_le _) dJx4a65c_grow_92f84_49 ?_
  refine g_eqi (y := nI 10) (by decide) ?_
  refine g_newq X cl_AL_7 (by decide) (N := 10) (by decide) (by decide) (Nat.le_of_ble_eq_true rfl) (Nat.le_of_ble_eq_true rfl) dJx4a65c_grow_92f84_52 (fun q2 hf2 hg2 => ?_)
  have hna : q ≠ q2 := fun w => by rw [w, hf2] at hq; cases hq
  refine g_dup_x1 X dJx4a65c_grow_92f84_55 rfl rfl ?_
  refine g_putfield X fp_AL_9 dJx4a65c_grow_92f84_56 (by rw [hup_n hna]; exact hq) (Nat.le_of_ble_eq_true rfl) rfl rfl _ rfl ?_
  refine g_aret X F rfl (Or.inr ⟨_, rfl⟩) (Or.inr ⟨_, rfl⟩) dJx4a65c_grow_92f84_59 (Nat.le_of_ble_eq_true rfl) (Nat.le_of_ble_eq_true rfl) ?_
  exact ⟨q2, hf2, hg2, rfl, rfl⟩
theorem c_Jx4a65c_grow_92f84 (q e N : Nat) (x0 : Int32) (f : Nat → Option Nat) (hq : h q = some (ob 8 [.int x0, .ref e, .int (nI N)])) (he : h e = some (aO G N f)) (hN1 : 1 ≤ N) (hN : N ≤ 80) (hs : (nI N >>> ((1 : Int32) &&& 31)) = nI (N / 2)) (hel : ∀ i, i < N → ∀ y, f i = some y → gEl h y) : Ct G l 3 1 150 M_Jx4a65c_grow_92f84 [.ref q, .int (nI (N + 1))] h (fun v h' => ∃ (q2 : Nat) (gn : Nat → Option Nat), h q2 = none ∧ gA G q2 ∧ v = some (.ref q2) ∧ h' = hup (hup h q2 (aO G (N + max 1 (N / 2)) gn)) q (ob 8 [.int x0, .ref q2, .int (nI N)]) ∧ ∀ i, i < N → gn i = f i) := by
  refine Ct.of (by decide +kernel) (Nat.le_of_ble_eq_true rfl) (fun E hE X F => ?_)
  have X : Gc G E "java/util/ArrayList" cJx4a65c_grow_92f84 4 3 1 150 := X
  show GW G E _ 4 0 [(0, _), (1, _)] [] _ 0 0
  refine g_aload_n X dJx4a65c_grow_92f84_0 0 rfl ?_
  refine g_getfield X fl_AL_9 dJx4a65c_grow_92f84_1 (by assumption) rfl ?_
  refine g_alen X dJx4a65c_grow_92f84_4 (t := 4) rfl he (nI N) rfl ?_
  refine g_istore_n X dJx4a65c_grow_92f84_5 (Nat.le_of_ble_eq_true rfl) [(2, _), (0, _), (1, _)] rfl ?_
  refine g_iload_n X dJx4a65c_grow_92f84_6 0 rfl ?_
  refine g_if_gt X 20 dJx4a65c_grow_92f84_7 (by decide) (fun c_7 => ?_) (fun c_7 => absurd ((nI_ltI (a := 0) (b := N) (by decide) (by omega)).mpr (by omega)) c_7)
  refine g_iload_n X dJx4a65c_grow_92f84_20 0 rfl ?_
  refine g_iload_n X dJx4a65c_grow_92f84_21 2 rfl ?_
  refine g_iload_n X dJx4a65c_grow_92f84_22 0 rfl ?_
  refine g_isub X dJx4a65c_grow_92f84_23 ?_
  refine g_eqi (y := nI 1) (by rw [pk_sub (by omega)]; congr 1; omega) ?_
  refine g_iload_n X dJx4a65c_grow_92f84_24 0 rfl ?_
  refine g_iconst X (v := 1) dJx4a65c_grow_92f84_25 ki_1 ?_
  refine g_ishr X dJx4a65c_grow_92f84_26 ?_
  refine g_eqi (y := nI (N / 2)) (hs) ?_
  refine g_cS X ml_AL_73 (c_J8_newLength_cabcc N 1 (N / 2) (by omega) (by decide) (by decide) (by omega)) (Nat.le_of_ble_eq_true rfl) rfl rfl (Nat.le_of_ble_eq_true rfl) (Nat.zero_le _) (Nat.zero_le _) dJx4a65c_grow_92f84_27 ?_
  refine g_istore_n X dJx4a65c_grow_92f84_30 (Nat.le_of_ble_eq_true rfl) [(3, _), (2, _), (0, _), (1, _)] rfl ?_
  refine g_aload_n X dJx4a65c_grow_92f84_31 2 rfl ?_
  refine g_aload_n X dJx4a65c_grow_92f84_32 2 rfl ?_
  refine g_getfield X fl_AL_9 dJx4a65c_grow_92f84_33 (by assumption) rfl ?_
  refine g_iload_n X dJx4a65c_grow_92f84_36 0 rfl ?_
  refine g_cSx X ml_AL_66 (c_J7_copyOf_1904c e N (N + max 1 (N / 2)) f he (by omega) (by omega) hel) (Nat.le_of_ble_eq_true rfl) rfl rfl (Nat.le_of_ble_eq_true rfl) (Nat.le_of_ble_eq_true rfl) (Nat.le_of_ble_eq_true rfl) dJx4a65c_grow_92f84_37 ?_
  rintro v h1 ⟨q2, gn, hf2, hg2, rfl, rfl, hgn⟩
  have hna : q ≠ q2 := fun w => by rw [w, hf2] at hq; cases hq
  refine g_st (st' := [.ref q2, .ref q]) rfl ?_
  refine g_dup_x1 X dJx4a65c_grow_92f84_40 rfl rfl ?_
  refine g_putfield X fp_AL_9 dJx4a65c_grow_92f84_41 (by rw [hup_n hna]; exact hq) (Nat.le_of_ble_eq_true rfl) rfl rfl _ rfl ?_
  refine g_aret X F rfl (Or.inr ⟨_, rfl⟩) (Or.inr ⟨_, rfl⟩) dJx4a65c_grow_92f84_44 (Nat.le_of_ble_eq_true rfl) (Nat.le_of_ble_eq_true rfl) ?_
  exact ⟨q2, gn, hf2, hg2, rfl, rfl, hgn⟩
end J3
