section J5
variable {G : gG} {l : Launch} {h : hW}
section CloRows
variable {E : gE} {own : String} {cc : ByteArray} {nL lv mc ms pc k n : Nat} {Q : State → Prop} {L : List (Nat × Value)} {st : List Value}
theorem cn_n : Cond.native ⟨"java/lang/Object", "clone", "()Ljava/lang/Object;"⟩ ∈ uw := uw_at 443 (by decide +kernel) rfl
theorem cn_i : Cond.instanceMethod ⟨"java/lang/Object", "clone", "()Ljava/lang/Object;"⟩ ∈ uw := uw_at 444 (by decide +kernel) rfl
theorem cn_Jl : Cond.methodLink "java/util/Arrays" 319 ⟨"[J", "clone", "()Ljava/lang/Object;"⟩ ∈ uw := uw_at 441 (by decide +kernel) rfl
theorem cn_Jm : Cond.sameMethod "[J" "java/lang/Object" "clone" "()Ljava/lang/Object;" ∈ uw := uw_at 442 (by decide +kernel) rfl
theorem cn_Js : Cond.selects "[J" ⟨"[J", "clone", "()Ljava/lang/Object;"⟩ ⟨"java/lang/Object", "clone", "()Ljava/lang/Object;"⟩ ∈ uw := uw_at 445 (by decide +kernel) rfl
theorem cn_Jc : Cond.castable "[J" "java/lang/Cloneable" ∈ lw_tbl := List.mem_of_getElem? (i := 446) (by decide +kernel)
theorem g_cloneJ (X : Gc G E own cc nL lv mc ms) {idx a N : Nat} {f : Nat → Int64} (hl : Cond.methodLink own idx ⟨"[J", "clone", "()Ljava/lang/Object;"⟩ ∈ uw) (ha : h a = some (aJ G N f)) (hlv : 1 ≤ lv) (hW : (st.map fun v => v.category).sum ≤ 8) (hk : k + 1 ≤ mc) (hn : n + N ≤ ms) (d : decode cc pc = .ok (.invokevirtual idx, 3)) (K : ∀ q : Nat, h q = none → gA G q → GW G E Q nL (pc + 3) L (.ref q :: st) (hup h q (aJ G N f)) (k + 1) (n + N)) : GW G E Q nL pc L (.ref a :: st) h k n := by
  intro H locs ls w b c
  have r := X.2.2.2.2.2.2.2
  have hK0 := X.2.2.2.2.2.1.2.1
  obtain ⟨ws, hP, hD, hh⟩ := w
  obtain ⟨j, hj⟩ := List.getElem?_of_mem ((hh a _).mp ha)
  refine va_clone X.1 X.2.1 (X.2.2.1.trans c.1.symm) X.2.2.2.1 (X.2.2.2.2.1 _ hl) (X.2.2.2.2.1 _ cn_Jm) (X.2.2.2.2.1 _ cn_n) (X.2.2.2.2.1 _ cn_i) (X.2.2.2.2.1 _ cn_Js) (X.old.nw _ cn_Jc rfl) hK0 hP hD b (fun q hq => Nat.le_trans X.2.2.2.2.2.1.1 hq) j 2 hj rfl (hK0.2 2 _ rfl).2 ?_ (Nat.le_trans hlv r.1) ?_ (Nat.le_trans hk r.2.2.1) (Nat.le_trans hn r.2.2.2) d (fun q H1 p0 p1 p2 p3 => ?_)
  · intro i v hi
    rw [vp_cell_l] at hi
    have hl2 : i < N := by have := (Array.getElem?_eq_some_iff.mp hi).1; rw [arrV_size] at this; exact this
    rw [arrV_read _ _ hl2] at hi
    cases hi
    rfl
  · have := r.2.1
    omega
  · have hs := gpush_spec p2 hh
    exact K q hs.1 (p2.2 _ _ (show (ws ++ [(q, _)])[ws.length]? = some _ by rw [List.getElem?_append_right (Nat.le_refl _), Nat.sub_self]; rfl)) H1 locs ls ⟨_, p1, p2, hs.2⟩ p3 c
theorem g_castJ (X : Gc G E own cc nL lv mc ms) {idx a N : Nat} {f : Nat → Int64} (hl : Cond.classLink own idx "[J" ∈ uw) (ha : h a = some (aJ G N f)) (d : decode cc pc = .ok (.checkcast idx, 3)) (K : GW G E Q nL (pc + 3) L (.ref a :: st) h k n) : GW G E Q nL pc L (.ref a :: st) h k n :=
  fun H locs ls w b c => va_castA X.1 X.2.1 X.2.2.2.1 (X.2.2.2.2.1 _ hl) (w.one ha) 0 rfl (X.2.2.2.2.2.1.2.1.2 2 _ rfl).2 d (K H locs ls w b c)
theorem cn_Il : Cond.methodLink "java/util/Arrays" 316 ⟨"[I", "clone", "()Ljava/lang/Object;"⟩ ∈ uw := uw_at 457 (by decide +kernel) rfl
theorem cn_Im : Cond.sameMethod "[I" "java/lang/Object" "clone" "()Ljava/lang/Object;" ∈ uw := uw_at 458 (by decide +kernel) rfl
theorem cn_Is : Cond.selects "[I" ⟨"[I", "clone", "()Ljava/lang/Object;"⟩ ⟨"java/lang/Object", "clone", "()Ljava/lang/Object;"⟩ ∈ uw := uw_at 459 (by decide +kernel) rfl
theorem cn_Ic : Cond.castable "[I" "java/lang/Cloneable" ∈ lw_tbl := List.mem_of_getElem? (i := 460) (by decide +kernel)
theorem g_cloneI (X : Gc G E own cc nL lv mc ms) {idx a N : Nat} {f : Nat → Int32} (hl : Cond.methodLink own idx ⟨"[I", "clone", "()Ljava/lang/Object;"⟩ ∈ uw) (ha : h a = some (aI G N f)) (hlv : 1 ≤ lv) (hW : (st.map fun v => v.category).sum ≤ 8) (hk : k + 1 ≤ mc) (hn : n + N ≤ ms) (d : decode cc pc = .ok (.invokevirtual idx, 3)) (K : ∀ q : Nat, h q = none → gA G q → GW G E Q nL (pc + 3) L (.ref q :: st) (hup h q (aI G N f)) (k + 1) (n + N)) : GW G E Q nL pc L (.ref a :: st) h k n := by
  intro H locs ls w b c
  have r := X.2.2.2.2.2.2.2
  have hK0 := X.2.2.2.2.2.1.2.1
  obtain ⟨ws, hP, hD, hh⟩ := w
  obtain ⟨j, hj⟩ := List.getElem?_of_mem ((hh a _).mp ha)
  refine va_clone X.1 X.2.1 (X.2.2.1.trans c.1.symm) X.2.2.2.1 (X.2.2.2.2.1 _ hl) (X.2.2.2.2.1 _ cn_Im) (X.2.2.2.2.1 _ cn_n) (X.2.2.2.2.1 _ cn_i) (X.2.2.2.2.1 _ cn_Is) (X.old.nw _ cn_Ic rfl) hK0 hP hD b (fun q hq => Nat.le_trans X.2.2.2.2.2.1.1 hq) j 0 hj rfl (hK0.2 0 _ rfl).2 ?_ (Nat.le_trans hlv r.1) ?_ (Nat.le_trans hk r.2.2.1) (Nat.le_trans hn r.2.2.2) d (fun q H1 p0 p1 p2 p3 => ?_)
  · intro i v hi
    rw [vp_cell_i] at hi
    have hl2 : i < N := by have := (Array.getElem?_eq_some_iff.mp hi).1; rw [arrV_size] at this; exact this
    rw [arrV_read _ _ hl2] at hi
    cases hi
    rfl
  · have := r.2.1
    omega
  · have hs := gpush_spec p2 hh
    exact K q hs.1 (p2.2 _ _ (show (ws ++ [(q, _)])[ws.length]? = some _ by rw [List.getElem?_append_right (Nat.le_refl _), Nat.sub_self]; rfl)) H1 locs ls ⟨_, p1, p2, hs.2⟩ p3 c
theorem g_castI (X : Gc G E own cc nL lv mc ms) {idx a N : Nat} {f : Nat → Int32} (hl : Cond.classLink own idx "[I" ∈ uw) (ha : h a = some (aI G N f)) (d : decode cc pc = .ok (.checkcast idx, 3)) (K : GW G E Q nL (pc + 3) L (.ref a :: st) h k n) : GW G E Q nL pc L (.ref a :: st) h k n :=
  fun H locs ls w b c => va_castA X.1 X.2.1 X.2.2.2.1 (X.2.2.2.2.1 _ hl) (w.one ha) 0 rfl (X.2.2.2.2.2.1.2.1.2 0 _ rfl).2 d (K H locs ls w b c)
end CloRows
theorem c_J7_copyOf_c38d5 (a N z : Nat) (f : Nat → Int64) (ha : h a = some (aJ G N f)) (hz : z ≤ N) (hN : N ≤ 200) : Ct G l 1 1 200 M_J7_copyOf_c38d5 [.ref a, .int (nI z)] h (fun v h' => ∃ (q2 : Nat) (gn : Nat → Int64), h q2 = none ∧ gA G q2 ∧ v = some (.ref q2) ∧ h' = hup h q2 (aJ G z gn) ∧ ∀ i, i < z → gn i = f i) := by
  refine Ct.of (by decide +kernel) (Nat.le_of_ble_eq_true rfl) (fun E hE X F => ?_)
  have X : Gc G E "java/util/Arrays" cJ7_copyOf_c38d5 3 1 1 200 := X
  show GW G E _ 3 0 [(0, _), (1, _)] [] _ 0 0
  refine g_iload_n X dJ7_copyOf_c38d5_0 1 rfl ?_
  refine g_aload_n X dJ7_copyOf_c38d5_1 0 rfl ?_
  refine g_alen X dJ7_copyOf_c38d5_2 (t := 2) rfl ha (nI N) rfl ?_
  refine g_icmp_ne X 14 dJ7_copyOf_c38d5_3 (by decide) (fun c_3 => ?_) (fun c_3 => ?_)
  · refine g_iload_n X dJ7_copyOf_c38d5_14 1 rfl ?_
    refine g_newarr X (atype := .long) (ty := .long) rfl arc_long (t := 2) rfl (fun C qc => by cases qc) (N := z) (z, .inr (.inl (fun _ => 0))) (fun _ => rfl) (nI_nn (by omega)) (nI_clamp (by omega)) (by show z * 8 ≤ _; omega) (Nat.le_of_ble_eq_true rfl) (by omega) dJ7_copyOf_c38d5_15 (fun q2 hf2 hg2 => ?_)
    have hna : a ≠ q2 := fun w => by rw [w, hf2] at ha; cases ha
    refine g_astore_n X dJ7_copyOf_c38d5_17 (Nat.le_of_ble_eq_true rfl) [(2, _), (0, _), (1, _)] rfl ?_
    refine g_aload_n X dJ7_copyOf_c38d5_18 1 rfl ?_
    refine g_iconst X (v := 0) dJ7_copyOf_c38d5_19 ki_0 ?_
    refine g_aload_n X dJ7_copyOf_c38d5_20 0 rfl ?_
    refine g_iconst X (v := 0) dJ7_copyOf_c38d5_21 ki_0 ?_
    refine g_aload_n X dJ7_copyOf_c38d5_22 1 rfl ?_
    refine g_alen X dJ7_copyOf_c38d5_23 (t := 2) rfl (by rw [hup_n hna]; exact ha) (nI N) rfl ?_
    refine g_iload_n X dJ7_copyOf_c38d5_24 2 rfl ?_
    refine g_mmin X mm_AR_304 (Nat.le_of_ble_eq_true rfl) (Nat.le_of_ble_eq_true rfl) (Nat.le_of_ble_eq_true rfl) (by omega) dJ7_copyOf_c38d5_25 ?_
    refine g_eqi (y := nI z) ((mnF_n (by omega) (by omega)).trans (by rw [Nat.min_eq_right hz])) ?_
    refine g_copyl X ac_l (by rw [hup_n hna]; exact ha) (g := fun _ => 0) hup_s (by decide) (by decide) (nI_nn (by omega)) (by rw [nI_clamp (by omega)]; show 0 + z ≤ N; omega) (by rw [nI_clamp (by omega)]; show 0 + z ≤ z; omega) (Nat.le_of_ble_eq_true rfl) (Nat.le_of_ble_eq_true rfl) dJ7_copyOf_c38d5_28 ?_
    refine g_h (h' := hup h q2 (aJ G z (va_cpy f (fun _ => 0) 0 0 z))) (by rw [hup_up, nI_clamp (by omega)]; rfl) ?_
    refine g_aload_n X dJ7_copyOf_c38d5_31 0 rfl ?_
    refine g_aret X F rfl (Or.inr ⟨_, rfl⟩) (Or.inr ⟨_, rfl⟩) dJ7_copyOf_c38d5_32 (Nat.le_of_ble_eq_true rfl) (by omega) ?_
    exact ⟨q2, _, hf2, hg2, rfl, rfl, fun i hi => by unfold va_cpy; rw [if_pos (by omega), Nat.zero_add, Nat.sub_zero]⟩
  · have hqe : z = N := (nI_eq (by omega) (by omega)).mp c_3
    subst hqe
    refine g_aload_n X dJ7_copyOf_c38d5_6 0 rfl ?_
    refine g_cloneJ X cn_Jl ha (Nat.le_of_ble_eq_true rfl) (Nat.le_of_ble_eq_true rfl) (Nat.le_of_ble_eq_true rfl) (by omega) dJ7_copyOf_c38d5_7 (fun q2 hf2 hg2 => ?_)
    refine g_castJ X cl_AR_320 hup_s dJ7_copyOf_c38d5_10 ?_
    refine g_aret X F rfl (Or.inr ⟨_, rfl⟩) (Or.inr ⟨_, rfl⟩) dJ7_copyOf_c38d5_13 (Nat.le_of_ble_eq_true rfl) (by omega) ?_
    exact ⟨q2, f, hf2, hg2, rfl, rfl, fun i _ => rfl⟩
theorem c_J7_copyOf_59c91 (a N z : Nat) (f : Nat → Int32) (ha : h a = some (aI G N f)) (hz : z ≤ N) (hN : N ≤ 200) : Ct G l 1 1 200 M_J7_copyOf_59c91 [.ref a, .int (nI z)] h (fun v h' => ∃ (q2 : Nat) (gn : Nat → Int32), h q2 = none ∧ gA G q2 ∧ v = some (.ref q2) ∧ h' = hup h q2 (aI G z gn) ∧ ∀ i, i < z → gn i = f i) := by
  refine Ct.of (by decide +kernel) (Nat.le_of_ble_eq_true rfl) (fun E hE X F => ?_)
  have X : Gc G E "java/util/Arrays" cJ7_copyOf_59c91 3 1 1 200 := X
  show GW G E _ 3 0 [(0, _), (1, _)] [] _ 0 0
  refine g_iload_n X dJ7_copyOf_59c91_0 1 rfl ?_
  refine g_aload_n X dJ7_copyOf_59c91_1 0 rfl ?_
  refine g_alen X dJ7_copyOf_59c91_2 (t := 0) rfl ha (nI N) rfl ?_
  refine g_icmp_ne X 14 dJ7_copyOf_59c91_3 (by decide) (fun c_3 => ?_) (fun c_3 => ?_)
  · refine g_iload_n X dJ7_copyOf_59c91_14 1 rfl ?_
    refine g_newarr X (atype := .int) (ty := .int) rfl arc_int (t := 0) rfl (fun C qc => by cases qc) (N := z) (z, .inl (fun _ => 0)) (fun _ => rfl) (nI_nn (by omega)) (nI_clamp (by omega)) (by show z * 4 ≤ _; omega) (Nat.le_of_ble_eq_true rfl) (by omega) dJ7_copyOf_59c91_15 (fun q2 hf2 hg2 => ?_)
    have hna : a ≠ q2 := fun w => by rw [w, hf2] at ha; cases ha
    refine g_astore_n X dJ7_copyOf_59c91_17 (Nat.le_of_ble_eq_true rfl) [(2, _), (0, _), (1, _)] rfl ?_
    refine g_aload_n X dJ7_copyOf_59c91_18 1 rfl ?_
    refine g_iconst X (v := 0) dJ7_copyOf_59c91_19 ki_0 ?_
    refine g_aload_n X dJ7_copyOf_59c91_20 0 rfl ?_
    refine g_iconst X (v := 0) dJ7_copyOf_59c91_21 ki_0 ?_
    refine g_aload_n X dJ7_copyOf_59c91_22 1 rfl ?_
    refine g_alen X dJ7_copyOf_59c91_23 (t := 0) rfl (by rw [hup_n hna]; exact ha) (nI N) rfl ?_
    refine g_iload_n X dJ7_copyOf_59c91_24 2 rfl ?_
    refine g_mmin X mm_AR_304 (Nat.le_of_ble_eq_true rfl) (Nat.le_of_ble_eq_true rfl) (Nat.le_of_ble_eq_true rfl) (by omega) dJ7_copyOf_59c91_25 ?_
    refine g_eqi (y := nI z) ((mnF_n (by omega) (by omega)).trans (by rw [Nat.min_eq_right hz])) ?_
    refine g_copyi X ac_l (by rw [hup_n hna]; exact ha) (g := fun _ => 0) hup_s (by decide) (by decide) (nI_nn (by omega)) (by rw [nI_clamp (by omega)]; show 0 + z ≤ N; omega) (by rw [nI_clamp (by omega)]; show 0 + z ≤ z; omega) (Nat.le_of_ble_eq_true rfl) (Nat.le_of_ble_eq_true rfl) dJ7_copyOf_59c91_28 ?_
    refine g_h (h' := hup h q2 (aI G z (va_cpy f (fun _ => 0) 0 0 z))) (by rw [hup_up, nI_clamp (by omega)]; rfl) ?_
    refine g_aload_n X dJ7_copyOf_59c91_31 0 rfl ?_
    refine g_aret X F rfl (Or.inr ⟨_, rfl⟩) (Or.inr ⟨_, rfl⟩) dJ7_copyOf_59c91_32 (Nat.le_of_ble_eq_true rfl) (by omega) ?_
    exact ⟨q2, _, hf2, hg2, rfl, rfl, fun i hi => by unfold va_cpy; rw [if_pos (by omega), Nat.zero_add, Nat.sub_zero]⟩
  · have hqe : z = N := (nI_eq (by omega) (by omega)).mp c_3
    subst hqe
    refine g_aload_n X dJ7_copyOf_59c91_6 0 rfl ?_
    refine g_cloneI X cn_Il ha (Nat.le_of_ble_eq_true rfl) (Nat.le_of_ble_eq_true rfl) (Nat.le_of_ble_eq_true rfl) (by omega) dJ7_copyOf_59c91_7 (fun q2 hf2 hg2 => ?_)
    refine g_castI X cl_AR_317 hup_s dJ7_copyOf_59c91_10 ?_
    refine g_aret X F rfl (Or.inr ⟨_, rfl⟩) (Or.inr ⟨_, rfl⟩) dJ7_copyOf_59c91_13 (Nat.le_of_ble_eq_true rfl) (by omega) ?_
    exact ⟨q2, f, hf2, hg2, rfl, rfl, fun i _ => rfl⟩
theorem c_J7_checkLength_df160 (b z : Nat) (hbz : b ≤ z) (hz : z < 2 ^ 31) : Ct G l 0 0 0 M_J7_checkLength_df160 [.int (nI b), .int (nI z)] h (rX none h) := by
  refine Ct.of (by decide +kernel) (Nat.le_of_ble_eq_true rfl) (fun E hE X F => ?_)
  have X : Gc G E "java/util/Arrays" cJ7_checkLength_df160 2 0 0 0 := X
  show GW G E _ 2 0 [(0, _), (1, _)] [] _ 0 0
  refine g_iload_n X dJ7_checkLength_df160_0 1 rfl ?_
  refine g_iload_n X dJ7_checkLength_df160_1 0 rfl ?_
  refine g_icmp_ge X 37 dJ7_checkLength_df160_2 (by decide) (fun c_2 => ?_) (fun c_2 => absurd ((nI_leI (by omega) hz).mpr hbz) c_2)
  refine g_ret0 X F rfl dJ7_checkLength_df160_37 (Nat.zero_le _) (Nat.zero_le _) ?_
  exact ⟨rfl, rfl⟩
theorem c_J7_copyOfRangeLong_23910 (a N b z : Nat) (f : Nat → Int64) (ha : h a = some (aJ G N f)) (hbz : b ≤ z) (hz : z ≤ N) (hN : N ≤ 200) : Ct G l 1 1 200 M_J7_copyOfRangeLong_23910 [.ref a, .int (nI b), .int (nI z)] h (fun v h' => ∃ (q2 : Nat) (gn : Nat → Int64), h q2 = none ∧ gA G q2 ∧ v = some (.ref q2) ∧ h' = hup h q2 (aJ G (z - b) gn) ∧ ∀ i, i < z - b → gn i = f (b + i)) := by
  refine Ct.of (by decide +kernel) (Nat.le_of_ble_eq_true rfl) (fun E hE X F => ?_)
  have X : Gc G E "java/util/Arrays" cJ7_copyOfRangeLong_23910 5 1 1 200 := X
  show GW G E _ 5 0 [(0, _), (1, _), (2, _)] [] _ 0 0
  refine g_iload_n X dJ7_copyOfRangeLong_23910_0 1 rfl ?_
  refine g_iload_n X dJ7_copyOfRangeLong_23910_1 2 rfl ?_
  refine g_cS0 X ml_AR_343 (c_J7_checkLength_df160 b z hbz (by omega)) (Nat.le_of_ble_eq_true rfl) rfl rfl (Nat.le_of_ble_eq_true rfl) (Nat.le_of_ble_eq_true rfl) (Nat.le_of_ble_eq_true rfl) dJ7_copyOfRangeLong_23910_2 ?_
  refine g_iload_n X dJ7_copyOfRangeLong_23910_5 2 rfl ?_
  refine g_iload_n X dJ7_copyOfRangeLong_23910_6 1 rfl ?_
  refine g_isub X dJ7_copyOfRangeLong_23910_7 ?_
  refine g_eqi (y := nI (z - b)) (pk_sub hbz) ?_
  refine g_istore_n X dJ7_copyOfRangeLong_23910_8 (Nat.le_of_ble_eq_true rfl) [(3, _), (0, _), (1, _), (2, _)] rfl ?_
  refine g_iload_n X dJ7_copyOfRangeLong_23910_9 0 rfl ?_
  refine g_newarr X (atype := .long) (ty := .long) rfl arc_long (t := 2) rfl (fun C qc => by cases qc) (N := z - b) (z - b, .inr (.inl (fun _ => 0))) (fun _ => rfl) (nI_nn (by omega)) (nI_clamp (by omega)) (by show (z - b) * 8 ≤ _; omega) (Nat.le_of_ble_eq_true rfl) (by omega) dJ7_copyOfRangeLong_23910_10 (fun q2 hf2 hg2 => ?_)
  have hna : a ≠ q2 := fun w => by rw [w, hf2] at ha; cases ha
  refine g_astore X dJ7_copyOfRangeLong_23910_12 (Nat.le_of_ble_eq_true rfl) [(4, _), (3, _), (0, _), (1, _), (2, _)] rfl ?_
  refine g_aload_n X dJ7_copyOfRangeLong_23910_14 2 rfl ?_
  refine g_iload_n X dJ7_copyOfRangeLong_23910_15 3 rfl ?_
  refine g_aload X dJ7_copyOfRangeLong_23910_16 0 rfl ?_
  refine g_iconst X (v := 0) dJ7_copyOfRangeLong_23910_18 ki_0 ?_
  refine g_aload_n X dJ7_copyOfRangeLong_23910_19 2 rfl ?_
  refine g_alen X dJ7_copyOfRangeLong_23910_20 (t := 2) rfl (by rw [hup_n hna]; exact ha) (nI N) rfl ?_
  refine g_iload_n X dJ7_copyOfRangeLong_23910_21 3 rfl ?_
  refine g_isub X dJ7_copyOfRangeLong_23910_22 ?_
  refine g_eqi (y := nI (N - b)) (pk_sub (by omega)) ?_
  refine g_iload_n X dJ7_copyOfRangeLong_23910_23 1 rfl ?_
  refine g_mmin X mm_AR_304 (Nat.le_of_ble_eq_true rfl) (Nat.le_of_ble_eq_true rfl) (Nat.le_of_ble_eq_true rfl) (by omega) dJ7_copyOfRangeLong_23910_24 ?_
  refine g_eqi (y := nI (z - b)) ((mnF_n (by omega) (by omega)).trans (by rw [Nat.min_eq_right (by omega)])) ?_
  refine g_copyl X ac_l (by rw [hup_n hna]; exact ha) (g := fun _ => 0) hup_s (nI_nn (by omega)) (by decide) (nI_nn (by omega)) (by rw [nI_clamp (by omega), nI_clamp (by omega)]; omega) (by rw [nI_clamp (by omega)]; show 0 + (z - b) ≤ z - b; omega) (Nat.le_of_ble_eq_true rfl) (Nat.le_of_ble_eq_true rfl) dJ7_copyOfRangeLong_23910_27 ?_
  refine g_h (h' := hup h q2 (aJ G (z - b) (va_cpy f (fun _ => 0) b 0 (z - b)))) (by rw [hup_up, nI_clamp (show b < 2 ^ 31 by omega), nI_clamp (show z - b < 2 ^ 31 by omega)]; rfl) ?_
  refine g_aload X dJ7_copyOfRangeLong_23910_30 0 rfl ?_
  refine g_aret X F rfl (Or.inr ⟨_, rfl⟩) (Or.inr ⟨_, rfl⟩) dJ7_copyOfRangeLong_23910_32 (Nat.le_of_ble_eq_true rfl) (by omega) ?_
  exact ⟨q2, _, hf2, hg2, rfl, rfl, fun i hi => by unfold va_cpy; rw [if_pos (by omega), Nat.sub_zero]⟩
theorem c_J7_copyOfRange_23910 (a N b z : Nat) (f : Nat → Int64) (ha : h a = some (aJ G N f)) (hbz : b ≤ z) (hz : z ≤ N) (hN : N ≤ 200) : Ct G l 2 1 200 M_J7_copyOfRange_23910 [.ref a, .int (nI b), .int (nI z)] h (fun v h' => ∃ (q2 : Nat) (gn : Nat → Int64), h q2 = none ∧ gA G q2 ∧ v = some (.ref q2) ∧ h' = hup h q2 (aJ G (z - b) gn) ∧ ∀ i, i < z - b → gn i = f (b + i)) := by
  refine Ct.of (by decide +kernel) (Nat.le_of_ble_eq_true rfl) (fun E hE X F => ?_)
  have X : Gc G E "java/util/Arrays" cJ7_copyOfRange_23910 3 2 1 200 := X
  show GW G E _ 3 0 [(0, _), (1, _), (2, _)] [] _ 0 0
  refine g_iload_n X dJ7_copyOfRange_23910_0 1 rfl ?_
  refine g_if_ne X 10 dJ7_copyOfRange_23910_1 (by decide) (fun c_1 => ?_) (fun c_1 => ?_)
  · refine g_aload_n X dJ7_copyOfRange_23910_10 0 rfl ?_
    refine g_iload_n X dJ7_copyOfRange_23910_11 1 rfl ?_
    refine g_iload_n X dJ7_copyOfRange_23910_12 2 rfl ?_
    refine g_cSx X ml_AR_355 (c_J7_copyOfRangeLong_23910 a N b z f ha hbz hz hN) (Nat.le_of_ble_eq_true rfl) rfl rfl (Nat.le_of_ble_eq_true rfl) (Nat.le_of_ble_eq_true rfl) (Nat.le_of_ble_eq_true rfl) dJ7_copyOfRange_23910_13 ?_
    rintro v h1 ⟨q2, gn, hf2, hg2, rfl, rfl, hgn⟩
    refine g_st (st' := [.ref q2]) rfl ?_
    refine g_aret X F rfl (Or.inr ⟨_, rfl⟩) (Or.inr ⟨_, rfl⟩) dJ7_copyOfRange_23910_16 (Nat.le_of_ble_eq_true rfl) (by omega) ?_
    exact ⟨q2, gn, hf2, hg2, rfl, rfl, hgn⟩
  · have hb0 : b = 0 := (nI_eq (b := 0) (by omega) (by decide)).mp (by first | exact c_1 | exact Decidable.not_not.mp c_1)
    refine g_iload_n X dJ7_copyOfRange_23910_4 2 rfl ?_
    refine g_aload_n X dJ7_copyOfRange_23910_5 0 rfl ?_
    refine g_alen X dJ7_copyOfRange_23910_6 (t := 2) rfl ha (nI N) rfl ?_
    refine g_icmp_eq X 17 dJ7_copyOfRange_23910_7 (by decide) (fun c_7 => ?_) (fun c_7 => ?_)
    · have hzN : z = N := (nI_eq (by omega) (by omega)).mp c_7
      subst hzN
      subst hb0
      refine g_aload_n X dJ7_copyOfRange_23910_17 0 rfl ?_
      refine g_cloneJ X cn_Jl ha (Nat.le_of_ble_eq_true rfl) (Nat.le_of_ble_eq_true rfl) (Nat.le_of_ble_eq_true rfl) (by omega) dJ7_copyOfRange_23910_18 (fun q2 hf2 hg2 => ?_)
      refine g_castJ X cl_AR_320 hup_s dJ7_copyOfRange_23910_21 ?_
      refine g_aret X F rfl (Or.inr ⟨_, rfl⟩) (Or.inr ⟨_, rfl⟩) dJ7_copyOfRange_23910_24 (Nat.le_of_ble_eq_true rfl) (by omega) ?_
      exact ⟨q2, f, hf2, hg2, rfl, rfl, fun i _ => by rw [Nat.zero_add]⟩
    · refine g_aload_n X dJ7_copyOfRange_23910_10 0 rfl ?_
      refine g_iload_n X dJ7_copyOfRange_23910_11 1 rfl ?_
      refine g_iload_n X dJ7_copyOfRange_23910_12 2 rfl ?_
      refine g_cSx X ml_AR_355 (c_J7_copyOfRangeLong_23910 a N b z f ha hbz hz hN) (Nat.le_of_ble_eq_true rfl) rfl rfl (Nat.le_of_ble_eq_true rfl) (Nat.le_of_ble_eq_true rfl) (Nat.le_of_ble_eq_true rfl) dJ7_copyOfRange_23910_13 ?_
      rintro v h1 ⟨q2, gn, hf2, hg2, rfl, rfl, hgn⟩
      refine g_st (st' := [.ref q2]) rfl ?_
      refine g_aret X F rfl (Or.inr ⟨_, rfl⟩) (Or.inr ⟨_, rfl⟩) dJ7_copyOfRange_23910_16 (Nat.le_of_ble_eq_true rfl) (by omega) ?_
      exact ⟨q2, gn, hf2, hg2, rfl, rfl, hgn⟩
end J5
