section R2
variable {G : gG} {E : gE} {h : hW} {lv mc ms k n : Nat} {Q : State → Prop} {b Ln x m o i : Nat} {xs : Nat → Int32} {ix ad : Nat → Nat}
theorem and31 (v : Int32) : ∃ j : Nat, j < 32 ∧ v &&& 31 = nI j := by
  refine ⟨(v &&& 31).toBitVec.toNat, ?_, ?_⟩
  · have e : (v &&& 31).toBitVec.toNat = v.toBitVec.toNat &&& 31 := by
      rw [Int32.toBitVec_and, BitVec.toNat_and]; rfl
    rw [e]
    exact Nat.lt_of_le_of_lt Nat.and_le_right (by decide)
  · apply Int32.toBitVec_inj.mp
    apply BitVec.eq_of_toNat_eq
    show _ = (BitVec.ofNat 32 _).toNat
    rw [BitVec.toNat_ofNat, Nat.mod_eq_of_lt (v &&& 31).toBitVec.isLt]
theorem sub6 {i Ln : Nat} (hL : Ln ≤ 3072) (hi : i ≤ 4000) (q : ¬ nI Ln - 6 < nI i) : i + 6 ≤ Ln := by
  by_cases h6 : 6 ≤ Ln
  · obtain ⟨a, rfl⟩ : ∃ a, Ln = a + 6 := ⟨Ln - 6, by omega⟩
    have e : nI (a + 6) - 6 = nI a := by
      rw [← nI_add a 6]
      show nI a + 6 - 6 = nI a
      exact Int32.add_sub_cancel _ _
    rw [e] at q
    have := Nat.le_of_not_lt (fun z => q (nI_lt (a := a) (b := i) z (by omega)))
    omega
  · exfalso
    apply q
    have h1 : (nI Ln - 6).toInt < 0 := by
      match Ln, h6 with
      | 0, _ => decide +kernel
      | 1, _ => decide +kernel
      | 2, _ => decide +kernel
      | 3, _ => decide +kernel
      | 4, _ => decide +kernel
      | 5, _ => decide +kernel
      | z + 6, hz => exact absurd (Nat.le_add_left 6 z) hz
    rw [Int32.lt_iff_toInt_lt, nI_toInt (by omega)]
    omega
/-- one step of the script -/
theorem lw_step (X : Gc G E "ComplaintDeskLaw" cL_law 7 lv mc ms) (XS : lX G E b Ln xs) (D : md ix m ad) (hs : E.l.stackTraces = false) (hL : Ln ≤ 3072) (hi4 : i ≤ 4000) (hk : k + 21 ≤ mc) (hn : n + 2280 ≤ ms) (hlv : 20 ≤ lv) (hJ : jN0 G x m o ad h) (K : ∀ h', i + 6 ≤ Ln → jN0 G x m o ad h' → GW G E Q 7 23 (lL b x m o (i + 6)) [] h' (k + 21) (n + 2280)) (KE : GW G E Q 7 1105 (lL b x m o i) [] h k n) : GW G E Q 7 23 (lL b x m o i) [] h k n := by
  refine g_iload X dL_law_23 4 rfl ?_
  refine g_aload_n X dL_law_25 0 rfl ?_
  refine g_ln X XS dL_law_26 ?_
  refine g_bipush X (v := 6) dL_law_27 (by decide +kernel) ?_
  refine g_isub X dL_law_29 ?_
  refine g_icmp_gt X 1105 dL_law_30 (by decide) (fun _ => KE) (fun q => ?_)
  have hi : i + 6 ≤ Ln := sub6 hL hi4 q
  have hi5 : i + 5 < Ln := by omega
  refine g_aload_n X dL_law_33 0 rfl ?_
  refine g_iload X dL_law_34 4 rfl ?_
  refine g_rd X XS (nI_in (by omega) (by omega)) dL_law_36 ?_
  refine g_bipush X (v := 31) dL_law_37 (by decide +kernel) ?_
  refine g_iand X dL_law_39 ?_
  have K9 : ∀ h' k' n', k' ≤ k + 21 → n' ≤ n + 2280 → jN0 G x m o ad h' → GW G E Q 7 1099 (lL b x m o i) [] h' k' n' := fun h' k' n' hk' hn' hN => by
    refine g_widen hk' hn' ?_
    refine g_iinc X dL_law_1099 4 rfl (v := nI (i + 6)) (nI_add i 6) (by decide) [(4, _), (0, _), (1, _), (2, _), (3, _)] rfl ?_
    refine g_L [1, 2, 3, 4, 0] (L' := lL b x m o (i + 6)) rfl ?_
    exact g_goto X 23 dL_law_1102 (by decide) (K h' hi hN)
  have K1 : ∀ h', jN0 G x m o ad h' → GW G E Q 7 1099 (lL b x m o i) [] h' (k + 21) (n + 2280) := fun h' hN => K9 h' _ _ (Nat.le_refl _) (Nat.le_refl _) hN
  obtain ⟨j, hj, ej⟩ := and31 (xs (nI i).toNatClampNeg)
  refine g_eqi ej ?_
  by_cases h17 : 17 ≤ j
  · refine g_tswOut X 1099 dL_law_40 (Or.inr ?_) (by decide) (K9 h k n (by omega) (by omega) hJ)
    rw [nI_toInt (by omega)]; omega
  · match j, h17 with
    | 0, _ => exact g_tswIn X 124 dL_law_40 (by decide +kernel) (by decide +kernel) rfl (by decide) (lw_feed X XS D hs hL hi5 hk hn hlv hJ K1)
    | 1, _ => exact g_tswIn X 197 dL_law_40 (by decide +kernel) (by decide +kernel) rfl (by decide) (lw_end X XS D hs hL hi5 hk hn hlv hJ K1)
    | 2, _ => exact g_tswIn X 222 dL_law_40 (by decide +kernel) (by decide +kernel) rfl (by decide) (lw_cause X XS D hs hL hi5 hk hn hlv hJ K1)
    | 3, _ => exact g_tswIn X 330 dL_law_40 (by decide +kernel) (by decide +kernel) rfl (by decide) (lw_pattern X XS D hs hL hi5 hk hn hlv hJ K1)
    | 4, _ => exact g_tswIn X 386 dL_law_40 (by decide +kernel) (by decide +kernel) rfl (by decide) (lw_letter X XS D hs hL hi5 hk hn hlv hJ K1)
    | 5, _ => exact g_tswIn X 442 dL_law_40 (by decide +kernel) (by decide +kernel) rfl (by decide) (lw_fault X XS D hs hL hi5 hk hn hlv hJ K1)
    | 6, _ => exact g_tswIn X 455 dL_law_40 (by decide +kernel) (by decide +kernel) rfl (by decide) (lw_hours X XS D hs hL hi5 hk hn hlv hJ K1)
    | 7, _ => exact g_tswIn X 503 dL_law_40 (by decide +kernel) (by decide +kernel) rfl (by decide) (lw_days X XS D hs hL hi5 hk hn hlv hJ K1)
    | 8, _ => exact g_tswIn X 559 dL_law_40 (by decide +kernel) (by decide +kernel) rfl (by decide) (lw_answer X XS D hs hL hi5 hk hn hlv hJ K1)
    | 9, _ => exact g_tswIn X 634 dL_law_40 (by decide +kernel) (by decide +kernel) rfl (by decide) (lw_point X XS D hs hL hi5 hk hn hlv hJ K1)
    | 10, _ => exact g_tswIn X 714 dL_law_40 (by decide +kernel) (by decide +kernel) rfl (by decide) (lw_look X XS D hs hL hi5 hk hn hlv hJ K1)
    | 11, _ => exact g_tswIn X 782 dL_law_40 (by decide +kernel) (by decide +kernel) rfl (by decide) (lw_late X XS D hs hL hi5 hk hn hlv hJ K1)
    | 12, _ => exact g_tswIn X 838 dL_law_40 (by decide +kernel) (by decide +kernel) rfl (by decide) (lw_waits X XS D hs hL hi5 hk hn hlv hJ K1)
    | 13, _ => exact g_tswIn X 894 dL_law_40 (by decide +kernel) (by decide +kernel) rfl (by decide) (lw_template X XS D hs hL hi5 hk hn hlv hJ K1)
    | 14, _ => exact g_tswIn X 950 dL_law_40 (by decide +kernel) (by decide +kernel) rfl (by decide) (lw_counts X XS D hs hL hi5 hk hn hlv hJ K1)
    | 15, _ => exact g_tswIn X 1018 dL_law_40 (by decide +kernel) (by decide +kernel) rfl (by decide) (lw_wave X XS D hs hL hi5 hk hn hlv hJ K1)
    | 16, _ => exact g_tswIn X 1074 dL_law_40 (by decide +kernel) (by decide +kernel) rfl (by decide) (lw_count X XS D hs hL hi5 hk hn hlv hJ K1)
    | z + 17, hz => exact absurd (Nat.le_add_left 17 z) hz
theorem lw_loop {k0 n0 : Nat} (X : Gc G E "ComplaintDeskLaw" cL_law 7 lv mc ms) (XS : lX G E b Ln xs) (D : md ix m ad) (hs : E.l.stackTraces = false) (hL : Ln ≤ 3072) (hk : k0 + 21 * 514 ≤ mc) (hn : n0 + 2280 * 514 ≤ ms) (hlv : 20 ≤ lv) (KE : ∀ (h : hW) (i k n : Nat), k ≤ mc → n ≤ ms → GW G E Q 7 1105 (lL b x m o i) [] h k n) : ∀ (f c : Nat) (h : hW), c ≤ 513 → Ln < 6 * c + 6 * f + 6 → jN0 G x m o ad h → GW G E Q 7 23 (lL b x m o (6 * c)) [] h (k0 + 21 * c) (n0 + 2280 * c) := by
  intro f
  induction f with
  | zero =>
    intro c h hc hf hJ
    exact lw_step X XS D hs hL (by omega) (by omega) (by omega) hlv hJ (fun h' hi _ => absurd hi (by omega)) (KE h _ _ _ (by omega) (by omega))
  | succ f ih =>
    intro c h hc hf hJ
    refine lw_step X XS D hs hL (by omega) (by omega) (by omega) hlv hJ (fun h' hi hN => ?_) (KE h _ _ _ (by omega) (by omega))
    have hc2 : c + 1 ≤ 513 := by omega
    have q := ih (c + 1) h' hc2 (by omega) hN
    rw [show k0 + 21 * (c + 1) = k0 + 21 * c + 21 by omega, show n0 + 2280 * (c + 1) = n0 + 2280 * c + 2280 by omega, show 6 * (c + 1) = 6 * c + 6 by omega] at q
    exact q
end R2
