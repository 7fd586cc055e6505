section M16
variable {G : gG} {l : Launch} {ix : Nat → Nat} {m : Nat} {ad : Nat → Nat} {I : Nat → Int32} {Ar : Nat → Nat → Int32} {h0 h : hW}
/-- what the row c is, once n words of the last row are copied -/
theorem spN_at {A : Nat → Nat → Int32} {c : Nat} (hc : c < 12) : ∀ n, n ≤ 12 → (∀ i, i < n → cl (A 8 (144 + i)) ≤ 12) →
    (∀ j, j ≠ 6 → j ≠ 7 → j ≠ 8 → j ≠ 9 → j ≠ 10 → spN A c n j = A j) ∧
    (∀ k, ¬ (12 * c ≤ k ∧ k < 12 * c + 12) → spN A c n 8 k = A 8 k ∧ spN A c n 9 k = A 9 k ∧ spN A c n 10 k = A 10 k) ∧
    (∀ k, ¬ (144 * c ≤ k ∧ k < 144 * c + 144) → spN A c n 7 k = A 7 k) ∧
    (∀ i, i < n → spN A c n 8 (12 * c + i) = A 8 (144 + i) ∧ spN A c n 9 (12 * c + i) = vp_nar .boolean (A 9 (144 + i)) ∧ spN A c n 10 (12 * c + i) = vp_nar .boolean (A 10 (144 + i)) ∧ ∀ k, k < cl (A 8 (144 + i)) → spN A c n 7 (12 * (12 * c + i) + k) = vp_nar .byte (A 7 (12 * (144 + i) + k)))
  | 0, _, _ => by
    rw [spN_0]
    exact ⟨fun j a _ _ _ _ => by simp [va_up, a], fun k _ => ⟨rfl, rfl, rfl⟩, fun k _ => rfl, fun i hi => absurd hi (Nat.not_lt_zero i)⟩
  | n + 1, hn, hs => by
    obtain ⟨g1, g2, g3, g4⟩ := spN_at (A := A) hc n (by omega) (fun i hi => hs i (by omega))
    have g5 := g2 (144 + n) (by omega)
    have hsn := hs n (Nat.lt_succ_self n)
    rw [spN_s]
    refine ⟨fun j a6 a7 a8 a9 aX => ?_, fun k hk => ?_, fun k hk => ?_, fun i hi => ?_⟩
    · have : spS (spN A c n) c n j = spN A c n j := by simp [va_up, a7, a8, a9, aX]
      exact this.trans (g1 j a6 a7 a8 a9 aX)
    · have hne : k ≠ 12 * c + n := by omega
      have g6 := g2 k hk
      exact ⟨(pk_un hne).trans g6.1, (pk_un hne).trans g6.2.1, (pk_un hne).trans g6.2.2⟩
    · show cpN (spN A c n 7) (spN A c n 7) (12 * (12 * c + n)) (12 * (144 + n)) (cl (spN A c n 8 (144 + n))) k = A 7 k
      rw [cpN_at, g5.1, if_neg (by omega)]
      exact g3 k hk
    · by_cases hin : i = n
      · subst hin
        refine ⟨pk_us.trans g5.1, pk_us.trans (by rw [g5.2.1]), pk_us.trans (by rw [g5.2.2]), fun k hk => ?_⟩
        show cpN (spN A c i 7) (spN A c i 7) (12 * (12 * c + i)) (12 * (144 + i)) (cl (spN A c i 8 (144 + i))) (12 * (12 * c + i) + k) = _
        rw [cpN_at, g5.1, if_pos (by omega), Nat.add_sub_cancel_left, g3 _ (by omega)]
      · have hi2 : i < n := by omega
        obtain ⟨q1, q2, q3, q4⟩ := g4 i hi2
        have hne : 12 * c + i ≠ 12 * c + n := by omega
        refine ⟨(pk_un hne).trans q1, (pk_un hne).trans q2, (pk_un hne).trans q3, fun k hk => ?_⟩
        have := hs i (by omega)
        show cpN (spN A c n 7) (spN A c n 7) (12 * (12 * c + n)) (12 * (144 + n)) (cl (spN A c n 8 (144 + n))) (12 * (12 * c + i) + k) = _
        rw [cpN_at, if_neg (by omega)]
        exact q4 k hk
theorem spN_8 {A : Nat → Nat → Int32} {c : Nat} (hc : c < 12) : ∀ n, n ≤ 12 → ∀ k, ¬ (12 * c ≤ k ∧ k < 12 * c + n) → spN A c n 8 k = A 8 k
  | 0, _, k, _ => by rw [spN_0]; rfl
  | n + 1, hn, k, hk => by
    rw [spN_s]
    have hne : k ≠ 12 * c + n := by omega
    exact (pk_un hne).trans (spN_8 hc n (by omega) k (by omega))
theorem PV.ag {A A' : Nat → Nat → Int32} (h : PV A) (g : AGp A A') : PV A' := ⟨fun k hk => by rw [(g.2.2.1 k hk).1]; exact h.1 k hk, fun c hc => by rw [g.2.1 c (by omega)]; exact h.2 c hc⟩
theorem PV.sp {A : Nat → Nat → Int32} {c n : Nat} (h : PV A) (hc : c < 12) (hn : n ≤ 12) (h12 : A 6 12 = nI n) (hs : ∀ k, k < n → okN (A 8 (144 + k)) 12) : PV (spN A c n) := by
  obtain ⟨g1, g2, g3, g4⟩ := spN_at (A := A) hc n hn (fun i hi => (hs i hi).le)
  refine ⟨fun k hk => ?_, fun d hd => ?_⟩
  · by_cases hz : 12 * c ≤ k ∧ k < 12 * c + n
    · have e := (g4 (k - 12 * c) (by omega)).1
      rw [show 12 * c + (k - 12 * c) = k by omega] at e
      rw [e]; exact hs _ (by omega)
    · have e : spN A c n 8 k = A 8 k := spN_8 hc n hn k hz
      rw [e]; exact h.1 k hk
  · rw [(spN_keep hc n hn).1]
    split
    · exact ⟨n, hn, h12⟩
    · exact h.2 d hd
/-- one point sorted anew -/
abbrev paS (I : Nat → Int32) (a p : Nat) (s : (Nat → Nat → Int32) × Nat) : (Nat → Nat → Int32) × Nat :=
  if ¬ s.1 24 (6 * a + p) < 0 then s else if srC I s.1 a p = s.1 22 (6 * a + p) then s else (ptA s.1 a p (srC I s.1 a p), s.2 + 1)
def paP (I : Nat → Int32) (a : Nat) (s : (Nat → Nat → Int32) × Nat) : Nat → (Nat → Nat → Int32) × Nat
  | 0 => s
  | p + 1 => paS I a p (paP I a s p)
termination_by n => n
theorem paP_0 {I : Nat → Int32} {a : Nat} {s : (Nat → Nat → Int32) × Nat} : paP I a s 0 = s := by rw [paP]
theorem paP_s {I : Nat → Int32} {a p : Nat} {s : (Nat → Nat → Int32) × Nat} : paP I a s (p + 1) = paS I a p (paP I a s p) := by rw [paP]
def paL (I : Nat → Int32) (A : Nat → Nat → Int32) : Nat → (Nat → Nat → Int32) × Nat
  | 0 => (A, 0)
  | a + 1 => paP I a (paL I A a) (cl (A 15 a))
termination_by n => n
theorem paL_0 {I : Nat → Int32} {A : Nat → Nat → Int32} : paL I A 0 = (A, 0) := by rw [paL]
theorem paL_s {I : Nat → Int32} {A : Nat → Nat → Int32} {a : Nat} : paL I A (a + 1) = paP I a (paL I A a) (cl (A 15 a)) := by rw [paL]
theorem paS_off {I : Nat → Int32} {a p : Nat} {s : (Nat → Nat → Int32) × Nat} {j : Nat} (h1 : j ≠ 22) (h2 : j ≠ 23) : (paS I a p s).1 j = s.1 j := by
  unfold paS
  split
  · rfl
  · split
    · rfl
    · simp [va_up, h1, h2]
theorem paP_off {I : Nat → Int32} {a : Nat} {s : (Nat → Nat → Int32) × Nat} {j : Nat} (h1 : j ≠ 22) (h2 : j ≠ 23) : ∀ n, (paP I a s n).1 j = s.1 j
  | 0 => by rw [paP_0]
  | n + 1 => by rw [paP_s, paS_off h1 h2, paP_off h1 h2 n]
theorem paL_off {I : Nat → Int32} {A : Nat → Nat → Int32} {j : Nat} (h1 : j ≠ 22) (h2 : j ≠ 23) : ∀ n, (paL I A n).1 j = A j
  | 0 => by rw [paL_0]
  | n + 1 => by rw [paL_s, paP_off h1 h2, paL_off h1 h2 n]
theorem PV.cg {A B : Nat → Nat → Int32} (h : PV A) (h8 : B 8 = A 8) (h6 : B 6 = A 6) : PV B := ⟨fun k hk => by rw [h8]; exact h.1 k hk, fun c hc => by rw [h6]; exact h.2 c hc⟩
theorem LV.cg {A B : Nat → Nat → Int32} {a : Nat} (h : LV A a) (h16 : B 16 = A 16) (h18 : B 18 = A 18) (h19 : B 19 = A 19) : LV B a := ⟨by rw [h16]; exact h.1, fun w hw => by rw [h16] at hw; rw [h18, h19]; exact h.2 w hw⟩
theorem abvP.cg {I : Nat → Int32} {A B : Nat → Nat → Int32} (h : abvP I A) (h2 : B 2 = A 2) : abvP I B := fun c h1 h3 => by rw [h2]; exact h c h1 h3
theorem srF_lt {Ar : Nat → Nat → Int32} {a p nc : Nat} (hnc : nc ≤ 12) : ∀ (f : Nat) (c : Int32), (-1 ≤ c.toInt ∧ c.toInt < 12) → (-1 ≤ (srF Ar a p nc f c).toInt ∧ (srF Ar a p nc f c).toInt < 12)
  | 0, c, h => by rw [srF]; exact h
  | f + 1, c, h => by
    rw [srF_s]
    split
    · exact h
    · rename_i k hk
      have := (blF_at hk).1
      exact srF_lt hnc f _ (by rw [nI_toInt (by omega)]; omega)
theorem lp_X7_pattern_59 {E : gE} (X : Gc G E "ComplaintDeskModel" cX7_pattern 6 9 0 0) {Q : State → Prop} (D : md ix m ad) (c : Int32) (s : Nat) (a : Nat) (ha : a < 80) (hI : okN (I 11) 12) (hP : PV Ar) (hL : LV Ar a) (hA : abvP I Ar) (hpt : okN (Ar 15 a) 6) (K : GW G E Q 6 135 [(0, .ref m), (1, .int c), (2, .int (nI (paP I a (Ar, s) (cl (Ar 15 a))).2)), (3, .int (nI a))] [] (mH G ix ad I (paP I a (Ar, s) (cl (Ar 15 a))).1 h0) 0 0) : ∀ (f : Nat) (p : Nat), p ≤ cl (Ar 15 a) → cl (Ar 15 a) - p < f → GW G E Q 6 59 [(0, .ref m), (1, .int c), (2, .int (nI (paP I a (Ar, s) p).2)), (3, .int (nI a)), (4, .int (nI p))] [] (mH G ix ad I (paP I a (Ar, s) p).1 h0) 0 0 := by
  intro f
  induction f with
  | zero => intro p hp hf; exact absurd hf (Nat.not_lt_zero _)
  | succ f ih =>
    intro p hp hf
    have hp6 := hpt.le
    generalize hB : (paP I a (Ar, s) p) = B
    have hoff : ∀ j, j ≠ 22 → j ≠ 23 → B.1 j = Ar j := fun j h1 h2 => by rw [← hB]; exact paP_off h1 h2 p
    have e15 := hoff 15 (by decide) (by decide)
    have hPB : PV B.1 := hP.cg (hoff 8 (by decide) (by decide)) (hoff 6 (by decide) (by decide))
    have hLB : LV B.1 a := hL.cg (hoff 16 (by decide) (by decide)) (hoff 18 (by decide) (by decide)) (hoff 19 (by decide) (by decide))
    have hAB : abvP I B.1 := hA.cg (hoff 2 (by decide) (by decide))
    have hIl := hI.le
    have hsr := srF_lt (Ar := B.1) (a := a) (p := p) hIl 13 (-1) (by decide)
    have hs12 : srC I B.1 a p < 12 := by rw [i32_lt]; exact hsr.2
    refine g_iload X dX7_pattern_59 4 rfl ?_
    refine g_aload_n X dX7_pattern_61 0 rfl ?_
    refine g_getfield X fl_X7_48 dX7_pattern_62 (mLm D) rfl ?_
    refine g_iload_n X dX7_pattern_65 3 rfl ?_
    refine g_iaload X dX7_pattern_66 (mLa D 15 rfl) (vp_in_nI (by omega) (by decide)) ?_
    refine g_eqi (y := Ar 15 a) (by rw [nI_clamp (by omega), e15]) ?_
    refine g_icmp_ge X 135 dX7_pattern_67 (by decide) (fun c_67 => ?_) (fun c_67 => ?_)
    · have hqe : p = cl (Ar 15 a) := by have := hpt.ge c_67 (by omega); omega
      subst hqe
      subst hB
      refine g_L [0, 1, 2, 3] (L' := [(0, _), (1, _), (2, _), (3, _)]) rfl ?_
      exact K
    · have hqe : p < cl (Ar 15 a) := hpt.lt (Int32.not_le.mp c_67) (by omega)
      refine g_aload_n X dX7_pattern_70 0 rfl ?_
      refine g_getfield X fl_X7_72 dX7_pattern_71 (mLm D) rfl ?_
      refine g_bipush X (v := 6) dX7_pattern_74 kb_6 ?_
      refine g_iload_n X dX7_pattern_76 3 rfl ?_
      refine g_imul X dX7_pattern_77 ?_
      refine g_iload X dX7_pattern_78 4 rfl ?_
      refine g_iadd X dX7_pattern_80 ?_
      refine g_eqi (y := nI (6 * a + p)) (ix6 a p) ?_
      refine g_iaload X dX7_pattern_81 (mLa D 24 rfl) (vp_in_nI (by omega) (by decide)) ?_
      refine g_eqi (y := B.1 24 (6 * a + p)) (by rw [nI_clamp (by omega)]) ?_
      refine g_if_lt X 88 dX7_pattern_82 (by decide) (fun c_82 => ?_) (fun c_82 => ?_)
      · refine g_aload_n X dX7_pattern_88 0 rfl ?_
        refine g_iload_n X dX7_pattern_89 3 rfl ?_
        refine g_iload X dX7_pattern_90 4 rfl ?_
        refine g_cV X ml_X7_190 (c_X7_sorted D a p (by omega) hI hPB hLB hAB) ⟨7, _, mLm D, rfl⟩ (Nat.le_of_ble_eq_true rfl) rfl rfl (Nat.le_of_ble_eq_true rfl) (Nat.zero_le _) (Nat.zero_le _) dX7_pattern_92 ?_
        refine g_istore X dX7_pattern_95 (Nat.le_of_ble_eq_true rfl) [(5, _), (0, _), (1, _), (2, _), (3, _), (4, _)] rfl ?_
        refine g_iload X dX7_pattern_97 0 rfl ?_
        refine g_aload_n X dX7_pattern_99 1 rfl ?_
        refine g_getfield X fl_X7_66 dX7_pattern_100 (mLm D) rfl ?_
        refine g_bipush X (v := 6) dX7_pattern_103 kb_6 ?_
        refine g_iload_n X dX7_pattern_105 4 rfl ?_
        refine g_imul X dX7_pattern_106 ?_
        refine g_iload X dX7_pattern_107 5 rfl ?_
        refine g_iadd X dX7_pattern_109 ?_
        refine g_eqi (y := nI (6 * a + p)) (ix6 a p) ?_
        refine g_iaload X dX7_pattern_110 (mLa D 22 rfl) (vp_in_nI (by omega) (by decide)) ?_
        refine g_eqi (y := B.1 22 (6 * a + p)) (by rw [nI_clamp (by omega)]) ?_
        refine g_icmp_ne X 117 dX7_pattern_111 (by decide) (fun c_111 => ?_) (fun c_111 => ?_)
        · have hst : paP I a (Ar, s) (p + 1) = (ptA B.1 a p (srC I B.1 a p), B.2 + 1) := by rw [paP_s, hB]; exact (if_neg (fun q => q c_82)).trans (if_neg c_111)
          refine g_aload_n X dX7_pattern_117 1 rfl ?_
          refine g_iload_n X dX7_pattern_118 4 rfl ?_
          refine g_iload X dX7_pattern_119 5 rfl ?_
          refine g_iload X dX7_pattern_121 0 rfl ?_
          refine g_cV0 X ml_X7_194 (c_X7_puts D a p (srC I B.1 a p) ha (by omega) hs12) ⟨7, _, mLm D, rfl⟩ (Nat.le_of_ble_eq_true rfl) rfl rfl (Nat.le_of_ble_eq_true rfl) (Nat.zero_le _) (Nat.zero_le _) dX7_pattern_123 ?_
          refine g_iinc X (v := nI (B.2 + 1)) dX7_pattern_126 3 rfl (nI_1 _) (Nat.le_of_ble_eq_true rfl) [(2, _), (5, _), (0, _), (1, _), (3, _), (4, _)] rfl ?_
          refine g_iinc X (v := nI (p + 1)) dX7_pattern_129 5 rfl (nI_1 p) (Nat.le_of_ble_eq_true rfl) [(4, _), (2, _), (5, _), (0, _), (1, _), (3, _)] rfl ?_
          refine g_goto X 59 dX7_pattern_132 (by decide) ?_
          refine g_L [3, 4, 1, 5, 0] (L' := [(0, _), (1, _), (2, _), (3, _), (4, _)]) rfl ?_
          refine g_L [0, 1, 2, 3, 4] (L' := [(0, _), (1, _), (2, .int (nI (paP I a (Ar, s) (p + 1)).2)), (3, _), (4, _)]) (by rw [hst]; rfl) ?_
          refine g_h (h' := mH G ix ad I (paP I a (Ar, s) (p + 1)).1 h0) (by rw [hst]) ?_
          exact ih (p + 1) (by omega) (by omega)
        · have hst : paP I a (Ar, s) (p + 1) = B := by rw [paP_s, hB]; exact (if_neg (fun q => q c_82)).trans (if_pos c_111)
          refine g_goto X 129 dX7_pattern_114 (by decide) ?_
          refine g_iinc X (v := nI (p + 1)) dX7_pattern_129 5 rfl (nI_1 p) (Nat.le_of_ble_eq_true rfl) [(4, _), (5, _), (0, _), (1, _), (2, _), (3, _)] rfl ?_
          refine g_goto X 59 dX7_pattern_132 (by decide) ?_
          refine g_L [2, 3, 4, 5, 0] (L' := [(0, _), (1, _), (2, _), (3, _), (4, _)]) rfl ?_
          refine g_L [0, 1, 2, 3, 4] (L' := [(0, _), (1, _), (2, .int (nI (paP I a (Ar, s) (p + 1)).2)), (3, _), (4, _)]) (by rw [hst]; rfl) ?_
          refine g_h (h' := mH G ix ad I (paP I a (Ar, s) (p + 1)).1 h0) (by rw [hst]) ?_
          exact ih (p + 1) (by omega) (by omega)
      · have hst : paP I a (Ar, s) (p + 1) = B := by rw [paP_s, hB]; exact if_pos c_82
        refine g_goto X 129 dX7_pattern_85 (by decide) ?_
        refine g_iinc X (v := nI (p + 1)) dX7_pattern_129 4 rfl (nI_1 p) (Nat.le_of_ble_eq_true rfl) [(4, _), (0, _), (1, _), (2, _), (3, _)] rfl ?_
        refine g_goto X 59 dX7_pattern_132 (by decide) ?_
        refine g_L [1, 2, 3, 4, 0] (L' := [(0, _), (1, _), (2, _), (3, _), (4, _)]) rfl ?_
        refine g_L [0, 1, 2, 3, 4] (L' := [(0, _), (1, _), (2, .int (nI (paP I a (Ar, s) (p + 1)).2)), (3, _), (4, _)]) (by rw [hst]; rfl) ?_
        refine g_h (h' := mH G ix ad I (paP I a (Ar, s) (p + 1)).1 h0) (by rw [hst]) ?_
        exact ih (p + 1) (by omega) (by omega)
end M16
