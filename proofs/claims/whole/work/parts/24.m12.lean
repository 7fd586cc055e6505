section M12
variable {G : gG} {l : Launch} {ix : Nat → Nat} {m : Nat} {ad : Nat → Nat} {I : Nat → Int32} {Ar : Nat → Nat → Int32} {h0 h : hW}
/-- word k of the last row comes to row c -/
abbrev spA (A : Nat → Nat → Int32) (c k : Nat) : Nat → Nat → Int32 :=
  va_up (va_up (va_up A 8 (upd (A 8) (12 * c + k) (A 8 (144 + k)))) 9 (upd (A 9) (12 * c + k) (vp_nar .boolean (A 9 (144 + k))))) 10 (upd (A 10) (12 * c + k) (vp_nar .boolean (A 10 (144 + k))))
abbrev spS (A : Nat → Nat → Int32) (c k : Nat) : Nat → Nat → Int32 := va_up (spA A c k) 7 (cpN (A 7) (A 7) (12 * (12 * c + k)) (12 * (144 + k)) (cl (A 8 (144 + k))))
def spN (A : Nat → Nat → Int32) (c : Nat) : Nat → Nat → Nat → Int32
  | 0 => va_up A 6 (upd (A 6) c (A 6 12))
  | k + 1 => spS (spN A c k) c k
termination_by n => n
theorem spN_0 {A : Nat → Nat → Int32} {c : Nat} : spN A c 0 = va_up A 6 (upd (A 6) c (A 6 12)) := by rw [spN]
theorem spN_s {A : Nat → Nat → Int32} {c k : Nat} : spN A c (k + 1) = spS (spN A c k) c k := by rw [spN]

theorem i12p (n k : Nat) : (12 : Int32) * nI n = nI (12 * n) := pk_mul 12 n
theorem cpN_src {F : Nat → Int32} {t s k i : Nat} (h : t + k ≤ s) : cpN F F t s k (s + i) = F (s + i) := by rw [cpN_at, if_neg (by omega)]
theorem lp_X7_setsPattern_90 {E : gE} (X : Gc G E "ComplaintDeskModel" cX7_setsPattern 4 0 0 0) {Q : State → Prop} (D : md ix m ad) (c k len : Nat) (hc : c < 12) (hk : k < 12) (hlen : len ≤ 12) (hS : Ar 8 (12 * c + k) = nI len) (K : GW G E Q 4 142 [(0, .ref m), (1, .int (nI c)), (2, .int (nI k))] [] (mH G ix ad I (va_up Ar 7 (cpN (Ar 7) (Ar 7) (12 * (12 * c + k)) (12 * (144 + k)) len)) h0) 0 0) : ∀ (f : Nat) (i : Nat), i ≤ len → len - i < f → GW G E Q 4 90 [(0, .ref m), (1, .int (nI c)), (2, .int (nI k)), (3, .int (nI i))] [] (mH G ix ad I (va_up Ar 7 (cpN (Ar 7) (Ar 7) (12 * (12 * c + k)) (12 * (144 + k)) i)) h0) 0 0 := by
  intro f
  induction f with
  | zero => intro i hi hf; exact absurd hf (Nat.not_lt_zero _)
  | succ f ih =>
    intro i hi hf
    refine g_iload_n X dX7_setsPattern_90 3 rfl ?_
    refine g_aload_n X dX7_setsPattern_91 0 rfl ?_
    refine g_getfield X fl_X7_30 dX7_setsPattern_92 (mLm D) rfl ?_
    refine g_bipush X (v := 12) dX7_setsPattern_95 kb_12 ?_
    refine g_iload_n X dX7_setsPattern_97 1 rfl ?_
    refine g_imul X dX7_setsPattern_98 ?_
    refine g_iload_n X dX7_setsPattern_99 2 rfl ?_
    refine g_iadd X dX7_setsPattern_100 ?_
    refine g_eqi (y := nI (12 * c + k)) (i12 c k) ?_
    refine g_iaload X dX7_setsPattern_101 (mLa D 8 rfl) (vp_in_nI (by omega) (by decide)) ?_
    refine g_eqi (y := nI len) (by rw [nI_clamp (by omega)]; exact hS) ?_
    refine g_icmp_ge X 142 dX7_setsPattern_102 (by decide) (fun c_102 => ?_) (fun c_102 => ?_)
    · have hq : i = len := by have := (nI_leI (by omega) (by omega)).mp c_102; omega
      subst hq
      refine g_L [0, 1, 2] (L' := [(0, _), (1, _), (2, _)]) rfl ?_
      exact K
    · have hq : i < len := (nI_ltI (by omega) (by omega)).mp (Int32.not_le.mp c_102)
      refine g_aload_n X dX7_setsPattern_105 0 rfl ?_
      refine g_getfield X fl_X7_26 dX7_setsPattern_106 (mLm D) rfl ?_
      refine g_bipush X (v := 12) dX7_setsPattern_109 kb_12 ?_
      refine g_bipush X (v := 12) dX7_setsPattern_111 kb_12 ?_
      refine g_iload_n X dX7_setsPattern_113 1 rfl ?_
      refine g_imul X dX7_setsPattern_114 ?_
      refine g_iload_n X dX7_setsPattern_115 2 rfl ?_
      refine g_iadd X dX7_setsPattern_116 ?_
      refine g_eqi (y := nI (12 * c + k)) (i12 c k) ?_
      refine g_imul X dX7_setsPattern_117 ?_
      refine g_iload_n X dX7_setsPattern_118 3 rfl ?_
      refine g_iadd X dX7_setsPattern_119 ?_
      refine g_eqi (y := nI ((12 * (12 * c + k)) + i)) (i12 _ i) ?_
      refine g_aload_n X dX7_setsPattern_120 0 rfl ?_
      refine g_getfield X fl_X7_26 dX7_setsPattern_121 (mLm D) rfl ?_
      refine g_bipush X (v := 12) dX7_setsPattern_124 kb_12 ?_
      refine g_sipush X (v := 144) dX7_setsPattern_126 ks_144 ?_
      refine g_iload_n X dX7_setsPattern_129 2 rfl ?_
      refine g_iadd X dX7_setsPattern_130 ?_
      refine g_eqi (y := nI (144 + k)) (i144 k) ?_
      refine g_imul X dX7_setsPattern_131 ?_
      refine g_iload_n X dX7_setsPattern_132 3 rfl ?_
      refine g_iadd X dX7_setsPattern_133 ?_
      refine g_eqi (y := nI ((12 * (144 + k)) + i)) (i12 _ i) ?_
      refine g_baload X dX7_setsPattern_134 (mLa D 7 rfl) (vp_in_nI (by omega) (by decide)) ?_
      refine g_eqi (y := Ar 7 ((12 * (144 + k)) + i)) (by rw [nI_clamp (by omega)]; exact cpN_src (by omega)) ?_
      refine g_bastore X dX7_setsPattern_135 (mLa D 7 rfl) (vp_in_nI (by omega) (by decide)) (g_h (mUa D 7 rfl _) ?_)
      refine g_iinc X (v := nI (i + 1)) dX7_setsPattern_136 3 rfl (nI_1 i) (Nat.le_of_ble_eq_true rfl) [(3, _), (0, _), (1, _), (2, _)] rfl ?_
      refine g_goto X 90 dX7_setsPattern_139 (by decide) ?_
      refine g_L [1, 2, 3, 0] (L' := [(0, _), (1, _), (2, _), (3, _)]) rfl ?_
      refine g_h (h' := mH G ix ad I (va_up Ar 7 (cpN (Ar 7) (Ar 7) (12 * (12 * c + k)) (12 * (144 + k)) (i + 1))) h0) (by rw [nI_clamp (by omega), bx_uu, cpN_s]; rfl) ?_
      exact ih (i + 1) (by omega) (by omega)
theorem spN_keep {A : Nat → Nat → Int32} {c : Nat} (hc : c < 12) : ∀ n, n ≤ 12 → (∀ k, spN A c n 6 k = if k = c then A 6 12 else A 6 k) ∧ (∀ k, 144 ≤ k → spN A c n 8 k = A 8 k ∧ spN A c n 9 k = A 9 k ∧ spN A c n 10 k = A 10 k)
  | 0, _ => by rw [spN_0]; exact ⟨fun k => rfl, fun k _ => ⟨rfl, rfl, rfl⟩⟩
  | n + 1, hn => by
    obtain ⟨h2, h3⟩ := spN_keep (A := A) hc n (by omega)
    rw [spN_s]
    refine ⟨fun k => h2 k, fun k hk => ?_⟩
    have hne : k ≠ 12 * c + n := by omega
    have h5 := h3 k hk
    refine ⟨?_, ?_, ?_⟩
    · show upd (spN A c n 8) (12 * c + n) _ k = _
      rw [pk_un hne]; exact h5.1
    · show upd (spN A c n 9) (12 * c + n) _ k = _
      rw [pk_un hne]; exact h5.2.1
    · show upd (spN A c n 10) (12 * c + n) _ k = _
      rw [pk_un hne]; exact h5.2.2
theorem lp_X7_setsPattern_15 {E : gE} (X : Gc G E "ComplaintDeskModel" cX7_setsPattern 4 0 0 0) (F : gF E M_X7_setsPattern) (D : md ix m ad) (c n : Nat) (hc : c < 12) (hn : n ≤ 12) (h12 : Ar 6 12 = nI n) (hsz : ∀ k, k < n → okN (Ar 8 (144 + k)) 12)  : ∀ (f : Nat) (k : Nat), k ≤ n → n - k < f → GW G E (gMQ G E 0 0 (rX none (mH G ix ad I (spN Ar c n) h0))) 4 15 [(0, .ref m), (1, .int (nI c)), (2, .int (nI k))] [] (mH G ix ad I (spN Ar c k) h0) 0 0 := by
  intro f
  induction f with
  | zero => intro k hk hf; exact absurd hf (Nat.not_lt_zero _)
  | succ f ih =>
    intro k hk hf
    have hkp := spN_keep (A := Ar) hc k (by omega)
    refine g_iload_n X dX7_setsPattern_15 2 rfl ?_
    refine g_aload_n X dX7_setsPattern_16 0 rfl ?_
    refine g_getfield X fl_X7_23 dX7_setsPattern_17 (mLm D) rfl ?_
    refine g_iload_n X dX7_setsPattern_20 1 rfl ?_
    refine g_iaload X dX7_setsPattern_21 (mLa D 6 rfl) (vp_in_nI (by omega) (by decide)) ?_
    refine g_eqi (y := nI n) (by rw [nI_clamp (by omega)]; show spN Ar c k 6 c = _; rw [hkp.1 c, if_pos rfl]; exact h12) ?_
    refine g_icmp_ge X 148 dX7_setsPattern_22 (by decide) (fun c_22 => ?_) (fun c_22 => ?_)
    · have hq : k = n := by have := (nI_leI (by omega) (by omega)).mp c_22; omega
      subst hq
      refine g_ret0 X F rfl dX7_setsPattern_148 (Nat.zero_le _) (Nat.zero_le _) ?_
      exact ⟨rfl, rfl⟩
    · have hq : k < n := (nI_ltI (by omega) (by omega)).mp (Int32.not_le.mp c_22)
      have hsk := (hsz k hq).eq
      have h8 := hkp.2 (144 + k) (by omega)
      refine g_aload_n X dX7_setsPattern_25 0 rfl ?_
      refine g_getfield X fl_X7_30 dX7_setsPattern_26 (mLm D) rfl ?_
      refine g_bipush X (v := 12) dX7_setsPattern_29 kb_12 ?_
      refine g_iload_n X dX7_setsPattern_31 1 rfl ?_
      refine g_imul X dX7_setsPattern_32 ?_
      refine g_iload_n X dX7_setsPattern_33 2 rfl ?_
      refine g_iadd X dX7_setsPattern_34 ?_
      refine g_eqi (y := nI (12 * c + k)) (i12 c k) ?_
      refine g_aload_n X dX7_setsPattern_35 0 rfl ?_
      refine g_getfield X fl_X7_30 dX7_setsPattern_36 (mLm D) rfl ?_
      refine g_sipush X (v := 144) dX7_setsPattern_39 ks_144 ?_
      refine g_iload_n X dX7_setsPattern_42 2 rfl ?_
      refine g_iadd X dX7_setsPattern_43 ?_
      refine g_eqi (y := nI (144 + k)) (i144 k) ?_
      refine g_iaload X dX7_setsPattern_44 (mLa D 8 rfl) (vp_in_nI (by omega) (by decide)) ?_
      refine g_eqi (y := spN Ar c k 8 (144 + k)) (by rw [nI_clamp (by omega)]) ?_
      refine g_iastore X dX7_setsPattern_45 (mLa D 8 rfl) (vp_in_nI (by omega) (by decide)) (g_h (mUa D 8 rfl _) ?_)
      refine g_aload_n X dX7_setsPattern_46 0 rfl ?_
      refine g_getfield X fl_X7_33 dX7_setsPattern_47 (mLm D) rfl ?_
      refine g_bipush X (v := 12) dX7_setsPattern_50 kb_12 ?_
      refine g_iload_n X dX7_setsPattern_52 1 rfl ?_
      refine g_imul X dX7_setsPattern_53 ?_
      refine g_iload_n X dX7_setsPattern_54 2 rfl ?_
      refine g_iadd X dX7_setsPattern_55 ?_
      refine g_eqi (y := nI (12 * c + k)) (i12 c k) ?_
      refine g_aload_n X dX7_setsPattern_56 0 rfl ?_
      refine g_getfield X fl_X7_33 dX7_setsPattern_57 (mLm D) rfl ?_
      refine g_sipush X (v := 144) dX7_setsPattern_60 ks_144 ?_
      refine g_iload_n X dX7_setsPattern_63 2 rfl ?_
      refine g_iadd X dX7_setsPattern_64 ?_
      refine g_eqi (y := nI (144 + k)) (i144 k) ?_
      refine g_zaload X dX7_setsPattern_65 (mLa D 9 rfl) (vp_in_nI (by omega) (by decide)) ?_
      refine g_eqi (y := spN Ar c k 9 (144 + k)) (by show spN Ar c k 9 ((nI (144 + k)).toNatClampNeg) = _; rw [nI_clamp (by omega)]) ?_
      refine g_zastore X dX7_setsPattern_66 (mLa D 9 rfl) (vp_in_nI (by omega) (by decide)) (g_h (mUa D 9 rfl _) ?_)
      refine g_aload_n X dX7_setsPattern_67 0 rfl ?_
      refine g_getfield X fl_X7_36 dX7_setsPattern_68 (mLm D) rfl ?_
      refine g_bipush X (v := 12) dX7_setsPattern_71 kb_12 ?_
      refine g_iload_n X dX7_setsPattern_73 1 rfl ?_
      refine g_imul X dX7_setsPattern_74 ?_
      refine g_iload_n X dX7_setsPattern_75 2 rfl ?_
      refine g_iadd X dX7_setsPattern_76 ?_
      refine g_eqi (y := nI (12 * c + k)) (i12 c k) ?_
      refine g_aload_n X dX7_setsPattern_77 0 rfl ?_
      refine g_getfield X fl_X7_36 dX7_setsPattern_78 (mLm D) rfl ?_
      refine g_sipush X (v := 144) dX7_setsPattern_81 ks_144 ?_
      refine g_iload_n X dX7_setsPattern_84 2 rfl ?_
      refine g_iadd X dX7_setsPattern_85 ?_
      refine g_eqi (y := nI (144 + k)) (i144 k) ?_
      refine g_zaload X dX7_setsPattern_86 (mLa D 10 rfl) (vp_in_nI (by omega) (by decide)) ?_
      refine g_eqi (y := spN Ar c k 10 (144 + k)) (by show spN Ar c k 10 ((nI (144 + k)).toNatClampNeg) = _; rw [nI_clamp (by omega)]) ?_
      refine g_zastore X dX7_setsPattern_87 (mLa D 10 rfl) (vp_in_nI (by omega) (by decide)) (g_h (mUa D 10 rfl _) ?_)
      refine g_iconst X (v := 0) dX7_setsPattern_88 ki_0 ?_
      refine g_istore_n X dX7_setsPattern_89 (Nat.le_of_ble_eq_true rfl) [(3, _), (0, _), (1, _), (2, _)] rfl ?_
      refine g_L [1, 2, 3, 0] (L' := [(0, _), (1, _), (2, _), (3, _)]) rfl ?_
      refine g_h (h' := mH G ix ad I (va_up (spA (spN Ar c k) c k) 7 (cpN (spN Ar c k 7) (spN Ar c k 7) (12 * (12 * c + k)) (12 * (144 + k)) 0)) h0) (by rw [cpN_0, nI_clamp (by omega)]; congr 1; funext j; by_cases hj : j = 7; subst hj; rfl; simp [va_up, hj]) ?_
      refine lp_X7_setsPattern_90 X (Ar := spA (spN Ar c k) c k) D c k (cl (Ar 8 (144 + k))) hc (by omega) hsk.2 (by show upd (spN Ar c k 8) (12 * c + k) _ (12 * c + k) = _; rw [pk_us, h8.1]; exact hsk.1) ?_ _ 0 (Nat.zero_le _) (Nat.lt_succ_self _)
      refine g_h (h' := mH G ix ad I (spN Ar c (k + 1)) h0) (by rw [spN_s]; show _ = mH G ix ad I (va_up (spA (spN Ar c k) c k) 7 (cpN (spN Ar c k 7) (spN Ar c k 7) (12 * (12 * c + k)) (12 * (144 + k)) (cl (spN Ar c k 8 (144 + k))))) h0; rw [h8.1]; rfl) ?_
      refine g_iinc X (v := nI (k + 1)) dX7_setsPattern_142 2 rfl (nI_1 k) (Nat.le_of_ble_eq_true rfl) [(2, _), (0, _), (1, _)] rfl ?_
      refine g_goto X 15 dX7_setsPattern_145 (by decide) ?_
      refine g_L [1, 2, 0] (L' := [(0, _), (1, _), (2, _)]) rfl ?_
      exact ih (k + 1) (by omega) (by omega)
theorem c_X7_setsPattern (D : md ix m ad) (c n : Nat) (hc : c < 12) (hn : n ≤ 12) (h12 : Ar 6 12 = nI n) (hsz : ∀ k, k < n → okN (Ar 8 (144 + k)) 12)  : Ct G l 0 0 0 M_X7_setsPattern [.ref m, .int (nI c)] (mH G ix ad I Ar h0) (rX none (mH G ix ad I (spN Ar c n) h0)) := by
  refine Ct.of (by decide +kernel) (Nat.le_of_ble_eq_true rfl) (fun E hE X F => ?_)
  have X : Gc G E "ComplaintDeskModel" cX7_setsPattern 4 0 0 0 := X
  show GW G E _ 4 0 [(0, _), (1, _)] [] _ 0 0
  refine g_aload_n X dX7_setsPattern_0 0 rfl ?_
  refine g_getfield X fl_X7_23 dX7_setsPattern_1 (mLm D) rfl ?_
  refine g_iload_n X dX7_setsPattern_4 1 rfl ?_
  refine g_aload_n X dX7_setsPattern_5 0 rfl ?_
  refine g_getfield X fl_X7_23 dX7_setsPattern_6 (mLm D) rfl ?_
  refine g_bipush X (v := 12) dX7_setsPattern_9 kb_12 ?_
  refine g_iaload X dX7_setsPattern_11 (mLa D 6 rfl) (by unfold vp_in; decide) ?_
  refine g_iastore X dX7_setsPattern_12 (mLa D 6 rfl) (vp_in_nI (by omega) (by decide)) (g_h (mUa D 6 rfl _) ?_)
  refine g_iconst X (v := 0) dX7_setsPattern_13 ki_0 ?_
  refine g_istore_n X dX7_setsPattern_14 (Nat.le_of_ble_eq_true rfl) [(2, _), (0, _), (1, _)] rfl ?_
  refine g_L [1, 2, 0] (L' := [(0, _), (1, _), (2, _)]) rfl ?_
  refine g_h (h' := mH G ix ad I (spN Ar c 0) h0) (by rw [spN_0, nI_clamp (by omega)]; rfl) ?_
  exact lp_X7_setsPattern_15 X F D c n hc hn h12 hsz _ 0 (Nat.zero_le _) (Nat.lt_succ_self _)
/-- word w of letter a is word k of the patterns -/
abbrev smP (Ar : Nat → Nat → Int32) (a w k : Nat) : Prop := Ar 19 (60 * a + w) - Ar 18 (60 * a + w) = Ar 8 k ∧ ∀ i, i < cl (Ar 8 k) → Ar 17 (400 * a + cl (Ar 18 (60 * a + w)) + i) = Ar 7 (12 * k + i)
theorem i400 (a b k : Nat) : (400 : Int32) * nI a + nI b + nI k = nI (400 * a + b + k) := by
  rw [show (400 : Int32) * nI a = nI (400 * a) from pk_mul 400 a, nI_add, nI_add]
theorem i400a (a b : Nat) : (400 : Int32) * nI a + nI b = nI (400 * a + b) := by
  rw [show (400 : Int32) * nI a = nI (400 * a) from pk_mul 400 a, nI_add]
theorem lp_X7_isSame_37 {E : gE} (X : Gc G E "ComplaintDeskModel" cX7_isSame 6 0 0 0) (F : gF E M_X7_isSame) (D : md ix m ad) (a w k : Nat) (ha : a ≤ 80) (hw : w < 60) (hk : k < 156) (hS : okN (Ar 8 k) 12) (hF : okN (Ar 18 (60 * a + w)) 400) (hT : ∀ i, i < cl (Ar 8 k) → Ar 19 (60 * a + w) - Ar 18 (60 * a + w) = Ar 8 k → cl (Ar 18 (60 * a + w)) + i < 400) (h1 : Ar 19 (60 * a + w) - Ar 18 (60 * a + w) = Ar 8 k) : ∀ (f : Nat) (i : Nat), i ≤ cl (Ar 8 k) → cl (Ar 8 k) - i < f → (∀ q, q < i → Ar 17 (400 * a + cl (Ar 18 (60 * a + w)) + q) = Ar 7 (12 * k + q)) → GW G E (gMQ G E 0 0 (rX (some (.int (b2 (smP Ar a w k)))) (mH G ix ad I Ar h0))) 6 37 [(0, .ref m), (1, .int (nI a)), (2, .int (nI w)), (3, .int (nI k)), (4, .int (nI (60 * a + w))), (5, .int (nI i))] [] (mH G ix ad I Ar h0) 0 0 := by
  intro f
  induction f with
  | zero => intro i hi hf hall; exact absurd hf (Nat.not_lt_zero _)
  | succ f ih =>
    intro i hi hf hall
    have hs := hS.le
    have hf1 := hF.eq
    refine g_iload X dX7_isSame_37 5 rfl ?_
    refine g_aload_n X dX7_isSame_39 0 rfl ?_
    refine g_getfield X fl_X7_30 dX7_isSame_40 (mLm D) rfl ?_
    refine g_iload_n X dX7_isSame_43 3 rfl ?_
    refine g_iaload X dX7_isSame_44 (mLa D 8 rfl) (vp_in_nI (by omega) (by decide)) ?_
    refine g_eqi (y := Ar 8 k) (by rw [nI_clamp (by omega)]) ?_
    refine g_icmp_ge X 92 dX7_isSame_45 (by decide) (fun c_45 => ?_) (fun c_45 => ?_)
    · have hq : i = cl (Ar 8 k) := by have := hS.ge c_45 (by omega); omega
      subst hq
      refine g_iconst X (v := 1) dX7_isSame_92 ki_1 ?_
      refine g_iret X F rfl rfl dX7_isSame_93 (Nat.zero_le _) (Nat.zero_le _) ?_
      exact ⟨by rw [b2_t ⟨h1, hall⟩], rfl⟩
    · have hq : i < cl (Ar 8 k) := hS.lt (Int32.not_le.mp c_45) (by omega)
      have ht := hT i hq h1
      refine g_aload_n X dX7_isSame_48 0 rfl ?_
      refine g_getfield X fl_X7_54 dX7_isSame_49 (mLm D) rfl ?_
      refine g_sipush X (v := 400) dX7_isSame_52 ks_400 ?_
      refine g_iload_n X dX7_isSame_55 1 rfl ?_
      refine g_imul X dX7_isSame_56 ?_
      refine g_aload_n X dX7_isSame_57 0 rfl ?_
      refine g_getfield X fl_X7_57 dX7_isSame_58 (mLm D) rfl ?_
      refine g_iload X dX7_isSame_61 4 rfl ?_
      refine g_iaload X dX7_isSame_63 (mLa D 18 rfl) (vp_in_nI (by omega) (by decide)) ?_
      refine g_eqi (y := nI (cl (Ar 18 (60 * a + w)))) (by rw [nI_clamp (by omega)]; exact hf1.1) ?_
      refine g_iadd X dX7_isSame_64 ?_
      refine g_eqi (y := nI (400 * a + cl (Ar 18 (60 * a + w)))) (i400a _ _) ?_
      refine g_iload X dX7_isSame_65 5 rfl ?_
      refine g_iadd X dX7_isSame_67 ?_
      refine g_eqi (y := nI (400 * a + cl (Ar 18 (60 * a + w)) + i)) (nI_add _ _) ?_
      refine g_baload X dX7_isSame_68 (mLa D 17 rfl) (vp_in_nI (by omega) (by decide)) ?_
      refine g_eqi (y := Ar 17 (400 * a + cl (Ar 18 (60 * a + w)) + i)) (by rw [nI_clamp (by omega)]) ?_
      refine g_aload_n X dX7_isSame_69 0 rfl ?_
      refine g_getfield X fl_X7_26 dX7_isSame_70 (mLm D) rfl ?_
      refine g_bipush X (v := 12) dX7_isSame_73 kb_12 ?_
      refine g_iload_n X dX7_isSame_75 3 rfl ?_
      refine g_imul X dX7_isSame_76 ?_
      refine g_iload X dX7_isSame_77 5 rfl ?_
      refine g_iadd X dX7_isSame_79 ?_
      refine g_eqi (y := nI (12 * k + i)) (i12 k i) ?_
      refine g_baload X dX7_isSame_80 (mLa D 7 rfl) (vp_in_nI (by omega) (by decide)) ?_
      refine g_eqi (y := Ar 7 (12 * k + i)) (by rw [nI_clamp (by omega)]) ?_
      refine g_icmp_eq X 86 dX7_isSame_81 (by decide) (fun c_81 => ?_) (fun c_81 => ?_)
      · refine g_iinc X (v := nI (i + 1)) dX7_isSame_86 5 rfl (nI_1 i) (Nat.le_of_ble_eq_true rfl) [(5, _), (0, _), (1, _), (2, _), (3, _), (4, _)] rfl ?_
        refine g_goto X 37 dX7_isSame_89 (by decide) ?_
        refine g_L [1, 2, 3, 4, 5, 0] (L' := [(0, _), (1, _), (2, _), (3, _), (4, _), (5, _)]) rfl ?_
        exact ih (i + 1) (by omega) (by omega) (fun q hq2 => by by_cases hz : q = i; (subst hz; exact c_81); exact hall q (by omega))
      · refine g_iconst X (v := 0) dX7_isSame_84 ki_0 ?_
        refine g_iret X F rfl rfl dX7_isSame_85 (Nat.zero_le _) (Nat.zero_le _) ?_
        exact ⟨by rw [b2_f (fun q => c_81 (q.2 i hq))], rfl⟩
theorem c_X7_isSame (D : md ix m ad) (a w k : Nat) (ha : a ≤ 80) (hw : w < 60) (hk : k < 156) (hS : okN (Ar 8 k) 12) (hF : okN (Ar 18 (60 * a + w)) 400) (hT : ∀ i, i < cl (Ar 8 k) → Ar 19 (60 * a + w) - Ar 18 (60 * a + w) = Ar 8 k → cl (Ar 18 (60 * a + w)) + i < 400)  : Ct G l 0 0 0 M_X7_isSame [.ref m, .int (nI a), .int (nI w), .int (nI k)] (mH G ix ad I Ar h0) (rX (some (.int (b2 (smP Ar a w k)))) (mH G ix ad I Ar h0)) := by
  refine Ct.of (by decide +kernel) (Nat.le_of_ble_eq_true rfl) (fun E hE X F => ?_)
  have X : Gc G E "ComplaintDeskModel" cX7_isSame 6 0 0 0 := X
  show GW G E _ 6 0 [(0, _), (1, _), (2, _), (3, _)] [] _ 0 0
  refine g_bipush X (v := 60) dX7_isSame_0 kb_60 ?_
  refine g_iload_n X dX7_isSame_2 1 rfl ?_
  refine g_imul X dX7_isSame_3 ?_
  refine g_iload_n X dX7_isSame_4 2 rfl ?_
  refine g_iadd X dX7_isSame_5 ?_
  refine g_eqi (y := nI (60 * a + w)) (ix60 a w) ?_
  refine g_istore X dX7_isSame_6 (Nat.le_of_ble_eq_true rfl) [(4, _), (0, _), (1, _), (2, _), (3, _)] rfl ?_
  refine g_aload_n X dX7_isSame_8 1 rfl ?_
  refine g_getfield X fl_X7_60 dX7_isSame_9 (mLm D) rfl ?_
  refine g_iload X dX7_isSame_12 0 rfl ?_
  refine g_iaload X dX7_isSame_14 (mLa D 19 rfl) (vp_in_nI (by omega) (by decide)) ?_
  refine g_eqi (y := Ar 19 (60 * a + w)) (by rw [nI_clamp (by omega)]) ?_
  refine g_aload_n X dX7_isSame_15 1 rfl ?_
  refine g_getfield X fl_X7_57 dX7_isSame_16 (mLm D) rfl ?_
  refine g_iload X dX7_isSame_19 0 rfl ?_
  refine g_iaload X dX7_isSame_21 (mLa D 18 rfl) (vp_in_nI (by omega) (by decide)) ?_
  refine g_eqi (y := Ar 18 (60 * a + w)) (by rw [nI_clamp (by omega)]) ?_
  refine g_isub X dX7_isSame_22 ?_
  refine g_aload_n X dX7_isSame_23 1 rfl ?_
  refine g_getfield X fl_X7_30 dX7_isSame_24 (mLm D) rfl ?_
  refine g_iload_n X dX7_isSame_27 4 rfl ?_
  refine g_iaload X dX7_isSame_28 (mLa D 8 rfl) (vp_in_nI (by omega) (by decide)) ?_
  refine g_eqi (y := Ar 8 k) (by rw [nI_clamp (by omega)]) ?_
  refine g_icmp_eq X 34 dX7_isSame_29 (by decide) (fun c_29 => ?_) (fun c_29 => ?_)
  · refine g_iconst X (v := 0) dX7_isSame_34 ki_0 ?_
    refine g_istore X dX7_isSame_35 (Nat.le_of_ble_eq_true rfl) [(5, _), (4, _), (0, _), (1, _), (2, _), (3, _)] rfl ?_
    refine g_L [2, 3, 4, 5, 1, 0] (L' := [(0, _), (1, _), (2, _), (3, _), (4, _), (5, _)]) rfl ?_
    exact lp_X7_isSame_37 X F D a w k ha hw hk hS hF hT c_29 _ 0 (Nat.zero_le _) (Nat.lt_succ_self _) (fun q hq => absurd hq (Nat.not_lt_zero q))
  · refine g_iconst X (v := 0) dX7_isSame_32 ki_0 ?_
    refine g_iret X F rfl rfl dX7_isSame_33 (Nat.zero_le _) (Nat.zero_le _) ?_
    exact ⟨by rw [b2_f (fun q => c_29 q.1)], rfl⟩
/-- point p of letter a has word k of the patterns -/
abbrev hwK (Ar : Nat → Nat → Int32) (a p k n : Nat) : Prop := ∃ w, w < n ∧ Ar 20 (60 * a + w) = nI p ∧ smP Ar a w k
abbrev hwP (Ar : Nat → Nat → Int32) (a p k : Nat) : Prop := hwK Ar a p k (cl (Ar 16 a))
theorem hwK_s {Ar : Nat → Nat → Int32} {a p k n : Nat} : hwK Ar a p k (n + 1) ↔ hwK Ar a p k n ∨ (Ar 20 (60 * a + n) = nI p ∧ smP Ar a n k) :=
  ⟨fun ⟨w, h1, h2⟩ => by by_cases e : w = n; exact Or.inr (e ▸ h2); exact Or.inl ⟨w, by omega, h2⟩, fun h => h.elim (fun ⟨w, h1, h2⟩ => ⟨w, by omega, h2⟩) (fun h2 => ⟨n, Nat.lt_succ_self n, h2⟩)⟩
theorem lp_X7_hasWord_6 {E : gE} (X : Gc G E "ComplaintDeskModel" cX7_hasWord 6 1 0 0) (F : gF E M_X7_hasWord) (D : md ix m ad) (a p k : Nat) (ha : a ≤ 80) (hk : k < 156) (hS : okN (Ar 8 k) 12) (hW : okN (Ar 16 a) 60) (hF : ∀ w, w < cl (Ar 16 a) → okN (Ar 18 (60 * a + w)) 400) (hT : ∀ w, w < cl (Ar 16 a) → ∀ i, i < cl (Ar 8 k) → Ar 19 (60 * a + w) - Ar 18 (60 * a + w) = Ar 8 k → cl (Ar 18 (60 * a + w)) + i < 400)  : ∀ (f : Nat) (w : Nat), w ≤ cl (Ar 16 a) → cl (Ar 16 a) - w < f → GW G E (gMQ G E 0 0 (rX (some (.int (b2 (hwP Ar a p k)))) (mH G ix ad I Ar h0))) 6 6 [(0, .ref m), (1, .int (nI a)), (2, .int (nI p)), (3, .int (nI k)), (4, .int (b2 (hwK Ar a p k w))), (5, .int (nI w))] [] (mH G ix ad I Ar h0) 0 0 := by
  intro f
  induction f with
  | zero => intro w hw hf; exact absurd hf (Nat.not_lt_zero _)
  | succ f ih =>
    intro w hw hf
    have hw6 := hW.le
    refine g_iload X dX7_hasWord_6 5 rfl ?_
    refine g_aload_n X dX7_hasWord_8 0 rfl ?_
    refine g_getfield X fl_X7_51 dX7_hasWord_9 (mLm D) rfl ?_
    refine g_iload_n X dX7_hasWord_12 1 rfl ?_
    refine g_iaload X dX7_hasWord_13 (mLa D 16 rfl) (vp_in_nI (by omega) (by decide)) ?_
    refine g_eqi (y := Ar 16 a) (by rw [nI_clamp (by omega)]) ?_
    refine g_icmp_ge X 62 dX7_hasWord_14 (by decide) (fun c_14 => ?_) (fun c_14 => ?_)
    · have hq : w = cl (Ar 16 a) := by have := hW.ge c_14 (by omega); omega
      subst hq
      refine g_iload X dX7_hasWord_62 4 rfl ?_
      refine g_iret X F rfl b2_n dX7_hasWord_64 (Nat.zero_le _) (Nat.zero_le _) ?_
      exact ⟨rfl, rfl⟩
    · have hq : w < cl (Ar 16 a) := hW.lt (Int32.not_le.mp c_14) (by omega)
      refine g_iload X dX7_hasWord_17 4 rfl ?_
      refine g_if_ne X 62 dX7_hasWord_19 (by decide) (fun c_19 => ?_) (fun c_19 => ?_)
      · have hx : hwK Ar a p k w := Decidable.not_not.mp (fun q => c_19 (b2_0.mpr q))
        have ex : b2 (hwK Ar a p k w) = b2 (hwP Ar a p k) := by rw [b2_t hx, b2_t]; obtain ⟨z, z1, z2⟩ := hx; exact ⟨z, by omega, z2⟩
        rw [ex]
        refine g_iload X dX7_hasWord_62 4 rfl ?_
        refine g_iret X F rfl b2_n dX7_hasWord_64 (Nat.zero_le _) (Nat.zero_le _) ?_
        exact ⟨rfl, rfl⟩
      · have hx : ¬ hwK Ar a p k w := b2_0.mp (by first | exact c_19 | exact Decidable.not_not.mp c_19)
        refine g_aload_n X dX7_hasWord_22 0 rfl ?_
        refine g_getfield X fl_X7_63 dX7_hasWord_23 (mLm D) rfl ?_
        refine g_bipush X (v := 60) dX7_hasWord_26 kb_60 ?_
        refine g_iload_n X dX7_hasWord_28 1 rfl ?_
        refine g_imul X dX7_hasWord_29 ?_
        refine g_iload X dX7_hasWord_30 5 rfl ?_
        refine g_iadd X dX7_hasWord_32 ?_
        refine g_eqi (y := nI (60 * a + w)) (ix60 a w) ?_
        refine g_iaload X dX7_hasWord_33 (mLa D 20 rfl) (vp_in_nI (by omega) (by decide)) ?_
        refine g_eqi (y := Ar 20 (60 * a + w)) (by rw [nI_clamp (by omega)]) ?_
        refine g_iload_n X dX7_hasWord_34 2 rfl ?_
        refine g_icmp_ne X 53 dX7_hasWord_35 (by decide) (fun c_35 => ?_) (fun c_35 => ?_)
        · have e2 : (0 : Int32) = b2 (hwK Ar a p k (w + 1)) := (b2_f (fun q => (hwK_s.mp q).elim hx (fun z => c_35 z.1))).symm
          refine g_iconst X (v := 0) dX7_hasWord_53 ki_0 ?_
          refine g_eqi (y := b2 (hwK Ar a p k (w + 1))) e2 ?_
          refine g_istore X dX7_hasWord_54 (Nat.le_of_ble_eq_true rfl) [(4, _), (0, _), (1, _), (2, _), (3, _), (5, _)] rfl ?_
          refine g_iinc X (v := nI (w + 1)) dX7_hasWord_56 5 rfl (nI_1 w) (Nat.le_of_ble_eq_true rfl) [(5, _), (4, _), (0, _), (1, _), (2, _), (3, _)] rfl ?_
          refine g_goto X 6 dX7_hasWord_59 (by decide) ?_
          refine g_L [2, 3, 4, 5, 1, 0] (L' := [(0, _), (1, _), (2, _), (3, _), (4, _), (5, _)]) rfl ?_
          exact ih (w + 1) (by omega) (by omega)
        · refine g_aload_n X dX7_hasWord_38 0 rfl ?_
          refine g_iload_n X dX7_hasWord_39 1 rfl ?_
          refine g_iload X dX7_hasWord_40 5 rfl ?_
          refine g_iload_n X dX7_hasWord_42 3 rfl ?_
          refine g_cV X ml_X7_157 (c_X7_isSame D a w k ha (by omega) hk hS (hF w hq) (hT w hq)) ⟨7, _, mLm D, rfl⟩ (Nat.le_of_ble_eq_true rfl) rfl rfl (Nat.le_of_ble_eq_true rfl) (Nat.zero_le _) (Nat.zero_le _) dX7_hasWord_43 ?_
          refine g_if_eq X 53 dX7_hasWord_46 (by decide) (fun c_46 => ?_) (fun c_46 => ?_)
          · have e2 : (0 : Int32) = b2 (hwK Ar a p k (w + 1)) := (b2_f (fun q => (hwK_s.mp q).elim hx (fun z => b2_0.mp c_46 z.2))).symm
            refine g_iconst X (v := 0) dX7_hasWord_53 ki_0 ?_
            refine g_eqi (y := b2 (hwK Ar a p k (w + 1))) e2 ?_
            refine g_istore X dX7_hasWord_54 (Nat.le_of_ble_eq_true rfl) [(4, _), (0, _), (1, _), (2, _), (3, _), (5, _)] rfl ?_
            refine g_iinc X (v := nI (w + 1)) dX7_hasWord_56 5 rfl (nI_1 w) (Nat.le_of_ble_eq_true rfl) [(5, _), (4, _), (0, _), (1, _), (2, _), (3, _)] rfl ?_
            refine g_goto X 6 dX7_hasWord_59 (by decide) ?_
            refine g_L [2, 3, 4, 5, 1, 0] (L' := [(0, _), (1, _), (2, _), (3, _), (4, _), (5, _)]) rfl ?_
            exact ih (w + 1) (by omega) (by omega)
          · have e2 : (1 : Int32) = b2 (hwK Ar a p k (w + 1)) := (b2_t (hwK_s.mpr (Or.inr ⟨c_35, Decidable.not_not.mp (fun q => c_46 (b2_0.mpr q))⟩))).symm
            refine g_iconst X (v := 1) dX7_hasWord_49 ki_1 ?_
            refine g_goto X 54 dX7_hasWord_50 (by decide) ?_
            refine g_eqi (y := b2 (hwK Ar a p k (w + 1))) e2 ?_
            refine g_istore X dX7_hasWord_54 (Nat.le_of_ble_eq_true rfl) [(4, _), (0, _), (1, _), (2, _), (3, _), (5, _)] rfl ?_
            refine g_iinc X (v := nI (w + 1)) dX7_hasWord_56 5 rfl (nI_1 w) (Nat.le_of_ble_eq_true rfl) [(5, _), (4, _), (0, _), (1, _), (2, _), (3, _)] rfl ?_
            refine g_goto X 6 dX7_hasWord_59 (by decide) ?_
            refine g_L [2, 3, 4, 5, 1, 0] (L' := [(0, _), (1, _), (2, _), (3, _), (4, _), (5, _)]) rfl ?_
            exact ih (w + 1) (by omega) (by omega)
theorem c_X7_hasWord (D : md ix m ad) (a p k : Nat) (ha : a ≤ 80) (hk : k < 156) (hS : okN (Ar 8 k) 12) (hW : okN (Ar 16 a) 60) (hF : ∀ w, w < cl (Ar 16 a) → okN (Ar 18 (60 * a + w)) 400) (hT : ∀ w, w < cl (Ar 16 a) → ∀ i, i < cl (Ar 8 k) → Ar 19 (60 * a + w) - Ar 18 (60 * a + w) = Ar 8 k → cl (Ar 18 (60 * a + w)) + i < 400)  : Ct G l 1 0 0 M_X7_hasWord [.ref m, .int (nI a), .int (nI p), .int (nI k)] (mH G ix ad I Ar h0) (rX (some (.int (b2 (hwP Ar a p k)))) (mH G ix ad I Ar h0)) := by
  refine Ct.of (by decide +kernel) (Nat.le_of_ble_eq_true rfl) (fun E hE X F => ?_)
  have X : Gc G E "ComplaintDeskModel" cX7_hasWord 6 1 0 0 := X
  show GW G E _ 6 0 [(0, _), (1, _), (2, _), (3, _)] [] _ 0 0
  refine g_iconst X (v := 0) dX7_hasWord_0 ki_0 ?_
  refine g_istore X dX7_hasWord_1 (Nat.le_of_ble_eq_true rfl) [(4, _), (0, _), (1, _), (2, _), (3, _)] rfl ?_
  refine g_iconst X (v := 0) dX7_hasWord_3 ki_0 ?_
  refine g_istore X dX7_hasWord_4 (Nat.le_of_ble_eq_true rfl) [(5, _), (4, _), (0, _), (1, _), (2, _), (3, _)] rfl ?_
  refine g_L [2, 3, 4, 5, 1, 0] (L' := [(0, _), (1, _), (2, _), (3, _), (4, _), (5, _)]) rfl ?_
  refine g_L [0, 1, 2, 3, 4, 5] (L' := [(0, _), (1, _), (2, _), (3, _), (4, .int (b2 (hwK Ar a p k 0))), (5, _)]) (by rw [b2_f (p := hwK Ar a p k 0) (fun ⟨w, h1, h2⟩ => Nat.not_lt_zero w h1)]; rfl) ?_
  exact lp_X7_hasWord_6 X F D a p k ha hk hS hW hF hT _ 0 (Nat.zero_le _) (Nat.lt_succ_self _)
end M12
