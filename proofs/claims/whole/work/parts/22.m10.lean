section M10
variable {G : gG} {l : Launch} {ix : Nat → Nat} {m : Nat} {ad : Nat → Nat} {I : Nat → Int32} {Ar : Nat → Nat → Int32} {h0 h : hW}
/-- k bytes of T from s on come to F from t on -/
def cpN (F T : Nat → Int32) (t s : Nat) : Nat → Nat → Int32
  | 0 => F
  | k + 1 => upd (cpN F T t s k) (t + k) (vp_nar .byte (T (s + k)))
termination_by n => n
theorem cpN_0 {F T : Nat → Int32} {t s : Nat} : cpN F T t s 0 = F := by rw [cpN]
theorem cpN_s {F T : Nat → Int32} {t s k : Nat} : cpN F T t s (k + 1) = upd (cpN F T t s k) (t + k) (vp_nar .byte (T (s + k))) := by rw [cpN]
theorem cpN_at {F T : Nat → Int32} {t s : Nat} : ∀ {k j : Nat}, cpN F T t s k j = if t ≤ j ∧ j < t + k then vp_nar .byte (T (s + (j - t))) else F j
  | 0, j => by rw [cpN_0, if_neg (by omega)]
  | k + 1, j => by
    rw [cpN_s]
    unfold upd
    by_cases h : j = t + k
    · rw [if_pos h, if_pos (by omega), h, Nat.add_sub_cancel_left]
    · rw [if_neg h, cpN_at]
      by_cases h2 : t ≤ j ∧ j < t + k
      · rw [if_pos h2, if_pos (by omega)]
      · rw [if_neg h2, if_neg (by omega)]
/-- a word read: it lies in the last row, as its n-th -/
abbrev stA (A : Nat → Nat → Int32) (n b len : Nat) (nt o : Int32) : Nat → Nat → Int32 :=
  va_up (va_up (va_up (va_up (va_up A 8 (upd (A 8) (144 + n) (nI len))) 7 (cpN (A 7) (A 27) (12 * (144 + n)) b len)) 9 (upd (A 9) (144 + n) (vp_nar .boolean nt))) 10 (upd (A 10) (144 + n) (vp_nar .boolean o))) 6 (upd (A 6) 12 (nI (n + 1)))
abbrev badW (B : Nat → Int32) (b p n : Nat) : Prop := p = b ∨ sgnP B b p ∨ n = 12 ∨ 12 < p - b
theorem i144 (n : Nat) : (144 : Int32) + nI n = nI (144 + n) := nI_add 144 n
theorem i12 (a k : Nat) : (12 : Int32) * nI a + nI k = nI (12 * a + k) := by
  rw [show (12 : Int32) * nI a = nI (12 * a) from pk_mul 12 a]; exact nI_add _ _
theorem lp_X7_readPattern_89 {E : gE} (X : Gc G E "ComplaintDeskModel" cX7_readPattern 6 6 0 0) {Q : State → Prop} (D : md ix m ad) (b0 p n : Nat) (nt o : Int32) (hb : I 31 = nI b0) (hn : n < 12) (len : Nat) (hlen : len ≤ 12) (hbp : b0 + len ≤ 400) (hS : Ar 8 (144 + n) = nI len) (K : GW G E Q 6 132 [(0, .ref m), (1, .int (nI n)), (2, .int o), (3, .int nt), (4, .int (nI (144 + n)))] [] (mH G ix ad I (va_up Ar 7 (cpN (Ar 7) (Ar 27) (12 * (144 + n)) b0 len)) h0) 0 0) : ∀ (f : Nat) (k : Nat), k ≤ len → len - k < f → GW G E Q 6 89 [(0, .ref m), (1, .int (nI n)), (2, .int o), (3, .int nt), (4, .int (nI (144 + n))), (5, .int (nI k))] [] (mH G ix ad I (va_up Ar 7 (cpN (Ar 7) (Ar 27) (12 * (144 + n)) b0 k)) h0) 0 0 := by
  intro f
  induction f with
  | zero => intro k hk hf; exact absurd hf (Nat.not_lt_zero _)
  | succ f ih =>
    intro k hk hf
    refine g_iload X dX7_readPattern_89 5 rfl ?_
    refine g_aload_n X dX7_readPattern_91 0 rfl ?_
    refine g_getfield X fl_X7_30 dX7_readPattern_92 (mLm D) rfl ?_
    refine g_iload X dX7_readPattern_95 4 rfl ?_
    refine g_iaload X dX7_readPattern_97 (mLa D 8 rfl) (vp_in_nI (by omega) (by decide)) ?_
    refine g_eqi (y := nI len) (by rw [nI_clamp (by omega)]; exact hS) ?_
    refine g_icmp_ge X 132 dX7_readPattern_98 (by decide) (fun c_98 => ?_) (fun c_98 => ?_)
    · have hq : k = len := by have := (nI_leI (by omega) (by omega)).mp c_98; omega
      subst hq
      refine g_L [0, 1, 2, 3, 4] (L' := [(0, _), (1, _), (2, _), (3, _), (4, _)]) rfl ?_
      exact K
    · have hq : k < len := (nI_ltI (by omega) (by omega)).mp (Int32.not_le.mp c_98)
      refine g_aload_n X dX7_readPattern_101 0 rfl ?_
      refine g_getfield X fl_X7_26 dX7_readPattern_102 (mLm D) rfl ?_
      refine g_bipush X (v := 12) dX7_readPattern_105 kb_12 ?_
      refine g_iload X dX7_readPattern_107 4 rfl ?_
      refine g_imul X dX7_readPattern_109 ?_
      refine g_iload X dX7_readPattern_110 5 rfl ?_
      refine g_iadd X dX7_readPattern_112 ?_
      refine g_eqi (y := nI (12 * (144 + n) + k)) (i12 _ k) ?_
      refine g_aload_n X dX7_readPattern_113 0 rfl ?_
      refine g_getfield X fl_X7_78 dX7_readPattern_114 (mLm D) rfl ?_
      refine g_aload_n X dX7_readPattern_117 0 rfl ?_
      refine g_getfield X fl_X7_121 dX7_readPattern_118 (mLm D) rfl ?_
      refine g_eqi (y := nI b0) (hb) ?_
      refine g_iload X dX7_readPattern_121 5 rfl ?_
      refine g_iadd X dX7_readPattern_123 ?_
      refine g_eqi (y := nI (b0 + k)) (nI_add _ _) ?_
      refine g_baload X dX7_readPattern_124 (mLa D 27 rfl) (vp_in_nI (by omega) (by decide)) ?_
      refine g_eqi (y := Ar 27 (b0 + k)) (by rw [nI_clamp (by omega)]; rfl) ?_
      refine g_bastore X dX7_readPattern_125 (mLa D 7 rfl) (vp_in_nI (by omega) (by decide)) (g_h (mUa D 7 rfl _) ?_)
      refine g_iinc X (v := nI (k + 1)) dX7_readPattern_126 5 rfl (nI_1 k) (Nat.le_of_ble_eq_true rfl) [(5, _), (0, _), (1, _), (2, _), (3, _), (4, _)] rfl ?_
      refine g_goto X 89 dX7_readPattern_129 (by decide) ?_
      refine g_L [1, 2, 3, 4, 5, 0] (L' := [(0, _), (1, _), (2, _), (3, _), (4, _), (5, _)]) rfl ?_
      refine g_h (h' := mH G ix ad I (va_up Ar 7 (cpN (Ar 7) (Ar 27) (12 * (144 + n)) b0 (k + 1))) h0) (by rw [nI_clamp (by omega), bx_uu, cpN_s]; rfl) ?_
      exact ih (k + 1) (by omega) (by omega)
theorem bool_nar {x : Int32} (h : x = 0 ∨ x = 1) : vp_nar .boolean x = x := by rcases h with rfl | rfl <;> decide
theorem lp_X7_readPattern_23 {E : gE} (X : Gc G E "ComplaintDeskModel" cX7_readPattern 6 6 0 0) (F : gF E M_X7_readPattern) {pst : Option Value → hW → Prop} (D : md ix m ad) (N b p n : Nat) (nt o : Int32) (hnt : nt = 0 ∨ nt = 1) (ho : o = 0 ∨ o = 1) (hN : I 30 = nI N) (hN4 : N ≤ 400) (hb : I 31 = nI b) (hp : I 29 = nI p) (hbp : b ≤ p) (hpN : p ≤ N) (hn : n ≤ 12) (Hb1 : badW (Ar 27) b p n → pst (some (.int 0)) (mH G ix ad I Ar h0)) (Hok : ¬ badW (Ar 27) b p n → (fin (Ar 27) N (bgn (Ar 27) N p)) = (bgn (Ar 27) N p) → (fin (Ar 27) N (bgn (Ar 27) N p)) = N → pst (some (.int 1)) (mH G ix ad (wI I (bgn (Ar 27) N p) (fin (Ar 27) N (bgn (Ar 27) N p))) (stA Ar n b (p - b) nt o) h0)) (Hb2 : ¬ badW (Ar 27) b p n → ¬ ((fin (Ar 27) N (bgn (Ar 27) N p)) = (bgn (Ar 27) N p) ∧ (fin (Ar 27) N (bgn (Ar 27) N p)) = N) → ¬ isW (Ar 27) (bgn (Ar 27) N p) (fin (Ar 27) N (bgn (Ar 27) N p)) 1 → ¬ isW (Ar 27) (bgn (Ar 27) N p) (fin (Ar 27) N (bgn (Ar 27) N p)) 0 → pst (some (.int 0)) (mH G ix ad (wI I (bgn (Ar 27) N p) (fin (Ar 27) N (bgn (Ar 27) N p))) (stA Ar n b (p - b) nt o) h0)) (K4 : ¬ badW (Ar 27) b p n → ¬ ((fin (Ar 27) N (bgn (Ar 27) N p)) = (bgn (Ar 27) N p) ∧ (fin (Ar 27) N (bgn (Ar 27) N p)) = N) → isW (Ar 27) (bgn (Ar 27) N p) (fin (Ar 27) N (bgn (Ar 27) N p)) 1 ∨ isW (Ar 27) (bgn (Ar 27) N p) (fin (Ar 27) N (bgn (Ar 27) N p)) 0 → GW G E (gMQ G E 0 0 pst) 6 4 [(0, .ref m), (1, .int (nI (n + 1))), (2, .int (b2 (isW (Ar 27) (bgn (Ar 27) N p) (fin (Ar 27) N (bgn (Ar 27) N p)) 1)))] [] (mH G ix ad (wI I (bgn (Ar 27) N p) (fin (Ar 27) N (bgn (Ar 27) N p))) (stA Ar n b (p - b) nt o) h0) 0 0) : GW G E (gMQ G E 0 0 pst) 6 23 [(0, .ref m), (1, .int (nI n)), (2, .int o), (3, .int nt)] [] (mH G ix ad I Ar h0) 0 0 := by
  refine g_aload_n X dX7_readPattern_23 0 rfl ?_
  refine g_getfield X fl_X7_114 dX7_readPattern_24 (mLm D) rfl ?_
  refine g_eqi (y := nI p) (hp) ?_
  refine g_aload_n X dX7_readPattern_27 0 rfl ?_
  refine g_getfield X fl_X7_121 dX7_readPattern_28 (mLm D) rfl ?_
  refine g_eqi (y := nI b) (hb) ?_
  refine g_icmp_eq X 61 dX7_readPattern_31 (by decide) (fun c_31 => ?_) (fun c_31 => ?_)
  · have hz : p = b := (nI_eq (by omega) (by omega)).mp c_31
    have hbad : badW (Ar 27) b p n := Or.inl hz
    refine g_iconst X (v := 0) dX7_readPattern_61 ki_0 ?_
    refine g_iret X F rfl rfl dX7_readPattern_62 (Nat.zero_le _) (Nat.zero_le _) ?_
    exact Hb1 hbad
  · have hz1 : ¬ p = b := fun q => c_31 (by rw [q])
    refine g_aload_n X dX7_readPattern_34 0 rfl ?_
    refine g_cV X ml_X7_150 (c_X7_isSign D b p hb hp hbp (by omega)) ⟨7, _, mLm D, rfl⟩ (Nat.le_of_ble_eq_true rfl) rfl rfl (Nat.le_of_ble_eq_true rfl) (Nat.zero_le _) (Nat.zero_le _) dX7_readPattern_35 ?_
    refine g_if_ne X 61 dX7_readPattern_38 (by decide) (fun c_38 => ?_) (fun c_38 => ?_)
    · have hbad : badW (Ar 27) b p n := Or.inr (Or.inl (Decidable.not_not.mp (fun q => c_38 (b2_0.mpr q))))
      refine g_iconst X (v := 0) dX7_readPattern_61 ki_0 ?_
      refine g_iret X F rfl rfl dX7_readPattern_62 (Nat.zero_le _) (Nat.zero_le _) ?_
      exact Hb1 hbad
    · have hz2 : ¬ sgnP (Ar 27) b p := b2_0.mp (by first | exact c_38 | exact Decidable.not_not.mp c_38)
      refine g_iload_n X dX7_readPattern_41 1 rfl ?_
      refine g_bipush X (v := 12) dX7_readPattern_42 kb_12 ?_
      refine g_icmp_eq X 61 dX7_readPattern_44 (by decide) (fun c_44 => ?_) (fun c_44 => ?_)
      · have hbad : badW (Ar 27) b p n := Or.inr (Or.inr (Or.inl ((nI_eq (b := 12) (by omega) (by decide)).mp c_44)))
        refine g_iconst X (v := 0) dX7_readPattern_61 ki_0 ?_
        refine g_iret X F rfl rfl dX7_readPattern_62 (Nat.zero_le _) (Nat.zero_le _) ?_
        exact Hb1 hbad
      · have hz3 : ¬ n = 12 := fun q => c_44 (by rw [q]; rfl)
        refine g_aload_n X dX7_readPattern_47 0 rfl ?_
        refine g_getfield X fl_X7_114 dX7_readPattern_48 (mLm D) rfl ?_
        refine g_eqi (y := nI p) (hp) ?_
        refine g_aload_n X dX7_readPattern_51 0 rfl ?_
        refine g_getfield X fl_X7_121 dX7_readPattern_52 (mLm D) rfl ?_
        refine g_eqi (y := nI b) (hb) ?_
        refine g_isub X dX7_readPattern_55 ?_
        refine g_eqi (y := nI (p - b)) (pk_sub hbp) ?_
        refine g_bipush X (v := 12) dX7_readPattern_56 kb_12 ?_
        refine g_icmp_le X 63 dX7_readPattern_58 (by decide) (fun c_58 => ?_) (fun c_58 => ?_)
        · have hz4 : p - b ≤ 12 := le_lit (N := 12) rfl c_58 (by omega)
          have hgood : ¬ badW (Ar 27) b p n := fun q => q.elim hz1 (fun q => q.elim hz2 (fun q => q.elim hz3 (by omega)))
          refine g_sipush X (v := 144) dX7_readPattern_63 ks_144 ?_
          refine g_iload_n X dX7_readPattern_66 1 rfl ?_
          refine g_iadd X dX7_readPattern_67 ?_
          refine g_eqi (y := nI (144 + n)) (i144 n) ?_
          refine g_istore X dX7_readPattern_68 (Nat.le_of_ble_eq_true rfl) [(4, _), (0, _), (1, _), (2, _), (3, _)] rfl ?_
          refine g_aload_n X dX7_readPattern_70 1 rfl ?_
          refine g_getfield X fl_X7_30 dX7_readPattern_71 (mLm D) rfl ?_
          refine g_iload X dX7_readPattern_74 0 rfl ?_
          refine g_aload_n X dX7_readPattern_76 1 rfl ?_
          refine g_getfield X fl_X7_114 dX7_readPattern_77 (mLm D) rfl ?_
          refine g_eqi (y := nI p) (hp) ?_
          refine g_aload_n X dX7_readPattern_80 1 rfl ?_
          refine g_getfield X fl_X7_121 dX7_readPattern_81 (mLm D) rfl ?_
          refine g_eqi (y := nI b) (hb) ?_
          refine g_isub X dX7_readPattern_84 ?_
          refine g_eqi (y := nI (p - b)) (pk_sub hbp) ?_
          refine g_iastore X dX7_readPattern_85 (mLa D 8 rfl) (vp_in_nI (by omega) (by decide)) (g_h (mUa D 8 rfl _) ?_)
          refine g_iconst X (v := 0) dX7_readPattern_86 ki_0 ?_
          refine g_istore X dX7_readPattern_87 (Nat.le_of_ble_eq_true rfl) [(5, _), (4, _), (0, _), (1, _), (2, _), (3, _)] rfl ?_
          refine g_L [2, 3, 4, 5, 1, 0] (L' := [(0, _), (1, _), (2, _), (3, _), (4, _), (5, _)]) rfl ?_
          refine g_h (h' := mH G ix ad I (va_up (va_up Ar 8 (upd (Ar 8) (144 + n) (nI (p - b)))) 7 (cpN (Ar 7) (Ar 27) (12 * (144 + n)) b 0)) h0) (by rw [cpN_0, nI_clamp (by omega)]; congr 1; funext j; by_cases hj : j = 7; subst hj; rfl; simp only [va_up, if_neg hj]) ?_
          refine lp_X7_readPattern_89 X (I := I) (Ar := (va_up Ar 8 (upd (Ar 8) (144 + n) (nI (p - b))))) D b p n nt o hb (by omega) (p - b) hz4 (by omega) (by simp [va_up, upd]) ?_ _ 0 (Nat.zero_le _) (Nat.lt_succ_self _)
          refine g_aload_n X dX7_readPattern_132 0 rfl ?_
          refine g_getfield X fl_X7_33 dX7_readPattern_133 (mLm D) rfl ?_
          refine g_iload X dX7_readPattern_136 4 rfl ?_
          refine g_iload_n X dX7_readPattern_138 3 rfl ?_
          refine g_zastore X dX7_readPattern_139 (mLa D 9 rfl) (vp_in_nI (by omega) (by decide)) (g_h (mUa D 9 rfl _) ?_)
          refine g_aload_n X dX7_readPattern_140 0 rfl ?_
          refine g_getfield X fl_X7_36 dX7_readPattern_141 (mLm D) rfl ?_
          refine g_iload X dX7_readPattern_144 4 rfl ?_
          refine g_iload_n X dX7_readPattern_146 2 rfl ?_
          refine g_zastore X dX7_readPattern_147 (mLa D 10 rfl) (vp_in_nI (by omega) (by decide)) (g_h (mUa D 10 rfl _) ?_)
          refine g_iinc X (v := nI (n + 1)) dX7_readPattern_148 1 rfl (nI_1 n) (Nat.le_of_ble_eq_true rfl) [(1, _), (0, _), (2, _), (3, _), (4, _)] rfl ?_
          refine g_aload_n X dX7_readPattern_151 1 rfl ?_
          refine g_getfield X fl_X7_23 dX7_readPattern_152 (mLm D) rfl ?_
          refine g_bipush X (v := 12) dX7_readPattern_155 kb_12 ?_
          refine g_iload_n X dX7_readPattern_157 0 rfl ?_
          refine g_iastore X dX7_readPattern_158 (mLa D 6 rfl) (by unfold vp_in; decide) (g_h (mUa D 6 rfl _) ?_)
          refine g_h (h' := mH G ix ad I (stA Ar n b (p - b) nt o) h0) ?_ ?_
          · rw [nI_clamp (by omega)]; rfl
          refine g_aload_n X dX7_readPattern_159 1 rfl ?_
          refine g_cV0 X ml_X7_147 (c_X7_word (Ar := (stA Ar n b (p - b) nt o)) D p N hp hN hpN hN4) ⟨7, _, mLm D, rfl⟩ (Nat.le_of_ble_eq_true rfl) rfl rfl (Nat.le_of_ble_eq_true rfl) (Nat.zero_le _) (Nat.zero_le _) dX7_readPattern_160 ?_
          refine g_aload_n X dX7_readPattern_163 1 rfl ?_
          refine g_getfield X fl_X7_114 dX7_readPattern_164 (mLm D) rfl ?_
          refine g_eqi (y := nI (fin (Ar 27) N (bgn (Ar 27) N p))) (rfl) ?_
          refine g_aload_n X dX7_readPattern_167 1 rfl ?_
          refine g_getfield X fl_X7_121 dX7_readPattern_168 (mLm D) rfl ?_
          refine g_eqi (y := nI (bgn (Ar 27) N p)) (rfl) ?_
          refine g_icmp_ne X 187 dX7_readPattern_171 (by decide) (fun c_171 => ?_) (fun c_171 => ?_)
          · have hy : ¬ ((fin (Ar 27) N (bgn (Ar 27) N p)) = (bgn (Ar 27) N p) ∧ (fin (Ar 27) N (bgn (Ar 27) N p)) = N) := fun q => c_171 (by rw [q.1])
            refine g_aload_n X dX7_readPattern_187 1 rfl ?_
            refine g_ldcS X (X.sg (i := 1) (q := ("ComplaintDeskModel", 143, "or")) rfl) dX7_readPattern_188 ?_
            refine g_cV X ml_X7_139 (c_X7_isWord (I := wI I (bgn (Ar 27) N p) (fin (Ar 27) N (bgn (Ar 27) N p))) (Ar := (stA Ar n b (p - b) nt o)) D (bgn (Ar 27) N p) (fin (Ar 27) N (bgn (Ar 27) N p)) 1 (by decide) rfl rfl (skp_ge1 (skp_le1 hpN)) (Nat.le_trans (skp_le1 (skp_le1 hpN)) hN4)) ⟨7, _, mLm D, rfl⟩ (Nat.le_of_ble_eq_true rfl) rfl rfl (Nat.le_of_ble_eq_true rfl) (Nat.zero_le _) (Nat.zero_le _) dX7_readPattern_190 ?_
            refine g_istore_n X dX7_readPattern_193 (Nat.le_of_ble_eq_true rfl) [(2, _), (1, _), (0, _), (3, _), (4, _)] rfl ?_
            refine g_iload_n X dX7_readPattern_194 0 rfl ?_
            refine g_if_ne X 209 dX7_readPattern_195 (by decide) (fun c_195 => ?_) (fun c_195 => ?_)
            · have ho1 : isW (Ar 27) (bgn (Ar 27) N p) (fin (Ar 27) N (bgn (Ar 27) N p)) 1 := Decidable.not_not.mp (fun q => c_195 (b2_0.mpr q))
              refine g_goto X 4 dX7_readPattern_209 (by decide) ?_
              refine g_L [2, 1, 0] (L' := [(0, _), (1, _), (2, _)]) rfl ?_
              exact K4 hgood hy (by first | exact Or.inl ho1 | exact Or.inr ho0)
            · have ho1 : ¬ isW (Ar 27) (bgn (Ar 27) N p) (fin (Ar 27) N (bgn (Ar 27) N p)) 1 := b2_0.mp (by first | exact c_195 | exact Decidable.not_not.mp c_195)
              refine g_aload_n X dX7_readPattern_198 2 rfl ?_
              refine g_ldcS X (X.sg (i := 0) (q := ("ComplaintDeskModel", 137, "and")) rfl) dX7_readPattern_199 ?_
              refine g_cV X ml_X7_139 (c_X7_isWord (I := wI I (bgn (Ar 27) N p) (fin (Ar 27) N (bgn (Ar 27) N p))) (Ar := (stA Ar n b (p - b) nt o)) D (bgn (Ar 27) N p) (fin (Ar 27) N (bgn (Ar 27) N p)) 0 (by decide) rfl rfl (skp_ge1 (skp_le1 hpN)) (Nat.le_trans (skp_le1 (skp_le1 hpN)) hN4)) ⟨7, _, mLm D, rfl⟩ (Nat.le_of_ble_eq_true rfl) rfl rfl (Nat.le_of_ble_eq_true rfl) (Nat.zero_le _) (Nat.zero_le _) dX7_readPattern_201 ?_
              refine g_if_ne X 209 dX7_readPattern_204 (by decide) (fun c_204 => ?_) (fun c_204 => ?_)
              · have ho0 : isW (Ar 27) (bgn (Ar 27) N p) (fin (Ar 27) N (bgn (Ar 27) N p)) 0 := Decidable.not_not.mp (fun q => c_204 (b2_0.mpr q))
                refine g_goto X 4 dX7_readPattern_209 (by decide) ?_
                refine g_L [2, 1, 0] (L' := [(0, _), (1, _), (2, _)]) rfl ?_
                exact K4 hgood hy (by first | exact Or.inl ho1 | exact Or.inr ho0)
              · have ho0 : ¬ isW (Ar 27) (bgn (Ar 27) N p) (fin (Ar 27) N (bgn (Ar 27) N p)) 0 := b2_0.mp (by first | exact c_204 | exact Decidable.not_not.mp c_204)
                refine g_iconst X (v := 0) dX7_readPattern_207 ki_0 ?_
                refine g_iret X F rfl rfl dX7_readPattern_208 (Nat.zero_le _) (Nat.zero_le _) ?_
                exact Hb2 hgood hy ho1 ho0
          · have hy1 : (fin (Ar 27) N (bgn (Ar 27) N p)) = (bgn (Ar 27) N p) := (nI_eq (Nat.lt_of_le_of_lt (Nat.le_trans (skp_le1 (skp_le1 hpN)) hN4) (by decide)) (Nat.lt_of_le_of_lt (Nat.le_trans (skp_le1 hpN) hN4) (by decide))).mp c_171
            refine g_aload_n X dX7_readPattern_174 1 rfl ?_
            refine g_getfield X fl_X7_114 dX7_readPattern_175 (mLm D) rfl ?_
            refine g_eqi (y := nI (fin (Ar 27) N (bgn (Ar 27) N p))) (rfl) ?_
            refine g_aload_n X dX7_readPattern_178 1 rfl ?_
            refine g_getfield X fl_X7_111 dX7_readPattern_179 (mLm D) rfl ?_
            refine g_eqi (y := nI N) (hN) ?_
            refine g_icmp_ne X 187 dX7_readPattern_182 (by decide) (fun c_182 => ?_) (fun c_182 => ?_)
            · have hy : ¬ ((fin (Ar 27) N (bgn (Ar 27) N p)) = (bgn (Ar 27) N p) ∧ (fin (Ar 27) N (bgn (Ar 27) N p)) = N) := fun q => c_182 (by rw [q.2])
              refine g_aload_n X dX7_readPattern_187 1 rfl ?_
              refine g_ldcS X (X.sg (i := 1) (q := ("ComplaintDeskModel", 143, "or")) rfl) dX7_readPattern_188 ?_
              refine g_cV X ml_X7_139 (c_X7_isWord (I := wI I (bgn (Ar 27) N p) (fin (Ar 27) N (bgn (Ar 27) N p))) (Ar := (stA Ar n b (p - b) nt o)) D (bgn (Ar 27) N p) (fin (Ar 27) N (bgn (Ar 27) N p)) 1 (by decide) rfl rfl (skp_ge1 (skp_le1 hpN)) (Nat.le_trans (skp_le1 (skp_le1 hpN)) hN4)) ⟨7, _, mLm D, rfl⟩ (Nat.le_of_ble_eq_true rfl) rfl rfl (Nat.le_of_ble_eq_true rfl) (Nat.zero_le _) (Nat.zero_le _) dX7_readPattern_190 ?_
              refine g_istore_n X dX7_readPattern_193 (Nat.le_of_ble_eq_true rfl) [(2, _), (1, _), (0, _), (3, _), (4, _)] rfl ?_
              refine g_iload_n X dX7_readPattern_194 0 rfl ?_
              refine g_if_ne X 209 dX7_readPattern_195 (by decide) (fun c_195 => ?_) (fun c_195 => ?_)
              · have ho1 : isW (Ar 27) (bgn (Ar 27) N p) (fin (Ar 27) N (bgn (Ar 27) N p)) 1 := Decidable.not_not.mp (fun q => c_195 (b2_0.mpr q))
                refine g_goto X 4 dX7_readPattern_209 (by decide) ?_
                refine g_L [2, 1, 0] (L' := [(0, _), (1, _), (2, _)]) rfl ?_
                exact K4 hgood hy (by first | exact Or.inl ho1 | exact Or.inr ho0)
              · have ho1 : ¬ isW (Ar 27) (bgn (Ar 27) N p) (fin (Ar 27) N (bgn (Ar 27) N p)) 1 := b2_0.mp (by first | exact c_195 | exact Decidable.not_not.mp c_195)
                refine g_aload_n X dX7_readPattern_198 2 rfl ?_
                refine g_ldcS X (X.sg (i := 0) (q := ("ComplaintDeskModel", 137, "and")) rfl) dX7_readPattern_199 ?_
                refine g_cV X ml_X7_139 (c_X7_isWord (I := wI I (bgn (Ar 27) N p) (fin (Ar 27) N (bgn (Ar 27) N p))) (Ar := (stA Ar n b (p - b) nt o)) D (bgn (Ar 27) N p) (fin (Ar 27) N (bgn (Ar 27) N p)) 0 (by decide) rfl rfl (skp_ge1 (skp_le1 hpN)) (Nat.le_trans (skp_le1 (skp_le1 hpN)) hN4)) ⟨7, _, mLm D, rfl⟩ (Nat.le_of_ble_eq_true rfl) rfl rfl (Nat.le_of_ble_eq_true rfl) (Nat.zero_le _) (Nat.zero_le _) dX7_readPattern_201 ?_
                refine g_if_ne X 209 dX7_readPattern_204 (by decide) (fun c_204 => ?_) (fun c_204 => ?_)
                · have ho0 : isW (Ar 27) (bgn (Ar 27) N p) (fin (Ar 27) N (bgn (Ar 27) N p)) 0 := Decidable.not_not.mp (fun q => c_204 (b2_0.mpr q))
                  refine g_goto X 4 dX7_readPattern_209 (by decide) ?_
                  refine g_L [2, 1, 0] (L' := [(0, _), (1, _), (2, _)]) rfl ?_
                  exact K4 hgood hy (by first | exact Or.inl ho1 | exact Or.inr ho0)
                · have ho0 : ¬ isW (Ar 27) (bgn (Ar 27) N p) (fin (Ar 27) N (bgn (Ar 27) N p)) 0 := b2_0.mp (by first | exact c_204 | exact Decidable.not_not.mp c_204)
                  refine g_iconst X (v := 0) dX7_readPattern_207 ki_0 ?_
                  refine g_iret X F rfl rfl dX7_readPattern_208 (Nat.zero_le _) (Nat.zero_le _) ?_
                  exact Hb2 hgood hy ho1 ho0
            · have hy2 : (fin (Ar 27) N (bgn (Ar 27) N p)) = N := (nI_eq (Nat.lt_of_le_of_lt (Nat.le_trans (skp_le1 (skp_le1 hpN)) hN4) (by decide)) (by omega)).mp c_182
              refine g_iconst X (v := 1) dX7_readPattern_185 ki_1 ?_
              refine g_iret X F rfl rfl dX7_readPattern_186 (Nat.zero_le _) (Nat.zero_le _) ?_
              exact Hok hgood hy1 hy2
        · have hbad : badW (Ar 27) b p n := Or.inr (Or.inr (Or.inr (by have := gt_lit (N := 12) rfl (Int32.not_le.mp c_58) (by omega); omega)))
          refine g_iconst X (v := 0) dX7_readPattern_61 ki_0 ?_
          refine g_iret X F rfl rfl dX7_readPattern_62 (Nat.zero_le _) (Nat.zero_le _) ?_
          exact Hb1 hbad
end M10
