section M18
variable {G : gG} {l : Launch} {ix : Nat → Nat} {m : Nat} {ad : Nat → Nat} {I : Nat → Int32} {Ar : Nat → Nat → Int32} {h0 h : hW}
/-- what lP gives is in order -/
theorem lP_wf {B : Nat → Int32} {N : Nat} : ∀ (f i c : Nat) (fr : Int32) (L : List lW), i ≤ N → c ≤ 6 → (fr = 0 → 1 ≤ c) → L.length ≤ 60 → (∀ w ∈ L, w.1 ≤ w.2.1 ∧ w.2.1 ≤ N ∧ w.2.2 < c) →
    (lP B N f i c fr L).2.1 ≤ 6 ∧ (lP B N f i c fr L).2.2.length ≤ 60 ∧ ∀ w ∈ (lP B N f i c fr L).2.2, w.1 ≤ w.2.1 ∧ w.2.1 ≤ N ∧ w.2.2 < (lP B N f i c fr L).2.1
  | 0, i, c, fr, L, _, hc, _, hL, hw => by rw [lP]; exact ⟨hc, hL, hw⟩
  | f + 1, i, c, fr, L, hi, hc, hz, hL, hw => by
    rw [lP_s]
    have hb : bgn B N i ≤ N := skp_le1 hi
    have he : fin B N (bgn B N i) ≤ N := skp_le1 hb
    split
    · split
      · exact ⟨hc, hL, hw⟩
      · split
        · exact ⟨hc, hL, hw⟩
        · rename_i qn2 hx
          have hd : atP B N (bgn B N i) 46 46 := Decidable.not_not.mp (fun q => hx (Or.inr q))
          exact lP_wf f _ c 1 L (by have := hd.1; omega) hc (fun q => absurd q (by decide)) hL hw
    · split
      · exact ⟨hc, hL, hw⟩
      · rename_i hx
        have hl : ¬ L.length = 60 := fun q => hx (Or.inr q)
        have h6 : lP1 c fr ≤ 6 ∧ 1 ≤ lP1 c fr ∧ c ≤ lP1 c fr := by
          by_cases hq : fr = 0
          · rw [show lP1 c fr = c from if_pos hq]; exact ⟨hc, hz hq, Nat.le_refl _⟩
          · rw [show lP1 c fr = c + 1 from if_neg hq]
            have : ¬ c = 6 := fun q => hx (Or.inl ⟨hq, q⟩)
            exact ⟨by omega, by omega, by omega⟩
        refine lP_wf f _ _ 0 _ he h6.1 (fun _ => h6.2.1) (by simp; omega) (fun w hm => ?_)
        rcases List.mem_append.mp hm with hm | hm
        · have := hw w hm; exact ⟨this.1, this.2.1, by omega⟩
        · rw [List.mem_singleton] at hm; subst hm
          exact ⟨skp_ge1 hb, he, by show lP1 c fr - 1 < _; omega⟩
abbrev lR (Ar : Nat → Nat → Int32) (N : Nat) : Option Nat × Nat × List lW := lP (Ar 27) N 401 0 0 1 []
theorem lR_wf {Ar : Nat → Nat → Int32} {N : Nat} : (lR Ar N).2.1 ≤ 6 ∧ (lR Ar N).2.2.length ≤ 60 ∧ ∀ w ∈ (lR Ar N).2.2, w.1 ≤ w.2.1 ∧ w.2.1 ≤ N ∧ w.2.2 < (lR Ar N).2.1 :=
  lP_wf 401 0 0 1 [] (Nat.zero_le _) (by decide) (fun q => absurd q (by decide)) (by decide) (fun w hw => by cases hw)
/-- k words of the last row come to letter n -/
abbrev lcS (B : Nat → Nat → Int32) (n k : Nat) : Nat → Nat → Int32 :=
  va_up (va_up (va_up B 18 (upd (B 18) (60 * n + k) (B 18 (4800 + k)))) 19 (upd (B 19) (60 * n + k) (B 19 (4800 + k)))) 20 (upd (B 20) (60 * n + k) (B 20 (4800 + k)))
def lcN (A : Nat → Nat → Int32) (n : Nat) : Nat → Nat → Nat → Int32
  | 0 => A
  | k + 1 => lcS (lcN A n k) n k
termination_by k => k
theorem lcN_0 {A : Nat → Nat → Int32} {n : Nat} : lcN A n 0 = A := by rw [lcN]
theorem lcN_s {A : Nat → Nat → Int32} {n k : Nat} : lcN A n (k + 1) = lcS (lcN A n k) n k := by rw [lcN]
theorem lcN_off {A : Nat → Nat → Int32} {n j : Nat} (a : j ≠ 18) (b : j ≠ 19) (c : j ≠ 20) : ∀ k, lcN A n k j = A j
  | 0 => by rw [lcN_0]
  | k + 1 => by rw [lcN_s]; exact (show va_up (va_up (va_up _ 18 _) 19 _) 20 _ j = lcN A n k j by simp [va_up, a, b, c]).trans (lcN_off a b c k)
theorem lcN_at {A : Nat → Nat → Int32} {n : Nat} (hn : n < 80) : ∀ k, k ≤ 60 → (∀ i, ¬ (60 * n ≤ i ∧ i < 60 * n + k) → lcN A n k 18 i = A 18 i ∧ lcN A n k 19 i = A 19 i ∧ lcN A n k 20 i = A 20 i) ∧
    ∀ i, i < k → lcN A n k 18 (60 * n + i) = A 18 (4800 + i) ∧ lcN A n k 19 (60 * n + i) = A 19 (4800 + i) ∧ lcN A n k 20 (60 * n + i) = A 20 (4800 + i)
  | 0, _ => by rw [lcN_0]; exact ⟨fun i _ => ⟨rfl, rfl, rfl⟩, fun i hi => absurd hi (Nat.not_lt_zero i)⟩
  | k + 1, hk => by
    obtain ⟨h1, h2⟩ := lcN_at (A := A) hn k (by omega)
    rw [lcN_s]
    have g := h1 (4800 + k) (by omega)
    refine ⟨fun i hi => ?_, fun i hi => ?_⟩
    · have hne : i ≠ 60 * n + k := by omega
      have := h1 i (by omega)
      exact ⟨(pk_un hne).trans this.1, (pk_un hne).trans this.2.1, (pk_un hne).trans this.2.2⟩
    · by_cases hz : i = k
      · subst hz; exact ⟨pk_us.trans g.1, pk_us.trans g.2.1, pk_us.trans g.2.2⟩
      · have hne : 60 * n + i ≠ 60 * n + k := by omega
        have := h2 i (by omega)
        exact ⟨(pk_un hne).trans this.1, (pk_un hne).trans this.2.1, (pk_un hne).trans this.2.2⟩
/-- the new letter's points find their causes -/
abbrev lpS (I : Nat → Int32) (n p : Nat) (B : Nat → Nat → Int32) : Nat → Nat → Int32 :=
  ptA (va_up B 24 (upd (B 24) (6 * n + p) (-1))) n p (srC I (va_up B 24 (upd (B 24) (6 * n + p) (-1))) n p)
def lpN (I : Nat → Int32) (n : Nat) (A : Nat → Nat → Int32) : Nat → Nat → Nat → Int32
  | 0 => A
  | p + 1 => lpS I n p (lpN I n A p)
termination_by p => p
theorem lpN_0 {I : Nat → Int32} {A : Nat → Nat → Int32} {n : Nat} : lpN I n A 0 = A := by rw [lpN]
theorem lpN_s {I : Nat → Int32} {A : Nat → Nat → Int32} {n p : Nat} : lpN I n A (p + 1) = lpS I n p (lpN I n A p) := by rw [lpN]
theorem lpN_off {I : Nat → Int32} {A : Nat → Nat → Int32} {n j : Nat} (a : j ≠ 22) (b : j ≠ 23) (c : j ≠ 24) : ∀ k, lpN I n A k j = A j
  | 0 => by rw [lpN_0]
  | k + 1 => by rw [lpN_s]; exact (show va_up (va_up (va_up _ 24 _) 22 _) 23 _ j = lpN I n A k j by simp [va_up, a, b, c]).trans (lpN_off a b c k)
theorem i4h (a k : Nat) : (400 : Int32) * nI a + nI k = nI (400 * a + k) := by
  rw [show (400 : Int32) * nI a = nI (400 * a) from pk_mul 400 a]; exact nI_add _ _
theorem lp_X7_letter_152 {E : gE} (X : Gc G E "ComplaintDeskModel" cX7_letter 5 10 0 0) {Q : State → Prop} (D : md ix m ad) (yb ok : Int32) (n N : Nat) (hn : n < 80) (hN : I 30 = nI N) (hN4 : N ≤ 400) (K : GW G E Q 5 187 [(0, .ref m), (1, .int yb), (2, .int ok), (3, .int (nI n))] [] (mH G ix ad I (va_up Ar 17 (cpN (Ar 17) (Ar 27) (400 * n) 0 N)) h0) 0 0) : ∀ (f : Nat) (k : Nat), k ≤ N → N - k < f → GW G E Q 5 152 [(0, .ref m), (1, .int yb), (2, .int ok), (3, .int (nI n)), (4, .int (nI k))] [] (mH G ix ad I (va_up Ar 17 (cpN (Ar 17) (Ar 27) (400 * n) 0 k)) h0) 0 0 := by
  intro f
  induction f with
  | zero => intro k hk hf; exact absurd hf (Nat.not_lt_zero _)
  | succ f ih =>
    intro k hk hf
    refine g_iload X dX7_letter_152 4 rfl ?_
    refine g_aload_n X dX7_letter_154 0 rfl ?_
    refine g_getfield X fl_X7_111 dX7_letter_155 (mLm D) rfl ?_
    refine g_eqi (y := nI N) (hN) ?_
    refine g_icmp_ge X 187 dX7_letter_158 (by decide) (fun c_158 => ?_) (fun c_158 => ?_)
    · have hqe : k = N := by have := (nI_leI (by omega) (by omega)).mp c_158; omega
      subst hqe
      refine g_L [0, 1, 2, 3] (L' := [(0, _), (1, _), (2, _), (3, _)]) rfl ?_
      exact K
    · have hqe : k < N := (nI_ltI (by omega) (by omega)).mp (Int32.not_le.mp c_158)
      refine g_aload_n X dX7_letter_161 0 rfl ?_
      refine g_getfield X fl_X7_54 dX7_letter_162 (mLm D) rfl ?_
      refine g_sipush X (v := 400) dX7_letter_165 ks_400 ?_
      refine g_iload_n X dX7_letter_168 3 rfl ?_
      refine g_imul X dX7_letter_169 ?_
      refine g_iload X dX7_letter_170 4 rfl ?_
      refine g_iadd X dX7_letter_172 ?_
      refine g_eqi (y := nI (400 * n + k)) (i4h n k) ?_
      refine g_aload_n X dX7_letter_173 0 rfl ?_
      refine g_getfield X fl_X7_78 dX7_letter_174 (mLm D) rfl ?_
      refine g_iload X dX7_letter_177 4 rfl ?_
      refine g_baload X dX7_letter_179 (mLa D 27 rfl) (vp_in_nI (by omega) (by decide)) ?_
      refine g_eqi (y := Ar 27 (0 + k)) (by rw [nI_clamp (by omega), Nat.zero_add]; rfl) ?_
      refine g_bastore X dX7_letter_180 (mLa D 17 rfl) (vp_in_nI (by omega) (by decide)) (g_h (mUa D 17 rfl _) ?_)
      refine g_iinc X (v := nI (k + 1)) dX7_letter_181 4 rfl (nI_1 k) (Nat.le_of_ble_eq_true rfl) [(4, _), (0, _), (1, _), (2, _), (3, _)] rfl ?_
      refine g_goto X 152 dX7_letter_184 (by decide) ?_
      refine g_L [1, 2, 3, 4, 0] (L' := [(0, _), (1, _), (2, _), (3, _), (4, _)]) rfl ?_
      refine g_h (h' := mH G ix ad I (va_up Ar 17 (cpN (Ar 17) (Ar 27) (400 * n) 0 (k + 1))) h0) (by rw [nI_clamp (by omega), bx_uu, cpN_s]; rfl) ?_
      exact ih (k + 1) (by omega) (by omega)
theorem lp_X7_letter_190 {E : gE} (X : Gc G E "ComplaintDeskModel" cX7_letter 5 10 0 0) {Q : State → Prop} (D : md ix m ad) (yb ok : Int32) (n W : Nat) (hn : n < 80) (hW : Ar 16 n = nI W) (hW6 : W ≤ 60) (K : GW G E Q 5 276 [(0, .ref m), (1, .int yb), (2, .int ok), (3, .int (nI n))] [] (mH G ix ad I (lcN Ar n W) h0) 0 0) : ∀ (f : Nat) (k : Nat), k ≤ W → W - k < f → GW G E Q 5 190 [(0, .ref m), (1, .int yb), (2, .int ok), (3, .int (nI n)), (4, .int (nI k))] [] (mH G ix ad I (lcN Ar n k) h0) 0 0 := by
  intro f
  induction f with
  | zero => intro k hk hf; exact absurd hf (Nat.not_lt_zero _)
  | succ f ih =>
    intro k hk hf
    have e16 : lcN Ar n k 16 = Ar 16 := lcN_off (by decide) (by decide) (by decide) k
    refine g_iload X dX7_letter_190 4 rfl ?_
    refine g_aload_n X dX7_letter_192 0 rfl ?_
    refine g_getfield X fl_X7_51 dX7_letter_193 (mLm D) rfl ?_
    refine g_iload_n X dX7_letter_196 3 rfl ?_
    refine g_iaload X dX7_letter_197 (mLa D 16 rfl) (vp_in_nI (by omega) (by decide)) ?_
    refine g_eqi (y := nI W) (by rw [nI_clamp (by omega), e16]; exact hW) ?_
    refine g_icmp_ge X 276 dX7_letter_198 (by decide) (fun c_198 => ?_) (fun c_198 => ?_)
    · have hqe : k = W := by have := (nI_leI (by omega) (by omega)).mp c_198; omega
      subst hqe
      refine g_L [0, 1, 2, 3] (L' := [(0, _), (1, _), (2, _), (3, _)]) rfl ?_
      exact K
    · have hqe : k < W := (nI_ltI (by omega) (by omega)).mp (Int32.not_le.mp c_198)
      refine g_aload_n X dX7_letter_201 0 rfl ?_
      refine g_getfield X fl_X7_57 dX7_letter_202 (mLm D) rfl ?_
      refine g_bipush X (v := 60) dX7_letter_205 kb_60 ?_
      refine g_iload_n X dX7_letter_207 3 rfl ?_
      refine g_imul X dX7_letter_208 ?_
      refine g_iload X dX7_letter_209 4 rfl ?_
      refine g_iadd X dX7_letter_211 ?_
      refine g_eqi (y := nI (60 * n + k)) (ix60 n k) ?_
      refine g_aload_n X dX7_letter_212 0 rfl ?_
      refine g_getfield X fl_X7_57 dX7_letter_213 (mLm D) rfl ?_
      refine g_sipush X (v := 4800) dX7_letter_216 ks_4800 ?_
      refine g_iload X dX7_letter_219 4 rfl ?_
      refine g_iadd X dX7_letter_221 ?_
      refine g_eqi (y := nI (4800 + k)) (i4800 k) ?_
      refine g_iaload X dX7_letter_222 (mLa D 18 rfl) (vp_in_nI (by omega) (by decide)) ?_
      refine g_eqi (y := lcN Ar n k 18 (4800 + k)) (by rw [nI_clamp (by omega)]) ?_
      refine g_iastore X dX7_letter_223 (mLa D 18 rfl) (vp_in_nI (by omega) (by decide)) (g_h (mUa D 18 rfl _) ?_)
      refine g_aload_n X dX7_letter_224 0 rfl ?_
      refine g_getfield X fl_X7_60 dX7_letter_225 (mLm D) rfl ?_
      refine g_bipush X (v := 60) dX7_letter_228 kb_60 ?_
      refine g_iload_n X dX7_letter_230 3 rfl ?_
      refine g_imul X dX7_letter_231 ?_
      refine g_iload X dX7_letter_232 4 rfl ?_
      refine g_iadd X dX7_letter_234 ?_
      refine g_eqi (y := nI (60 * n + k)) (ix60 n k) ?_
      refine g_aload_n X dX7_letter_235 0 rfl ?_
      refine g_getfield X fl_X7_60 dX7_letter_236 (mLm D) rfl ?_
      refine g_sipush X (v := 4800) dX7_letter_239 ks_4800 ?_
      refine g_iload X dX7_letter_242 4 rfl ?_
      refine g_iadd X dX7_letter_244 ?_
      refine g_eqi (y := nI (4800 + k)) (i4800 k) ?_
      refine g_iaload X dX7_letter_245 (mLa D 19 rfl) (vp_in_nI (by omega) (by decide)) ?_
      refine g_eqi (y := lcN Ar n k 19 (4800 + k)) (by rw [nI_clamp (show 4800 + k < 2 ^ 31 by omega)]; rfl) ?_
      refine g_iastore X dX7_letter_246 (mLa D 19 rfl) (vp_in_nI (by omega) (by decide)) (g_h (mUa D 19 rfl _) ?_)
      refine g_aload_n X dX7_letter_247 0 rfl ?_
      refine g_getfield X fl_X7_63 dX7_letter_248 (mLm D) rfl ?_
      refine g_bipush X (v := 60) dX7_letter_251 kb_60 ?_
      refine g_iload_n X dX7_letter_253 3 rfl ?_
      refine g_imul X dX7_letter_254 ?_
      refine g_iload X dX7_letter_255 4 rfl ?_
      refine g_iadd X dX7_letter_257 ?_
      refine g_eqi (y := nI (60 * n + k)) (ix60 n k) ?_
      refine g_aload_n X dX7_letter_258 0 rfl ?_
      refine g_getfield X fl_X7_63 dX7_letter_259 (mLm D) rfl ?_
      refine g_sipush X (v := 4800) dX7_letter_262 ks_4800 ?_
      refine g_iload X dX7_letter_265 4 rfl ?_
      refine g_iadd X dX7_letter_267 ?_
      refine g_eqi (y := nI (4800 + k)) (i4800 k) ?_
      refine g_iaload X dX7_letter_268 (mLa D 20 rfl) (vp_in_nI (by omega) (by decide)) ?_
      refine g_eqi (y := lcN Ar n k 20 (4800 + k)) (by rw [nI_clamp (show 4800 + k < 2 ^ 31 by omega)]; rfl) ?_
      refine g_iastore X dX7_letter_269 (mLa D 20 rfl) (vp_in_nI (by omega) (by decide)) (g_h (mUa D 20 rfl _) ?_)
      refine g_iinc X (v := nI (k + 1)) dX7_letter_270 4 rfl (nI_1 k) (Nat.le_of_ble_eq_true rfl) [(4, _), (0, _), (1, _), (2, _), (3, _)] rfl ?_
      refine g_goto X 190 dX7_letter_273 (by decide) ?_
      refine g_L [1, 2, 3, 4, 0] (L' := [(0, _), (1, _), (2, _), (3, _), (4, _)]) rfl ?_
      refine g_h (h' := mH G ix ad I (lcN Ar n (k + 1)) h0) (by simp only [nI_clamp (show 60 * n + k < 2 ^ 31 by omega)]; rw [lcN_s]; rfl) ?_
      exact ih (k + 1) (by omega) (by omega)
theorem lp_X7_letter_279 {E : gE} (X : Gc G E "ComplaintDeskModel" cX7_letter 5 10 0 0) {Q : State → Prop} (D : md ix m ad) (yb ok : Int32) (n W : Nat) (hn : n < 80) (hW : Ar 15 n = nI W) (hW6 : W ≤ 6) (hI : okN (I 11) 12) (hP : PV Ar) (hL : LV Ar n) (hA : abvP I Ar) (K : GW G E Q 5 323 [(0, .ref m), (1, .int yb), (2, .int ok), (3, .int (nI n))] [] (mH G ix ad I (lpN I n Ar W) h0) 0 0) : ∀ (f : Nat) (p : Nat), p ≤ W → W - p < f → GW G E Q 5 279 [(0, .ref m), (1, .int yb), (2, .int ok), (3, .int (nI n)), (4, .int (nI p))] [] (mH G ix ad I (lpN I n Ar p) h0) 0 0 := by
  intro f
  induction f with
  | zero => intro p hp hf; exact absurd hf (Nat.not_lt_zero _)
  | succ f ih =>
    intro p hp hf
    generalize hB : lpN I n Ar p = B
    have hoff : ∀ j, j ≠ 22 → j ≠ 23 → j ≠ 24 → B j = Ar j := fun j h1 h2 h3 => by rw [← hB]; exact lpN_off h1 h2 h3 p
    have e15 := hoff 15 (by decide) (by decide) (by decide)
    have hPB : PV (va_up B 24 (upd (B 24) (6 * n + p) (-1))) := hP.cg (hoff 8 (by decide) (by decide) (by decide)) (hoff 6 (by decide) (by decide) (by decide))
    have hLB : LV (va_up B 24 (upd (B 24) (6 * n + p) (-1))) n := hL.cg (hoff 16 (by decide) (by decide) (by decide)) (hoff 18 (by decide) (by decide) (by decide)) (hoff 19 (by decide) (by decide) (by decide))
    have hAB : abvP I (va_up B 24 (upd (B 24) (6 * n + p) (-1))) := hA.cg (hoff 2 (by decide) (by decide) (by decide))
    have hIl := hI.le
    have hs12 : srC I (va_up B 24 (upd (B 24) (6 * n + p) (-1))) n p < 12 := by rw [i32_lt]; exact (srF_lt hIl 13 (-1) (by decide)).2
    refine g_iload X dX7_letter_279 4 rfl ?_
    refine g_aload_n X dX7_letter_281 0 rfl ?_
    refine g_getfield X fl_X7_48 dX7_letter_282 (mLm D) rfl ?_
    refine g_iload_n X dX7_letter_285 3 rfl ?_
    refine g_iaload X dX7_letter_286 (mLa D 15 rfl) (vp_in_nI (by omega) (by decide)) ?_
    refine g_eqi (y := nI W) (by rw [nI_clamp (by omega), e15]; exact hW) ?_
    refine g_icmp_ge X 323 dX7_letter_287 (by decide) (fun c_287 => ?_) (fun c_287 => ?_)
    · have hqe : p = W := by have := (nI_leI (by omega) (by omega)).mp c_287; omega
      subst hqe
      subst hB
      refine g_L [0, 1, 2, 3] (L' := [(0, _), (1, _), (2, _), (3, _)]) rfl ?_
      exact K
    · have hqe : p < W := (nI_ltI (by omega) (by omega)).mp (Int32.not_le.mp c_287)
      refine g_aload_n X dX7_letter_290 0 rfl ?_
      refine g_getfield X fl_X7_72 dX7_letter_291 (mLm D) rfl ?_
      refine g_bipush X (v := 6) dX7_letter_294 kb_6 ?_
      refine g_iload_n X dX7_letter_296 3 rfl ?_
      refine g_imul X dX7_letter_297 ?_
      refine g_iload X dX7_letter_298 4 rfl ?_
      refine g_iadd X dX7_letter_300 ?_
      refine g_eqi (y := nI (6 * n + p)) (ix6 n p) ?_
      refine g_iconst X (v := (-1)) dX7_letter_301 ki_m1 ?_
      refine g_iastore X dX7_letter_302 (mLa D 24 rfl) (vp_in_nI (by omega) (by decide)) (g_h (mUa D 24 rfl _) ?_)
      refine g_h (h' := mH G ix ad I (va_up B 24 (upd (B 24) (6 * n + p) (-1))) h0) (by rw [nI_clamp (by omega)]) ?_
      refine g_aload_n X dX7_letter_303 0 rfl ?_
      refine g_iload_n X dX7_letter_304 3 rfl ?_
      refine g_iload X dX7_letter_305 4 rfl ?_
      refine g_aload_n X dX7_letter_307 0 rfl ?_
      refine g_iload_n X dX7_letter_308 3 rfl ?_
      refine g_iload X dX7_letter_309 4 rfl ?_
      refine g_cV X ml_X7_190 (c_X7_sorted (Ar := va_up B 24 (upd (B 24) (6 * n + p) (-1))) D n p (by omega) hI hPB hLB hAB) ⟨7, _, mLm D, rfl⟩ (Nat.le_of_ble_eq_true rfl) rfl rfl (Nat.le_of_ble_eq_true rfl) (Nat.zero_le _) (Nat.zero_le _) dX7_letter_311 ?_
      refine g_cV0 X ml_X7_194 (c_X7_puts (Ar := va_up B 24 (upd (B 24) (6 * n + p) (-1))) D n p _ hn (by omega) hs12) ⟨7, _, mLm D, rfl⟩ (Nat.le_of_ble_eq_true rfl) rfl rfl (Nat.le_of_ble_eq_true rfl) (Nat.zero_le _) (Nat.zero_le _) dX7_letter_314 ?_
      refine g_iinc X (v := nI (p + 1)) dX7_letter_317 4 rfl (nI_1 p) (Nat.le_of_ble_eq_true rfl) [(4, _), (0, _), (1, _), (2, _), (3, _)] rfl ?_
      refine g_goto X 279 dX7_letter_320 (by decide) ?_
      refine g_L [1, 2, 3, 4, 0] (L' := [(0, _), (1, _), (2, _), (3, _), (4, _)]) rfl ?_
      refine g_h (h' := mH G ix ad I (lpN I n Ar (p + 1)) h0) (by rw [lpN_s, hB]) ?_
      exact ih (p + 1) (by omega) (by omega)
theorem c_X7_letter_e1 (D : md ix m ad) (yb : Int32) (hd : ¬ inR yb 0 49) : Ct G l 10 0 0 M_X7_letter [.ref m, .int yb] (mH G ix ad I Ar h0) (rX (some (.int 0)) (mH G ix ad (va_up (usI I) 0 1) Ar h0)) := by
  refine Ct.of (by decide +kernel) (Nat.le_of_ble_eq_true rfl) (fun E hE X F => ?_)
  have X : Gc G E "ComplaintDeskModel" cX7_letter 5 10 0 0 := X
  show GW G E _ 5 0 [(0, _), (1, _)] [] _ 0 0
  refine g_aload_n X dX7_letter_0 0 rfl ?_
  refine g_cV0 X ml_X7_170 (c_X7_uses D) ⟨7, _, mLm D, rfl⟩ (Nat.le_of_ble_eq_true rfl) rfl rfl (Nat.le_of_ble_eq_true rfl) (Nat.zero_le _) (Nat.zero_le _) dX7_letter_1 ?_
  refine g_aload_n X dX7_letter_4 0 rfl ?_
  refine g_iload_n X dX7_letter_5 1 rfl ?_
  refine g_iconst X (v := 0) dX7_letter_6 ki_0 ?_
  refine g_bipush X (v := 49) dX7_letter_7 kb_49 ?_
  refine g_cS X ml_X7_97 (c_X7_in _ _ _) (Nat.le_of_ble_eq_true rfl) rfl rfl (Nat.le_of_ble_eq_true rfl) (Nat.zero_le _) (Nat.zero_le _) dX7_letter_9 ?_
  refine g_eqi (y := (0 : Int32)) (b2_f hd) ?_
  refine g_if_ne X 19 dX7_letter_12 (by decide) (fun c_12 => absurd rfl c_12) (fun c_12 => ?_)
  refine g_iconst X (v := 1) dX7_letter_15 ki_1 ?_
  refine g_goto X 20 dX7_letter_16 (by decide) ?_
  refine g_iconst X (v := 1) dX7_letter_20 ki_1 ?_
  refine g_cV X ml_X7_179 (c_X7_throwsIf1 D _) ⟨7, _, mLm D, rfl⟩ (Nat.le_of_ble_eq_true rfl) rfl rfl (Nat.le_of_ble_eq_true rfl) (Nat.zero_le _) (Nat.zero_le _) dX7_letter_21 ?_
  refine g_if_eq X 29 dX7_letter_24 (by decide) (fun c_24 => absurd c_24 (by decide)) (fun c_24 => ?_)
  refine g_iconst X (v := 0) dX7_letter_27 ki_0 ?_
  refine g_iret X F rfl rfl dX7_letter_28 (Nat.zero_le _) (Nat.zero_le _) ?_
  exact ⟨rfl, rfl⟩
/-- what letter puts down -/
abbrev leA (A : Nat → Nat → Int32) (n : Nat) (yb td : Int32) : Nat → Nat → Int32 := va_up (va_up (va_up (va_up A 13 (upd (A 13) n yb)) 14 (upd (A 14) n td)) 15 (upd (A 15) n (A 15 80))) 16 (upd (A 16) n (A 16 80))
abbrev ltA (A : Nat → Nat → Int32) (n N W : Nat) (yb td : Int32) : Nat → Nat → Int32 := lcN (va_up (leA A n yb td) 17 (cpN (leA A n yb td 17) (leA A n yb td 27) (400 * n) 0 N)) n W
abbrev leQ (G : gG) (ix : Nat → Nat) (ad : Nat → Nat) (I : Nat → Int32) (Ar : Nat → Nat → Int32) (h0 : hW) (R : Option Nat × Nat × List lW) (n N : Nat) (yb : Int32) : Option Value → hW → Prop := fun v h' => ∃ (b' p' : Nat) (A' : Nat → Nat → Int32), AGl Ar A' ∧ (R.1 = none → rlW A' R.2.2 ∧ A' 15 80 = nI R.2.1 ∧ A' 16 80 = nI R.2.2.length) ∧
  ((¬ R.1 = none ∧ v = some (.int 0) ∧ h' = mH G ix ad (va_up (va_up (wI (usI I) b' p') 32 (enO R.1)) 0 1) A' h0) ∨
   (R.1 = none ∧ n = 80 ∧ v = some (.int 0) ∧ h' = mH G ix ad (va_up (va_up (wI (usI I) b' p') 32 (-1)) 0 2) A' h0) ∨
   (R.1 = none ∧ n < 80 ∧ v = some (.int (nI n)) ∧ h' = mH G ix ad (va_up (va_up (wI (usI I) b' p') 32 (-1)) 21 (nI (n + 1))) (lpN (va_up (va_up (wI (usI I) b' p') 32 (-1)) 21 (nI (n + 1))) n (ltA A' n N R.2.2.length yb (I 1)) R.2.1) h0))
theorem leA_LV {A : Nat → Nat → Int32} {n N : Nat} {yb td : Int32} {L : List lW} (hn : n < 80) (h16 : A 16 80 = nI L.length) (hl : L.length ≤ 60) (hr : rlW A L) (hN : N ≤ 400) (hw : ∀ w ∈ L, w.1 ≤ w.2.1 ∧ w.2.1 ≤ N) : LV (ltA A n N L.length yb td) n := by
  have e16 : ltA A n N L.length yb td 16 n = nI L.length := by
    have : ltA A n N L.length yb td 16 = upd (A 16) n (A 16 80) := lcN_off (by decide) (by decide) (by decide) _
    rw [this, pk_us, h16]
  obtain ⟨-, hat⟩ := lcN_at (A := va_up (leA A n yb td) 17 (cpN (leA A n yb td 17) (leA A n yb td 27) (400 * n) 0 N)) hn L.length hl
  refine ⟨by rw [e16]; exact ⟨_, hl, rfl⟩, fun w hw2 => ?_⟩
  rw [e16, show cl (nI L.length) = L.length from nI_clamp (by omega)] at hw2
  obtain ⟨g1, g2, -⟩ := hat w hw2
  obtain ⟨q1, q2, -⟩ := hr w _ (List.getElem?_eq_getElem hw2)
  have q3 := hw _ (List.getElem_mem hw2)
  exact ⟨_, _, g1.trans q1, g2.trans q2, q3.1, by omega⟩
theorem c_X7_letter (D : md ix m ad) (yb : Int32) (hd : inR yb 0 49) (N b0 n : Nat) (hN : I 28 = nI N) (hN4 : N ≤ 400) (hb0 : I 31 = nI b0) (hn80 : n ≤ 80) (hNL : I 21 = nI n) (hI : okN (I 11) 12) (hP : PV Ar) (hA : abvP I Ar)  : Ct G l 10 0 0 M_X7_letter [.ref m, .int yb] (mH G ix ad I Ar h0) (leQ G ix ad I Ar h0 (lR Ar N) n N yb) := by
  refine Ct.of (by decide +kernel) (Nat.le_of_ble_eq_true rfl) (fun E hE X F => ?_)
  have X : Gc G E "ComplaintDeskModel" cX7_letter 5 10 0 0 := X
  show GW G E _ 5 0 [(0, _), (1, _)] [] _ 0 0
  refine g_aload_n X dX7_letter_0 0 rfl ?_
  refine g_cV0 X ml_X7_170 (c_X7_uses D) ⟨7, _, mLm D, rfl⟩ (Nat.le_of_ble_eq_true rfl) rfl rfl (Nat.le_of_ble_eq_true rfl) (Nat.zero_le _) (Nat.zero_le _) dX7_letter_1 ?_
  refine g_aload_n X dX7_letter_4 0 rfl ?_
  refine g_iload_n X dX7_letter_5 1 rfl ?_
  refine g_iconst X (v := 0) dX7_letter_6 ki_0 ?_
  refine g_bipush X (v := 49) dX7_letter_7 kb_49 ?_
  refine g_cS X ml_X7_97 (c_X7_in _ _ _) (Nat.le_of_ble_eq_true rfl) rfl rfl (Nat.le_of_ble_eq_true rfl) (Nat.zero_le _) (Nat.zero_le _) dX7_letter_9 ?_
  refine g_eqi (y := (1 : Int32)) (b2_t hd) ?_
  refine g_if_ne X 19 dX7_letter_12 (by decide) (fun c_12 => ?_) (fun c_12 => absurd c_12 (by decide))
  refine g_iconst X (v := 0) dX7_letter_19 ki_0 ?_
  refine g_iconst X (v := 1) dX7_letter_20 ki_1 ?_
  refine g_cV X ml_X7_179 (c_X7_throwsIf0 D _) ⟨7, _, mLm D, rfl⟩ (Nat.le_of_ble_eq_true rfl) rfl rfl (Nat.le_of_ble_eq_true rfl) (Nat.zero_le _) (Nat.zero_le _) dX7_letter_21 ?_
  refine g_if_eq X 29 dX7_letter_24 (by decide) (fun c_24 => ?_) (fun c_24 => absurd rfl c_24)
  refine g_aload_n X dX7_letter_29 0 rfl ?_
  refine g_cVx X ml_X7_198 (c_X7_readLetter (I := usI I) D N 0 b0 hN hN4 rfl hb0 (Nat.zero_le _)) ⟨7, _, mLm D, rfl⟩ (Nat.le_of_ble_eq_true rfl) rfl rfl (Nat.le_of_ble_eq_true rfl) (Nat.zero_le _) (Nat.zero_le _) dX7_letter_30 ?_
  rintro v h1 ⟨b1, p1, A1, rfl, hag, rfl, hbad, hok⟩
  refine g_st (st' := [.int (b2 ((lR Ar N).1 = none))]) rfl ?_
  refine g_istore_n X dX7_letter_33 (Nat.le_of_ble_eq_true rfl) [(2, _), (0, _), (1, _)] rfl ?_
  refine g_aload_n X dX7_letter_34 1 rfl ?_
  refine g_iload_n X dX7_letter_35 0 rfl ?_
  refine g_if_eq X 43 dX7_letter_36 (by decide) (fun c_36 => ?_) (fun c_36 => ?_)
  · have hR0 : ¬ (lR Ar N).1 = none := b2_0.mp (by first | exact c_36 | exact Decidable.not_not.mp c_36)
    obtain ⟨zz, hzz⟩ : ∃ z, (lR Ar N).1 = some z := by cases hq : (lR Ar N).1 with | none => exact absurd hq hR0 | some z => exact ⟨z, rfl⟩
    have hbz : b1 = zz := hbad zz hzz
    have hen : nI b1 = enO (lR Ar N).1 := by rw [hbz, hzz]; rfl
    refine g_aload_n X dX7_letter_43 1 rfl ?_
    refine g_getfield X fl_X7_121 dX7_letter_44 (mLm D) rfl ?_
    refine g_eqi (y := nI b1) (rfl) ?_
    refine m_put X D 32 (by decide) fp_X7_81 dX7_letter_47 (mset_32 _ _ _) ?_
    refine g_aload_n X dX7_letter_50 1 rfl ?_
    refine g_iload_n X dX7_letter_51 0 rfl ?_
    refine g_if_ne X 59 dX7_letter_52 (by decide) (fun c_52 => absurd c_36 c_52) (fun c_52 => ?_)
    refine g_iconst X (v := 1) dX7_letter_55 ki_1 ?_
    refine g_goto X 60 dX7_letter_56 (by decide) ?_
    refine g_iconst X (v := 1) dX7_letter_60 ki_1 ?_
    refine g_cV X ml_X7_179 (c_X7_throwsIf1 D _) ⟨7, _, mLm D, rfl⟩ (Nat.le_of_ble_eq_true rfl) rfl rfl (Nat.le_of_ble_eq_true rfl) (Nat.zero_le _) (Nat.zero_le _) dX7_letter_61 ?_
    refine g_if_ne X 89 dX7_letter_64 (by decide) (fun c_64 => ?_) (fun c_64 => absurd c_64 (by decide))
    refine g_iconst X (v := 0) dX7_letter_89 ki_0 ?_
    refine g_iret X F rfl rfl dX7_letter_90 (Nat.zero_le _) (Nat.zero_le _) ?_
    exact ⟨b1, p1, A1, hag, hok, Or.inl ⟨hR0, rfl, by rw [hen]⟩⟩
  · have hR : (lR Ar N).1 = none := Decidable.not_not.mp (fun q => c_36 (b2_0.mpr q))
    refine g_iconst X (v := (-1)) dX7_letter_39 ki_m1 ?_
    refine g_goto X 47 dX7_letter_40 (by decide) ?_
    refine m_put X D 32 (by decide) fp_X7_81 dX7_letter_47 (mset_32 _ _ _) ?_
    refine g_aload_n X dX7_letter_50 1 rfl ?_
    refine g_iload_n X dX7_letter_51 0 rfl ?_
    refine g_if_ne X 59 dX7_letter_52 (by decide) (fun c_52 => ?_) (fun c_52 => absurd c_52 c_36)
    refine g_iconst X (v := 0) dX7_letter_59 ki_0 ?_
    refine g_iconst X (v := 1) dX7_letter_60 ki_1 ?_
    refine g_cV X ml_X7_179 (c_X7_throwsIf0 D _) ⟨7, _, mLm D, rfl⟩ (Nat.le_of_ble_eq_true rfl) rfl rfl (Nat.le_of_ble_eq_true rfl) (Nat.zero_le _) (Nat.zero_le _) dX7_letter_61 ?_
    refine g_if_ne X 89 dX7_letter_64 (by decide) (fun c_64 => absurd rfl c_64) (fun c_64 => ?_)
    refine g_aload_n X dX7_letter_67 1 rfl ?_
    refine g_aload_n X dX7_letter_68 1 rfl ?_
    refine g_getfield X fl_X7_101 dX7_letter_69 (mLm D) rfl ?_
    refine g_eqi (y := nI n) (hNL) ?_
    refine g_bipush X (v := 80) dX7_letter_72 kb_80 ?_
    refine g_icmp_ne X 81 dX7_letter_74 (by decide) (fun c_74 => ?_) (fun c_74 => ?_)
    · have hlt1 : n < 80 := Nat.lt_of_le_of_ne hn80 (fun q => c_74 (by rw [q]; rfl))
      refine g_iconst X (v := 0) dX7_letter_81 ki_0 ?_
      refine g_iconst X (v := 2) dX7_letter_82 ki_2 ?_
      refine g_cV X ml_X7_179 (c_X7_throwsIf0 D _) ⟨7, _, mLm D, rfl⟩ (Nat.le_of_ble_eq_true rfl) rfl rfl (Nat.le_of_ble_eq_true rfl) (Nat.zero_le _) (Nat.zero_le _) dX7_letter_83 ?_
      refine g_if_eq X 91 dX7_letter_86 (by decide) (fun c_86 => ?_) (fun c_86 => absurd rfl c_86)
      refine g_aload_n X dX7_letter_91 1 rfl ?_
      refine g_getfield X fl_X7_101 dX7_letter_92 (mLm D) rfl ?_
      refine g_eqi (y := nI n) (hNL) ?_
      refine g_istore_n X dX7_letter_95 (Nat.le_of_ble_eq_true rfl) [(3, _), (2, _), (0, _), (1, _)] rfl ?_
      refine g_aload_n X dX7_letter_96 2 rfl ?_
      refine g_dup X dX7_letter_97 rfl ?_
      refine g_getfield X fl_X7_101 dX7_letter_98 (mLm D) rfl ?_
      refine g_eqi (y := nI n) (hNL) ?_
      refine g_iconst X (v := 1) dX7_letter_101 ki_1 ?_
      refine g_iadd X dX7_letter_102 ?_
      refine g_eqi (y := nI (n + 1)) (nI_1 n) ?_
      refine m_put X D 21 (by decide) fp_X7_101 dX7_letter_103 (mset_21 _ _ _) ?_
      refine g_aload_n X dX7_letter_106 2 rfl ?_
      refine g_getfield X fl_X7_42 dX7_letter_107 (mLm D) rfl ?_
      refine g_iload_n X dX7_letter_110 0 rfl ?_
      refine g_iload_n X dX7_letter_111 3 rfl ?_
      refine g_iastore X dX7_letter_112 (mLa D 13 rfl) (vp_in_nI (by omega) (by decide)) (g_h (mUa D 13 rfl _) ?_)
      refine g_aload_n X dX7_letter_113 2 rfl ?_
      refine g_getfield X fl_X7_45 dX7_letter_114 (mLm D) rfl ?_
      refine g_iload_n X dX7_letter_117 0 rfl ?_
      refine g_aload_n X dX7_letter_118 2 rfl ?_
      refine g_getfield X fl_X7_201 dX7_letter_119 (mLm D) rfl ?_
      refine g_eqi (y := I 1) (rfl) ?_
      refine g_iastore X dX7_letter_122 (mLa D 14 rfl) (vp_in_nI (by omega) (by decide)) (g_h (mUa D 14 rfl _) ?_)
      refine g_aload_n X dX7_letter_123 2 rfl ?_
      refine g_getfield X fl_X7_48 dX7_letter_124 (mLm D) rfl ?_
      refine g_iload_n X dX7_letter_127 0 rfl ?_
      refine g_aload_n X dX7_letter_128 2 rfl ?_
      refine g_getfield X fl_X7_48 dX7_letter_129 (mLm D) rfl ?_
      refine g_bipush X (v := 80) dX7_letter_132 kb_80 ?_
      refine g_iaload X dX7_letter_134 (mLa D 15 rfl) (by unfold vp_in; decide) ?_
      refine g_iastore X dX7_letter_135 (mLa D 15 rfl) (vp_in_nI (by omega) (by decide)) (g_h (mUa D 15 rfl _) ?_)
      refine g_aload_n X dX7_letter_136 2 rfl ?_
      refine g_getfield X fl_X7_51 dX7_letter_137 (mLm D) rfl ?_
      refine g_iload_n X dX7_letter_140 0 rfl ?_
      refine g_aload_n X dX7_letter_141 2 rfl ?_
      refine g_getfield X fl_X7_51 dX7_letter_142 (mLm D) rfl ?_
      refine g_bipush X (v := 80) dX7_letter_145 kb_80 ?_
      refine g_iaload X dX7_letter_147 (mLa D 16 rfl) (by unfold vp_in; decide) ?_
      refine g_iastore X dX7_letter_148 (mLa D 16 rfl) (vp_in_nI (by omega) (by decide)) (g_h (mUa D 16 rfl _) ?_)
      refine g_h (h' := mH G ix ad (va_up (va_up (wI (usI I) b1 p1) 32 (-1)) 21 (nI (n + 1))) (leA A1 n yb (I 1)) h0) (by simp only [nI_clamp (show n < 2 ^ 31 by omega)]; rfl) ?_
      refine g_iconst X (v := 0) dX7_letter_149 ki_0 ?_
      refine g_istore X dX7_letter_150 (Nat.le_of_ble_eq_true rfl) [(4, _), (3, _), (2, _), (0, _), (1, _)] rfl ?_
      refine g_L [3, 4, 2, 1, 0] (L' := [(0, _), (1, _), (2, _), (3, _), (4, _)]) rfl ?_
      obtain ⟨w1, w2, w3⟩ := lR_wf (Ar := Ar) (N := N)
      obtain ⟨k1, k2, k3⟩ := hok hR
      have e27 : A1 27 = Ar 27 := hag.1 27 (by decide) (by decide) (by decide) (by decide) (by decide)
      have o2 : ∀ j, j ≠ 13 → j ≠ 14 → j ≠ 15 → j ≠ 16 → j ≠ 17 → j ≠ 18 → j ≠ 19 → j ≠ 20 → ltA A1 n N (lR Ar N).2.2.length yb (I 1) j = Ar j := fun j a13 a14 a15 a16 a17 a18 a19 a20 => ((lcN_off a18 a19 a20 _).trans (by simp [va_up, a13, a14, a15, a16, a17])).trans (hag.1 j a15 a16 a18 a19 a20)
      refine g_h (h' := mH G ix ad (va_up (va_up (wI (usI I) b1 p1) 32 (-1)) 21 (nI (n + 1))) (va_up (leA A1 n yb (I 1)) 17 (cpN (leA A1 n yb (I 1) 17) (leA A1 n yb (I 1) 27) (400 * n) 0 0)) h0) (by rw [cpN_0]; congr 1; funext j; by_cases hj : j = 17; (subst hj; rfl); simp only [va_up, if_neg hj]) ?_
      refine lp_X7_letter_152 (I := (va_up (va_up (wI (usI I) b1 p1) 32 (-1)) 21 (nI (n + 1)))) (Ar := leA A1 n yb (I 1)) X D yb _ n N hlt1 hN hN4 ?_ _ 0 (Nat.zero_le _) (Nat.lt_succ_self _)
      refine g_iconst X (v := 0) dX7_letter_187 ki_0 ?_
      refine g_istore X dX7_letter_188 (Nat.le_of_ble_eq_true rfl) [(4, _), (0, _), (1, _), (2, _), (3, _)] rfl ?_
      refine g_L [1, 2, 3, 4, 0] (L' := [(0, _), (1, _), (2, _), (3, _), (4, _)]) rfl ?_
      refine g_h (h' := mH G ix ad (va_up (va_up (wI (usI I) b1 p1) 32 (-1)) 21 (nI (n + 1))) (lcN (va_up (leA A1 n yb (I 1)) 17 (cpN (leA A1 n yb (I 1) 17) (leA A1 n yb (I 1) 27) (400 * n) 0 N)) n 0) h0) (by rw [lcN_0]) ?_
      refine lp_X7_letter_190 (I := (va_up (va_up (wI (usI I) b1 p1) 32 (-1)) 21 (nI (n + 1)))) (Ar := va_up (leA A1 n yb (I 1)) 17 (cpN (leA A1 n yb (I 1) 17) (leA A1 n yb (I 1) 27) (400 * n) 0 N)) X D yb _ n (lR Ar N).2.2.length hlt1 (pk_us.trans k3) w2 ?_ _ 0 (Nat.zero_le _) (Nat.lt_succ_self _)
      refine g_iconst X (v := 0) dX7_letter_276 ki_0 ?_
      refine g_istore X dX7_letter_277 (Nat.le_of_ble_eq_true rfl) [(4, _), (0, _), (1, _), (2, _), (3, _)] rfl ?_
      refine g_L [1, 2, 3, 4, 0] (L' := [(0, _), (1, _), (2, _), (3, _), (4, _)]) rfl ?_
      refine g_h (h' := mH G ix ad (va_up (va_up (wI (usI I) b1 p1) 32 (-1)) 21 (nI (n + 1))) (lpN (va_up (va_up (wI (usI I) b1 p1) 32 (-1)) 21 (nI (n + 1))) n (ltA A1 n N (lR Ar N).2.2.length yb (I 1)) 0) h0) (by rw [lpN_0]) ?_
      refine lp_X7_letter_279 (I := (va_up (va_up (wI (usI I) b1 p1) 32 (-1)) 21 (nI (n + 1)))) (Ar := ltA A1 n N (lR Ar N).2.2.length yb (I 1)) X D yb _ n (lR Ar N).2.1 hlt1 ?_ w1 hI (hP.cg (o2 8 (by decide) (by decide) (by decide) (by decide) (by decide) (by decide) (by decide) (by decide)) (o2 6 (by decide) (by decide) (by decide) (by decide) (by decide) (by decide) (by decide) (by decide))) (leA_LV hlt1 k3 w2 k1 hN4 (fun w hw => ⟨(w3 w hw).1, (w3 w hw).2.1⟩)) (hA.cg (o2 2 (by decide) (by decide) (by decide) (by decide) (by decide) (by decide) (by decide) (by decide))) ?_ _ 0 (Nat.zero_le _) (Nat.lt_succ_self _)
      · have : ltA A1 n N (lR Ar N).2.2.length yb (I 1) 15 = upd (A1 15) n (A1 15 80) := lcN_off (by decide) (by decide) (by decide) _
        rw [this, pk_us, k2]
      refine g_iload_n X dX7_letter_323 3 rfl ?_
      refine g_iret X F rfl rfl dX7_letter_324 (Nat.zero_le _) (Nat.zero_le _) ?_
      exact ⟨b1, p1, A1, hag, hok, Or.inr (Or.inr ⟨hR, hlt1, rfl, rfl⟩)⟩
    · have hlt0 : n = 80 := (nI_eq (b := 80) (by omega) (by decide)).mp c_74
      refine g_iconst X (v := 1) dX7_letter_77 ki_1 ?_
      refine g_goto X 82 dX7_letter_78 (by decide) ?_
      refine g_iconst X (v := 2) dX7_letter_82 ki_2 ?_
      refine g_cV X ml_X7_179 (c_X7_throwsIf1 D _) ⟨7, _, mLm D, rfl⟩ (Nat.le_of_ble_eq_true rfl) rfl rfl (Nat.le_of_ble_eq_true rfl) (Nat.zero_le _) (Nat.zero_le _) dX7_letter_83 ?_
      refine g_if_eq X 91 dX7_letter_86 (by decide) (fun c_86 => absurd c_86 (by decide)) (fun c_86 => ?_)
      refine g_iconst X (v := 0) dX7_letter_89 ki_0 ?_
      refine g_iret X F rfl rfl dX7_letter_90 (Nat.zero_le _) (Nat.zero_le _) ?_
      exact ⟨b1, p1, A1, hag, hok, Or.inr (Or.inl ⟨hR, hlt0, rfl, rfl⟩)⟩
end M18
