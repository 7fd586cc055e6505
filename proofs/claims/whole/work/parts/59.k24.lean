section K24
variable {G : gG} {l : Launch} {h h0 : hW} {Z : kZ} {I : Nat → Int32} {Ar : Nat → Nat → Int32} {T : Nat → Int32} {A : Nat → Nat → Int32} {Lg : Nat → Nat → Int64}
/-- of the desk's own numbers only the reader's have changed -/
def kTf (T T' : Nat → Int32) : Prop := ∀ j, 6 ≤ j → T' j = T j
def kAf (A A' : Nat → Nat → Int32) : Prop := ∀ j, j ≠ 14 → A' j = A j
def kLf (Lg Lg' : Nat → Nat → Int64) : Prop := ∀ j, j ≠ 13 → Lg' j = Lg j
theorem kTf.up {T T' : Nat → Int32} (h : kTf T T') {k : Nat} {x : Int32} (hk : k < 6) : kTf T (va_up T' k x) := fun j hj => (va_up_ne _ _ (by omega)).trans (h j hj)
theorem kAf.up {A A' : Nat → Nat → Int32} (h : kAf A A') {x : Nat → Int32} : kAf A (va_up A' 14 x) := fun j hj => (va_up_ne _ _ hj).trans (h j hj)
theorem kLf.up {A A' : Nat → Nat → Int64} (h : kLf A A') {x : Nat → Int64} : kLf A (va_up A' 13 x) := fun j hj => (va_up_ne _ _ hj).trans (h j hj)
theorem bit_n : ∀ i : Nat, i < 13 → ((nI i &&& 31).toBitVec.smod 32).toNat = i ∧ (1 : Int32) <<< (nI i &&& 31) = nI (2 ^ i) := by decide +kernel
theorem bit_at {x i : Nat} (hx : x < 4096) (hi : i < 13) : (nI x >>> (nI i &&& 31)) &&& 1 = nI (x / 2 ^ i % 2) := by
  rw [pk_shrN (by omega) _ i (bit_n i hi).1, pk_andN (Nat.lt_of_le_of_lt (Nat.div_le_self _ _) (by omega)) 1 (by decide)]
/-- the words read so far stand in told -/
def kWs (B : Nat → Int32) (T : Nat → Int32) (A : Nat → Nat → Int32) (Lg : Nat → Nat → Int64) (Lw : List pW) : Prop :=
  T 3 = nI Lw.length ∧ (∀ (i : Nat) (w : pW), Lw[i]? = some w → Lg 13 i = cdW B w.1 w.2.1 ∧ (A 14 i = pvA (A 14) i ↔ w.2.2.2 = 0)) ∧
  ∃ x : Nat, T 5 = nI x ∧ x < 2 ^ Lw.length ∧ ∀ (i : Nat) (w : pW), Lw[i]? = some w → nI (x / 2 ^ i % 2) = w.2.2.1
def t5g (T : Nat → Int32) (n : Nat) (nt : Int32) : Nat → Int32 := if nt = 0 then T else va_up T 5 (T 5 ||| (1 : Int32) <<< (nI n &&& 31))
theorem c_X5_add (D : kW G Z) (nz : Nat) (hn : nz < 60) (h3 : T 3 = nI nz) (cw : Int64) (nt : Int32) (hnt : nt = 0 ∨ nt = 1) : Ct G l 0 0 0 M_X5_add [.ref (Z.da 3), .long cw, .int nt] (kH G Z I Ar T A Lg h0) (rX none (kH G Z I Ar (va_up (t5g T nz nt) 3 (nI (nz + 1))) (va_up A 14 (upd (A 14) nz (T 4 - 1))) (va_up Lg 13 (vp_updL (Lg 13) nz cw)) h0)) := by
  rcases hnt with rfl | rfl
  · exact c_X5_add_0 D nz hn h3 cw
  · exact c_X5_add_1 D nz hn h3 cw
theorem pw_add {x n : Nat} (hx : x < 2 ^ n) : x ||| 2 ^ n = 2 ^ n + x := by
  have := Nat.two_pow_add_eq_or_of_lt hx 1
  rw [Nat.mul_one] at this
  rw [Nat.or_comm]; exact this.symm
theorem kWs.cons {B : Nat → Int32} {Lw : List pW} (h : kWs B T A Lg Lw) (hl : Lw.length < 12) {b len : Nat} {nt oq v4 : Int32} {cw : Int64} (hnt : nt = 0 ∨ nt = 1) (hc : cw = cdW B b len) (ho : v4 = pvA (A 14) Lw.length ↔ oq = 0) :
    kWs B (va_up (t5g T Lw.length nt) 3 (nI (Lw.length + 1))) (va_up A 14 (upd (A 14) Lw.length v4)) (va_up Lg 13 (vp_updL (Lg 13) Lw.length cw)) (Lw ++ [(b, len, nt, oq)]) := by
  obtain ⟨h1, h2, x, h3, h4, h5⟩ := h
  have hpv : ∀ i, i ≤ Lw.length → pvA (upd (A 14) Lw.length v4) i = pvA (A 14) i := fun i hi => by
    cases i with
    | zero => rfl
    | succ i => exact pk_un (by omega)
  have get : ∀ (i : Nat) (w : pW), (Lw ++ [(b, len, nt, oq)])[i]? = some w → (i < Lw.length ∧ Lw[i]? = some w) ∨ (i = Lw.length ∧ w = (b, len, nt, oq)) := fun i w hi => by
    rcases Nat.lt_or_ge i Lw.length with q | q
    · rw [List.getElem?_append_left q] at hi; exact Or.inl ⟨q, hi⟩
    · rw [List.getElem?_append_right q] at hi
      cases hz : i - Lw.length with
      | zero => rw [hz] at hi; exact Or.inr ⟨by omega, (Option.some.inj hi).symm⟩
      | succ z => rw [hz] at hi; simp at hi
  refine ⟨by rw [va_up_self, List.length_append]; rfl, fun i w hi => ?_, ?_⟩
  · rw [va_up_self, va_up_self]
    rcases get i w hi with ⟨q, hw⟩ | ⟨rfl, rfl⟩
    · obtain ⟨z1, z2⟩ := h2 i w hw
      rw [pk_uLn (by omega), pk_un (by omega), hpv i (by omega)]
      exact ⟨z1, z2⟩
    · rw [pk_uLs, pk_us, hpv _ (Nat.le_refl _)]
      exact ⟨hc, ho⟩
  · have hp12 : 2 ^ Lw.length ≤ 2 ^ 11 := Nat.pow_le_pow_right (by decide) (by omega)
    have hx4 : x < 4096 := by omega
    have low : ∀ i, i < Lw.length → (2 ^ Lw.length + x) / 2 ^ i % 2 = x / 2 ^ i % 2 := fun i hi => by
      have e : 2 ^ Lw.length = 2 ^ i * (2 * 2 ^ (Lw.length - i - 1)) := by
        rw [← Nat.pow_succ', ← Nat.pow_add]; congr 1; omega
      rw [e, Nat.mul_add_div (Nat.two_pow_pos i), Nat.mul_add_mod]
    rcases hnt with rfl | rfl
    · refine ⟨x, h3, by rw [List.length_append]; exact Nat.lt_of_lt_of_le h4 (Nat.pow_le_pow_right (by decide) (by omega)), fun i w hi => ?_⟩
      rcases get i w hi with ⟨q, hw⟩ | ⟨rfl, rfl⟩
      · exact h5 i w hw
      · show nI (x / 2 ^ Lw.length % 2) = 0
        rw [Nat.div_eq_of_lt h4]; rfl
    · refine ⟨2 ^ Lw.length + x, ?_, ?_, fun i w hi => ?_⟩
      · show (va_up T 5 (T 5 ||| (1 : Int32) <<< (nI Lw.length &&& 31))) 5 = _
        rw [va_up_self, h3, (bit_n _ (by omega)).2, nI_or hx4 (by omega), pw_add h4]
      · rw [List.length_append]
        show _ < 2 ^ (Lw.length + 1)
        rw [Nat.pow_succ]; omega
      · rcases get i w hi with ⟨q, hw⟩ | ⟨rfl, rfl⟩
        · rw [low i q]; exact h5 i w hw
        · show nI ((2 ^ Lw.length + x) / 2 ^ Lw.length % 2) = 1
          rw [show (2 ^ Lw.length + x) / 2 ^ Lw.length = 1 by rw [Nat.add_div_left _ (Nat.two_pow_pos _), Nat.div_eq_of_lt h4]]
          rfl
theorem kWs.tt {B : Nat → Int32} {Lw : List pW} {T' : Nat → Int32} (h : kWs B T A Lg Lw) (h3 : T' 3 = T 3) (h5 : T' 5 = T 5) : kWs B T' A Lg Lw := by
  unfold kWs; rw [h3, h5]; exact h
/-- what holds between two things of a pattern's text -/
def fwI (B : Nat → Int32) (N e : Nat) (w bn oq : Int32) (pz : Nat) (Lw : List pW) (T T1 : Nat → Int32) (A A1 : Nat → Nat → Int32) (Lg Lg1 : Nat → Nat → Int64) : Prop :=
  (kTf T T1 ∧ kAf A A1 ∧ kLf Lg Lg1) ∧ (T1 0 = nI N ∧ T1 2 = nI e ∧ T1 4 = nI (pz + 1)) ∧ kWs B T1 A1 Lg1 Lw ∧ ((w = 0 ∨ w = 1) ∧ (bn = 0 ∨ bn = 1) ∧ (w = 0 → bn = 0 ∧ oq = 0) ∧ (nI pz = pvA (A1 14) Lw.length ↔ oq = 0)) ∧ Lw.length ≤ 12
theorem plain_i (x : Int64) : (¬ x = 0 ∧ ¬ x = 1476 ∧ ¬ x = 498 ∧ ¬ x = 14836) ∨ (x = 0 ∨ x = 1476 ∨ x = 498 ∨ x = 14836) := by
  by_cases a9 : x = 0
  · exact Or.inr (Or.inl a9)
  · by_cases b9 : x = 1476
    · exact Or.inr (Or.inr (Or.inl b9))
    · by_cases c9 : x = 498
      · exact Or.inr (Or.inr (Or.inr (Or.inl c9)))
      · by_cases e9 : x = 14836
        · exact Or.inr (Or.inr (Or.inr (Or.inr e9)))
        · exact Or.inl ⟨a9, b9, c9, e9⟩
abbrev plnP (x : Int64) : Prop := ¬ x = 0 ∧ ¬ x = 1476 ∧ ¬ x = 498 ∧ ¬ x = 14836
theorem sg0 {B : Nat → Int32} {N b : Nat} (hb : b ≤ N) : cdT B N b = 1476 ↔ isW B b (fin B N b) 0 := by rw [← sgC_v.1]; exact cdT_sg hb (by decide)
theorem sg1 {B : Nat → Int32} {N b : Nat} (hb : b ≤ N) : cdT B N b = 498 ↔ isW B b (fin B N b) 1 := by rw [← sgC_v.2.1]; exact cdT_sg hb (by decide)
theorem sg2 {B : Nat → Int32} {N b : Nat} (hb : b ≤ N) : cdT B N b = 14836 ↔ isW B b (fin B N b) 2 := by rw [← sgC_v.2.2]; exact cdT_sg hb (by decide)
theorem bad_p {B : Nat → Int32} {N b n : Nat} (hb : b ≤ N) : badW B b (fin B N b) n ↔ (¬ plnP (cdT B N b) ∨ n = 12) := by
  unfold badW sgnP plnP
  rw [sg0 hb, sg1 hb, sg2 hb, cdT_0 hb]
  constructor
  · rintro (q | (q | q | q) | q | q)
    · exact Or.inl (fun z => z.1 (Or.inl q))
    · exact Or.inl (fun z => z.2.1 q)
    · exact Or.inl (fun z => z.2.2.1 q)
    · exact Or.inl (fun z => z.2.2.2 q)
    · exact Or.inr q
    · exact Or.inl (fun z => z.1 (Or.inr q))
  · rintro (q | q)
    · by_cases z1 : fin B N b = b ∨ 12 < fin B N b - b
      · exact z1.elim Or.inl (fun z => Or.inr (Or.inr (Or.inr z)))
      · by_cases z2 : isW B b (fin B N b) 0
        · exact Or.inr (Or.inl (Or.inl z2))
        · by_cases z3 : isW B b (fin B N b) 1
          · exact Or.inr (Or.inl (Or.inr (Or.inl z3)))
          · by_cases z4 : isW B b (fin B N b) 2
            · exact Or.inr (Or.inl (Or.inr (Or.inr z4)))
            · exact absurd ⟨z1, z2, z3, z4⟩ q
    · exact Or.inr (Or.inr (Or.inl q))
theorem c_X2_isPlainWord (x : Int64)  : Ct G l 0 0 0 M_X2_isPlainWord [.long x] h (rX (some (.int (b2 (plnP x)))) h) := by
  refine Ct.of (by decide +kernel) (Nat.le_of_ble_eq_true rfl) (fun E hE X F => ?_)
  have X : Gc G E "ComplaintDesk$Pattern" cX2_isPlainWord 2 0 0 0 := X
  show GW G E _ 2 0 [(0, _)] [] _ 0 0
  refine g_lload_n X dX2_isPlainWord_0 0 rfl ?_
  refine g_lconst X (v := 0) dX2_isPlainWord_1 rfl ?_
  refine g_lcmp X dX2_isPlainWord_2 ?_
  refine g_if_eq X 34 dX2_isPlainWord_3 (by decide) (fun c_3 => ?_) (fun c_3 => ?_)
  · refine g_iconst X (v := 0) dX2_isPlainWord_34 ki_0 ?_
    refine g_iret X F rfl rfl dX2_isPlainWord_35 (Nat.zero_le _) (Nat.zero_le _) ?_
    exact ⟨by rw [b2_f (fun q => q.1 ((lg_cmp_eq _ _).mp c_3))], rfl⟩
  · refine g_lload_n X dX2_isPlainWord_6 0 rfl ?_
    refine g_ldc2 X dX2_isPlainWord_7 con_X2_58 ?_
    refine g_lcmp X dX2_isPlainWord_10 ?_
    refine g_if_eq X 34 dX2_isPlainWord_11 (by decide) (fun c_11 => ?_) (fun c_11 => ?_)
    · refine g_iconst X (v := 0) dX2_isPlainWord_34 ki_0 ?_
      refine g_iret X F rfl rfl dX2_isPlainWord_35 (Nat.zero_le _) (Nat.zero_le _) ?_
      exact ⟨by rw [b2_f (fun q => q.2.1 ((lg_cmp_eq _ _).mp c_11))], rfl⟩
    · refine g_lload_n X dX2_isPlainWord_14 0 rfl ?_
      refine g_ldc2 X dX2_isPlainWord_15 con_X2_60 ?_
      refine g_lcmp X dX2_isPlainWord_18 ?_
      refine g_if_eq X 34 dX2_isPlainWord_19 (by decide) (fun c_19 => ?_) (fun c_19 => ?_)
      · refine g_iconst X (v := 0) dX2_isPlainWord_34 ki_0 ?_
        refine g_iret X F rfl rfl dX2_isPlainWord_35 (Nat.zero_le _) (Nat.zero_le _) ?_
        exact ⟨by rw [b2_f (fun q => q.2.2.1 ((lg_cmp_eq _ _).mp c_19))], rfl⟩
      · refine g_lload_n X dX2_isPlainWord_22 0 rfl ?_
        refine g_ldc2 X dX2_isPlainWord_23 con_X2_65 ?_
        refine g_lcmp X dX2_isPlainWord_26 ?_
        refine g_if_eq X 34 dX2_isPlainWord_27 (by decide) (fun c_27 => ?_) (fun c_27 => ?_)
        · refine g_iconst X (v := 0) dX2_isPlainWord_34 ki_0 ?_
          refine g_iret X F rfl rfl dX2_isPlainWord_35 (Nat.zero_le _) (Nat.zero_le _) ?_
          exact ⟨by rw [b2_f (fun q => q.2.2.2 ((lg_cmp_eq _ _).mp c_27))], rfl⟩
        · refine g_iconst X (v := 1) dX2_isPlainWord_30 ki_1 ?_
          refine g_goto X 35 dX2_isPlainWord_31 (by decide) ?_
          refine g_iret X F rfl rfl dX2_isPlainWord_35 (Nat.zero_le _) (Nat.zero_le _) ?_
          exact ⟨by rw [b2_t ⟨fun q => c_3 ((lg_cmp_eq _ _).mpr q), fun q => c_11 ((lg_cmp_eq _ _).mpr q), fun q => c_19 ((lg_cmp_eq _ _).mpr q), fun q => c_27 ((lg_cmp_eq _ _).mpr q)⟩], rfl⟩
end K24
