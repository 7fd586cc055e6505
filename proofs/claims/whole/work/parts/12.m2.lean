section M2
variable {G : gG} {l : Launch} {ix : Nat → Nat} {m : Nat} {ad : Nat → Nat} {I : Nat → Int32} {Ar : Nat → Nat → Int32} {h0 h : hW}
theorem c_X7_throwsIf0 (D : md ix m ad) (code : Int32) : Ct G l 0 0 0 M_X7_throwsIf [.ref m, .int 0, .int code] (mH G ix ad I Ar h0) (rX (some (.int 0)) (mH G ix ad I Ar h0)) := by
  have h := c_X7_throwsIf (G := G) (l := l) (I := I) (Ar := Ar) (h0 := h0) D 0 code (Or.inl rfl)
  rw [if_pos rfl] at h
  exact h
theorem c_X7_throwsIf1 (D : md ix m ad) (code : Int32) : Ct G l 0 0 0 M_X7_throwsIf [.ref m, .int 1, .int code] (mH G ix ad I Ar h0) (rX (some (.int 1)) (mH G ix ad (va_up I 0 code) Ar h0)) := by
  have h := c_X7_throwsIf (G := G) (l := l) (I := I) (Ar := Ar) (h0 := h0) D 1 code (Or.inr rfl)
  rw [if_neg (by decide)] at h
  exact h
/-- a desk's number as a Nat -/
theorem inR_nat {x : Int32} {N : Nat} (hN : N < 1000) (h : inR x 0 (nI N)) : ∃ j : Nat, j ≤ N ∧ x = nI j := by
  obtain ⟨j, h1, h2⟩ := nI_of2 (M := nI N) (n := N) (nI_toInt (by omega)) h.1 (Int32.not_lt.mp h.2)
  exact ⟨j, h1, h2⟩
abbrev isOfP (I : Nat → Int32) (Ar : Nat → Nat → Int32) (d : Int32) (k : Nat) : Prop := nI (k / 6) < I 21 ∧ nI (k % 6) < Ar 15 (k / 6) ∧ Ar 24 k < 0 ∧ 0 ≤ Ar 22 k ∧ Ar 3 (Ar 22 k).toNatClampNeg = d
theorem nIdiv6 {k : Nat} (hk : k < 480) : nI k / 6 = nI (k / 6) := pk_div (d := 6) (by omega) (by decide) (by decide)
theorem nIrem6 {k : Nat} (hk : k < 480) : nI k - nI k / 6 * 6 = nI (k % 6) := pk_rem (d := 6) (by omega) (by decide) (by decide)
theorem vp12 {x : Int32} (h0 : ¬ x < 0) (h : x < 12) : vp_in x 12 := by
  rw [i32_lt] at h0 h
  exact vpi (by simpa using h0) (by simpa using h)
theorem c_X7_isOf (D : md ix m ad) (d : Int32) (k : Nat) (hk : k < 480) (hC : Ar 22 k < 12) : Ct G l 0 0 0 M_X7_isOf [.ref m, .int d, .int (nI k)] (mH G ix ad I Ar h0) (rX (some (.int (b2 (isOfP I Ar d k)))) (mH G ix ad I Ar h0)) := by
  refine Ct.of (by decide +kernel) (Nat.le_of_ble_eq_true rfl) (fun E hE X F => ?_)
  have X : Gc G E "ComplaintDeskModel" cX7_isOf 3 0 0 0 := X
  show GW G E _ 3 0 [(0, _), (1, _), (2, _)] [] _ 0 0
  refine g_iload_n X dX7_isOf_0 2 rfl ?_
  refine g_bipush X (v := 6) dX7_isOf_1 kb_6 ?_
  refine g_idiv X dX7_isOf_3 (by decide) ?_
  refine g_eqi (y := nI (k / 6)) (nIdiv6 hk) ?_
  refine g_aload_n X dX7_isOf_4 0 rfl ?_
  refine g_getfield X fl_X7_101 dX7_isOf_5 (mLm D) rfl ?_
  refine g_icmp_ge X 64 dX7_isOf_8 (by decide) (fun c_8 => ?_) (fun c_8 => ?_)
  · refine g_iconst X (v := 0) dX7_isOf_64 ki_0 ?_
    refine g_iret X F rfl rfl dX7_isOf_65 (Nat.zero_le _) (Nat.zero_le _) ?_
    refine ⟨congrArg (fun z => some (Value.int z)) ?_, rfl⟩
    first | (refine (b2_t ?_).symm; simp_all [isOfP]; done) | (refine (b2_f ?_).symm; simp_all [isOfP]; done) | (refine (b2_f ?_).symm; simp only [isOfP, i32_le, i32_lt] at *; omega) | (refine (b2_t ?_).symm; simp only [isOfP, i32_le, i32_lt] at *; omega)
  · refine g_iload_n X dX7_isOf_11 2 rfl ?_
    refine g_bipush X (v := 6) dX7_isOf_12 kb_6 ?_
    refine g_irem X dX7_isOf_14 (by decide) ?_
    refine g_eqi (y := nI (k % 6)) (nIrem6 hk) ?_
    refine g_aload_n X dX7_isOf_15 0 rfl ?_
    refine g_getfield X fl_X7_48 dX7_isOf_16 (mLm D) rfl ?_
    refine g_iload_n X dX7_isOf_19 2 rfl ?_
    refine g_bipush X (v := 6) dX7_isOf_20 kb_6 ?_
    refine g_idiv X dX7_isOf_22 (by decide) ?_
    refine g_eqi (y := nI (k / 6)) (nIdiv6 hk) ?_
    refine g_iaload X dX7_isOf_23 (mLa D 15 rfl) (vp_in_nI (by omega) (by decide)) ?_
    refine g_eqi (y := Ar 15 (k / 6)) (by rw [nI_clamp (by omega)]) ?_
    refine g_icmp_ge X 64 dX7_isOf_24 (by decide) (fun c_24 => ?_) (fun c_24 => ?_)
    · refine g_iconst X (v := 0) dX7_isOf_64 ki_0 ?_
      refine g_iret X F rfl rfl dX7_isOf_65 (Nat.zero_le _) (Nat.zero_le _) ?_
      refine ⟨congrArg (fun z => some (Value.int z)) ?_, rfl⟩
      first | (refine (b2_t ?_).symm; simp_all [isOfP]; done) | (refine (b2_f ?_).symm; simp_all [isOfP]; done) | (refine (b2_f ?_).symm; simp only [isOfP, i32_le, i32_lt] at *; omega) | (refine (b2_t ?_).symm; simp only [isOfP, i32_le, i32_lt] at *; omega)
    · refine g_aload_n X dX7_isOf_27 0 rfl ?_
      refine g_getfield X fl_X7_72 dX7_isOf_28 (mLm D) rfl ?_
      refine g_iload_n X dX7_isOf_31 2 rfl ?_
      refine g_iaload X dX7_isOf_32 (mLa D 24 rfl) (vp_in_nI hk (by decide)) ?_
      refine g_eqi (y := Ar 24 k) (by rw [nI_clamp (by omega)]) ?_
      refine g_if_ge X 64 dX7_isOf_33 (by decide) (fun c_33 => ?_) (fun c_33 => ?_)
      · refine g_iconst X (v := 0) dX7_isOf_64 ki_0 ?_
        refine g_iret X F rfl rfl dX7_isOf_65 (Nat.zero_le _) (Nat.zero_le _) ?_
        refine ⟨congrArg (fun z => some (Value.int z)) ?_, rfl⟩
        first | (refine (b2_t ?_).symm; simp_all [isOfP]; done) | (refine (b2_f ?_).symm; simp_all [isOfP]; done) | (refine (b2_f ?_).symm; simp only [isOfP, i32_le, i32_lt] at *; omega) | (refine (b2_t ?_).symm; simp only [isOfP, i32_le, i32_lt] at *; omega)
      · refine g_aload_n X dX7_isOf_36 0 rfl ?_
        refine g_getfield X fl_X7_66 dX7_isOf_37 (mLm D) rfl ?_
        refine g_iload_n X dX7_isOf_40 2 rfl ?_
        refine g_iaload X dX7_isOf_41 (mLa D 22 rfl) (vp_in_nI hk (by decide)) ?_
        refine g_eqi (y := Ar 22 k) (by rw [nI_clamp (by omega)]) ?_
        refine g_if_lt X 64 dX7_isOf_42 (by decide) (fun c_42 => ?_) (fun c_42 => ?_)
        · refine g_iconst X (v := 0) dX7_isOf_64 ki_0 ?_
          refine g_iret X F rfl rfl dX7_isOf_65 (Nat.zero_le _) (Nat.zero_le _) ?_
          refine ⟨congrArg (fun z => some (Value.int z)) ?_, rfl⟩
          first | (refine (b2_t ?_).symm; simp_all [isOfP]; done) | (refine (b2_f ?_).symm; simp_all [isOfP]; done) | (refine (b2_f ?_).symm; simp only [isOfP, i32_le, i32_lt] at *; omega) | (refine (b2_t ?_).symm; simp only [isOfP, i32_le, i32_lt] at *; omega)
        · refine g_aload_n X dX7_isOf_45 0 rfl ?_
          refine g_getfield X fl_X7_13 dX7_isOf_46 (mLm D) rfl ?_
          refine g_aload_n X dX7_isOf_49 0 rfl ?_
          refine g_getfield X fl_X7_66 dX7_isOf_50 (mLm D) rfl ?_
          refine g_iload_n X dX7_isOf_53 2 rfl ?_
          refine g_iaload X dX7_isOf_54 (mLa D 22 rfl) (vp_in_nI hk (by decide)) ?_
          refine g_eqi (y := Ar 22 k) (by rw [nI_clamp (by omega)]) ?_
          refine g_iaload X dX7_isOf_55 (mLa D 3 rfl) (vp12 c_42 hC) ?_
          refine g_iload_n X dX7_isOf_56 1 rfl ?_
          refine g_icmp_ne X 64 dX7_isOf_57 (by decide) (fun c_57 => ?_) (fun c_57 => ?_)
          · refine g_iconst X (v := 0) dX7_isOf_64 ki_0 ?_
            refine g_iret X F rfl rfl dX7_isOf_65 (Nat.zero_le _) (Nat.zero_le _) ?_
            refine ⟨congrArg (fun z => some (Value.int z)) ?_, rfl⟩
            first | (refine (b2_t ?_).symm; simp_all [isOfP]; done) | (refine (b2_f ?_).symm; simp_all [isOfP]; done) | (refine (b2_f ?_).symm; simp only [isOfP, i32_le, i32_lt] at *; omega) | (refine (b2_t ?_).symm; simp only [isOfP, i32_le, i32_lt] at *; omega)
          · refine g_iconst X (v := 1) dX7_isOf_60 ki_1 ?_
            refine g_goto X 65 dX7_isOf_61 (by decide) ?_
            refine g_iret X F rfl rfl dX7_isOf_65 (Nat.zero_le _) (Nat.zero_le _) ?_
            refine ⟨congrArg (fun z => some (Value.int z)) ?_, rfl⟩
            first | (refine (b2_t ?_).symm; simp_all [isOfP]; done) | (refine (b2_f ?_).symm; simp_all [isOfP]; done) | (refine (b2_f ?_).symm; simp only [isOfP, i32_le, i32_lt] at *; omega) | (refine (b2_t ?_).symm; simp only [isOfP, i32_le, i32_lt] at *; omega)
/-- whether point k goes ahead of point o -/
abbrev ahV (Ar : Nat → Nat → Int32) (k o : Nat) : Int32 := if Ar 5 (Ar 22 k).toNatClampNeg = Ar 5 (Ar 22 o).toNatClampNeg then b2 (Ar 23 k < Ar 23 o) else Ar 5 (Ar 22 k).toNatClampNeg
/-- what a desk answers next, of the first n points -/
def bestF (I : Nat → Int32) (Ar : Nat → Nat → Int32) (d : Int32) : Nat → Option Nat
  | 0 => none
  | n + 1 => match bestF I Ar d n with
    | none => if isOfP I Ar d n then some n else none
    | some b => if isOfP I Ar d n ∧ ¬ ahV Ar n b = 0 then some n else some b
termination_by n => n
theorem bestF_s {I : Nat → Int32} {Ar : Nat → Nat → Int32} {d : Int32} {n : Nat} : bestF I Ar d (n + 1) = match bestF I Ar d n with
    | none => if isOfP I Ar d n then some n else none
    | some b => if isOfP I Ar d n ∧ ¬ ahV Ar n b = 0 then some n else some b := by rw [bestF]
theorem bestF_0 {I : Nat → Int32} {Ar : Nat → Nat → Int32} {d : Int32} : bestF I Ar d 0 = none := by rw [bestF]
def enO (o : Option Nat) : Int32 := match o with
  | none => -1
  | some j => nI j
theorem bestF_lt {I : Nat → Int32} {Ar : Nat → Nat → Int32} {d : Int32} : ∀ {n b : Nat}, bestF I Ar d n = some b → b < n ∧ isOfP I Ar d b
  | 0, b, h => by rw [bestF_0] at h; cases h
  | n + 1, b, h => by
    rw [bestF_s] at h
    split at h
    · split at h
      · cases h; exact ⟨Nat.lt_succ_self _, by assumption⟩
      · cases h
    · rename_i b' hb'
      split at h
      · rename_i hc; cases h; exact ⟨Nat.lt_succ_self _, hc.1⟩
      · cases h; exact ⟨Nat.lt_succ_of_lt (bestF_lt hb').1, (bestF_lt hb').2⟩
theorem c_X7_isAhead (D : md ix m ad) (k o : Nat) (hk : k < 480) (ho : o < 480) (hk1 : vp_in (Ar 22 k) 12) (ho1 : vp_in (Ar 22 o) 12) (hz : Ar 5 (Ar 22 k).toNatClampNeg = 0 ∨ Ar 5 (Ar 22 k).toNatClampNeg = 1) : Ct G l 0 0 0 M_X7_isAhead [.ref m, .int (nI k), .int (nI o)] (mH G ix ad I Ar h0) (rX (some (.int (ahV Ar k o))) (mH G ix ad I Ar h0)) := by
  refine Ct.of (by decide +kernel) (Nat.le_of_ble_eq_true rfl) (fun E hE X F => ?_)
  have X : Gc G E "ComplaintDeskModel" cX7_isAhead 5 0 0 0 := X
  show GW G E _ 5 0 [(0, _), (1, _), (2, _)] [] _ 0 0
  refine g_aload_n X dX7_isAhead_0 0 rfl ?_
  refine g_getfield X fl_X7_19 dX7_isAhead_1 (mLm D) rfl ?_
  refine g_aload_n X dX7_isAhead_4 0 rfl ?_
  refine g_getfield X fl_X7_66 dX7_isAhead_5 (mLm D) rfl ?_
  refine g_iload_n X dX7_isAhead_8 1 rfl ?_
  refine g_iaload X dX7_isAhead_9 (mLa D 22 rfl) (vp_in_nI hk (by decide)) ?_
  refine g_eqi (y := Ar 22 k) (by rw [nI_clamp (by omega)]) ?_
  refine g_zaload X dX7_isAhead_10 (mLa D 5 rfl) hk1 ?_
  refine g_istore_n X dX7_isAhead_11 (Nat.le_of_ble_eq_true rfl) [(3, _), (0, _), (1, _), (2, _)] rfl ?_
  refine g_aload_n X dX7_isAhead_12 1 rfl ?_
  refine g_getfield X fl_X7_19 dX7_isAhead_13 (mLm D) rfl ?_
  refine g_aload_n X dX7_isAhead_16 1 rfl ?_
  refine g_getfield X fl_X7_66 dX7_isAhead_17 (mLm D) rfl ?_
  refine g_iload_n X dX7_isAhead_20 3 rfl ?_
  refine g_iaload X dX7_isAhead_21 (mLa D 22 rfl) (vp_in_nI ho (by decide)) ?_
  refine g_eqi (y := Ar 22 o) (by rw [nI_clamp (by omega)]) ?_
  refine g_zaload X dX7_isAhead_22 (mLa D 5 rfl) ho1 ?_
  refine g_istore X dX7_isAhead_23 (Nat.le_of_ble_eq_true rfl) [(4, _), (3, _), (0, _), (1, _), (2, _)] rfl ?_
  refine g_iload_n X dX7_isAhead_25 1 rfl ?_
  refine g_iload X dX7_isAhead_26 0 rfl ?_
  refine g_icmp_eq X 35 dX7_isAhead_28 (by decide) (fun c_28 => ?_) (fun c_28 => ?_)
  · refine g_aload_n X dX7_isAhead_35 2 rfl ?_
    refine g_getfield X fl_X7_69 dX7_isAhead_36 (mLm D) rfl ?_
    refine g_iload_n X dX7_isAhead_39 3 rfl ?_
    refine g_iaload X dX7_isAhead_40 (mLa D 23 rfl) (vp_in_nI hk (by decide)) ?_
    refine g_eqi (y := Ar 23 k) (by rw [nI_clamp (by omega)]) ?_
    refine g_aload_n X dX7_isAhead_41 2 rfl ?_
    refine g_getfield X fl_X7_69 dX7_isAhead_42 (mLm D) rfl ?_
    refine g_iload_n X dX7_isAhead_45 4 rfl ?_
    refine g_iaload X dX7_isAhead_46 (mLa D 23 rfl) (vp_in_nI ho (by decide)) ?_
    refine g_eqi (y := Ar 23 o) (by rw [nI_clamp (by omega)]) ?_
    refine g_icmp_ge X 54 dX7_isAhead_47 (by decide) (fun c_47 => ?_) (fun c_47 => ?_)
    · refine g_iconst X (v := 0) dX7_isAhead_54 ki_0 ?_
      refine g_iret X F rfl (by first | rfl | (rcases hz with q | q <;> rw [q] <;> rfl)) dX7_isAhead_55 (Nat.zero_le _) (Nat.zero_le _) ?_
      exact ⟨by simp_all [b2, ahV], rfl⟩
    · refine g_iconst X (v := 1) dX7_isAhead_50 ki_1 ?_
      refine g_goto X 55 dX7_isAhead_51 (by decide) ?_
      refine g_iret X F rfl (by first | rfl | (rcases hz with q | q <;> rw [q] <;> rfl)) dX7_isAhead_55 (Nat.zero_le _) (Nat.zero_le _) ?_
      exact ⟨by simp_all [b2, ahV], rfl⟩
  · refine g_iload_n X dX7_isAhead_31 1 rfl ?_
    refine g_goto X 55 dX7_isAhead_32 (by decide) ?_
    refine g_iret X F rfl (by first | rfl | (rcases hz with q | q <;> rw [q] <;> rfl)) dX7_isAhead_55 (Nat.zero_le _) (Nat.zero_le _) ?_
    exact ⟨by simp_all [b2, ahV], rfl⟩
theorem clamp12 {x : Int32} (h : vp_in x 12) : x.toNatClampNeg < 12 := Nat.not_le.mp fun q => h (Or.inr q)
theorem enO_nn {o : Option Nat} (h : ∀ b, o = some b → b < 480) : enO o < 0 ↔ o = none := by
  cases o with
  | none => simp [enO]
  | some b => simp only [enO, reduceCtorEq, iff_false]; exact nI_pos (by have := h b rfl; omega)
theorem lp_X7_next_4 {E : gE} (X : Gc G E "ComplaintDeskModel" cX7_next 4 1 0 0) (F : gF E M_X7_next) (D : md ix m ad) (d : Int32) (hC : ∀ k, k < 480 → Ar 22 k < 12) (hT : ∀ c, c < 12 → Ar 5 c = 0 ∨ Ar 5 c = 1)  : ∀ (f : Nat) (k : Nat), k ≤ 480 → 480 - k < f → GW G E (gMQ G E 0 0 (rX (some (.int (enO (bestF I Ar d 480)))) (mH G ix ad I Ar h0))) 4 4 [(0, .ref m), (1, .int d), (2, .int (enO (bestF I Ar d k))), (3, .int (nI k))] [] (mH G ix ad I Ar h0) 0 0 := by
  intro f
  induction f with
  | zero => intro k hk hf; exact absurd hf (Nat.not_lt_zero _)
  | succ f ih =>
    intro k hk hf
    refine g_iload_n X dX7_next_4 3 rfl ?_
    refine g_sipush X (v := 480) dX7_next_5 ks_480 ?_
    refine g_icmp_ge X 41 dX7_next_8 (by decide) (fun c_8 => ?_) (fun c_8 => ?_)
    · have hk : k = 480 := by rw [i32_le, nI_toInt (by omega)] at c_8; have : (480 : Int32).toInt = 480 := rfl; omega
      subst hk
      refine g_iload_n X dX7_next_41 2 rfl ?_
      refine g_iret X F rfl rfl dX7_next_42 (Nat.zero_le _) (Nat.zero_le _) ?_
      exact ⟨rfl, rfl⟩
    · have hk8 : k < 480 := by rw [i32_le, nI_toInt (by omega)] at c_8; have : (480 : Int32).toInt = 480 := rfl; omega
      refine g_aload_n X dX7_next_11 0 rfl ?_
      refine g_iload_n X dX7_next_12 1 rfl ?_
      refine g_iload_n X dX7_next_13 3 rfl ?_
      refine g_cV X ml_X7_204 (c_X7_isOf D d k hk8 (hC k hk8)) ⟨7, _, mLm D, rfl⟩ (Nat.le_of_ble_eq_true rfl) rfl rfl (Nat.le_of_ble_eq_true rfl) (Nat.zero_le _) (Nat.zero_le _) dX7_next_14 ?_
      refine g_if_eq X 35 dX7_next_17 (by decide) (fun c_17 => ?_) (fun c_17 => ?_)
      · have e1 : bestF I Ar d (k + 1) = bestF I Ar d k := by rw [bestF_s]; split <;> simp_all [b2_0]
        refine g_iinc X (v := nI (k + 1)) dX7_next_35 3 rfl (nI_1 k) (Nat.le_of_ble_eq_true rfl) [(3, _), (0, _), (1, _), (2, _)] rfl ?_
        refine g_goto X 4 dX7_next_38 (by decide) ?_
        refine g_L [1, 2, 3, 0] (L' := [(0, _), (1, _), (2, _), (3, _)]) rfl ?_
        first | exact ih (k + 1) (by omega) (by omega) | (rw [← e1]; exact ih (k + 1) (by omega) (by omega)) | (rw [show nI k = enO (bestF I Ar d (k + 1)) by rw [e1]; rfl]; exact ih (k + 1) (by omega) (by omega))
      · have hp : isOfP I Ar d k := by rw [b2_0] at c_17; exact Decidable.not_not.mp c_17
        refine g_iload_n X dX7_next_20 2 rfl ?_
        refine g_if_lt X 33 dX7_next_21 (by decide) (fun c_21 => ?_) (fun c_21 => ?_)
        · have e2 : bestF I Ar d k = none := (enO_nn (fun b q => by have := bestF_lt q; omega)).mp c_21
          have e1 : bestF I Ar d (k + 1) = some k := by rw [bestF_s]; rw [e2]; exact if_pos hp
          refine g_iload_n X dX7_next_33 3 rfl ?_
          refine g_istore_n X dX7_next_34 (Nat.le_of_ble_eq_true rfl) [(2, _), (0, _), (1, _), (3, _)] rfl ?_
          refine g_iinc X (v := nI (k + 1)) dX7_next_35 3 rfl (nI_1 k) (Nat.le_of_ble_eq_true rfl) [(3, _), (2, _), (0, _), (1, _)] rfl ?_
          refine g_goto X 4 dX7_next_38 (by decide) ?_
          refine g_L [2, 3, 1, 0] (L' := [(0, _), (1, _), (2, _), (3, _)]) rfl ?_
          first | exact ih (k + 1) (by omega) (by omega) | (rw [← e1]; exact ih (k + 1) (by omega) (by omega)) | (rw [show nI k = enO (bestF I Ar d (k + 1)) by rw [e1]; rfl]; exact ih (k + 1) (by omega) (by omega))
        · obtain ⟨b, e2⟩ : ∃ b, bestF I Ar d k = some b := by cases q : bestF I Ar d k with | none => rw [q] at c_21; exact absurd (by decide) c_21 | some b => exact ⟨b, rfl⟩
          have hb := bestF_lt e2
          rw [e2]
          refine g_aload_n X dX7_next_24 0 rfl ?_
          refine g_iload_n X dX7_next_25 3 rfl ?_
          refine g_iload_n X dX7_next_26 2 rfl ?_
          refine g_cV X ml_X7_207 (c_X7_isAhead D k b hk8 (by omega) (vp12 (Int32.not_lt.mpr hp.2.2.2.1) (hC k hk8)) (vp12 (Int32.not_lt.mpr hb.2.2.2.2.1) (hC b (by omega))) (hT _ (clamp12 (vp12 (Int32.not_lt.mpr hp.2.2.2.1) (hC k hk8))))) ⟨7, _, mLm D, rfl⟩ (Nat.le_of_ble_eq_true rfl) rfl rfl (Nat.le_of_ble_eq_true rfl) (Nat.zero_le _) (Nat.zero_le _) dX7_next_27 ?_
          refine g_if_eq X 35 dX7_next_30 (by decide) (fun c_30 => ?_) (fun c_30 => ?_)
          · have e1 : bestF I Ar d (k + 1) = some b := by rw [bestF_s]; rw [e2]; exact if_neg (fun q => q.2 c_30)
            rw [show enO (some b) = enO (bestF I Ar d (k + 1)) by rw [e1]]
            refine g_iinc X (v := nI (k + 1)) dX7_next_35 3 rfl (nI_1 k) (Nat.le_of_ble_eq_true rfl) [(3, _), (0, _), (1, _), (2, _)] rfl ?_
            refine g_goto X 4 dX7_next_38 (by decide) ?_
            refine g_L [1, 2, 3, 0] (L' := [(0, _), (1, _), (2, _), (3, _)]) rfl ?_
            first | exact ih (k + 1) (by omega) (by omega) | (rw [← e1]; exact ih (k + 1) (by omega) (by omega)) | (rw [show nI k = enO (bestF I Ar d (k + 1)) by rw [e1]; rfl]; exact ih (k + 1) (by omega) (by omega))
          · have e1 : bestF I Ar d (k + 1) = some k := by rw [bestF_s]; rw [e2]; exact if_pos ⟨hp, c_30⟩
            refine g_iload_n X dX7_next_33 3 rfl ?_
            refine g_istore_n X dX7_next_34 (Nat.le_of_ble_eq_true rfl) [(2, _), (0, _), (1, _), (3, _)] rfl ?_
            refine g_iinc X (v := nI (k + 1)) dX7_next_35 3 rfl (nI_1 k) (Nat.le_of_ble_eq_true rfl) [(3, _), (2, _), (0, _), (1, _)] rfl ?_
            refine g_goto X 4 dX7_next_38 (by decide) ?_
            refine g_L [2, 3, 1, 0] (L' := [(0, _), (1, _), (2, _), (3, _)]) rfl ?_
            first | exact ih (k + 1) (by omega) (by omega) | (rw [← e1]; exact ih (k + 1) (by omega) (by omega)) | (rw [show nI k = enO (bestF I Ar d (k + 1)) by rw [e1]; rfl]; exact ih (k + 1) (by omega) (by omega))
theorem c_X7_next (D : md ix m ad) (d : Int32) (hC : ∀ k, k < 480 → Ar 22 k < 12) (hT : ∀ c, c < 12 → Ar 5 c = 0 ∨ Ar 5 c = 1)  : Ct G l 1 0 0 M_X7_next [.ref m, .int d] (mH G ix ad I Ar h0) (rX (some (.int (enO (bestF I Ar d 480)))) (mH G ix ad I Ar h0)) := by
  refine Ct.of (by decide +kernel) (Nat.le_of_ble_eq_true rfl) (fun E hE X F => ?_)
  have X : Gc G E "ComplaintDeskModel" cX7_next 4 1 0 0 := X
  show GW G E _ 4 0 [(0, _), (1, _)] [] _ 0 0
  refine g_iconst X (v := (-1)) dX7_next_0 ki_m1 ?_
  refine g_istore_n X dX7_next_1 (Nat.le_of_ble_eq_true rfl) [(2, _), (0, _), (1, _)] rfl ?_
  refine g_iconst X (v := 0) dX7_next_2 ki_0 ?_
  refine g_istore_n X dX7_next_3 (Nat.le_of_ble_eq_true rfl) [(3, _), (2, _), (0, _), (1, _)] rfl ?_
  refine g_L [2, 3, 1, 0] (L' := [(0, _), (1, _), (2, _), (3, _)]) rfl ?_
  refine g_L [0, 1, 2, 3] (L' := [(0, _), (1, _), (2, .int (enO (bestF I Ar d 0))), (3, _)]) (by rw [bestF_0]; rfl) ?_
  exact lp_X7_next_4 X F D d hC hT 481 0 (by omega) (by omega)
end M2
