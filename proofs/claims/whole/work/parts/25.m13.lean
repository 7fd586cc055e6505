section M13
variable {G : gG} {l : Launch} {ix : Nat → Nat} {m : Nat} {ad : Nat → Nat} {I : Nat → Int32} {Ar : Nat → Nat → Int32} {h0 h : hW}
/-- letter a lies as it must; the patterns do -/
def LV (Ar : Nat → Nat → Int32) (a : Nat) : Prop := okN (Ar 16 a) 60 ∧ ∀ w, w < cl (Ar 16 a) → ∃ fr t : Nat, Ar 18 (60 * a + w) = nI fr ∧ Ar 19 (60 * a + w) = nI t ∧ fr ≤ t ∧ t ≤ 400
def PV (Ar : Nat → Nat → Int32) : Prop := (∀ k, k < 144 → okN (Ar 8 k) 12) ∧ ∀ c, c < 12 → okN (Ar 6 c) 12
theorem LV.f {Ar : Nat → Nat → Int32} {a : Nat} (h : LV Ar a) : ∀ w, w < cl (Ar 16 a) → okN (Ar 18 (60 * a + w)) 400 := fun w hw => by
  obtain ⟨fr, t, h1, h2, h3, h4⟩ := h.2 w hw
  exact ⟨fr, by omega, h1⟩
theorem LV.t {Ar : Nat → Nat → Int32} {a k : Nat} (h : LV Ar a) (hs : okN (Ar 8 k) 12) : ∀ w, w < cl (Ar 16 a) → ∀ i, i < cl (Ar 8 k) → Ar 19 (60 * a + w) - Ar 18 (60 * a + w) = Ar 8 k → cl (Ar 18 (60 * a + w)) + i < 400 := fun w hw i hi e => by
  obtain ⟨fr, t, h1, h2, h3, h4⟩ := h.2 w hw
  have hs1 := hs.eq
  rw [h1, h2, pk_sub h3, hs1.1] at e
  have e2 := (nI_eq (by omega) (by omega)).mp e
  rw [h1, show cl (nI fr) = fr from nI_clamp (by omega)]
  omega
/-- the first n words of pattern c at point p of letter a: none: it fits already; else whether the last ALL holds so far -/
def ftN (Ar : Nat → Nat → Int32) (a p c : Nat) : Nat → Option Int32
  | 0 => some 1
  | i + 1 => match ftN Ar a p c i with
    | none => none
    | some al => if ¬ Ar 10 (12 * c + i) = 0 ∧ ¬ al = 0 then none else
      some (if (if Ar 10 (12 * c + i) = 0 then al else 1) = 0 then 0 else b2 (¬ b2 (hwP Ar a p (12 * c + i)) = Ar 9 (12 * c + i)))
termination_by n => n
theorem ftN_0 {Ar : Nat → Nat → Int32} {a p c : Nat} : ftN Ar a p c 0 = some 1 := by rw [ftN]
theorem ftN_s {Ar : Nat → Nat → Int32} {a p c i : Nat} : ftN Ar a p c (i + 1) = match ftN Ar a p c i with
    | none => none
    | some al => if ¬ Ar 10 (12 * c + i) = 0 ∧ ¬ al = 0 then none else
      some (if (if Ar 10 (12 * c + i) = 0 then al else 1) = 0 then 0 else b2 (¬ b2 (hwP Ar a p (12 * c + i)) = Ar 9 (12 * c + i))) := by rw [ftN]
theorem ftN_none {Ar : Nat → Nat → Int32} {a p c i : Nat} (h : ftN Ar a p c i = none) : ∀ j, ftN Ar a p c (i + j) = none := by
  intro j
  induction j with
  | zero => exact h
  | succ j ih => rw [show i + (j + 1) = (i + j) + 1 from rfl, ftN_s, ih]
def ftV (Ar : Nat → Nat → Int32) (a p c n : Nat) : Int32 := match ftN Ar a p c n with
  | none => 1
  | some al => al
abbrev ftC (Ar : Nat → Nat → Int32) (a p c : Nat) : Int32 := ftV Ar a p c (cl (Ar 6 c))
theorem lp_X7_fits_9 {E : gE} (X : Gc G E "ComplaintDeskModel" cX7_fits 6 2 0 0) (F : gF E M_X7_fits) (D : md ix m ad) (a p c : Nat) (ha : a ≤ 80) (hc : c < 12) (hP : PV Ar) (hL : LV Ar a)  : ∀ (f : Nat) (i : Nat) (al : Int32), i ≤ cl (Ar 6 c) → cl (Ar 6 c) - i < f → ftN Ar a p c i = some al → (al = 0 ∨ al = 1) → GW G E (gMQ G E 0 0 (rX (some (.int (ftC Ar a p c))) (mH G ix ad I Ar h0))) 6 9 [(0, .ref m), (1, .int (nI c)), (2, .int (nI a)), (3, .int (nI p)), (4, .int al), (5, .int (nI (12 * c + i)))] [] (mH G ix ad I Ar h0) 0 0 := by
  intro f
  induction f with
  | zero => intro i al hi hf hft hal; exact absurd hf (Nat.not_lt_zero _)
  | succ f ih =>
    intro i al hi hf hft hal
    have hm := (hP.2 c hc).eq
    refine g_iload X dX7_fits_9 5 rfl ?_
    refine g_bipush X (v := 12) dX7_fits_11 kb_12 ?_
    refine g_iload_n X dX7_fits_13 1 rfl ?_
    refine g_imul X dX7_fits_14 ?_
    refine g_eqi (y := nI (12 * c)) (i12p c c) ?_
    refine g_aload_n X dX7_fits_15 0 rfl ?_
    refine g_getfield X fl_X7_23 dX7_fits_16 (mLm D) rfl ?_
    refine g_iload_n X dX7_fits_19 1 rfl ?_
    refine g_iaload X dX7_fits_20 (mLa D 6 rfl) (vp_in_nI (by omega) (by decide)) ?_
    refine g_eqi (y := nI (cl (Ar 6 c))) (by rw [nI_clamp (by omega)]; exact hm.1) ?_
    refine g_iadd X dX7_fits_21 ?_
    refine g_eqi (y := nI (12 * c + cl (Ar 6 c))) (nI_add _ _) ?_
    refine g_icmp_ge X 81 dX7_fits_22 (by decide) (fun c_22 => ?_) (fun c_22 => ?_)
    · have hq : i = cl (Ar 6 c) := by have := (nI_leI (by omega) (by omega)).mp c_22; omega
      subst hq
      refine g_iload X dX7_fits_81 4 rfl ?_
      refine g_iret X F rfl (by rcases hal with rfl | rfl <;> rfl) dX7_fits_83 (Nat.zero_le _) (Nat.zero_le _) ?_
      exact ⟨by rw [ftC, ftV, hft], rfl⟩
    · have hq : i < cl (Ar 6 c) := by have := (nI_ltI (by omega) (by omega)).mp (Int32.not_le.mp c_22); omega
      refine g_aload_n X dX7_fits_25 0 rfl ?_
      refine g_getfield X fl_X7_36 dX7_fits_26 (mLm D) rfl ?_
      refine g_iload X dX7_fits_29 5 rfl ?_
      refine g_zaload X dX7_fits_31 (mLa D 10 rfl) (vp_in_nI (by omega) (by decide)) ?_
      refine g_eqi (y := Ar 10 (12 * c + i)) (by rw [nI_clamp (by omega)]) ?_
      refine g_if_eq X 45 dX7_fits_32 (by decide) (fun c_32 => ?_) (fun c_32 => ?_)
      · have hs0 : ¬ (¬ Ar 10 (12 * c + i) = 0 ∧ ¬ al = 0) := fun q => q.1 c_32
        have hs1 : (if Ar 10 (12 * c + i) = 0 then al else 1) = al := if_pos c_32
        refine g_iload X dX7_fits_45 4 rfl ?_
        refine g_if_eq X 72 dX7_fits_47 (by decide) (fun c_47 => ?_) (fun c_47 => ?_)
        · refine g_iconst X (v := 0) dX7_fits_72 ki_0 ?_
          have hs2 : ftN Ar a p c (i + 1) = some (if (if Ar 10 (12 * c + i) = 0 then al else 1) = 0 then 0 else b2 (¬ b2 (hwP Ar a p (12 * c + i)) = Ar 9 (12 * c + i))) := by rw [ftN_s, hft]; exact if_neg hs0
          rw [hs1] at hs2
          refine g_eqi (y := if (if Ar 10 (12 * c + i) = 0 then al else 1) = 0 then 0 else b2 (¬ b2 (hwP Ar a p (12 * c + i)) = Ar 9 (12 * c + i))) ?_ ?_
          · rw [hs1]
            first | (rw [if_pos c_47]; done) | exact absurd c_47 (by decide) | (rw [if_neg (by first | exact c_47 | decide)]; first | exact (b2_f (fun q => q c_65)).symm | exact (b2_t c_65).symm)
          rw [hs1]
          refine g_istore X dX7_fits_73 (Nat.le_of_ble_eq_true rfl) [(4, _), (0, _), (1, _), (2, _), (3, _), (5, _)] rfl ?_
          refine g_iinc X (v := nI (12 * c + (i + 1))) dX7_fits_75 5 rfl (nI_1 _) (Nat.le_of_ble_eq_true rfl) [(5, _), (4, _), (0, _), (1, _), (2, _), (3, _)] rfl ?_
          refine g_goto X 9 dX7_fits_78 (by decide) ?_
          refine g_L [2, 3, 4, 5, 1, 0] (L' := [(0, _), (1, _), (2, _), (3, _), (4, _), (5, _)]) rfl ?_
          refine ih (i + 1) _ (by omega) (by omega) hs2 ?_
          split <;> (try split)
          all_goals first | exact Or.inl rfl | exact b2_c
        · refine g_aload_n X dX7_fits_50 0 rfl ?_
          refine g_iload_n X dX7_fits_51 2 rfl ?_
          refine g_iload_n X dX7_fits_52 3 rfl ?_
          refine g_iload X dX7_fits_53 5 rfl ?_
          refine g_cV X ml_X7_160 (c_X7_hasWord D a p (12 * c + i) ha (by omega) (hP.1 _ (by omega)) hL.1 hL.f (hL.t (hP.1 _ (by omega)))) ⟨7, _, mLm D, rfl⟩ (Nat.le_of_ble_eq_true rfl) rfl rfl (Nat.le_of_ble_eq_true rfl) (Nat.zero_le _) (Nat.zero_le _) dX7_fits_55 ?_
          refine g_aload_n X dX7_fits_58 0 rfl ?_
          refine g_getfield X fl_X7_33 dX7_fits_59 (mLm D) rfl ?_
          refine g_iload X dX7_fits_62 5 rfl ?_
          refine g_zaload X dX7_fits_64 (mLa D 9 rfl) (vp_in_nI (by omega) (by decide)) ?_
          refine g_eqi (y := Ar 9 (12 * c + i)) (by rw [nI_clamp (by omega)]) ?_
          refine g_icmp_eq X 72 dX7_fits_65 (by decide) (fun c_65 => ?_) (fun c_65 => ?_)
          · refine g_iconst X (v := 0) dX7_fits_72 ki_0 ?_
            have hs2 : ftN Ar a p c (i + 1) = some (if (if Ar 10 (12 * c + i) = 0 then al else 1) = 0 then 0 else b2 (¬ b2 (hwP Ar a p (12 * c + i)) = Ar 9 (12 * c + i))) := by rw [ftN_s, hft]; exact if_neg hs0
            rw [hs1] at hs2
            refine g_eqi (y := if (if Ar 10 (12 * c + i) = 0 then al else 1) = 0 then 0 else b2 (¬ b2 (hwP Ar a p (12 * c + i)) = Ar 9 (12 * c + i))) ?_ ?_
            · rw [hs1]
              first | (rw [if_pos c_47]; done) | exact absurd c_47 (by decide) | (rw [if_neg (by first | exact c_47 | decide)]; first | exact (b2_f (fun q => q c_65)).symm | exact (b2_t c_65).symm)
            rw [hs1]
            refine g_istore X dX7_fits_73 (Nat.le_of_ble_eq_true rfl) [(4, _), (0, _), (1, _), (2, _), (3, _), (5, _)] rfl ?_
            refine g_iinc X (v := nI (12 * c + (i + 1))) dX7_fits_75 5 rfl (nI_1 _) (Nat.le_of_ble_eq_true rfl) [(5, _), (4, _), (0, _), (1, _), (2, _), (3, _)] rfl ?_
            refine g_goto X 9 dX7_fits_78 (by decide) ?_
            refine g_L [2, 3, 4, 5, 1, 0] (L' := [(0, _), (1, _), (2, _), (3, _), (4, _), (5, _)]) rfl ?_
            refine ih (i + 1) _ (by omega) (by omega) hs2 ?_
            split <;> (try split)
            all_goals first | exact Or.inl rfl | exact b2_c
          · refine g_iconst X (v := 1) dX7_fits_68 ki_1 ?_
            refine g_goto X 73 dX7_fits_69 (by decide) ?_
            have hs2 : ftN Ar a p c (i + 1) = some (if (if Ar 10 (12 * c + i) = 0 then al else 1) = 0 then 0 else b2 (¬ b2 (hwP Ar a p (12 * c + i)) = Ar 9 (12 * c + i))) := by rw [ftN_s, hft]; exact if_neg hs0
            rw [hs1] at hs2
            refine g_eqi (y := if (if Ar 10 (12 * c + i) = 0 then al else 1) = 0 then 0 else b2 (¬ b2 (hwP Ar a p (12 * c + i)) = Ar 9 (12 * c + i))) ?_ ?_
            · rw [hs1]
              first | (rw [if_pos c_47]; done) | exact absurd c_47 (by decide) | (rw [if_neg (by first | exact c_47 | decide)]; first | exact (b2_f (fun q => q c_65)).symm | exact (b2_t c_65).symm)
            rw [hs1]
            refine g_istore X dX7_fits_73 (Nat.le_of_ble_eq_true rfl) [(4, _), (0, _), (1, _), (2, _), (3, _), (5, _)] rfl ?_
            refine g_iinc X (v := nI (12 * c + (i + 1))) dX7_fits_75 5 rfl (nI_1 _) (Nat.le_of_ble_eq_true rfl) [(5, _), (4, _), (0, _), (1, _), (2, _), (3, _)] rfl ?_
            refine g_goto X 9 dX7_fits_78 (by decide) ?_
            refine g_L [2, 3, 4, 5, 1, 0] (L' := [(0, _), (1, _), (2, _), (3, _), (4, _), (5, _)]) rfl ?_
            refine ih (i + 1) _ (by omega) (by omega) hs2 ?_
            split <;> (try split)
            all_goals first | exact Or.inl rfl | exact b2_c
      · refine g_iload X dX7_fits_35 4 rfl ?_
        refine g_if_eq X 42 dX7_fits_37 (by decide) (fun c_37 => ?_) (fun c_37 => ?_)
        · have hs0 : ¬ (¬ Ar 10 (12 * c + i) = 0 ∧ ¬ al = 0) := fun q => q.2 c_37
          have hs1 : (if Ar 10 (12 * c + i) = 0 then al else 1) = 1 := if_neg c_32
          refine g_iconst X (v := 1) dX7_fits_42 ki_1 ?_
          refine g_istore X dX7_fits_43 (Nat.le_of_ble_eq_true rfl) [(4, _), (0, _), (1, _), (2, _), (3, _), (5, _)] rfl ?_
          refine g_iload X dX7_fits_45 0 rfl ?_
          refine g_if_eq X 72 dX7_fits_47 (by decide) (fun c_47 => ?_) (fun c_47 => ?_)
          · refine g_iconst X (v := 0) dX7_fits_72 ki_0 ?_
            have hs2 : ftN Ar a p c (i + 1) = some (if (if Ar 10 (12 * c + i) = 0 then al else 1) = 0 then 0 else b2 (¬ b2 (hwP Ar a p (12 * c + i)) = Ar 9 (12 * c + i))) := by rw [ftN_s, hft]; exact if_neg hs0
            rw [hs1] at hs2
            refine g_eqi (y := if (if Ar 10 (12 * c + i) = 0 then al else 1) = 0 then 0 else b2 (¬ b2 (hwP Ar a p (12 * c + i)) = Ar 9 (12 * c + i))) ?_ ?_
            · rw [hs1]
              first | (rw [if_pos c_47]; done) | exact absurd c_47 (by decide) | (rw [if_neg (by first | exact c_47 | decide)]; first | exact (b2_f (fun q => q c_65)).symm | exact (b2_t c_65).symm)
            rw [hs1]
            refine g_istore X dX7_fits_73 (Nat.le_of_ble_eq_true rfl) [(4, _), (0, _), (1, _), (2, _), (3, _), (5, _)] rfl ?_
            refine g_iinc X (v := nI (12 * c + (i + 1))) dX7_fits_75 5 rfl (nI_1 _) (Nat.le_of_ble_eq_true rfl) [(5, _), (4, _), (0, _), (1, _), (2, _), (3, _)] rfl ?_
            refine g_goto X 9 dX7_fits_78 (by decide) ?_
            refine g_L [2, 3, 4, 5, 1, 0] (L' := [(0, _), (1, _), (2, _), (3, _), (4, _), (5, _)]) rfl ?_
            refine ih (i + 1) _ (by omega) (by omega) hs2 ?_
            split <;> (try split)
            all_goals first | exact Or.inl rfl | exact b2_c
          · refine g_aload_n X dX7_fits_50 1 rfl ?_
            refine g_iload_n X dX7_fits_51 3 rfl ?_
            refine g_iload_n X dX7_fits_52 4 rfl ?_
            refine g_iload X dX7_fits_53 5 rfl ?_
            refine g_cV X ml_X7_160 (c_X7_hasWord D a p (12 * c + i) ha (by omega) (hP.1 _ (by omega)) hL.1 hL.f (hL.t (hP.1 _ (by omega)))) ⟨7, _, mLm D, rfl⟩ (Nat.le_of_ble_eq_true rfl) rfl rfl (Nat.le_of_ble_eq_true rfl) (Nat.zero_le _) (Nat.zero_le _) dX7_fits_55 ?_
            refine g_aload_n X dX7_fits_58 1 rfl ?_
            refine g_getfield X fl_X7_33 dX7_fits_59 (mLm D) rfl ?_
            refine g_iload X dX7_fits_62 5 rfl ?_
            refine g_zaload X dX7_fits_64 (mLa D 9 rfl) (vp_in_nI (by omega) (by decide)) ?_
            refine g_eqi (y := Ar 9 (12 * c + i)) (by rw [nI_clamp (by omega)]) ?_
            refine g_icmp_eq X 72 dX7_fits_65 (by decide) (fun c_65 => ?_) (fun c_65 => ?_)
            · refine g_iconst X (v := 0) dX7_fits_72 ki_0 ?_
              have hs2 : ftN Ar a p c (i + 1) = some (if (if Ar 10 (12 * c + i) = 0 then al else 1) = 0 then 0 else b2 (¬ b2 (hwP Ar a p (12 * c + i)) = Ar 9 (12 * c + i))) := by rw [ftN_s, hft]; exact if_neg hs0
              rw [hs1] at hs2
              refine g_eqi (y := if (if Ar 10 (12 * c + i) = 0 then al else 1) = 0 then 0 else b2 (¬ b2 (hwP Ar a p (12 * c + i)) = Ar 9 (12 * c + i))) ?_ ?_
              · rw [hs1]
                first | (rw [if_pos c_47]; done) | exact absurd c_47 (by decide) | (rw [if_neg (by first | exact c_47 | decide)]; first | exact (b2_f (fun q => q c_65)).symm | exact (b2_t c_65).symm)
              rw [hs1]
              refine g_istore X dX7_fits_73 (Nat.le_of_ble_eq_true rfl) [(4, _), (0, _), (1, _), (2, _), (3, _), (5, _)] rfl ?_
              refine g_iinc X (v := nI (12 * c + (i + 1))) dX7_fits_75 5 rfl (nI_1 _) (Nat.le_of_ble_eq_true rfl) [(5, _), (4, _), (0, _), (1, _), (2, _), (3, _)] rfl ?_
              refine g_goto X 9 dX7_fits_78 (by decide) ?_
              refine g_L [2, 3, 4, 5, 1, 0] (L' := [(0, _), (1, _), (2, _), (3, _), (4, _), (5, _)]) rfl ?_
              refine ih (i + 1) _ (by omega) (by omega) hs2 ?_
              split <;> (try split)
              all_goals first | exact Or.inl rfl | exact b2_c
            · refine g_iconst X (v := 1) dX7_fits_68 ki_1 ?_
              refine g_goto X 73 dX7_fits_69 (by decide) ?_
              have hs2 : ftN Ar a p c (i + 1) = some (if (if Ar 10 (12 * c + i) = 0 then al else 1) = 0 then 0 else b2 (¬ b2 (hwP Ar a p (12 * c + i)) = Ar 9 (12 * c + i))) := by rw [ftN_s, hft]; exact if_neg hs0
              rw [hs1] at hs2
              refine g_eqi (y := if (if Ar 10 (12 * c + i) = 0 then al else 1) = 0 then 0 else b2 (¬ b2 (hwP Ar a p (12 * c + i)) = Ar 9 (12 * c + i))) ?_ ?_
              · rw [hs1]
                first | (rw [if_pos c_47]; done) | exact absurd c_47 (by decide) | (rw [if_neg (by first | exact c_47 | decide)]; first | exact (b2_f (fun q => q c_65)).symm | exact (b2_t c_65).symm)
              rw [hs1]
              refine g_istore X dX7_fits_73 (Nat.le_of_ble_eq_true rfl) [(4, _), (0, _), (1, _), (2, _), (3, _), (5, _)] rfl ?_
              refine g_iinc X (v := nI (12 * c + (i + 1))) dX7_fits_75 5 rfl (nI_1 _) (Nat.le_of_ble_eq_true rfl) [(5, _), (4, _), (0, _), (1, _), (2, _), (3, _)] rfl ?_
              refine g_goto X 9 dX7_fits_78 (by decide) ?_
              refine g_L [2, 3, 4, 5, 1, 0] (L' := [(0, _), (1, _), (2, _), (3, _), (4, _), (5, _)]) rfl ?_
              refine ih (i + 1) _ (by omega) (by omega) hs2 ?_
              split <;> (try split)
              all_goals first | exact Or.inl rfl | exact b2_c
        · have hn1 : ftN Ar a p c (i + 1) = none := by rw [ftN_s, hft]; exact if_pos ⟨c_32, c_37⟩
          have hn2 : ftN Ar a p c (cl (Ar 6 c)) = none := by rw [show cl (Ar 6 c) = (i + 1) + (cl (Ar 6 c) - (i + 1)) by omega]; exact ftN_none hn1 _
          refine g_iconst X (v := 1) dX7_fits_40 ki_1 ?_
          refine g_iret X F rfl rfl dX7_fits_41 (Nat.zero_le _) (Nat.zero_le _) ?_
          exact ⟨by rw [ftC, ftV, hn2], rfl⟩
theorem c_X7_fits (D : md ix m ad) (a p c : Nat) (ha : a ≤ 80) (hc : c < 12) (hP : PV Ar) (hL : LV Ar a)  : Ct G l 2 0 0 M_X7_fits [.ref m, .int (nI c), .int (nI a), .int (nI p)] (mH G ix ad I Ar h0) (rX (some (.int (ftC Ar a p c))) (mH G ix ad I Ar h0)) := by
  refine Ct.of (by decide +kernel) (Nat.le_of_ble_eq_true rfl) (fun E hE X F => ?_)
  have X : Gc G E "ComplaintDeskModel" cX7_fits 6 2 0 0 := X
  show GW G E _ 6 0 [(0, _), (1, _), (2, _), (3, _)] [] _ 0 0
  refine g_iconst X (v := 1) dX7_fits_0 ki_1 ?_
  refine g_istore X dX7_fits_1 (Nat.le_of_ble_eq_true rfl) [(4, _), (0, _), (1, _), (2, _), (3, _)] rfl ?_
  refine g_bipush X (v := 12) dX7_fits_3 kb_12 ?_
  refine g_iload_n X dX7_fits_5 2 rfl ?_
  refine g_imul X dX7_fits_6 ?_
  refine g_eqi (y := nI (12 * c)) (i12p c c) ?_
  refine g_istore X dX7_fits_7 (Nat.le_of_ble_eq_true rfl) [(5, _), (4, _), (0, _), (1, _), (2, _), (3, _)] rfl ?_
  refine g_L [2, 3, 4, 5, 1, 0] (L' := [(0, _), (1, _), (2, _), (3, _), (4, _), (5, _)]) rfl ?_
  exact lp_X7_fits_9 X F D a p c ha hc hP hL _ 0 1 (Nat.zero_le _) (Nat.lt_succ_self _) ftN_0 (Or.inr rfl)
/-- of the first n causes the first right below c that fits -/
def blF (Ar : Nat → Nat → Int32) (a p : Nat) (c : Int32) : Nat → Option Nat
  | 0 => none
  | k + 1 => match blF Ar a p c k with
    | some x => some x
    | none => if Ar 2 k = c ∧ ¬ ftC Ar a p k = 0 then some k else none
termination_by n => n
theorem blF_0 {Ar : Nat → Nat → Int32} {a p : Nat} {c : Int32} : blF Ar a p c 0 = none := by rw [blF]
theorem blF_s {Ar : Nat → Nat → Int32} {a p : Nat} {c : Int32} {k : Nat} : blF Ar a p c (k + 1) = match blF Ar a p c k with
    | some x => some x
    | none => if Ar 2 k = c ∧ ¬ ftC Ar a p k = 0 then some k else none := by rw [blF]
theorem blF_keep {Ar : Nat → Nat → Int32} {a p : Nat} {c : Int32} {k x : Nat} (h : blF Ar a p c k = some x) : ∀ j, blF Ar a p c (k + j) = some x := by
  intro j
  induction j with
  | zero => exact h
  | succ j ih => rw [show k + (j + 1) = (k + j) + 1 from rfl, blF_s, ih]
theorem blF_at {Ar : Nat → Nat → Int32} {a p : Nat} {c : Int32} : ∀ {n x : Nat}, blF Ar a p c n = some x → x < n ∧ Ar 2 x = c ∧ ¬ ftC Ar a p x = 0
  | 0, x, h => by rw [blF_0] at h; cases h
  | n + 1, x, h => by
    rw [blF_s] at h
    split at h
    · rename_i y hy
      cases h
      have := blF_at hy
      exact ⟨by omega, this.2⟩
    · split at h
      · rename_i hc; cases h; exact ⟨Nat.lt_succ_self _, hc⟩
      · cases h
theorem lp_X7_below_3 {E : gE} (X : Gc G E "ComplaintDeskModel" cX7_below 5 3 0 0) (F : gF E M_X7_below) (D : md ix m ad) (a p : Nat) (c : Int32) (ha : a ≤ 80) (hI : okN (I 11) 12) (hP : PV Ar) (hL : LV Ar a)  : ∀ (f : Nat) (k : Nat), k ≤ cl (I 11) → cl (I 11) - k < f → blF Ar a p c k = none → GW G E (gMQ G E 0 0 (rX (some (.int (enO (blF Ar a p c (cl (I 11)))))) (mH G ix ad I Ar h0))) 5 3 [(0, .ref m), (1, .int c), (2, .int (nI a)), (3, .int (nI p)), (4, .int (nI k))] [] (mH G ix ad I Ar h0) 0 0 := by
  intro f
  induction f with
  | zero => intro k hk hf hn; exact absurd hf (Nat.not_lt_zero _)
  | succ f ih =>
    intro k hk hf hn
    have hI1 := hI.le
    refine g_iload X dX7_below_3 4 rfl ?_
    refine g_aload_n X dX7_below_5 0 rfl ?_
    refine g_getfield X fl_X7_94 dX7_below_6 (mLm D) rfl ?_
    refine g_icmp_ge X 43 dX7_below_9 (by decide) (fun c_9 => ?_) (fun c_9 => ?_)
    · have hq : k = cl (I 11) := by have := hI.ge c_9 (by omega); omega
      subst hq
      refine g_iconst X (v := (-1)) dX7_below_43 ki_m1 ?_
      refine g_iret X F rfl rfl dX7_below_44 (Nat.zero_le _) (Nat.zero_le _) ?_
      exact ⟨by rw [hn]; rfl, rfl⟩
    · have hq : k < cl (I 11) := hI.lt (Int32.not_le.mp c_9) (by omega)
      refine g_aload_n X dX7_below_12 0 rfl ?_
      refine g_getfield X fl_X7_9 dX7_below_13 (mLm D) rfl ?_
      refine g_iload X dX7_below_16 4 rfl ?_
      refine g_iaload X dX7_below_18 (mLa D 2 rfl) (vp_in_nI (by omega) (by decide)) ?_
      refine g_eqi (y := Ar 2 k) (by rw [nI_clamp (by omega)]) ?_
      refine g_iload_n X dX7_below_19 1 rfl ?_
      refine g_icmp_ne X 37 dX7_below_20 (by decide) (fun c_20 => ?_) (fun c_20 => ?_)
      · have hn1 : blF Ar a p c (k + 1) = none := by rw [blF_s, hn]; exact if_neg (fun q => c_20 q.1)
        refine g_iinc X (v := nI (k + 1)) dX7_below_37 4 rfl (nI_1 k) (Nat.le_of_ble_eq_true rfl) [(4, _), (0, _), (1, _), (2, _), (3, _)] rfl ?_
        refine g_goto X 3 dX7_below_40 (by decide) ?_
        refine g_L [1, 2, 3, 4, 0] (L' := [(0, _), (1, _), (2, _), (3, _), (4, _)]) rfl ?_
        exact ih (k + 1) (by omega) (by omega) hn1
      · refine g_aload_n X dX7_below_23 0 rfl ?_
        refine g_iload X dX7_below_24 4 rfl ?_
        refine g_iload_n X dX7_below_26 2 rfl ?_
        refine g_iload_n X dX7_below_27 3 rfl ?_
        refine g_cV X ml_X7_163 (c_X7_fits D a p k ha (by omega) hP hL) ⟨7, _, mLm D, rfl⟩ (Nat.le_of_ble_eq_true rfl) rfl rfl (Nat.le_of_ble_eq_true rfl) (Nat.zero_le _) (Nat.zero_le _) dX7_below_28 ?_
        refine g_if_eq X 37 dX7_below_31 (by decide) (fun c_31 => ?_) (fun c_31 => ?_)
        · have hn1 : blF Ar a p c (k + 1) = none := by rw [blF_s, hn]; exact if_neg (fun q => q.2 c_31)
          refine g_iinc X (v := nI (k + 1)) dX7_below_37 4 rfl (nI_1 k) (Nat.le_of_ble_eq_true rfl) [(4, _), (0, _), (1, _), (2, _), (3, _)] rfl ?_
          refine g_goto X 3 dX7_below_40 (by decide) ?_
          refine g_L [1, 2, 3, 4, 0] (L' := [(0, _), (1, _), (2, _), (3, _), (4, _)]) rfl ?_
          exact ih (k + 1) (by omega) (by omega) hn1
        · have hn1 : blF Ar a p c (k + 1) = some k := by rw [blF_s, hn]; exact if_pos ⟨c_20, c_31⟩
          have hn2 : blF Ar a p c (cl (I 11)) = some k := by rw [show cl (I 11) = (k + 1) + (cl (I 11) - (k + 1)) by omega]; exact blF_keep hn1 _
          refine g_iload X dX7_below_34 4 rfl ?_
          refine g_iret X F rfl rfl dX7_below_36 (Nat.zero_le _) (Nat.zero_le _) ?_
          exact ⟨by rw [hn2]; rfl, rfl⟩
theorem c_X7_below (D : md ix m ad) (a p : Nat) (c : Int32) (ha : a ≤ 80) (hI : okN (I 11) 12) (hP : PV Ar) (hL : LV Ar a)  : Ct G l 3 0 0 M_X7_below [.ref m, .int c, .int (nI a), .int (nI p)] (mH G ix ad I Ar h0) (rX (some (.int (enO (blF Ar a p c (cl (I 11)))))) (mH G ix ad I Ar h0)) := by
  refine Ct.of (by decide +kernel) (Nat.le_of_ble_eq_true rfl) (fun E hE X F => ?_)
  have X : Gc G E "ComplaintDeskModel" cX7_below 5 3 0 0 := X
  show GW G E _ 5 0 [(0, _), (1, _), (2, _), (3, _)] [] _ 0 0
  refine g_iconst X (v := 0) dX7_below_0 ki_0 ?_
  refine g_istore X dX7_below_1 (Nat.le_of_ble_eq_true rfl) [(4, _), (0, _), (1, _), (2, _), (3, _)] rfl ?_
  refine g_L [1, 2, 3, 4, 0] (L' := [(0, _), (1, _), (2, _), (3, _), (4, _)]) rfl ?_
  exact lp_X7_below_3 X F D a p c ha hI hP hL _ 0 (Nat.zero_le _) (Nat.lt_succ_self _) blF_0
/-- the cause of a point: from c on downwards -/
def srF (Ar : Nat → Nat → Int32) (a p nc : Nat) : Nat → Int32 → Int32
  | 0, c => c
  | f + 1, c => match blF Ar a p c nc with
    | none => c
    | some k => srF Ar a p nc f (nI k)
termination_by f => f
theorem srF_s {Ar : Nat → Nat → Int32} {a p nc f : Nat} {c : Int32} : srF Ar a p nc (f + 1) c = match blF Ar a p c nc with
    | none => c
    | some k => srF Ar a p nc f (nI k) := by rw [srF]
abbrev srC (I : Nat → Int32) (Ar : Nat → Nat → Int32) (a p : Nat) : Int32 := srF Ar a p (cl (I 11)) 13 (-1)
theorem lp_X7_sorted_11 {E : gE} (X : Gc G E "ComplaintDeskModel" cX7_sorted 5 4 0 0) (F : gF E M_X7_sorted) (D : md ix m ad) (a p : Nat) (ha : a ≤ 80) (hI : okN (I 11) 12) (hP : PV Ar) (hL : LV Ar a) (hA : abvP I Ar)  : ∀ (f : Nat) (c : Int32), 12 ≤ (f : Int) + c.toInt → -1 ≤ c.toInt → c.toInt < 12 → srC I Ar a p = srF Ar a p (cl (I 11)) f c → GW G E (gMQ G E 0 0 (rX (some (.int (srC I Ar a p))) (mH G ix ad I Ar h0))) 5 11 [(0, .ref m), (1, .int (nI a)), (2, .int (nI p)), (3, .int c), (4, .int (enO (blF Ar a p c (cl (I 11)))))] [] (mH G ix ad I Ar h0) 0 0 := by
  intro f
  induction f with
  | zero => intro c hf hc1 hc2 hr; exact absurd hf (by omega)
  | succ f ih =>
    intro c hf hc1 hc2 hr
    have hI1 := hI.eq
    rw [srF_s] at hr
    refine g_iload X dX7_sorted_11 4 rfl ?_
    refine g_if_lt X 31 dX7_sorted_13 (by decide) (fun c_13 => ?_) (fun c_13 => ?_)
    · have hn : blF Ar a p c (cl (I 11)) = none := (enO_nn2 (fun b q => by have := blF_at q; omega)).mp c_13
      rw [hn] at hr
      refine g_iload_n X dX7_sorted_31 3 rfl ?_
      refine g_iret X F rfl rfl dX7_sorted_32 (Nat.zero_le _) (Nat.zero_le _) ?_
      exact ⟨by rw [hr], rfl⟩
    · obtain ⟨k, hk⟩ : ∃ k, blF Ar a p c (cl (I 11)) = some k := by cases q : blF Ar a p c (cl (I 11)) with | none => rw [q] at c_13; exact absurd (by decide) c_13 | some b => exact ⟨b, rfl⟩
      have hk1 := blF_at hk
      have hk2 := (hA k (by rw [hI1.1]; exact nI_lt hk1.1 (by omega)) (by omega)).1
      rw [hk1.2.1, i32_lt, nI_toInt (by omega)] at hk2
      rw [hk] at hr ⊢
      refine g_iload X dX7_sorted_16 4 rfl ?_
      refine g_istore_n X dX7_sorted_18 (Nat.le_of_ble_eq_true rfl) [(3, _), (0, _), (1, _), (2, _), (4, _)] rfl ?_
      refine g_aload_n X dX7_sorted_19 1 rfl ?_
      refine g_iload_n X dX7_sorted_20 0 rfl ?_
      refine g_iload_n X dX7_sorted_21 2 rfl ?_
      refine g_iload_n X dX7_sorted_22 3 rfl ?_
      refine g_cV X ml_X7_166 (c_X7_below D a p (nI k) ha hI hP hL) ⟨7, _, mLm D, rfl⟩ (Nat.le_of_ble_eq_true rfl) rfl rfl (Nat.le_of_ble_eq_true rfl) (Nat.zero_le _) (Nat.zero_le _) dX7_sorted_23 ?_
      refine g_istore X dX7_sorted_26 (Nat.le_of_ble_eq_true rfl) [(4, _), (3, _), (0, _), (1, _), (2, _)] rfl ?_
      refine g_goto X 11 dX7_sorted_28 (by decide) ?_
      refine g_L [2, 3, 4, 1, 0] (L' := [(0, _), (1, _), (2, _), (3, _), (4, _)]) rfl ?_
      refine ih (nI k) ?_ ?_ ?_ hr
      all_goals rw [nI_toInt (by omega)]
      all_goals omega
theorem c_X7_sorted (D : md ix m ad) (a p : Nat) (ha : a ≤ 80) (hI : okN (I 11) 12) (hP : PV Ar) (hL : LV Ar a) (hA : abvP I Ar)  : Ct G l 4 0 0 M_X7_sorted [.ref m, .int (nI a), .int (nI p)] (mH G ix ad I Ar h0) (rX (some (.int (srC I Ar a p))) (mH G ix ad I Ar h0)) := by
  refine Ct.of (by decide +kernel) (Nat.le_of_ble_eq_true rfl) (fun E hE X F => ?_)
  have X : Gc G E "ComplaintDeskModel" cX7_sorted 5 4 0 0 := X
  show GW G E _ 5 0 [(0, _), (1, _), (2, _)] [] _ 0 0
  refine g_iconst X (v := (-1)) dX7_sorted_0 ki_m1 ?_
  refine g_istore_n X dX7_sorted_1 (Nat.le_of_ble_eq_true rfl) [(3, _), (0, _), (1, _), (2, _)] rfl ?_
  refine g_aload_n X dX7_sorted_2 1 rfl ?_
  refine g_iconst X (v := (-1)) dX7_sorted_3 ki_m1 ?_
  refine g_iload_n X dX7_sorted_4 2 rfl ?_
  refine g_iload_n X dX7_sorted_5 3 rfl ?_
  refine g_cV X ml_X7_166 (c_X7_below D a p (-1) ha hI hP hL) ⟨7, _, mLm D, rfl⟩ (Nat.le_of_ble_eq_true rfl) rfl rfl (Nat.le_of_ble_eq_true rfl) (Nat.zero_le _) (Nat.zero_le _) dX7_sorted_6 ?_
  refine g_istore X dX7_sorted_9 (Nat.le_of_ble_eq_true rfl) [(4, _), (3, _), (0, _), (1, _), (2, _)] rfl ?_
  refine g_L [2, 3, 4, 1, 0] (L' := [(0, _), (1, _), (2, _), (3, _), (4, _)]) rfl ?_
  exact lp_X7_sorted_11 X F D a p ha hI hP hL hA 13 (-1) (by decide) (by decide) (by decide) rfl
abbrev ptA (Ar : Nat → Nat → Int32) (a p : Nat) (c : Int32) : Nat → Nat → Int32 := va_up (va_up Ar 22 (upd (Ar 22) (6 * a + p) c)) 23 (upd (Ar 23) (6 * a + p) (if c < 0 then -1 else Ar 14 a + Ar 4 (cl c)))
theorem c_X7_puts (D : md ix m ad) (a p : Nat) (c : Int32) (ha : a < 80) (hp : p < 6) (hc : c < 12) : Ct G l 0 0 0 M_X7_puts [.ref m, .int (nI a), .int (nI p), .int c] (mH G ix ad I Ar h0) (rX none (mH G ix ad I (ptA Ar a p c) h0)) := by
  refine Ct.of (by decide +kernel) (Nat.le_of_ble_eq_true rfl) (fun E hE X F => ?_)
  have X : Gc G E "ComplaintDeskModel" cX7_puts 4 0 0 0 := X
  show GW G E _ 4 0 [(0, _), (1, _), (2, _), (3, _)] [] _ 0 0
  refine g_aload_n X dX7_puts_0 0 rfl ?_
  refine g_getfield X fl_X7_66 dX7_puts_1 (mLm D) rfl ?_
  refine g_bipush X (v := 6) dX7_puts_4 kb_6 ?_
  refine g_iload_n X dX7_puts_6 1 rfl ?_
  refine g_imul X dX7_puts_7 ?_
  refine g_iload_n X dX7_puts_8 2 rfl ?_
  refine g_iadd X dX7_puts_9 ?_
  refine g_eqi (y := nI (6 * a + p)) (ix6 a p) ?_
  refine g_iload_n X dX7_puts_10 3 rfl ?_
  refine g_iastore X dX7_puts_11 (mLa D 22 rfl) (vp_in_nI (by omega) (by decide)) (g_h (mUa D 22 rfl _) ?_)
  refine g_aload_n X dX7_puts_12 0 rfl ?_
  refine g_getfield X fl_X7_69 dX7_puts_13 (mLm D) rfl ?_
  refine g_bipush X (v := 6) dX7_puts_16 kb_6 ?_
  refine g_iload_n X dX7_puts_18 1 rfl ?_
  refine g_imul X dX7_puts_19 ?_
  refine g_iload_n X dX7_puts_20 2 rfl ?_
  refine g_iadd X dX7_puts_21 ?_
  refine g_eqi (y := nI (6 * a + p)) (ix6 a p) ?_
  refine g_iload_n X dX7_puts_22 3 rfl ?_
  refine g_if_ge X 30 dX7_puts_23 (by decide) (fun c_23 => ?_) (fun c_23 => ?_)
  · refine g_aload_n X dX7_puts_30 0 rfl ?_
    refine g_getfield X fl_X7_45 dX7_puts_31 (mLm D) rfl ?_
    refine g_iload_n X dX7_puts_34 1 rfl ?_
    refine g_iaload X dX7_puts_35 (mLa D 14 rfl) (vp_in_nI (by omega) (by decide)) ?_
    refine g_eqi (y := Ar 14 a) (by show Ar 14 ((nI a).toNatClampNeg) = _; rw [nI_clamp (by omega)]) ?_
    refine g_aload_n X dX7_puts_36 0 rfl ?_
    refine g_getfield X fl_X7_16 dX7_puts_37 (mLm D) rfl ?_
    refine g_iload_n X dX7_puts_40 3 rfl ?_
    refine g_iaload X dX7_puts_41 (mLa D 4 rfl) (vp12 (Int32.not_lt.mpr c_23) hc) ?_
    refine g_iadd X dX7_puts_42 ?_
    refine g_iastore X dX7_puts_43 (mLa D 23 rfl) (vp_in_nI (by omega) (by decide)) (g_h (mUa D 23 rfl _) ?_)
    refine g_ret0 X F rfl dX7_puts_44 (Nat.zero_le _) (Nat.zero_le _) ?_
    first | (refine ⟨rfl, ?_⟩; rw [nI_clamp (by omega)]; show _ = mH G ix ad I (va_up (va_up Ar 22 (upd (Ar 22) (6 * a + p) c)) 23 (upd (Ar 23) (6 * a + p) (if c < 0 then -1 else Ar 14 a + Ar 4 (cl c)))) h0; rw [if_neg (Int32.not_lt.mpr c_23)]; rfl) | (refine ⟨rfl, ?_⟩; rw [nI_clamp (by omega)]; show _ = mH G ix ad I (va_up (va_up Ar 22 (upd (Ar 22) (6 * a + p) c)) 23 (upd (Ar 23) (6 * a + p) (if c < 0 then -1 else Ar 14 a + Ar 4 (cl c)))) h0; rw [if_pos (Int32.not_le.mp c_23)]; rfl)
  · refine g_iconst X (v := (-1)) dX7_puts_26 ki_m1 ?_
    refine g_goto X 43 dX7_puts_27 (by decide) ?_
    refine g_iastore X dX7_puts_43 (mLa D 23 rfl) (vp_in_nI (by omega) (by decide)) (g_h (mUa D 23 rfl _) ?_)
    refine g_ret0 X F rfl dX7_puts_44 (Nat.zero_le _) (Nat.zero_le _) ?_
    first | (refine ⟨rfl, ?_⟩; rw [nI_clamp (by omega)]; show _ = mH G ix ad I (va_up (va_up Ar 22 (upd (Ar 22) (6 * a + p) c)) 23 (upd (Ar 23) (6 * a + p) (if c < 0 then -1 else Ar 14 a + Ar 4 (cl c)))) h0; rw [if_neg (Int32.not_lt.mpr c_23)]; rfl) | (refine ⟨rfl, ?_⟩; rw [nI_clamp (by omega)]; show _ = mH G ix ad I (va_up (va_up Ar 22 (upd (Ar 22) (6 * a + p) c)) 23 (upd (Ar 23) (6 * a + p) (if c < 0 then -1 else Ar 14 a + Ar 4 (cl c)))) h0; rw [if_pos (Int32.not_le.mp c_23)]; rfl)
end M13
