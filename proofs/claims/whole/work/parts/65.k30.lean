section K30
variable {G : gG} {l : Launch} {h h0 : hW} {Z : kZ} {I : Nat → Int32} {Ar : Nat → Nat → Int32} {T : Nat → Int32} {A : Nat → Nat → Int32} {Lg : Nat → Nat → Int64}
theorem lp_X3_hasWord_y {E : gE} (X : Gc G E "ComplaintDesk$Point" cX3_hasWord 4 0 0 0) (F : gF E M_X3_hasWord) (y yj n : Nat) (gw : Nat → Int64) (cx : Option Nat) (du an : Int32) (hn : n ≤ 60) (hy : h y = some (ob 3 [.ref yj, va_rf cx, .int du, .int an])) (hyj : h yj = some (aJ G n gw)) (x : Int64) : ∀ (f : Nat) (i : Nat), i ≤ n → (∀ j, j < i → ¬ gw j = x) → n - i < f → GW G E (gMQ G E 0 0 (rX (some (.int (b2 (∃ j, j < n ∧ gw j = x)))) h)) 4 2 [(3, .int (nI i)), (0, .ref y), (1, .long x)] [] h 0 0 := by
  intro f
  induction f with
  | zero => intro i hi hno hf; exact absurd hf (Nat.not_lt_zero _)
  | succ f ih =>
    intro i hi hno hf
    refine g_iload_n X dX3_hasWord_2 0 rfl ?_
    refine g_aload_n X dX3_hasWord_3 1 rfl ?_
    refine g_getfield X fl_X3_22 dX3_hasWord_4 hy rfl ?_
    refine g_alen X dX3_hasWord_7 (t := 2) rfl hyj (nI n) rfl ?_
    refine g_icmp_ge X 30 dX3_hasWord_8 (by decide) (fun c_8 => ?_) (fun c_8 => ?_)
    · have hge : n ≤ i := (nI_leI (by omega) (by omega)).mp c_8
      refine g_iconst X (v := 0) dX3_hasWord_30 ki_0 ?_
      refine g_iret X F rfl rfl dX3_hasWord_31 (Nat.zero_le _) (Nat.zero_le _) ?_
      exact ⟨by rw [b2_f (fun ⟨j, q1, q2⟩ => hno j (by omega) q2)], rfl⟩
    · have hlt : i < n := nI_lt_of c_8 (by omega) (by omega)
      refine g_aload_n X dX3_hasWord_11 1 rfl ?_
      refine g_getfield X fl_X3_22 dX3_hasWord_12 hy rfl ?_
      refine g_iload_n X dX3_hasWord_15 0 rfl ?_
      refine g_laload X dX3_hasWord_16 hyj (vp_in_nI hlt (by omega)) ?_
      refine g_eql (y := gw i) (by rw [nI_clamp (by omega)]) ?_
      refine g_lload_n X dX3_hasWord_17 2 rfl ?_
      refine g_lcmp X dX3_hasWord_18 ?_
      refine g_if_ne X 24 dX3_hasWord_19 (by decide) (fun c_19 => ?_) (fun c_19 => ?_)
      · refine g_iinc X (v := nI (i + 1)) dX3_hasWord_24 0 rfl (nI_1 i) (Nat.le_of_ble_eq_true rfl) [(3, _), (0, _), (1, _)] rfl ?_
        refine g_goto X 2 dX3_hasWord_27 (by decide) ?_
        refine g_L [0, 1, 2] (L' := [(3, _), (0, _), (1, _)]) rfl ?_
        exact ih (i + 1) (by omega) (fun j hj => by
          by_cases e : j = i
          · rw [e]; exact fun q => c_19 ((lg_cmp_eq _ _).mpr q)
          · exact hno j (by omega)) (by omega)
      · refine g_iconst X (v := 1) dX3_hasWord_22 ki_1 ?_
        refine g_iret X F rfl rfl dX3_hasWord_23 (Nat.zero_le _) (Nat.zero_le _) ?_
        exact ⟨by rw [b2_t ⟨i, hlt, (lg_cmp_eq _ _).mp c_19⟩], rfl⟩
theorem c_X3_hasWord_y (y yj n : Nat) (gw : Nat → Int64) (cx : Option Nat) (du an : Int32) (hn : n ≤ 60) (hy : h y = some (ob 3 [.ref yj, va_rf cx, .int du, .int an])) (hyj : h yj = some (aJ G n gw)) (x : Int64)  : Ct G l 0 0 0 M_X3_hasWord [.ref y, .long x] h (rX (some (.int (b2 (∃ j, j < n ∧ gw j = x)))) h) := by
  refine Ct.of (by decide +kernel) (Nat.le_of_ble_eq_true rfl) (fun E hE X F => ?_)
  have X : Gc G E "ComplaintDesk$Point" cX3_hasWord 4 0 0 0 := X
  show GW G E _ 4 0 [(0, _), (1, _)] [] _ 0 0
  refine g_iconst X (v := 0) dX3_hasWord_0 ki_0 ?_
  refine g_istore_n X dX3_hasWord_1 (Nat.le_of_ble_eq_true rfl) [(3, _), (0, _), (1, _)] rfl ?_
  refine g_L [0, 1, 2] (L' := [(3, _), (0, _), (1, _)]) rfl ?_
  exact lp_X3_hasWord_y X F y yj n gw cx du an hn hy hyj x _ 0 (Nat.zero_le _) (fun j hj => absurd hj (Nat.not_lt_zero _)) (Nat.lt_succ_self _)
/-- a pattern's words are in the words gw just when they are in the reference's point -/
def kRY (Z : kZ) (Ar : Nat → Nat → Int32) (Lg : Nat → Nat → Int64) (c a p n : Nat) (gw : Nat → Int64) : Prop := ∀ i, i < Z.Sz (300 + c) → ((∃ j, j < n ∧ gw j = Lg (300 + c) i) ↔ hwP Ar a p (12 * c + i))
theorem lp_X2_fits_y {E : gE} (X : Gc G E "ComplaintDesk$Pattern" cX2_fits 6 1 0 0) (F : gF E M_X2_fits) (D : kW G Z) (a p : Nat) (y yj n : Nat) (gw : Nat → Int64) (cx : Option Nat) (du an : Int32) (hn : n ≤ 60) (hy : (kH G Z I Ar T A Lg h0) y = some (ob 3 [.ref yj, va_rf cx, .int du, .int an])) (hyj : (kH G Z I Ar T A Lg h0) yj = some (aJ G n gw)) (c : Nat) (hc : c < Z.nC) (hR : kRP Z Ar T A c) (hV : kRY Z Ar Lg c a p n gw)  : ∀ (f : Nat) (i : Nat) (al : Int32), i ≤ (Z.Sz (300 + c)) → ftN Ar a p c i = some al → (al = 0 ∨ al = 1) → (Z.Sz (300 + c)) - i < f → GW G E (gMQ G E 0 0 (rX (some (.int (ftV Ar a p c (Z.Sz (300 + c))))) (kH G Z I Ar T A Lg h0))) 6 7 [(4, .int (nI i)), (3, .int al), (2, .int (pvA (A (400 + c)) i)), (0, .ref (Z.da (200 + c))), (1, .ref y)] [] (kH G Z I Ar T A Lg h0) 0 0 := by
  intro f
  induction f with
  | zero => intro i al hi hft hal hf; exact absurd hf (Nat.not_lt_zero _)
  | succ f ih =>
    intro i al hi hft hal hf
    have h12 := D.s12 hc
    refine g_iload X dX2_fits_7 0 rfl ?_
    refine g_aload_n X dX2_fits_9 3 rfl ?_
    refine g_getfield X fl_X2_25 dX2_fits_10 (kLP D hc) rfl ?_
    refine g_alen X dX2_fits_13 (t := 2) rfl (kLPJ D hc) (nI (Z.Sz (300 + c))) rfl ?_
    refine g_icmp_ge X 102 dX2_fits_14 (by decide) (fun c_14 => ?_) (fun c_14 => ?_)
    · have hge : (Z.Sz (300 + c)) ≤ i := (nI_leI (by omega) (by omega)).mp c_14
      refine g_iload_n X dX2_fits_102 1 rfl ?_
      refine g_iret X F rfl (by rcases hal with q | q <;> rw [q] <;> rfl) dX2_fits_103 (Nat.zero_le _) (Nat.zero_le _) ?_
      have e1 : i = (Z.Sz (300 + c)) := by omega
      subst e1
      exact ⟨by unfold ftV; rw [hft], rfl⟩
    · have hlt : i < (Z.Sz (300 + c)) := nI_lt_of c_14 (by omega) (by omega)
      obtain ⟨hR1, hR2, hR3⟩ := hR i hlt
      refine g_iload X dX2_fits_17 0 rfl ?_
      refine g_aload_n X dX2_fits_19 3 rfl ?_
      refine g_getfield X fl_X2_35 dX2_fits_20 (kLP D hc) rfl ?_
      refine g_alen X dX2_fits_23 (t := 0) rfl (kLPI D hc) (nI (Z.Sz (300 + c))) rfl ?_
      refine g_icmp_ge X 102 dX2_fits_24 (by decide) (fun c_24 => absurd c_24 c_14) (fun c_24 => ?_)
      refine g_aload_n X dX2_fits_27 3 rfl ?_
      refine g_getfield X fl_X2_35 dX2_fits_28 (kLP D hc) rfl ?_
      refine g_iload X dX2_fits_31 0 rfl ?_
      refine g_iaload X dX2_fits_33 (kLPI D hc) (vp_in_nI hlt (by omega)) ?_
      refine g_eqi (y := A (400 + c) i) (by rw [nI_clamp (by omega)]) ?_
      refine g_iload_n X dX2_fits_34 2 rfl ?_
      refine g_icmp_eq X 54 dX2_fits_35 (by decide) (fun c_35 => ?_) (fun c_35 => ?_)
      · refine g_L [0, 1, 2, 3, 4] (L' := [(4, _), (3, _), (2, .int (A (400 + c) i)), (0, _), (1, _)]) (by rw [c_35]; rfl) ?_
        refine g_aload_n X dX2_fits_54 3 rfl ?_
        refine g_getfield X fl_X2_41 dX2_fits_55 (kLP D hc) rfl ?_
        refine g_iload X dX2_fits_58 0 rfl ?_
        refine g_ishr X dX2_fits_60 ?_
        refine g_iconst X (v := 1) dX2_fits_61 ki_1 ?_
        refine g_iand X dX2_fits_62 ?_
        refine g_iconst X (v := 1) dX2_fits_63 ki_1 ?_
        refine g_icmp_ne X 71 dX2_fits_64 (by decide) (fun c_64 => ?_) (fun c_64 => ?_)
        · refine g_iconst X (v := 0) dX2_fits_71 ki_0 ?_
          refine g_istore X dX2_fits_72 (Nat.le_of_ble_eq_true rfl) [(5, _), (4, _), (3, _), (2, _), (0, _), (1, _)] rfl ?_
          refine g_iload_n X dX2_fits_74 2 rfl ?_
          refine g_if_eq X 96 dX2_fits_75 (by decide) (fun c_75 => ?_) (fun c_75 => ?_)
          · refine g_iinc X (v := nI (i + 1)) dX2_fits_96 1 rfl (nI_1 i) (Nat.le_of_ble_eq_true rfl) [(4, _), (5, _), (3, _), (2, _), (0, _), (1, _)] rfl ?_
            refine g_goto X 7 dX2_fits_99 (by decide) ?_
            refine g_L [0, 2, 3, 4, 5] (L' := [(4, _), (3, _), (2, _), (0, _), (1, _)]) rfl ?_
            have e10 : Ar 10 (12 * c + i) = 0 := hR1.mp c_35
            have eal : al = 0 := c_75
            
            have hst : ftN Ar a p c (i + 1) = some 0 := by
              rw [ftN_s, hft]; show (if _ then _ else _) = _
              rw [if_neg (fun q => q.1 e10), if_pos e10, if_pos c_75]
            refine g_L [0, 1, 2, 3, 4] (L' := [(4, _), (3, .int 0), (2, _), (0, _), (1, _)]) (by rw [eal]; rfl) ?_
            exact ih (i + 1) 0 (by omega) hst (Or.inl rfl) (by omega)
          · refine g_aload_n X dX2_fits_78 5 rfl ?_
            refine g_aload_n X dX2_fits_79 4 rfl ?_
            refine g_getfield X fl_X2_25 dX2_fits_80 (kLP D hc) rfl ?_
            refine g_iload X dX2_fits_83 1 rfl ?_
            refine g_laload X dX2_fits_85 (kLPJ D hc) (vp_in_nI hlt (by omega)) ?_
            refine g_eql (y := Lg (300 + c) i) (by rw [nI_clamp (by omega)]) ?_
            refine g_cV X ml_X2_78 (c_X3_hasWord_y y yj n gw cx du an hn hy hyj (Lg (300 + c) i)) ⟨3, _, hy, rfl⟩ (Nat.le_of_ble_eq_true rfl) rfl rfl (Nat.le_of_ble_eq_true rfl) (Nat.zero_le _) (Nat.zero_le _) dX2_fits_86 ?_
            refine g_iload X dX2_fits_89 0 rfl ?_
            refine g_icmp_ne X 96 dX2_fits_91 (by decide) (fun c_91 => ?_) (fun c_91 => ?_)
            · refine g_iinc X (v := nI (i + 1)) dX2_fits_96 1 rfl (nI_1 i) (Nat.le_of_ble_eq_true rfl) [(4, _), (5, _), (3, _), (2, _), (0, _), (1, _)] rfl ?_
              refine g_goto X 7 dX2_fits_99 (by decide) ?_
              refine g_L [0, 2, 3, 4, 5] (L' := [(4, _), (3, _), (2, _), (0, _), (1, _)]) rfl ?_
              have e10 : Ar 10 (12 * c + i) = 0 := hR1.mp c_35
              have e9 : Ar 9 (12 * c + i) = 0 := hR3.resolve_right (fun q => c_64 (hR2.trans q))
              have ebw : b2 (∃ j, j < n ∧ gw j = Lg (300 + c) i) = b2 (hwP Ar a p (12 * c + i)) := b2_iff (hV i hlt)
              have hst : ftN Ar a p c (i + 1) = some 1 := by
                rw [ftN_s, hft]; show (if _ then _ else _) = _
                rw [if_neg (fun q => q.1 e10), if_pos e10, if_neg c_75]
                rw [b2_t (show ¬ (b2 (hwP Ar a p (12 * c + i)) = Ar 9 (12 * c + i)) from fun q => c_91 (ebw.trans (q.trans e9)))]
              have eal : al = 1 := hal.resolve_left c_75
              refine g_L [0, 1, 2, 3, 4] (L' := [(4, _), (3, .int 1), (2, _), (0, _), (1, _)]) (by rw [eal]; rfl) ?_
              exact ih (i + 1) 1 (by omega) hst (Or.inr rfl) (by omega)
            · refine g_iconst X (v := 0) dX2_fits_94 ki_0 ?_
              refine g_istore_n X dX2_fits_95 (Nat.le_of_ble_eq_true rfl) [(3, _), (5, _), (4, _), (2, _), (0, _), (1, _)] rfl ?_
              refine g_iinc X (v := nI (i + 1)) dX2_fits_96 2 rfl (nI_1 i) (Nat.le_of_ble_eq_true rfl) [(4, _), (3, _), (5, _), (2, _), (0, _), (1, _)] rfl ?_
              refine g_goto X 7 dX2_fits_99 (by decide) ?_
              refine g_L [0, 1, 3, 4, 5] (L' := [(4, _), (3, _), (2, _), (0, _), (1, _)]) rfl ?_
              have e10 : Ar 10 (12 * c + i) = 0 := hR1.mp c_35
              have e9 : Ar 9 (12 * c + i) = 0 := hR3.resolve_right (fun q => c_64 (hR2.trans q))
              have ebw : b2 (∃ j, j < n ∧ gw j = Lg (300 + c) i) = b2 (hwP Ar a p (12 * c + i)) := b2_iff (hV i hlt)
              have hst : ftN Ar a p c (i + 1) = some 0 := by
                rw [ftN_s, hft]; show (if _ then _ else _) = _
                rw [if_neg (fun q => q.1 e10), if_pos e10, if_neg c_75]
                rw [b2_f (fun q => q (ebw.symm.trans (c_91.trans e9.symm)))]
              exact ih (i + 1) 0 (by omega) hst (Or.inl rfl) (by omega)
        · refine g_iconst X (v := 1) dX2_fits_67 ki_1 ?_
          refine g_goto X 72 dX2_fits_68 (by decide) ?_
          refine g_istore X dX2_fits_72 (Nat.le_of_ble_eq_true rfl) [(5, _), (4, _), (3, _), (2, _), (0, _), (1, _)] rfl ?_
          refine g_iload_n X dX2_fits_74 2 rfl ?_
          refine g_if_eq X 96 dX2_fits_75 (by decide) (fun c_75 => ?_) (fun c_75 => ?_)
          · refine g_iinc X (v := nI (i + 1)) dX2_fits_96 1 rfl (nI_1 i) (Nat.le_of_ble_eq_true rfl) [(4, _), (5, _), (3, _), (2, _), (0, _), (1, _)] rfl ?_
            refine g_goto X 7 dX2_fits_99 (by decide) ?_
            refine g_L [0, 2, 3, 4, 5] (L' := [(4, _), (3, _), (2, _), (0, _), (1, _)]) rfl ?_
            have e10 : Ar 10 (12 * c + i) = 0 := hR1.mp c_35
            have eal : al = 0 := c_75
            
            have hst : ftN Ar a p c (i + 1) = some 0 := by
              rw [ftN_s, hft]; show (if _ then _ else _) = _
              rw [if_neg (fun q => q.1 e10), if_pos e10, if_pos c_75]
            refine g_L [0, 1, 2, 3, 4] (L' := [(4, _), (3, .int 0), (2, _), (0, _), (1, _)]) (by rw [eal]; rfl) ?_
            exact ih (i + 1) 0 (by omega) hst (Or.inl rfl) (by omega)
          · refine g_aload_n X dX2_fits_78 5 rfl ?_
            refine g_aload_n X dX2_fits_79 4 rfl ?_
            refine g_getfield X fl_X2_25 dX2_fits_80 (kLP D hc) rfl ?_
            refine g_iload X dX2_fits_83 1 rfl ?_
            refine g_laload X dX2_fits_85 (kLPJ D hc) (vp_in_nI hlt (by omega)) ?_
            refine g_eql (y := Lg (300 + c) i) (by rw [nI_clamp (by omega)]) ?_
            refine g_cV X ml_X2_78 (c_X3_hasWord_y y yj n gw cx du an hn hy hyj (Lg (300 + c) i)) ⟨3, _, hy, rfl⟩ (Nat.le_of_ble_eq_true rfl) rfl rfl (Nat.le_of_ble_eq_true rfl) (Nat.zero_le _) (Nat.zero_le _) dX2_fits_86 ?_
            refine g_iload X dX2_fits_89 0 rfl ?_
            refine g_icmp_ne X 96 dX2_fits_91 (by decide) (fun c_91 => ?_) (fun c_91 => ?_)
            · refine g_iinc X (v := nI (i + 1)) dX2_fits_96 1 rfl (nI_1 i) (Nat.le_of_ble_eq_true rfl) [(4, _), (5, _), (3, _), (2, _), (0, _), (1, _)] rfl ?_
              refine g_goto X 7 dX2_fits_99 (by decide) ?_
              refine g_L [0, 2, 3, 4, 5] (L' := [(4, _), (3, _), (2, _), (0, _), (1, _)]) rfl ?_
              have e10 : Ar 10 (12 * c + i) = 0 := hR1.mp c_35
              have e9 : Ar 9 (12 * c + i) = 1 := hR2.symm.trans c_64
              have ebw : b2 (∃ j, j < n ∧ gw j = Lg (300 + c) i) = b2 (hwP Ar a p (12 * c + i)) := b2_iff (hV i hlt)
              have hst : ftN Ar a p c (i + 1) = some 1 := by
                rw [ftN_s, hft]; show (if _ then _ else _) = _
                rw [if_neg (fun q => q.1 e10), if_pos e10, if_neg c_75]
                rw [b2_t (show ¬ (b2 (hwP Ar a p (12 * c + i)) = Ar 9 (12 * c + i)) from fun q => c_91 (ebw.trans (q.trans e9)))]
              have eal : al = 1 := hal.resolve_left c_75
              refine g_L [0, 1, 2, 3, 4] (L' := [(4, _), (3, .int 1), (2, _), (0, _), (1, _)]) (by rw [eal]; rfl) ?_
              exact ih (i + 1) 1 (by omega) hst (Or.inr rfl) (by omega)
            · refine g_iconst X (v := 0) dX2_fits_94 ki_0 ?_
              refine g_istore_n X dX2_fits_95 (Nat.le_of_ble_eq_true rfl) [(3, _), (5, _), (4, _), (2, _), (0, _), (1, _)] rfl ?_
              refine g_iinc X (v := nI (i + 1)) dX2_fits_96 2 rfl (nI_1 i) (Nat.le_of_ble_eq_true rfl) [(4, _), (3, _), (5, _), (2, _), (0, _), (1, _)] rfl ?_
              refine g_goto X 7 dX2_fits_99 (by decide) ?_
              refine g_L [0, 1, 3, 4, 5] (L' := [(4, _), (3, _), (2, _), (0, _), (1, _)]) rfl ?_
              have e10 : Ar 10 (12 * c + i) = 0 := hR1.mp c_35
              have e9 : Ar 9 (12 * c + i) = 1 := hR2.symm.trans c_64
              have ebw : b2 (∃ j, j < n ∧ gw j = Lg (300 + c) i) = b2 (hwP Ar a p (12 * c + i)) := b2_iff (hV i hlt)
              have hst : ftN Ar a p c (i + 1) = some 0 := by
                rw [ftN_s, hft]; show (if _ then _ else _) = _
                rw [if_neg (fun q => q.1 e10), if_pos e10, if_neg c_75]
                rw [b2_f (fun q => q (ebw.symm.trans (c_91.trans e9.symm)))]
              exact ih (i + 1) 0 (by omega) hst (Or.inl rfl) (by omega)
      · refine g_iload_n X dX2_fits_38 1 rfl ?_
        refine g_if_eq X 44 dX2_fits_39 (by decide) (fun c_39 => ?_) (fun c_39 => ?_)
        · refine g_aload_n X dX2_fits_44 3 rfl ?_
          refine g_getfield X fl_X2_35 dX2_fits_45 (kLP D hc) rfl ?_
          refine g_iload X dX2_fits_48 0 rfl ?_
          refine g_iaload X dX2_fits_50 (kLPI D hc) (vp_in_nI hlt (by omega)) ?_
          refine g_eqi (y := A (400 + c) i) (by rw [nI_clamp (by omega)]) ?_
          refine g_istore_n X dX2_fits_51 (Nat.le_of_ble_eq_true rfl) [(2, _), (4, _), (3, _), (0, _), (1, _)] rfl ?_
          refine g_iconst X (v := 1) dX2_fits_52 ki_1 ?_
          refine g_istore_n X dX2_fits_53 (Nat.le_of_ble_eq_true rfl) [(3, _), (2, _), (4, _), (0, _), (1, _)] rfl ?_
          refine g_aload_n X dX2_fits_54 3 rfl ?_
          refine g_getfield X fl_X2_41 dX2_fits_55 (kLP D hc) rfl ?_
          refine g_iload X dX2_fits_58 2 rfl ?_
          refine g_ishr X dX2_fits_60 ?_
          refine g_iconst X (v := 1) dX2_fits_61 ki_1 ?_
          refine g_iand X dX2_fits_62 ?_
          refine g_iconst X (v := 1) dX2_fits_63 ki_1 ?_
          refine g_icmp_ne X 71 dX2_fits_64 (by decide) (fun c_64 => ?_) (fun c_64 => ?_)
          · refine g_iconst X (v := 0) dX2_fits_71 ki_0 ?_
            refine g_istore X dX2_fits_72 (Nat.le_of_ble_eq_true rfl) [(5, _), (3, _), (2, _), (4, _), (0, _), (1, _)] rfl ?_
            refine g_iload_n X dX2_fits_74 1 rfl ?_
            refine g_if_eq X 96 dX2_fits_75 (by decide) (fun c_75 => ?_) (fun c_75 => ?_)
            · refine g_iinc X (v := nI (i + 1)) dX2_fits_96 3 rfl (nI_1 i) (Nat.le_of_ble_eq_true rfl) [(4, _), (5, _), (3, _), (2, _), (0, _), (1, _)] rfl ?_
              refine g_goto X 7 dX2_fits_99 (by decide) ?_
              refine g_L [0, 2, 3, 4, 5] (L' := [(4, _), (3, _), (2, _), (0, _), (1, _)]) rfl ?_
              exact absurd c_75 (by decide)
            · refine g_aload_n X dX2_fits_78 5 rfl ?_
              refine g_aload_n X dX2_fits_79 4 rfl ?_
              refine g_getfield X fl_X2_25 dX2_fits_80 (kLP D hc) rfl ?_
              refine g_iload X dX2_fits_83 3 rfl ?_
              refine g_laload X dX2_fits_85 (kLPJ D hc) (vp_in_nI hlt (by omega)) ?_
              refine g_eql (y := Lg (300 + c) i) (by rw [nI_clamp (by omega)]) ?_
              refine g_cV X ml_X2_78 (c_X3_hasWord_y y yj n gw cx du an hn hy hyj (Lg (300 + c) i)) ⟨3, _, hy, rfl⟩ (Nat.le_of_ble_eq_true rfl) rfl rfl (Nat.le_of_ble_eq_true rfl) (Nat.zero_le _) (Nat.zero_le _) dX2_fits_86 ?_
              refine g_iload X dX2_fits_89 0 rfl ?_
              refine g_icmp_ne X 96 dX2_fits_91 (by decide) (fun c_91 => ?_) (fun c_91 => ?_)
              · refine g_iinc X (v := nI (i + 1)) dX2_fits_96 3 rfl (nI_1 i) (Nat.le_of_ble_eq_true rfl) [(4, _), (5, _), (3, _), (2, _), (0, _), (1, _)] rfl ?_
                refine g_goto X 7 dX2_fits_99 (by decide) ?_
                refine g_L [0, 2, 3, 4, 5] (L' := [(4, _), (3, _), (2, _), (0, _), (1, _)]) rfl ?_
                have e10 : ¬ Ar 10 (12 * c + i) = 0 := fun q => c_35 (hR1.mpr q)
                have e9 : Ar 9 (12 * c + i) = 0 := hR3.resolve_right (fun q => c_64 (hR2.trans q))
                have ebw : b2 (∃ j, j < n ∧ gw j = Lg (300 + c) i) = b2 (hwP Ar a p (12 * c + i)) := b2_iff (hV i hlt)
                have hst : ftN Ar a p c (i + 1) = some 1 := by
                  rw [ftN_s, hft]; show (if _ then _ else _) = _
                  rw [if_neg (fun q => q.2 c_39), if_neg e10, if_neg (by decide)]
                  rw [b2_t (show ¬ (b2 (hwP Ar a p (12 * c + i)) = Ar 9 (12 * c + i)) from fun q => c_91 (ebw.trans (q.trans e9)))]
                exact ih (i + 1) 1 (by omega) hst (Or.inr rfl) (by omega)
              · refine g_iconst X (v := 0) dX2_fits_94 ki_0 ?_
                refine g_istore_n X dX2_fits_95 (Nat.le_of_ble_eq_true rfl) [(3, _), (5, _), (2, _), (4, _), (0, _), (1, _)] rfl ?_
                refine g_iinc X (v := nI (i + 1)) dX2_fits_96 3 rfl (nI_1 i) (Nat.le_of_ble_eq_true rfl) [(4, _), (3, _), (5, _), (2, _), (0, _), (1, _)] rfl ?_
                refine g_goto X 7 dX2_fits_99 (by decide) ?_
                refine g_L [0, 1, 3, 4, 5] (L' := [(4, _), (3, _), (2, _), (0, _), (1, _)]) rfl ?_
                have e10 : ¬ Ar 10 (12 * c + i) = 0 := fun q => c_35 (hR1.mpr q)
                have e9 : Ar 9 (12 * c + i) = 0 := hR3.resolve_right (fun q => c_64 (hR2.trans q))
                have ebw : b2 (∃ j, j < n ∧ gw j = Lg (300 + c) i) = b2 (hwP Ar a p (12 * c + i)) := b2_iff (hV i hlt)
                have hst : ftN Ar a p c (i + 1) = some 0 := by
                  rw [ftN_s, hft]; show (if _ then _ else _) = _
                  rw [if_neg (fun q => q.2 c_39), if_neg e10, if_neg (by decide)]
                  rw [b2_f (fun q => q (ebw.symm.trans (c_91.trans e9.symm)))]
                exact ih (i + 1) 0 (by omega) hst (Or.inl rfl) (by omega)
          · refine g_iconst X (v := 1) dX2_fits_67 ki_1 ?_
            refine g_goto X 72 dX2_fits_68 (by decide) ?_
            refine g_istore X dX2_fits_72 (Nat.le_of_ble_eq_true rfl) [(5, _), (3, _), (2, _), (4, _), (0, _), (1, _)] rfl ?_
            refine g_iload_n X dX2_fits_74 1 rfl ?_
            refine g_if_eq X 96 dX2_fits_75 (by decide) (fun c_75 => ?_) (fun c_75 => ?_)
            · refine g_iinc X (v := nI (i + 1)) dX2_fits_96 3 rfl (nI_1 i) (Nat.le_of_ble_eq_true rfl) [(4, _), (5, _), (3, _), (2, _), (0, _), (1, _)] rfl ?_
              refine g_goto X 7 dX2_fits_99 (by decide) ?_
              refine g_L [0, 2, 3, 4, 5] (L' := [(4, _), (3, _), (2, _), (0, _), (1, _)]) rfl ?_
              exact absurd c_75 (by decide)
            · refine g_aload_n X dX2_fits_78 5 rfl ?_
              refine g_aload_n X dX2_fits_79 4 rfl ?_
              refine g_getfield X fl_X2_25 dX2_fits_80 (kLP D hc) rfl ?_
              refine g_iload X dX2_fits_83 3 rfl ?_
              refine g_laload X dX2_fits_85 (kLPJ D hc) (vp_in_nI hlt (by omega)) ?_
              refine g_eql (y := Lg (300 + c) i) (by rw [nI_clamp (by omega)]) ?_
              refine g_cV X ml_X2_78 (c_X3_hasWord_y y yj n gw cx du an hn hy hyj (Lg (300 + c) i)) ⟨3, _, hy, rfl⟩ (Nat.le_of_ble_eq_true rfl) rfl rfl (Nat.le_of_ble_eq_true rfl) (Nat.zero_le _) (Nat.zero_le _) dX2_fits_86 ?_
              refine g_iload X dX2_fits_89 0 rfl ?_
              refine g_icmp_ne X 96 dX2_fits_91 (by decide) (fun c_91 => ?_) (fun c_91 => ?_)
              · refine g_iinc X (v := nI (i + 1)) dX2_fits_96 3 rfl (nI_1 i) (Nat.le_of_ble_eq_true rfl) [(4, _), (5, _), (3, _), (2, _), (0, _), (1, _)] rfl ?_
                refine g_goto X 7 dX2_fits_99 (by decide) ?_
                refine g_L [0, 2, 3, 4, 5] (L' := [(4, _), (3, _), (2, _), (0, _), (1, _)]) rfl ?_
                have e10 : ¬ Ar 10 (12 * c + i) = 0 := fun q => c_35 (hR1.mpr q)
                have e9 : Ar 9 (12 * c + i) = 1 := hR2.symm.trans c_64
                have ebw : b2 (∃ j, j < n ∧ gw j = Lg (300 + c) i) = b2 (hwP Ar a p (12 * c + i)) := b2_iff (hV i hlt)
                have hst : ftN Ar a p c (i + 1) = some 1 := by
                  rw [ftN_s, hft]; show (if _ then _ else _) = _
                  rw [if_neg (fun q => q.2 c_39), if_neg e10, if_neg (by decide)]
                  rw [b2_t (show ¬ (b2 (hwP Ar a p (12 * c + i)) = Ar 9 (12 * c + i)) from fun q => c_91 (ebw.trans (q.trans e9)))]
                exact ih (i + 1) 1 (by omega) hst (Or.inr rfl) (by omega)
              · refine g_iconst X (v := 0) dX2_fits_94 ki_0 ?_
                refine g_istore_n X dX2_fits_95 (Nat.le_of_ble_eq_true rfl) [(3, _), (5, _), (2, _), (4, _), (0, _), (1, _)] rfl ?_
                refine g_iinc X (v := nI (i + 1)) dX2_fits_96 3 rfl (nI_1 i) (Nat.le_of_ble_eq_true rfl) [(4, _), (3, _), (5, _), (2, _), (0, _), (1, _)] rfl ?_
                refine g_goto X 7 dX2_fits_99 (by decide) ?_
                refine g_L [0, 1, 3, 4, 5] (L' := [(4, _), (3, _), (2, _), (0, _), (1, _)]) rfl ?_
                have e10 : ¬ Ar 10 (12 * c + i) = 0 := fun q => c_35 (hR1.mpr q)
                have e9 : Ar 9 (12 * c + i) = 1 := hR2.symm.trans c_64
                have ebw : b2 (∃ j, j < n ∧ gw j = Lg (300 + c) i) = b2 (hwP Ar a p (12 * c + i)) := b2_iff (hV i hlt)
                have hst : ftN Ar a p c (i + 1) = some 0 := by
                  rw [ftN_s, hft]; show (if _ then _ else _) = _
                  rw [if_neg (fun q => q.2 c_39), if_neg e10, if_neg (by decide)]
                  rw [b2_f (fun q => q (ebw.symm.trans (c_91.trans e9.symm)))]
                exact ih (i + 1) 0 (by omega) hst (Or.inl rfl) (by omega)
        · refine g_iconst X (v := 1) dX2_fits_42 ki_1 ?_
          refine g_iret X F rfl rfl dX2_fits_43 (Nat.zero_le _) (Nat.zero_le _) ?_
          have e2 : ftN Ar a p c (i + 1) = none := by
            rw [ftN_s, hft]; exact if_pos ⟨fun q => c_35 (hR1.mpr q), c_39⟩
          exact ⟨by unfold ftV; rw [ftN_non e2 (Z.Sz (300 + c)) (by omega)], rfl⟩
theorem c_X2_fits_y (D : kW G Z) (a p : Nat) (y yj n : Nat) (gw : Nat → Int64) (cx : Option Nat) (du an : Int32) (hn : n ≤ 60) (hy : (kH G Z I Ar T A Lg h0) y = some (ob 3 [.ref yj, va_rf cx, .int du, .int an])) (hyj : (kH G Z I Ar T A Lg h0) yj = some (aJ G n gw)) (c : Nat) (hc : c < Z.nC) (hR : kRP Z Ar T A c) (hV : kRY Z Ar Lg c a p n gw)  : Ct G l 1 0 0 M_X2_fits [.ref (Z.da (200 + c)), .ref y] (kH G Z I Ar T A Lg h0) (rX (some (.int (ftV Ar a p c (Z.Sz (300 + c))))) (kH G Z I Ar T A Lg h0)) := by
  refine Ct.of (by decide +kernel) (Nat.le_of_ble_eq_true rfl) (fun E hE X F => ?_)
  have X : Gc G E "ComplaintDesk$Pattern" cX2_fits 6 1 0 0 := X
  show GW G E _ 6 0 [(0, _), (1, _)] [] _ 0 0
  refine g_iconst X (v := 0) dX2_fits_0 ki_0 ?_
  refine g_istore_n X dX2_fits_1 (Nat.le_of_ble_eq_true rfl) [(2, _), (0, _), (1, _)] rfl ?_
  refine g_iconst X (v := 1) dX2_fits_2 ki_1 ?_
  refine g_istore_n X dX2_fits_3 (Nat.le_of_ble_eq_true rfl) [(3, _), (2, _), (0, _), (1, _)] rfl ?_
  refine g_iconst X (v := 0) dX2_fits_4 ki_0 ?_
  refine g_istore X dX2_fits_5 (Nat.le_of_ble_eq_true rfl) [(4, _), (3, _), (2, _), (0, _), (1, _)] rfl ?_
  refine g_L [0, 1, 2, 3, 4] (L' := [(4, _), (3, _), (2, _), (0, _), (1, _)]) rfl ?_
  exact lp_X2_fits_y X F D a p y yj n gw cx du an hn hy hyj c hc hR hV _ 0 1 (Nat.zero_le _) ftN_0 (Or.inr rfl) (Nat.lt_succ_self _)
theorem lp_X6_causeOf_y {E : gE} (X : Gc G E "ComplaintDesk" cX6_causeOf 5 3 0 0) (F : gF E M_X6_causeOf) (D : kW G Z) (hA : ∀ c, c < Z.nC → kN c (Ar 2 c)) (hS : ∀ c, c < Z.nC → Z.Sz (300 + c) = cl (Ar 6 c)) (hR : ∀ c, c < Z.nC → kRP Z Ar T A c) (a p : Nat) (y yj n : Nat) (gw : Nat → Int64) (cx : Option Nat) (du an : Int32) (hn : n ≤ 60) (hy : (kH G Z I Ar T A Lg h0) y = some (ob 3 [.ref yj, va_rf cx, .int du, .int an])) (hyj : (kH G Z I Ar T A Lg h0) yj = some (aJ G n gw)) (hV : ∀ c, c < Z.nC → kRY Z Ar Lg c a p n gw)  : ∀ (f : Nat) (c : Nat), c ≤ Z.nC → Z.nC - c < f → GW G E (gMQ G E 0 0 (rX (some (va_rf (cz Z (kcF Ar a p Z.nC)))) (kH G Z I Ar T A Lg h0))) 5 4 [(3, .int (nI c)), (2, va_rf (cz Z (kcF Ar a p c))), (0, .ref (Z.da 1)), (1, .ref y)] [] (kH G Z I Ar T A Lg h0) 0 0 := by
  intro f
  induction f with
  | zero => intro c hcn hf; exact absurd hf (Nat.not_lt_zero _)
  | succ f ih =>
    intro c hcn hf
    have h80 := D.l80
    have hlx := D.lx
    have h12 := D.c12
    refine g_iload_n X dX6_causeOf_4 0 rfl ?_
    refine g_aload_n X dX6_causeOf_5 2 rfl ?_
    refine g_getfield X fl_X6_33 dX6_causeOf_6 (kL1 D) rfl ?_
    refine g_cV X ml_X6_92 (k_szC D) ⟨8, _, kL4 D, rfl⟩ (Nat.le_of_ble_eq_true rfl) rfl rfl (Nat.le_of_ble_eq_true rfl) (Nat.zero_le _) (Nat.zero_le _) dX6_causeOf_9 ?_
    refine g_icmp_ge X 58 dX6_causeOf_12 (by decide) (fun c_12 => ?_) (fun c_12 => ?_)
    · have hge : Z.nC ≤ c := (nI_leI (by omega) (by omega)).mp c_12
      refine g_aload_nQ X dX6_causeOf_58 1 rfl ?_
      refine g_aret X F rfl (Or.inl ⟨_, rfl⟩) ref_or dX6_causeOf_59 (Nat.zero_le _) (Nat.zero_le _) ?_
      have e1 : c = Z.nC := by omega
      subst e1
      exact ⟨rfl, rfl⟩
    · have hc : c < Z.nC := nI_lt_of c_12 (by omega) (by omega)
      have hkc : kN Z.nC (kcF Ar a p c) := (kcF_k c).le (by omega)
      have hk2 : kN Z.nC (Ar 2 c) := (hA c hc).le (by omega)
      refine g_aload_n X dX6_causeOf_15 2 rfl ?_
      refine g_getfield X fl_X6_33 dX6_causeOf_16 (kL1 D) rfl ?_
      refine g_iload_n X dX6_causeOf_19 0 rfl ?_
      refine g_cV X ml_X6_224 (k_getC D hc) ⟨8, _, kL4 D, rfl⟩ (Nat.le_of_ble_eq_true rfl) rfl rfl (Nat.le_of_ble_eq_true rfl) (Nat.zero_le _) (Nat.zero_le _) dX6_causeOf_20 ?_
      refine g_castO X cl_X6_101 (kLC D hc) rfl dX6_causeOf_23 ?_
      refine g_astore X dX6_causeOf_26 (Nat.le_of_ble_eq_true rfl) [(4, _), (3, _), (2, _), (0, _), (1, _)] rfl ?_
      refine g_aload X dX6_causeOf_28 0 rfl ?_
      refine g_getfield X fl_X6_261 dX6_causeOf_30 (kLC D hc) rfl ?_
      refine g_aload_nQ X dX6_causeOf_33 2 rfl ?_
      refine g_acmp_ne X 52 dX6_causeOf_34 (by decide) (rx := cz Z (Ar 2 c)) rfl (ry := cz Z (kcF Ar a p c)) rfl (fun c_34 => ?_) (fun c_34 => ?_)
      · refine g_iinc X (v := nI (c + 1)) dX6_causeOf_52 1 rfl (nI_1 c) (Nat.le_of_ble_eq_true rfl) [(3, .int (nI (c + 1))), (4, .ref (Z.da (100 + c))), (2, va_rf (cz Z (kcF Ar a p c))), (0, .ref (Z.da 1)), (1, .ref y)] (by simp [g1, va_rf_cat]) ?_
        refine g_goto X 4 dX6_causeOf_55 (by decide) ?_
        refine g_L [0, 2, 3, 4] (L' := [(3, _), (2, _), (0, _), (1, _)]) rfl ?_
        have e1 : kcF Ar a p (c + 1) = kcF Ar a p c := by
          rw [kcF_s, if_neg (fun q => c_34 (by rw [q.1]))]
        refine g_L [0, 1, 2, 3] (L' := [(3, _), (2, va_rf (cz Z (kcF Ar a p (c + 1)))), (0, _), (1, _)]) (by rw [e1]; rfl) ?_
        exact ih (c + 1) (by omega) (by omega)
      · refine g_aload X dX6_causeOf_37 0 rfl ?_
        refine g_getfield X fl_X6_110 dX6_causeOf_39 (kLC D hc) rfl ?_
        refine g_aload_n X dX6_causeOf_42 4 rfl ?_
        refine g_cV X ml_X6_264 (c_X2_fits_y D a p y yj n gw cx du an hn hy hyj c hc (hR c hc) (hV c hc)) ⟨2, _, kLP D hc, rfl⟩ (Nat.le_of_ble_eq_true rfl) rfl rfl (Nat.le_of_ble_eq_true rfl) (Nat.zero_le _) (Nat.zero_le _) dX6_causeOf_43 ?_
        refine g_if_eq X 52 dX6_causeOf_46 (by decide) (fun c_46 => ?_) (fun c_46 => ?_)
        · refine g_iinc X (v := nI (c + 1)) dX6_causeOf_52 1 rfl (nI_1 c) (Nat.le_of_ble_eq_true rfl) [(3, .int (nI (c + 1))), (4, .ref (Z.da (100 + c))), (2, va_rf (cz Z (kcF Ar a p c))), (0, .ref (Z.da 1)), (1, .ref y)] (by simp [g1, va_rf_cat]) ?_
          refine g_goto X 4 dX6_causeOf_55 (by decide) ?_
          refine g_L [0, 2, 3, 4] (L' := [(3, _), (2, _), (0, _), (1, _)]) rfl ?_
          have eft : ftV Ar a p c (Z.Sz (300 + c)) = ftC Ar a p c := by rw [hS c hc]
          have e1 : kcF Ar a p (c + 1) = kcF Ar a p c := by
            rw [kcF_s, if_neg (fun q => q.2 (eft.symm.trans c_46))]
          refine g_L [0, 1, 2, 3] (L' := [(3, _), (2, va_rf (cz Z (kcF Ar a p (c + 1)))), (0, _), (1, _)]) (by rw [e1]; rfl) ?_
          exact ih (c + 1) (by omega) (by omega)
        · refine g_aload X dX6_causeOf_49 0 rfl ?_
          refine g_astore_n X dX6_causeOf_51 (Nat.le_of_ble_eq_true rfl) [(2, _), (4, _), (3, _), (0, _), (1, _)] rfl ?_
          refine g_iinc X (v := nI (c + 1)) dX6_causeOf_52 2 rfl (nI_1 c) (Nat.le_of_ble_eq_true rfl) [(3, _), (2, _), (4, _), (0, _), (1, _)] rfl ?_
          refine g_goto X 4 dX6_causeOf_55 (by decide) ?_
          refine g_L [0, 1, 3, 4] (L' := [(3, _), (2, _), (0, _), (1, _)]) rfl ?_
          have eft : ftV Ar a p c (Z.Sz (300 + c)) = ftC Ar a p c := by rw [hS c hc]
          have e1 : kcF Ar a p (c + 1) = nI c := by
            rw [kcF_s, if_pos ⟨(cz_inj D hk2 hkc).mp (by first | exact c_34 | exact Classical.not_not.mp c_34), fun q => c_46 (eft.trans q)⟩]
          refine g_L [0, 1, 2, 3] (L' := [(3, _), (2, va_rf (cz Z (kcF Ar a p (c + 1)))), (0, _), (1, _)]) (by rw [e1]; rw [cz_s (by omega)]; rfl) ?_
          exact ih (c + 1) (by omega) (by omega)
theorem c_X6_causeOf_y (D : kW G Z) (hA : ∀ c, c < Z.nC → kN c (Ar 2 c)) (hS : ∀ c, c < Z.nC → Z.Sz (300 + c) = cl (Ar 6 c)) (hR : ∀ c, c < Z.nC → kRP Z Ar T A c) (a p : Nat) (y yj n : Nat) (gw : Nat → Int64) (cx : Option Nat) (du an : Int32) (hn : n ≤ 60) (hy : (kH G Z I Ar T A Lg h0) y = some (ob 3 [.ref yj, va_rf cx, .int du, .int an])) (hyj : (kH G Z I Ar T A Lg h0) yj = some (aJ G n gw)) (hV : ∀ c, c < Z.nC → kRY Z Ar Lg c a p n gw)  : Ct G l 3 0 0 M_X6_causeOf [.ref (Z.da 1), .ref y] (kH G Z I Ar T A Lg h0) (rX (some (va_rf (cz Z (kcF Ar a p Z.nC)))) (kH G Z I Ar T A Lg h0)) := by
  refine Ct.of (by decide +kernel) (Nat.le_of_ble_eq_true rfl) (fun E hE X F => ?_)
  have X : Gc G E "ComplaintDesk" cX6_causeOf 5 3 0 0 := X
  show GW G E _ 5 0 [(0, _), (1, _)] [] _ 0 0
  refine g_null X dX6_causeOf_0 ?_
  refine g_astore_nQ X (x := none) dX6_causeOf_1 (Nat.le_of_ble_eq_true rfl) [(2, .null), (0, _), (1, _)] rfl ?_
  refine g_iconst X (v := 0) dX6_causeOf_2 ki_0 ?_
  refine g_istore_n X dX6_causeOf_3 (Nat.le_of_ble_eq_true rfl) [(3, _), (2, _), (0, _), (1, _)] rfl ?_
  refine g_L [0, 1, 2, 3] (L' := [(3, _), (2, _), (0, _), (1, _)]) rfl ?_
  refine g_L [0, 1, 2, 3] (L' := [(3, _), (2, va_rf (cz Z (kcF Ar a p 0))), (0, _), (1, _)]) (by rw [kcF_0, cz_n]; rfl) ?_
  exact lp_X6_causeOf_y X F D hA hS hR a p y yj n gw cx du an hn hy hyj hV _ 0 (Nat.zero_le _) (Nat.lt_succ_self _)
theorem c_X3_putTo_yn (y yj : Nat) (du an cm : Int32) (hy : h y = some (ob 3 [.ref yj, .null, .int du, .int an]))  : Ct G l 0 0 0 M_X3_putTo [.ref y, .null, .int cm] h (rX (some (.int 0)) h) := by
  refine Ct.of (by decide +kernel) (Nat.le_of_ble_eq_true rfl) (fun E hE X F => ?_)
  have X : Gc G E "ComplaintDesk$Point" cX3_putTo 3 0 0 0 := X
  show GW G E _ 3 0 [(0, _), (1, _), (2, _)] [] _ 0 0
  refine g_aload_nQ X (x := none) dX3_putTo_0 1 rfl ?_
  refine g_aload_n X dX3_putTo_1 0 rfl ?_
  refine g_getfield X fl_X3_9 dX3_putTo_2 hy rfl ?_
  refine g_acmp_ne X 10 dX3_putTo_5 (by decide) (rx := none) rfl (ry := none) rfl (fun c_5 => absurd rfl c_5) (fun c_5 => ?_)
  refine g_iconst X (v := 0) dX3_putTo_8 ki_0 ?_
  refine g_iret X F rfl rfl dX3_putTo_9 (Nat.zero_le _) (Nat.zero_le _) ?_
  exact ⟨rfl, rfl⟩
theorem c_X3_putTo_ys (y yj c : Nat) (du an cm kn kk kd kt : Int32) (ka kp : Value) (hy : h y = some (ob 3 [.ref yj, .null, .int du, .int an])) (hc : h c = some (ob 0 [.int kn, ka, .int kk, .int kd, .int kt, kp])) (hyc : c ≠ y)  : Ct G l 0 0 0 M_X3_putTo [.ref y, .ref c, .int cm] h (rX (some (.int 1)) (hup h y (ob 3 [.ref yj, .ref c, .int (cm + kd), .int an]))) := by
  refine Ct.of (by decide +kernel) (Nat.le_of_ble_eq_true rfl) (fun E hE X F => ?_)
  have X : Gc G E "ComplaintDesk$Point" cX3_putTo 3 0 0 0 := X
  show GW G E _ 3 0 [(0, _), (1, _), (2, _)] [] _ 0 0
  refine g_aload_n X dX3_putTo_0 1 rfl ?_
  refine g_aload_n X dX3_putTo_1 0 rfl ?_
  refine g_getfield X fl_X3_9 dX3_putTo_2 hy rfl ?_
  refine g_acmp_ne X 10 dX3_putTo_5 (by decide) (rx := some c) rfl (ry := none) rfl (fun c_5 => ?_) (fun c_5 => by cases c_5)
  refine g_aload_n X dX3_putTo_10 0 rfl ?_
  refine g_aload_n X dX3_putTo_11 1 rfl ?_
  refine g_putfield X fp_X3_9 dX3_putTo_12 hy (Nat.le_of_ble_eq_true rfl) rfl rfl _ rfl ?_
  refine g_aload_n X dX3_putTo_15 0 rfl ?_
  refine g_aload_n X dX3_putTo_16 1 rfl ?_
  refine g_ifnonnull X 24 dX3_putTo_17 (by decide) (x := some c) rfl (fun y9 c_17 => ?_) (fun c_17 => by cases c_17)
  refine g_iload_n X dX3_putTo_24 2 rfl ?_
  refine g_aload_n X dX3_putTo_25 1 rfl ?_
  refine g_getfield X fl_X3_26 dX3_putTo_26 (by rw [hup_n hyc]; exact hc) rfl ?_
  refine g_iadd X dX3_putTo_29 ?_
  refine g_putfield X fp_X3_15 dX3_putTo_30 hup_s (Nat.le_of_ble_eq_true rfl) rfl rfl _ rfl ?_
  refine g_h (h' := hup h y (ob 3 [.ref yj, .ref c, .int (cm + kd), .int an])) hup_up ?_
  refine g_iconst X (v := 1) dX3_putTo_33 ki_1 ?_
  refine g_iret X F rfl rfl dX3_putTo_34 (Nat.zero_le _) (Nat.zero_le _) ?_
  exact ⟨rfl, rfl⟩
theorem c_X3_init (y yj : Nat) (hy : h y = some (ob 3 [.null, .null, .int 0, .int 0]))  : Ct G l 1 0 0 M_X3_init [.ref y, .ref yj] h (rX none (hup h y (ob 3 [.ref yj, .null, .int (-1), .int (-1)]))) := by
  refine Ct.of (by decide +kernel) (Nat.le_of_ble_eq_true rfl) (fun E hE X F => ?_)
  have X : Gc G E "ComplaintDesk$Point" cX3_init 2 1 0 0 := X
  show GW G E _ 2 0 [(0, _), (1, _)] [] _ 0 0
  refine g_aload_n X dX3_init_0 0 rfl ?_
  refine g_objI X ol_X3_3 (Nat.le_of_ble_eq_true rfl) (Nat.le_of_ble_eq_true rfl) dX3_init_1 ?_
  refine g_aload_n X dX3_init_4 0 rfl ?_
  refine g_null X dX3_init_5 ?_
  refine g_putfield X fp_X3_9 dX3_init_6 hy (Nat.le_of_ble_eq_true rfl) rfl rfl _ rfl ?_
  refine g_aload_n X dX3_init_9 0 rfl ?_
  refine g_iconst X (v := (-1)) dX3_init_10 ki_m1 ?_
  refine g_putfield X fp_X3_15 dX3_init_11 hup_s (Nat.le_of_ble_eq_true rfl) rfl rfl _ rfl ?_
  refine g_aload_n X dX3_init_14 0 rfl ?_
  refine g_iconst X (v := (-1)) dX3_init_15 ki_m1 ?_
  refine g_putfield X fp_X3_19 dX3_init_16 hup_s (Nat.le_of_ble_eq_true rfl) rfl rfl _ rfl ?_
  refine g_aload_n X dX3_init_19 0 rfl ?_
  refine g_aload_n X dX3_init_20 1 rfl ?_
  refine g_putfieldF X (F).2.1 fp_X3_22 dX3_init_21 hup_s (Nat.le_of_ble_eq_true rfl) rfl rfl _ rfl ?_
  refine g_ret0 X F rfl dX3_init_24 (Nat.zero_le _) (Nat.zero_le _) ?_
  refine ⟨rfl, ?_⟩
  rw [hup_up, hup_up, hup_up]
  rfl
theorem c_X0_init_n (y pt : Nat) (nn dk dd th : Int32) (hth : th = 0 ∨ th = 1) (hy : h y = some (ob 0 [.int 0, .null, .int 0, .int 0, .int 0, .null]))  : Ct G l 1 0 0 M_X0_init [.ref y, .int nn, .null, .int dk, .int dd, .int th, .ref pt] h (rX none (hup h y (ob 0 [.int nn, .null, .int dk, .int dd, .int th, .ref pt]))) := by
  refine Ct.of (by decide +kernel) (Nat.le_of_ble_eq_true rfl) (fun E hE X F => ?_)
  have X : Gc G E "ComplaintDesk$Cause" cX0_init 7 1 0 0 := X
  show GW G E _ 7 0 [(0, _), (1, _), (2, _), (3, _), (4, _), (5, _), (6, _)] [] _ 0 0
  refine g_aload_n X dX0_init_0 0 rfl ?_
  refine g_objI X ol_X0_1 (Nat.le_of_ble_eq_true rfl) (Nat.le_of_ble_eq_true rfl) dX0_init_1 ?_
  refine g_aload_n X dX0_init_4 0 rfl ?_
  refine g_iload_n X dX0_init_5 1 rfl ?_
  refine g_putfieldF X (F).2.1 fp_X0_7 dX0_init_6 hy (Nat.le_of_ble_eq_true rfl) rfl rfl _ rfl ?_
  refine g_aload_n X dX0_init_9 0 rfl ?_
  refine g_aload_nQ X (x := none) dX0_init_10 2 rfl ?_
  refine g_putfieldF X (F).2.1 fp_X0_13 dX0_init_11 hup_s (Nat.le_of_ble_eq_true rfl) rfl rfl _ rfl ?_
  refine g_aload_n X dX0_init_14 0 rfl ?_
  refine g_iload_n X dX0_init_15 3 rfl ?_
  refine g_putfieldF X (F).2.1 fp_X0_17 dX0_init_16 hup_s (Nat.le_of_ble_eq_true rfl) rfl rfl _ rfl ?_
  refine g_aload_n X dX0_init_19 0 rfl ?_
  refine g_iload X dX0_init_20 4 rfl ?_
  refine g_putfieldF X (F).2.1 fp_X0_20 dX0_init_22 hup_s (Nat.le_of_ble_eq_true rfl) rfl rfl _ rfl ?_
  refine g_aload_n X dX0_init_25 0 rfl ?_
  refine g_iload X dX0_init_26 5 rfl ?_
  refine g_putfieldF X (F).2.1 fp_X0_23 dX0_init_28 hup_s (Nat.le_of_ble_eq_true rfl) (by rcases hth with q | q <;> rw [q] <;> rfl) (by rcases hth with q | q <;> rw [q] <;> rfl) _ rfl ?_
  refine g_aload_n X dX0_init_31 0 rfl ?_
  refine g_aload X dX0_init_32 6 rfl ?_
  refine g_putfield X fp_X0_27 dX0_init_34 hup_s (Nat.le_of_ble_eq_true rfl) rfl rfl _ rfl ?_
  refine g_ret0 X F rfl dX0_init_37 (Nat.zero_le _) (Nat.zero_le _) ?_
  refine ⟨rfl, ?_⟩
  rw [hup_up, hup_up, hup_up, hup_up, hup_up]
  rfl
theorem c_X0_init_s (y pt : Nat) (ab : Nat) (nn dk dd th : Int32) (hth : th = 0 ∨ th = 1) (hy : h y = some (ob 0 [.int 0, .null, .int 0, .int 0, .int 0, .null]))  : Ct G l 1 0 0 M_X0_init [.ref y, .int nn, .ref ab, .int dk, .int dd, .int th, .ref pt] h (rX none (hup h y (ob 0 [.int nn, .ref ab, .int dk, .int dd, .int th, .ref pt]))) := by
  refine Ct.of (by decide +kernel) (Nat.le_of_ble_eq_true rfl) (fun E hE X F => ?_)
  have X : Gc G E "ComplaintDesk$Cause" cX0_init 7 1 0 0 := X
  show GW G E _ 7 0 [(0, _), (1, _), (2, _), (3, _), (4, _), (5, _), (6, _)] [] _ 0 0
  refine g_aload_n X dX0_init_0 0 rfl ?_
  refine g_objI X ol_X0_1 (Nat.le_of_ble_eq_true rfl) (Nat.le_of_ble_eq_true rfl) dX0_init_1 ?_
  refine g_aload_n X dX0_init_4 0 rfl ?_
  refine g_iload_n X dX0_init_5 1 rfl ?_
  refine g_putfieldF X (F).2.1 fp_X0_7 dX0_init_6 hy (Nat.le_of_ble_eq_true rfl) rfl rfl _ rfl ?_
  refine g_aload_n X dX0_init_9 0 rfl ?_
  refine g_aload_n X dX0_init_10 2 rfl ?_
  refine g_putfieldF X (F).2.1 fp_X0_13 dX0_init_11 hup_s (Nat.le_of_ble_eq_true rfl) rfl rfl _ rfl ?_
  refine g_aload_n X dX0_init_14 0 rfl ?_
  refine g_iload_n X dX0_init_15 3 rfl ?_
  refine g_putfieldF X (F).2.1 fp_X0_17 dX0_init_16 hup_s (Nat.le_of_ble_eq_true rfl) rfl rfl _ rfl ?_
  refine g_aload_n X dX0_init_19 0 rfl ?_
  refine g_iload X dX0_init_20 4 rfl ?_
  refine g_putfieldF X (F).2.1 fp_X0_20 dX0_init_22 hup_s (Nat.le_of_ble_eq_true rfl) rfl rfl _ rfl ?_
  refine g_aload_n X dX0_init_25 0 rfl ?_
  refine g_iload X dX0_init_26 5 rfl ?_
  refine g_putfieldF X (F).2.1 fp_X0_23 dX0_init_28 hup_s (Nat.le_of_ble_eq_true rfl) (by rcases hth with q | q <;> rw [q] <;> rfl) (by rcases hth with q | q <;> rw [q] <;> rfl) _ rfl ?_
  refine g_aload_n X dX0_init_31 0 rfl ?_
  refine g_aload X dX0_init_32 6 rfl ?_
  refine g_putfield X fp_X0_27 dX0_init_34 hup_s (Nat.le_of_ble_eq_true rfl) rfl rfl _ rfl ?_
  refine g_ret0 X F rfl dX0_init_37 (Nat.zero_le _) (Nat.zero_le _) ?_
  refine ⟨rfl, ?_⟩
  rw [hup_up, hup_up, hup_up, hup_up, hup_up]
  rfl
end K30
