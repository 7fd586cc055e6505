section K6
variable {G : gG} {l : Launch} {h h0 : hW} {Z : kZ} {I : Nat → Int32} {Ar : Nat → Nat → Int32} {T : Nat → Int32} {A : Nat → Nat → Int32} {Lg : Nat → Nat → Int64}
theorem ftN_non {a p c i : Nat} (hz : ftN Ar a p c i = none) : ∀ n, i ≤ n → ftN Ar a p c n = none
  | 0, hn => by have : i = 0 := by omega
                subst this; exact hz
  | n + 1, hn => by
    by_cases e : i = n + 1
    · rw [← e]; exact hz
    · rw [ftN_s, ftN_non hz n (by omega)]
/-- the part of the word before -/
def pvA (f : Nat → Int32) : Nat → Int32
  | 0 => 0
  | i + 1 => f i
/-- a pattern of the desk is the reference's -/
def kRP (Z : kZ) (Ar : Nat → Nat → Int32) (T : Nat → Int32) (A : Nat → Nat → Int32) (c : Nat) : Prop := ∀ i, i < Z.Sz (300 + c) → (A (400 + c) i = pvA (A (400 + c)) i ↔ Ar 10 (12 * c + i) = 0) ∧ (T (200 + c) >>> (nI i &&& 31)) &&& 1 = Ar 9 (12 * c + i) ∧ (Ar 9 (12 * c + i) = 0 ∨ Ar 9 (12 * c + i) = 1)
/-- its words are in a point of the desk just when they are in the reference's -/
def kRW (Z : kZ) (Ar : Nat → Nat → Int32) (Lg : Nat → Nat → Int64) (c a p : Nat) : Prop := ∀ i, i < Z.Sz (300 + c) → (hwJ Z Lg (6 * a + p) (Lg (300 + c) i) ↔ hwP Ar a p (12 * c + i))
theorem lp_X2_fits_7 {E : gE} (X : Gc G E "ComplaintDesk$Pattern" cX2_fits 6 1 0 0) (F : gF E M_X2_fits) (D : kW G Z) (a p : Nat) (ha : a < Z.nX) (hp : p < Z.np a) (c : Nat) (hc : c < Z.nC) (hR : kRP Z Ar T A c) (hV : kRW Z Ar Lg c a p)  : ∀ (f : Nat) (i : Nat) (al : Int32), i ≤ (Z.Sz (300 + c)) → ftN Ar a p c i = some al → (al = 0 ∨ al = 1) → (Z.Sz (300 + c)) - i < f → GW G E (gMQ G E 0 0 (rX (some (.int (ftV Ar a p c (Z.Sz (300 + c))))) (kH G Z I Ar T A Lg h0))) 6 7 [(4, .int (nI i)), (3, .int al), (2, .int (pvA (A (400 + c)) i)), (0, .ref (Z.da (200 + c))), (1, .ref (Z.da (2000 + (6 * a + p))))] [] (kH G Z I Ar T A Lg h0) 0 0 := by
  intro f
  induction f with
  | zero => intro i al hi hft hal hf; exact absurd hf (Nat.not_lt_zero _)
  | succ f ih =>
    intro i al hi hft hal hf
    have h12 := D.s12 hc
    refine g_iload X dX2_fits_7 0 rfl ?_
    refine g_aload_n X dX2_fits_9 3 rfl ?_
    refine g_getfield X fl_X2_25 dX2_fits_10 (kLP D hc) rfl ?_
    refine g_alen X dX2_fits_13 (t := 2) rfl (kLPJ D hc) (nI (Z.Sz (300 + c))) rfl ?_
    refine g_icmp_ge X 102 dX2_fits_14 (by decide) (fun c_14 => ?_) (fun c_14 => ?_)
    · have hge : (Z.Sz (300 + c)) ≤ i := (nI_leI (by omega) (by omega)).mp c_14
      refine g_iload_n X dX2_fits_102 1 rfl ?_
      refine g_iret X F rfl (by rcases hal with q | q <;> rw [q] <;> rfl) dX2_fits_103 (Nat.zero_le _) (Nat.zero_le _) ?_
      have e1 : i = (Z.Sz (300 + c)) := by omega
      subst e1
      exact ⟨by unfold ftV; rw [hft], rfl⟩
    · have hlt : i < (Z.Sz (300 + c)) := nI_lt_of c_14 (by omega) (by omega)
      obtain ⟨hR1, hR2, hR3⟩ := hR i hlt
      refine g_iload X dX2_fits_17 0 rfl ?_
      refine g_aload_n X dX2_fits_19 3 rfl ?_
      refine g_getfield X fl_X2_35 dX2_fits_20 (kLP D hc) rfl ?_
      refine g_alen X dX2_fits_23 (t := 0) rfl (kLPI D hc) (nI (Z.Sz (300 + c))) rfl ?_
      refine g_icmp_ge X 102 dX2_fits_24 (by decide) (fun c_24 => absurd c_24 c_14) (fun c_24 => ?_)
      refine g_aload_n X dX2_fits_27 3 rfl ?_
      refine g_getfield X fl_X2_35 dX2_fits_28 (kLP D hc) rfl ?_
      refine g_iload X dX2_fits_31 0 rfl ?_
      refine g_iaload X dX2_fits_33 (kLPI D hc) (vp_in_nI hlt (by omega)) ?_
      refine g_eqi (y := A (400 + c) i) (by rw [nI_clamp (by omega)]) ?_
      refine g_iload_n X dX2_fits_34 2 rfl ?_
      refine g_icmp_eq X 54 dX2_fits_35 (by decide) (fun c_35 => ?_) (fun c_35 => ?_)
      · refine g_L [0, 1, 2, 3, 4] (L' := [(4, _), (3, _), (2, .int (A (400 + c) i)), (0, _), (1, _)]) (by rw [c_35]; rfl) ?_
        refine g_aload_n X dX2_fits_54 3 rfl ?_
        refine g_getfield X fl_X2_41 dX2_fits_55 (kLP D hc) rfl ?_
        refine g_iload X dX2_fits_58 0 rfl ?_
        refine g_ishr X dX2_fits_60 ?_
        refine g_iconst X (v := 1) dX2_fits_61 ki_1 ?_
        refine g_iand X dX2_fits_62 ?_
        refine g_iconst X (v := 1) dX2_fits_63 ki_1 ?_
        refine g_icmp_ne X 71 dX2_fits_64 (by decide) (fun c_64 => ?_) (fun c_64 => ?_)
        · refine g_iconst X (v := 0) dX2_fits_71 ki_0 ?_
          refine g_istore X dX2_fits_72 (Nat.le_of_ble_eq_true rfl) [(5, _), (4, _), (3, _), (2, _), (0, _), (1, _)] rfl ?_
          refine g_iload_n X dX2_fits_74 2 rfl ?_
          refine g_if_eq X 96 dX2_fits_75 (by decide) (fun c_75 => ?_) (fun c_75 => ?_)
          · refine g_iinc X (v := nI (i + 1)) dX2_fits_96 1 rfl (nI_1 i) (Nat.le_of_ble_eq_true rfl) [(4, _), (5, _), (3, _), (2, _), (0, _), (1, _)] rfl ?_
            refine g_goto X 7 dX2_fits_99 (by decide) ?_
            refine g_L [0, 2, 3, 4, 5] (L' := [(4, _), (3, _), (2, _), (0, _), (1, _)]) rfl ?_
            have e10 : Ar 10 (12 * c + i) = 0 := hR1.mp c_35
            have eal : al = 0 := c_75
            
            have hst : ftN Ar a p c (i + 1) = some 0 := by
              rw [ftN_s, hft]; show (if _ then _ else _) = _
              rw [if_neg (fun q => q.1 e10), if_pos e10, if_pos c_75]
            refine g_L [0, 1, 2, 3, 4] (L' := [(4, _), (3, .int 0), (2, _), (0, _), (1, _)]) (by rw [eal]; rfl) ?_
            exact ih (i + 1) 0 (by omega) hst (Or.inl rfl) (by omega)
          · refine g_aload_n X dX2_fits_78 5 rfl ?_
            refine g_aload_n X dX2_fits_79 4 rfl ?_
            refine g_getfield X fl_X2_25 dX2_fits_80 (kLP D hc) rfl ?_
            refine g_iload X dX2_fits_83 1 rfl ?_
            refine g_laload X dX2_fits_85 (kLPJ D hc) (vp_in_nI hlt (by omega)) ?_
            refine g_eql (y := Lg (300 + c) i) (by rw [nI_clamp (by omega)]) ?_
            refine g_cV X ml_X2_78 (c_X3_hasWord D a p ha hp (Lg (300 + c) i)) ⟨3, _, kLQ D ha hp, rfl⟩ (Nat.le_of_ble_eq_true rfl) rfl rfl (Nat.le_of_ble_eq_true rfl) (Nat.zero_le _) (Nat.zero_le _) dX2_fits_86 ?_
            refine g_iload X dX2_fits_89 0 rfl ?_
            refine g_icmp_ne X 96 dX2_fits_91 (by decide) (fun c_91 => ?_) (fun c_91 => ?_)
            · refine g_iinc X (v := nI (i + 1)) dX2_fits_96 1 rfl (nI_1 i) (Nat.le_of_ble_eq_true rfl) [(4, _), (5, _), (3, _), (2, _), (0, _), (1, _)] rfl ?_
              refine g_goto X 7 dX2_fits_99 (by decide) ?_
              refine g_L [0, 2, 3, 4, 5] (L' := [(4, _), (3, _), (2, _), (0, _), (1, _)]) rfl ?_
              have e10 : Ar 10 (12 * c + i) = 0 := hR1.mp c_35
              have e9 : Ar 9 (12 * c + i) = 0 := hR3.resolve_right (fun q => c_64 (hR2.trans q))
              have ebw : b2 (hwJ Z Lg (6 * a + p) (Lg (300 + c) i)) = b2 (hwP Ar a p (12 * c + i)) := b2_iff (hV i hlt)
              have hst : ftN Ar a p c (i + 1) = some 1 := by
                rw [ftN_s, hft]; show (if _ then _ else _) = _
                rw [if_neg (fun q => q.1 e10), if_pos e10, if_neg c_75]
                rw [b2_t (show ¬ (b2 (hwP Ar a p (12 * c + i)) = Ar 9 (12 * c + i)) from fun q => c_91 (ebw.trans (q.trans e9)))]
              have eal : al = 1 := hal.resolve_left c_75
              refine g_L [0, 1, 2, 3, 4] (L' := [(4, _), (3, .int 1), (2, _), (0, _), (1, _)]) (by rw [eal]; rfl) ?_
              exact ih (i + 1) 1 (by omega) hst (Or.inr rfl) (by omega)
            · refine g_iconst X (v := 0) dX2_fits_94 ki_0 ?_
              refine g_istore_n X dX2_fits_95 (Nat.le_of_ble_eq_true rfl) [(3, _), (5, _), (4, _), (2, _), (0, _), (1, _)] rfl ?_
              refine g_iinc X (v := nI (i + 1)) dX2_fits_96 2 rfl (nI_1 i) (Nat.le_of_ble_eq_true rfl) [(4, _), (3, _), (5, _), (2, _), (0, _), (1, _)] rfl ?_
              refine g_goto X 7 dX2_fits_99 (by decide) ?_
              refine g_L [0, 1, 3, 4, 5] (L' := [(4, _), (3, _), (2, _), (0, _), (1, _)]) rfl ?_
              have e10 : Ar 10 (12 * c + i) = 0 := hR1.mp c_35
              have e9 : Ar 9 (12 * c + i) = 0 := hR3.resolve_right (fun q => c_64 (hR2.trans q))
              have ebw : b2 (hwJ Z Lg (6 * a + p) (Lg (300 + c) i)) = b2 (hwP Ar a p (12 * c + i)) := b2_iff (hV i hlt)
              have hst : ftN Ar a p c (i + 1) = some 0 := by
                rw [ftN_s, hft]; show (if _ then _ else _) = _
                rw [if_neg (fun q => q.1 e10), if_pos e10, if_neg c_75]
                rw [b2_f (fun q => q (ebw.symm.trans (c_91.trans e9.symm)))]
              exact ih (i + 1) 0 (by omega) hst (Or.inl rfl) (by omega)
        · refine g_iconst X (v := 1) dX2_fits_67 ki_1 ?_
          refine g_goto X 72 dX2_fits_68 (by decide) ?_
          refine g_istore X dX2_fits_72 (Nat.le_of_ble_eq_true rfl) [(5, _), (4, _), (3, _), (2, _), (0, _), (1, _)] rfl ?_
          refine g_iload_n X dX2_fits_74 2 rfl ?_
          refine g_if_eq X 96 dX2_fits_75 (by decide) (fun c_75 => ?_) (fun c_75 => ?_)
          · refine g_iinc X (v := nI (i + 1)) dX2_fits_96 1 rfl (nI_1 i) (Nat.le_of_ble_eq_true rfl) [(4, _), (5, _), (3, _), (2, _), (0, _), (1, _)] rfl ?_
            refine g_goto X 7 dX2_fits_99 (by decide) ?_
            refine g_L [0, 2, 3, 4, 5] (L' := [(4, _), (3, _), (2, _), (0, _), (1, _)]) rfl ?_
            have e10 : Ar 10 (12 * c + i) = 0 := hR1.mp c_35
            have eal : al = 0 := c_75
            
            have hst : ftN Ar a p c (i + 1) = some 0 := by
              rw [ftN_s, hft]; show (if _ then _ else _) = _
              rw [if_neg (fun q => q.1 e10), if_pos e10, if_pos c_75]
            refine g_L [0, 1, 2, 3, 4] (L' := [(4, _), (3, .int 0), (2, _), (0, _), (1, _)]) (by rw [eal]; rfl) ?_
            exact ih (i + 1) 0 (by omega) hst (Or.inl rfl) (by omega)
          · refine g_aload_n X dX2_fits_78 5 rfl ?_
            refine g_aload_n X dX2_fits_79 4 rfl ?_
            refine g_getfield X fl_X2_25 dX2_fits_80 (kLP D hc) rfl ?_
            refine g_iload X dX2_fits_83 1 rfl ?_
            refine g_laload X dX2_fits_85 (kLPJ D hc) (vp_in_nI hlt (by omega)) ?_
            refine g_eql (y := Lg (300 + c) i) (by rw [nI_clamp (by omega)]) ?_
            refine g_cV X ml_X2_78 (c_X3_hasWord D a p ha hp (Lg (300 + c) i)) ⟨3, _, kLQ D ha hp, rfl⟩ (Nat.le_of_ble_eq_true rfl) rfl rfl (Nat.le_of_ble_eq_true rfl) (Nat.zero_le _) (Nat.zero_le _) dX2_fits_86 ?_
            refine g_iload X dX2_fits_89 0 rfl ?_
            refine g_icmp_ne X 96 dX2_fits_91 (by decide) (fun c_91 => ?_) (fun c_91 => ?_)
            · refine g_iinc X (v := nI (i + 1)) dX2_fits_96 1 rfl (nI_1 i) (Nat.le_of_ble_eq_true rfl) [(4, _), (5, _), (3, _), (2, _), (0, _), (1, _)] rfl ?_
              refine g_goto X 7 dX2_fits_99 (by decide) ?_
              refine g_L [0, 2, 3, 4, 5] (L' := [(4, _), (3, _), (2, _), (0, _), (1, _)]) rfl ?_
              have e10 : Ar 10 (12 * c + i) = 0 := hR1.mp c_35
              have e9 : Ar 9 (12 * c + i) = 1 := hR2.symm.trans c_64
              have ebw : b2 (hwJ Z Lg (6 * a + p) (Lg (300 + c) i)) = b2 (hwP Ar a p (12 * c + i)) := b2_iff (hV i hlt)
              have hst : ftN Ar a p c (i + 1) = some 1 := by
                rw [ftN_s, hft]; show (if _ then _ else _) = _
                rw [if_neg (fun q => q.1 e10), if_pos e10, if_neg c_75]
                rw [b2_t (show ¬ (b2 (hwP Ar a p (12 * c + i)) = Ar 9 (12 * c + i)) from fun q => c_91 (ebw.trans (q.trans e9)))]
              have eal : al = 1 := hal.resolve_left c_75
              refine g_L [0, 1, 2, 3, 4] (L' := [(4, _), (3, .int 1), (2, _), (0, _), (1, _)]) (by rw [eal]; rfl) ?_
              exact ih (i + 1) 1 (by omega) hst (Or.inr rfl) (by omega)
            · refine g_iconst X (v := 0) dX2_fits_94 ki_0 ?_
              refine g_istore_n X dX2_fits_95 (Nat.le_of_ble_eq_true rfl) [(3, _), (5, _), (4, _), (2, _), (0, _), (1, _)] rfl ?_
              refine g_iinc X (v := nI (i + 1)) dX2_fits_96 2 rfl (nI_1 i) (Nat.le_of_ble_eq_true rfl) [(4, _), (3, _), (5, _), (2, _), (0, _), (1, _)] rfl ?_
              refine g_goto X 7 dX2_fits_99 (by decide) ?_
              refine g_L [0, 1, 3, 4, 5] (L' := [(4, _), (3, _), (2, _), (0, _), (1, _)]) rfl ?_
              have e10 : Ar 10 (12 * c + i) = 0 := hR1.mp c_35
              have e9 : Ar 9 (12 * c + i) = 1 := hR2.symm.trans c_64
              have ebw : b2 (hwJ Z Lg (6 * a + p) (Lg (300 + c) i)) = b2 (hwP Ar a p (12 * c + i)) := b2_iff (hV i hlt)
              have hst : ftN Ar a p c (i + 1) = some 0 := by
                rw [ftN_s, hft]; show (if _ then _ else _) = _
                rw [if_neg (fun q => q.1 e10), if_pos e10, if_neg c_75]
                rw [b2_f (fun q => q (ebw.symm.trans (c_91.trans e9.symm)))]
              exact ih (i + 1) 0 (by omega) hst (Or.inl rfl) (by omega)
      · refine g_iload_n X dX2_fits_38 1 rfl ?_
        refine g_if_eq X 44 dX2_fits_39 (by decide) (fun c_39 => ?_) (fun c_39 => ?_)
        · refine g_aload_n X dX2_fits_44 3 rfl ?_
          refine g_getfield X fl_X2_35 dX2_fits_45 (kLP D hc) rfl ?_
          refine g_iload X dX2_fits_48 0 rfl ?_
          refine g_iaload X dX2_fits_50 (kLPI D hc) (vp_in_nI hlt (by omega)) ?_
          refine g_eqi (y := A (400 + c) i) (by rw [nI_clamp (by omega)]) ?_
          refine g_istore_n X dX2_fits_51 (Nat.le_of_ble_eq_true rfl) [(2, _), (4, _), (3, _), (0, _), (1, _)] rfl ?_
          refine g_iconst X (v := 1) dX2_fits_52 ki_1 ?_
          refine g_istore_n X dX2_fits_53 (Nat.le_of_ble_eq_true rfl) [(3, _), (2, _), (4, _), (0, _), (1, _)] rfl ?_
          refine g_aload_n X dX2_fits_54 3 rfl ?_
          refine g_getfield X fl_X2_41 dX2_fits_55 (kLP D hc) rfl ?_
          refine g_iload X dX2_fits_58 2 rfl ?_
          refine g_ishr X dX2_fits_60 ?_
          refine g_iconst X (v := 1) dX2_fits_61 ki_1 ?_
          refine g_iand X dX2_fits_62 ?_
          refine g_iconst X (v := 1) dX2_fits_63 ki_1 ?_
          refine g_icmp_ne X 71 dX2_fits_64 (by decide) (fun c_64 => ?_) (fun c_64 => ?_)
          · refine g_iconst X (v := 0) dX2_fits_71 ki_0 ?_
            refine g_istore X dX2_fits_72 (Nat.le_of_ble_eq_true rfl) [(5, _), (3, _), (2, _), (4, _), (0, _), (1, _)] rfl ?_
            refine g_iload_n X dX2_fits_74 1 rfl ?_
            refine g_if_eq X 96 dX2_fits_75 (by decide) (fun c_75 => ?_) (fun c_75 => ?_)
            · refine g_iinc X (v := nI (i + 1)) dX2_fits_96 3 rfl (nI_1 i) (Nat.le_of_ble_eq_true rfl) [(4, _), (5, _), (3, _), (2, _), (0, _), (1, _)] rfl ?_
              refine g_goto X 7 dX2_fits_99 (by decide) ?_
              refine g_L [0, 2, 3, 4, 5] (L' := [(4, _), (3, _), (2, _), (0, _), (1, _)]) rfl ?_
              exact absurd c_75 (by decide)
            · refine g_aload_n X dX2_fits_78 5 rfl ?_
              refine g_aload_n X dX2_fits_79 4 rfl ?_
              refine g_getfield X fl_X2_25 dX2_fits_80 (kLP D hc) rfl ?_
              refine g_iload X dX2_fits_83 3 rfl ?_
              refine g_laload X dX2_fits_85 (kLPJ D hc) (vp_in_nI hlt (by omega)) ?_
              refine g_eql (y := Lg (300 + c) i) (by rw [nI_clamp (by omega)]) ?_
              refine g_cV X ml_X2_78 (c_X3_hasWord D a p ha hp (Lg (300 + c) i)) ⟨3, _, kLQ D ha hp, rfl⟩ (Nat.le_of_ble_eq_true rfl) rfl rfl (Nat.le_of_ble_eq_true rfl) (Nat.zero_le _) (Nat.zero_le _) dX2_fits_86 ?_
              refine g_iload X dX2_fits_89 0 rfl ?_
              refine g_icmp_ne X 96 dX2_fits_91 (by decide) (fun c_91 => ?_) (fun c_91 => ?_)
              · refine g_iinc X (v := nI (i + 1)) dX2_fits_96 3 rfl (nI_1 i) (Nat.le_of_ble_eq_true rfl) [(4, _), (5, _), (3, _), (2, _), (0, _), (1, _)] rfl ?_
                refine g_goto X 7 dX2_fits_99 (by decide) ?_
                refine g_L [0, 2, 3, 4, 5] (L' := [(4, _), (3, _), (2, _), (0, _), (1, _)]) rfl ?_
                have e10 : ¬ Ar 10 (12 * c + i) = 0 := fun q => c_35 (hR1.mpr q)
                have e9 : Ar 9 (12 * c + i) = 0 := hR3.resolve_right (fun q => c_64 (hR2.trans q))
                have ebw : b2 (hwJ Z Lg (6 * a + p) (Lg (300 + c) i)) = b2 (hwP Ar a p (12 * c + i)) := b2_iff (hV i hlt)
                have hst : ftN Ar a p c (i + 1) = some 1 := by
                  rw [ftN_s, hft]; show (if _ then _ else _) = _
                  rw [if_neg (fun q => q.2 c_39), if_neg e10, if_neg (by decide)]
                  rw [b2_t (show ¬ (b2 (hwP Ar a p (12 * c + i)) = Ar 9 (12 * c + i)) from fun q => c_91 (ebw.trans (q.trans e9)))]
                exact ih (i + 1) 1 (by omega) hst (Or.inr rfl) (by omega)
              · refine g_iconst X (v := 0) dX2_fits_94 ki_0 ?_
                refine g_istore_n X dX2_fits_95 (Nat.le_of_ble_eq_true rfl) [(3, _), (5, _), (2, _), (4, _), (0, _), (1, _)] rfl ?_
                refine g_iinc X (v := nI (i + 1)) dX2_fits_96 3 rfl (nI_1 i) (Nat.le_of_ble_eq_true rfl) [(4, _), (3, _), (5, _), (2, _), (0, _), (1, _)] rfl ?_
                refine g_goto X 7 dX2_fits_99 (by decide) ?_
                refine g_L [0, 1, 3, 4, 5] (L' := [(4, _), (3, _), (2, _), (0, _), (1, _)]) rfl ?_
                have e10 : ¬ Ar 10 (12 * c + i) = 0 := fun q => c_35 (hR1.mpr q)
                have e9 : Ar 9 (12 * c + i) = 0 := hR3.resolve_right (fun q => c_64 (hR2.trans q))
                have ebw : b2 (hwJ Z Lg (6 * a + p) (Lg (300 + c) i)) = b2 (hwP Ar a p (12 * c + i)) := b2_iff (hV i hlt)
                have hst : ftN Ar a p c (i + 1) = some 0 := by
                  rw [ftN_s, hft]; show (if _ then _ else _) = _
                  rw [if_neg (fun q => q.2 c_39), if_neg e10, if_neg (by decide)]
                  rw [b2_f (fun q => q (ebw.symm.trans (c_91.trans e9.symm)))]
                exact ih (i + 1) 0 (by omega) hst (Or.inl rfl) (by omega)
          · refine g_iconst X (v := 1) dX2_fits_67 ki_1 ?_
            refine g_goto X 72 dX2_fits_68 (by decide) ?_
            refine g_istore X dX2_fits_72 (Nat.le_of_ble_eq_true rfl) [(5, _), (3, _), (2, _), (4, _), (0, _), (1, _)] rfl ?_
            refine g_iload_n X dX2_fits_74 1 rfl ?_
            refine g_if_eq X 96 dX2_fits_75 (by decide) (fun c_75 => ?_) (fun c_75 => ?_)
            · refine g_iinc X (v := nI (i + 1)) dX2_fits_96 3 rfl (nI_1 i) (Nat.le_of_ble_eq_true rfl) [(4, _), (5, _), (3, _), (2, _), (0, _), (1, _)] rfl ?_
              refine g_goto X 7 dX2_fits_99 (by decide) ?_
              refine g_L [0, 2, 3, 4, 5] (L' := [(4, _), (3, _), (2, _), (0, _), (1, _)]) rfl ?_
              exact absurd c_75 (by decide)
            · refine g_aload_n X dX2_fits_78 5 rfl ?_
              refine g_aload_n X dX2_fits_79 4 rfl ?_
              refine g_getfield X fl_X2_25 dX2_fits_80 (kLP D hc) rfl ?_
              refine g_iload X dX2_fits_83 3 rfl ?_
              refine g_laload X dX2_fits_85 (kLPJ D hc) (vp_in_nI hlt (by omega)) ?_
              refine g_eql (y := Lg (300 + c) i) (by rw [nI_clamp (by omega)]) ?_
              refine g_cV X ml_X2_78 (c_X3_hasWord D a p ha hp (Lg (300 + c) i)) ⟨3, _, kLQ D ha hp, rfl⟩ (Nat.le_of_ble_eq_true rfl) rfl rfl (Nat.le_of_ble_eq_true rfl) (Nat.zero_le _) (Nat.zero_le _) dX2_fits_86 ?_
              refine g_iload X dX2_fits_89 0 rfl ?_
              refine g_icmp_ne X 96 dX2_fits_91 (by decide) (fun c_91 => ?_) (fun c_91 => ?_)
              · refine g_iinc X (v := nI (i + 1)) dX2_fits_96 3 rfl (nI_1 i) (Nat.le_of_ble_eq_true rfl) [(4, _), (5, _), (3, _), (2, _), (0, _), (1, _)] rfl ?_
                refine g_goto X 7 dX2_fits_99 (by decide) ?_
                refine g_L [0, 2, 3, 4, 5] (L' := [(4, _), (3, _), (2, _), (0, _), (1, _)]) rfl ?_
                have e10 : ¬ Ar 10 (12 * c + i) = 0 := fun q => c_35 (hR1.mpr q)
                have e9 : Ar 9 (12 * c + i) = 1 := hR2.symm.trans c_64
                have ebw : b2 (hwJ Z Lg (6 * a + p) (Lg (300 + c) i)) = b2 (hwP Ar a p (12 * c + i)) := b2_iff (hV i hlt)
                have hst : ftN Ar a p c (i + 1) = some 1 := by
                  rw [ftN_s, hft]; show (if _ then _ else _) = _
                  rw [if_neg (fun q => q.2 c_39), if_neg e10, if_neg (by decide)]
                  rw [b2_t (show ¬ (b2 (hwP Ar a p (12 * c + i)) = Ar 9 (12 * c + i)) from fun q => c_91 (ebw.trans (q.trans e9)))]
                exact ih (i + 1) 1 (by omega) hst (Or.inr rfl) (by omega)
              · refine g_iconst X (v := 0) dX2_fits_94 ki_0 ?_
                refine g_istore_n X dX2_fits_95 (Nat.le_of_ble_eq_true rfl) [(3, _), (5, _), (2, _), (4, _), (0, _), (1, _)] rfl ?_
                refine g_iinc X (v := nI (i + 1)) dX2_fits_96 3 rfl (nI_1 i) (Nat.le_of_ble_eq_true rfl) [(4, _), (3, _), (5, _), (2, _), (0, _), (1, _)] rfl ?_
                refine g_goto X 7 dX2_fits_99 (by decide) ?_
                refine g_L [0, 1, 3, 4, 5] (L' := [(4, _), (3, _), (2, _), (0, _), (1, _)]) rfl ?_
                have e10 : ¬ Ar 10 (12 * c + i) = 0 := fun q => c_35 (hR1.mpr q)
                have e9 : Ar 9 (12 * c + i) = 1 := hR2.symm.trans c_64
                have ebw : b2 (hwJ Z Lg (6 * a + p) (Lg (300 + c) i)) = b2 (hwP Ar a p (12 * c + i)) := b2_iff (hV i hlt)
                have hst : ftN Ar a p c (i + 1) = some 0 := by
                  rw [ftN_s, hft]; show (if _ then _ else _) = _
                  rw [if_neg (fun q => q.2 c_39), if_neg e10, if_neg (by decide)]
                  rw [b2_f (fun q => q (ebw.symm.trans (c_91.trans e9.symm)))]
                exact ih (i + 1) 0 (by omega) hst (Or.inl rfl) (by omega)
        · refine g_iconst X (v := 1) dX2_fits_42 ki_1 ?_
          refine g_iret X F rfl rfl dX2_fits_43 (Nat.zero_le _) (Nat.zero_le _) ?_
          have e2 : ftN Ar a p c (i + 1) = none := by
            rw [ftN_s, hft]; exact if_pos ⟨fun q => c_35 (hR1.mpr q), c_39⟩
          exact ⟨by unfold ftV; rw [ftN_non e2 (Z.Sz (300 + c)) (by omega)], rfl⟩
theorem c_X2_fits (D : kW G Z) (a p : Nat) (ha : a < Z.nX) (hp : p < Z.np a) (c : Nat) (hc : c < Z.nC) (hR : kRP Z Ar T A c) (hV : kRW Z Ar Lg c a p)  : Ct G l 1 0 0 M_X2_fits [.ref (Z.da (200 + c)), .ref (Z.da (2000 + (6 * a + p)))] (kH G Z I Ar T A Lg h0) (rX (some (.int (ftV Ar a p c (Z.Sz (300 + c))))) (kH G Z I Ar T A Lg h0)) := by
  refine Ct.of (by decide +kernel) (Nat.le_of_ble_eq_true rfl) (fun E hE X F => ?_)
  have X : Gc G E "ComplaintDesk$Pattern" cX2_fits 6 1 0 0 := X
  show GW G E _ 6 0 [(0, _), (1, _)] [] _ 0 0
  refine g_iconst X (v := 0) dX2_fits_0 ki_0 ?_
  refine g_istore_n X dX2_fits_1 (Nat.le_of_ble_eq_true rfl) [(2, _), (0, _), (1, _)] rfl ?_
  refine g_iconst X (v := 1) dX2_fits_2 ki_1 ?_
  refine g_istore_n X dX2_fits_3 (Nat.le_of_ble_eq_true rfl) [(3, _), (2, _), (0, _), (1, _)] rfl ?_
  refine g_iconst X (v := 0) dX2_fits_4 ki_0 ?_
  refine g_istore X dX2_fits_5 (Nat.le_of_ble_eq_true rfl) [(4, _), (3, _), (2, _), (0, _), (1, _)] rfl ?_
  refine g_L [0, 1, 2, 3, 4] (L' := [(4, _), (3, _), (2, _), (0, _), (1, _)]) rfl ?_
  exact lp_X2_fits_7 X F D a p ha hp c hc hR hV _ 0 1 (Nat.zero_le _) ftN_0 (Or.inr rfl) (Nat.lt_succ_self _)
end K6
