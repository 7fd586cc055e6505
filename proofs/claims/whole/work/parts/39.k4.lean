section K4
variable {G : gG} {l : Launch} {h h0 : hW} {Z : kZ} {I : Nat → Int32} {Ar : Nat → Nat → Int32} {T : Nat → Int32} {A : Nat → Nat → Int32} {Lg : Nat → Nat → Int64}
theorem nI_lt_of {a b : Nat} (q : ¬ nI b ≤ nI a) (ha : a < 2 ^ 31) (hb : b < 2 ^ 31) : a < b := Nat.lt_of_not_le (fun z => q ((nI_leI hb ha).mpr z))
/-- a point has the word x -/
abbrev hwJ (Z : kZ) (Lg : Nat → Nat → Int64) (m : Nat) (x : Int64) : Prop := ∃ j, j < Z.Sz (3000 + m) ∧ Lg (3000 + m) j = x
theorem kW.s60 (D : kW G Z) (m : Nat) : Z.Sz (3000 + m) ≤ 60 := D.2.2.2.2.2 m
theorem kW.s12 (D : kW G Z) {c : Nat} (hc : c < Z.nC) : Z.Sz (300 + c) ≤ 12 := D.2.2.2.2.1 c hc
theorem lp_X3_hasWord_2 {E : gE} (X : Gc G E "ComplaintDesk$Point" cX3_hasWord 4 0 0 0) (F : gF E M_X3_hasWord) (D : kW G Z) (a p : Nat) (ha : a < Z.nX) (hp : p < Z.np a) (x : Int64) : ∀ (f : Nat) (i : Nat), i ≤ Z.Sz (3000 + (6 * a + p)) → (∀ j, j < i → ¬ Lg (3000 + (6 * a + p)) j = x) → Z.Sz (3000 + (6 * a + p)) - i < f → GW G E (gMQ G E 0 0 (rX (some (.int (b2 (hwJ Z Lg (6 * a + p) x)))) (kH G Z I Ar T A Lg h0))) 4 2 [(3, .int (nI i)), (0, .ref (Z.da (2000 + (6 * a + p)))), (1, .long x)] [] (kH G Z I Ar T A Lg h0) 0 0 := by
  intro f
  induction f with
  | zero => intro i hi hno hf; exact absurd hf (Nat.not_lt_zero _)
  | succ f ih =>
    intro i hi hno hf
    have h60 := D.s60 (6 * a + p)
    refine g_iload_n X dX3_hasWord_2 0 rfl ?_
    refine g_aload_n X dX3_hasWord_3 1 rfl ?_
    refine g_getfield X fl_X3_22 dX3_hasWord_4 (kLQ D ha hp) rfl ?_
    refine g_alen X dX3_hasWord_7 (t := 2) rfl (kLQJ D ha hp) (nI (Z.Sz (3000 + (6 * a + p)))) rfl ?_
    refine g_icmp_ge X 30 dX3_hasWord_8 (by decide) (fun c_8 => ?_) (fun c_8 => ?_)
    · have hge : Z.Sz (3000 + (6 * a + p)) ≤ i := (nI_leI (by omega) (by omega)).mp c_8
      refine g_iconst X (v := 0) dX3_hasWord_30 ki_0 ?_
      refine g_iret X F rfl rfl dX3_hasWord_31 (Nat.zero_le _) (Nat.zero_le _) ?_
      exact ⟨by rw [b2_f (fun ⟨j, q1, q2⟩ => hno j (by omega) q2)], rfl⟩
    · have hlt : i < Z.Sz (3000 + (6 * a + p)) := nI_lt_of c_8 (by omega) (by omega)
      refine g_aload_n X dX3_hasWord_11 1 rfl ?_
      refine g_getfield X fl_X3_22 dX3_hasWord_12 (kLQ D ha hp) rfl ?_
      refine g_iload_n X dX3_hasWord_15 0 rfl ?_
      refine g_laload X dX3_hasWord_16 (kLQJ D ha hp) (vp_in_nI hlt (by omega)) ?_
      refine g_eql (y := Lg (3000 + (6 * a + p)) i) (by rw [nI_clamp (by omega)]) ?_
      refine g_lload_n X dX3_hasWord_17 2 rfl ?_
      refine g_lcmp X dX3_hasWord_18 ?_
      refine g_if_ne X 24 dX3_hasWord_19 (by decide) (fun c_19 => ?_) (fun c_19 => ?_)
      · refine g_iinc X (v := nI (i + 1)) dX3_hasWord_24 0 rfl (nI_1 i) (Nat.le_of_ble_eq_true rfl) [(3, _), (0, _), (1, _)] rfl ?_
        refine g_goto X 2 dX3_hasWord_27 (by decide) ?_
        refine g_L [0, 1, 2] (L' := [(3, _), (0, _), (1, _)]) rfl ?_
        exact ih (i + 1) (by omega) (fun j hj => by
          by_cases e : j = i
          · rw [e]; exact fun q => c_19 ((lg_cmp_eq _ _).mpr q)
          · exact hno j (by omega)) (by omega)
      · refine g_iconst X (v := 1) dX3_hasWord_22 ki_1 ?_
        refine g_iret X F rfl rfl dX3_hasWord_23 (Nat.zero_le _) (Nat.zero_le _) ?_
        exact ⟨by rw [b2_t ⟨i, hlt, (lg_cmp_eq _ _).mp c_19⟩], rfl⟩
theorem c_X3_hasWord (D : kW G Z) (a p : Nat) (ha : a < Z.nX) (hp : p < Z.np a) (x : Int64)  : Ct G l 0 0 0 M_X3_hasWord [.ref (Z.da (2000 + (6 * a + p))), .long x] (kH G Z I Ar T A Lg h0) (rX (some (.int (b2 (hwJ Z Lg (6 * a + p) x)))) (kH G Z I Ar T A Lg h0)) := by
  refine Ct.of (by decide +kernel) (Nat.le_of_ble_eq_true rfl) (fun E hE X F => ?_)
  have X : Gc G E "ComplaintDesk$Point" cX3_hasWord 4 0 0 0 := X
  show GW G E _ 4 0 [(0, _), (1, _)] [] _ 0 0
  refine g_iconst X (v := 0) dX3_hasWord_0 ki_0 ?_
  refine g_istore_n X dX3_hasWord_1 (Nat.le_of_ble_eq_true rfl) [(3, _), (0, _), (1, _)] rfl ?_
  refine g_L [0, 1, 2] (L' := [(3, _), (0, _), (1, _)]) rfl ?_
  exact lp_X3_hasWord_2 X F D a p ha hp x _ 0 (Nat.zero_le _) (fun j hj => absurd hj (Nat.not_lt_zero _)) (Nat.lt_succ_self _)
theorem lp_X0_isUnder_2 {E : gE} (X : Gc G E "ComplaintDesk$Cause" cX0_isUnder 3 0 0 0) (F : gF E M_X0_isUnder) (D : kW G Z) (hA : ∀ c, c < Z.nC → kN c (Ar 2 c)) (c u : Nat) (hc : c < Z.nC) (hu : u < Z.nC) : ∀ (f : Nat) (k : Int32), kN Z.nC k → (k.toInt + 1).toNat < f → undF Ar (nI u) 13 (nI c) = undF Ar (nI u) f k → GW G E (gMQ G E 0 0 (rX (some (.int (b2 (undF Ar (nI u) 13 (nI c) = true)))) (kH G Z I Ar T A Lg h0))) 3 2 [(2, va_rf (cz Z k)), (0, .ref (Z.da (100 + c))), (1, .ref (Z.da (100 + u)))] [] (kH G Z I Ar T A Lg h0) 0 0 := by
  intro f
  induction f with
  | zero => intro k hk hf hun; exact absurd hf (Nat.not_lt_zero _)
  | succ f ih =>
    intro k hk hf hun
    have h12 := D.c12
    rw [undF_s (f := f) (c := k)] at hun
    refine g_aload_nQ X dX0_isUnder_2 0 rfl ?_
    refine g_ifnull X 21 dX0_isUnder_3 (by decide) rfl (fun c_3 => ?_) (fun y c_3 => ?_)
    · have e1 := kLn hk c_3
      rw [e1] at hun
      rw [if_pos (by decide)] at hun
      refine g_iconst X (v := 0) dX0_isUnder_21 ki_0 ?_
      refine g_iret X F rfl rfl dX0_isUnder_22 (Nat.zero_le _) (Nat.zero_le _) ?_
      exact ⟨by rw [hun]; rfl, rfl⟩
    · obtain ⟨hz1, hz2, hz3, hz4⟩ : y = Z.da (100 + cl k) ∧ cl k < Z.nC ∧ k = nI (cl k) ∧ k ≠ -1 := by
        obtain ⟨z1, z2, z3, z4, -⟩ := kLz (I := I) (Ar := Ar) (T := T) (A := A) (Lg := Lg) (h0 := h0) D hk c_3
        exact ⟨z1, z2, z3, z4⟩
      have hz5 : ∀ {I T A Lg h0}, kH G Z I Ar T A Lg h0 y = some _ := fun {I T A Lg h0} => (kLz (I := I) (Ar := Ar) (T := T) (A := A) (Lg := Lg) (h0 := h0) D hk c_3).2.2.2.2
      rw [if_neg (by rw [hz3]; exact nI_pos (by omega))] at hun
      have hku : kN Z.nC (nI u) := Or.inr ⟨u, hu, rfl⟩
      have hcu : cz Z (nI u) = some (Z.da (100 + u)) := cz_s (by omega)
      refine g_aload_nQ X dX0_isUnder_6 0 rfl ?_
      refine g_aload_n X dX0_isUnder_7 2 rfl ?_
      refine g_acmp_ne X 13 dX0_isUnder_8 (by decide) (rx := cz Z k) rfl (ry := some (Z.da (100 + u))) rfl (fun c_8 => ?_) (fun c_8 => ?_)
      · have hne : ¬ k = nI u := fun q => c_8 (by rw [q, hcu])
        rw [if_neg hne] at hun
        refine g_aload_nQ X dX0_isUnder_13 0 rfl ?_
        refine g_st (st' := [.ref y]) (by rw [c_3]; rfl) ?_
        refine g_getfield X fl_X0_13 dX0_isUnder_14 (hz5 (A := A) (T := T) (Lg := Lg) (I := I) (h0 := h0)) rfl ?_
        refine g_astore_nQ X dX0_isUnder_17 (Nat.le_of_ble_eq_true rfl) [(2, _), (0, _), (1, _)] rfl ?_
        refine g_goto X 2 dX0_isUnder_18 (by decide) ?_
        refine g_L [0, 1, 2] (L' := [(2, _), (0, _), (1, _)]) rfl ?_
        have hk2 := hA (cl k) hz2
        refine ih (Ar 2 (cl k)) (hk2.elim (fun q => Or.inl q) (fun ⟨j, q1, q2⟩ => Or.inr ⟨j, by omega, q2⟩)) ?_ hun
        have hkk : k.toInt = (cl k : Int) := by
          have := congrArg Int32.toInt hz3
          rw [nI_toInt (by omega)] at this; exact this
        rcases hk2 with q | ⟨j, q1, q2⟩
        · rw [q]
          have : (-1 : Int32).toInt = -1 := by decide
          omega
        · rw [q2, nI_toInt (by omega)]
          omega
      · have heq : k = nI u := (cz_inj D hk hku).mp (by rw [hcu]; first | exact c_8 | exact Classical.not_not.mp c_8)
        rw [if_pos heq] at hun
        refine g_iconst X (v := 1) dX0_isUnder_11 ki_1 ?_
        refine g_iret X F rfl rfl dX0_isUnder_12 (Nat.zero_le _) (Nat.zero_le _) ?_
        exact ⟨by rw [hun]; rfl, rfl⟩
theorem c_X0_isUnder (D : kW G Z) (hA : ∀ c, c < Z.nC → kN c (Ar 2 c)) (c u : Nat) (hc : c < Z.nC) (hu : u < Z.nC)  : Ct G l 0 0 0 M_X0_isUnder [.ref (Z.da (100 + c)), .ref (Z.da (100 + u))] (kH G Z I Ar T A Lg h0) (rX (some (.int (b2 (undF Ar (nI u) 13 (nI c) = true)))) (kH G Z I Ar T A Lg h0)) := by
  refine Ct.of (by decide +kernel) (Nat.le_of_ble_eq_true rfl) (fun E hE X F => ?_)
  have X : Gc G E "ComplaintDesk$Cause" cX0_isUnder 3 0 0 0 := X
  show GW G E _ 3 0 [(0, _), (1, _)] [] _ 0 0
  have h12 := D.c12
  refine g_aload_n X dX0_isUnder_0 0 rfl ?_
  refine g_astore_n X dX0_isUnder_1 (Nat.le_of_ble_eq_true rfl) [(2, _), (0, _), (1, _)] rfl ?_
  refine g_L [0, 1, 2] (L' := [(2, _), (0, _), (1, _)]) rfl ?_
  refine g_L [0, 1, 2] (L' := [(2, va_rf (cz Z (nI c))), (0, .ref (Z.da (100 + c))), (1, .ref (Z.da (100 + u)))]) (by rw [cz_s (by omega)]; rfl) ?_
  refine lp_X0_isUnder_2 X F D hA c u hc hu 13 (nI c) (Or.inr ⟨c, hc, rfl⟩) ?_ rfl
  rw [nI_toInt (by omega)]; omega
end K4
