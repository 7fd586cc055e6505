section K13
variable {G : gG} {l : Launch} {h h0 : hW} {Z : kZ} {I : Nat → Int32} {Ar : Nat → Nat → Int32} {T : Nat → Int32} {A : Nat → Nat → Int32} {Lg : Nat → Nat → Int64}
theorem blF_kp {a p c0 x : Nat} {cw : Int32} (hz : blF Ar a p cw c0 = some x) : ∀ nn, blF Ar a p cw (c0 + nn) = some x
  | 0 => hz
  | nn + 1 => by rw [show c0 + (nn + 1) = c0 + nn + 1 from rfl, blF_s, blF_kp hz nn]
theorem blF_non {a p : Nat} {cw : Int32} : ∀ nn, (∀ j, j < nn → ¬ Ar 2 j = cw) → blF Ar a p cw nn = none
  | 0, _ => blF_0
  | nn + 1, hz => by
    rw [blF_s, blF_non nn (fun j hj => hz j (by omega))]
    exact if_neg (fun q => hz nn (by omega) q.1)
/-- one pass through the causes finds what the reference finds going down -/
theorem kcF_sr {nc a p : Nat} (hA : ∀ c, c < nc → kN c (Ar 2 c)) (hnc : nc ≤ 12) : kcF Ar a p nc = srF Ar a p nc 13 (-1) := by
  have key : ∀ k, k ≤ nc → (∃ fu, ((kcF Ar a p k = -1 ∧ 13 ≤ fu) ∨ ∃ u, u < k ∧ kcF Ar a p k = nI u ∧ 13 ≤ fu + (u + 1)) ∧ srF Ar a p nc 13 (-1) = srF Ar a p nc fu (kcF Ar a p k)) ∧ blF Ar a p (kcF Ar a p k) k = none := by
    intro k
    induction k with
    | zero => intro _; exact ⟨⟨13, Or.inl ⟨kcF_0, Nat.le_refl _⟩, by rw [kcF_0]⟩, blF_0⟩
    | succ k ih =>
      intro hk
      obtain ⟨⟨fu, hfu, hsr⟩, hbl⟩ := ih (by omega)
      by_cases hs : Ar 2 k = kcF Ar a p k ∧ ¬ ftC Ar a p k = 0
      · have e1 : kcF Ar a p (k + 1) = nI k := by rw [kcF_s, if_pos hs]
        have e2 : blF Ar a p (kcF Ar a p k) (k + 1) = some k := by rw [blF_s, hbl]; exact if_pos hs
        have e3 := blF_kp e2 (nc - (k + 1))
        rw [show k + 1 + (nc - (k + 1)) = nc by omega] at e3
        obtain ⟨fv, rfl⟩ : ∃ fv, fu = fv + 1 := ⟨fu - 1, by rcases hfu with ⟨-, q⟩ | ⟨u, q1, -, q2⟩ <;> omega⟩
        refine ⟨⟨fv, Or.inr ⟨k, by omega, e1, by rcases hfu with ⟨-, q⟩ | ⟨u, q1, -, q2⟩ <;> omega⟩, ?_⟩, ?_⟩
        · rw [hsr, srF_s, e3, e1]
        · rw [e1]
          refine blF_non _ (fun j hj q => ?_)
          rcases hA j (by omega) with z | ⟨u, z1, z2⟩
          · exact nI_ne1 (c := k) (by omega) (q.symm.trans z)
          · have := (nI_eq (by omega) (by omega)).mp (z2.symm.trans q); omega
      · have e1 : kcF Ar a p (k + 1) = kcF Ar a p k := by rw [kcF_s, if_neg hs]
        rw [e1]
        refine ⟨⟨fu, hfu.imp_right (fun ⟨u, q1, q2⟩ => ⟨u, by omega, q2⟩), hsr⟩, ?_⟩
        rw [blF_s, hbl]
        exact if_neg hs
  obtain ⟨⟨fu, hfu, hsr⟩, hbl⟩ := key nc (Nat.le_refl _)
  obtain ⟨fv, rfl⟩ : ∃ fv, fu = fv + 1 := ⟨fu - 1, by rcases hfu with ⟨-, q⟩ | ⟨u, q1, -, q2⟩ <;> omega⟩
  rw [hsr, srF_s, hbl]
theorem kcF_srC (D : kW G Z) (V : kV Z I Ar) {a p : Nat} : kcF Ar a p Z.nC = srC I Ar a p := by
  have h12 := D.c12
  unfold srC
  rw [V.1.2.2, show cl (nI Z.nC) = Z.nC from nI_clamp (by omega)]
  exact kcF_sr V.k2 D.c12
theorem kN.lt0 {n : Nat} {x : Int32} (hx : kN n x) (hn : n < 2 ^ 31) : x < 0 ↔ x = -1 := by
  have := hx.neg hn
  constructor
  · intro q
    by_cases e : x = -1
    · exact e
    · exact absurd q (Int32.not_lt.mpr (this.mp e))
  · rintro rfl; decide
theorem ptB_A (D : kW G Z) {a p : Nat} {x : Int32} (hx : kN Z.nC x) : ptB Ar (6 * a + p) x (Ar 14 a) = ptA Ar a p x := by
  have h12 := D.c12
  unfold ptB ptA
  by_cases e : x = -1
  · rw [if_pos e, if_pos ((hx.lt0 (by omega)).mpr e)]
  · rw [if_neg e, if_neg (fun q => e ((hx.lt0 (by omega)).mp q))]
theorem kV.up22 (V : kV Z I Ar) {a p : Nat} {x : Int32} (hx : kN Z.nC x) : kV Z I (ptA Ar a p x) := by
  refine ⟨V.1, V.2.1, fun a2 ha q hq => ⟨?_, V.k24 a2 ha q hq⟩, V.2.2.2⟩
  show kN Z.nC (upd (Ar 22) (6 * a + p) x (6 * a2 + q))
  by_cases e : 6 * a2 + q = 6 * a + p
  · rw [e, pk_us]; exact hx
  · rw [pk_un e]; exact V.k22 a2 ha q hq
theorem kV.paP (D : kW G Z) (V : kV Z I Ar) {a s : Nat} : ∀ nn, kV Z I (paP I a (Ar, s) nn).1
  | 0 => by rw [paP_0]; exact V
  | nn + 1 => by
    have := kV.paP D V (a := a) (s := s) nn
    rw [paP_s]
    unfold paS
    split
    · exact this
    · split
      · exact this
      · exact this.up22 (by rw [← kcF_srC D this]; exact kcF_k _)
theorem kV.paL (D : kW G Z) (V : kV Z I Ar) : ∀ nn, kV Z I (paL I Ar nn).1
  | 0 => by rw [paL_0]; exact V
  | nn + 1 => by rw [paL_s]; exact kV.paP D (kV.paL D V nn) _
/-- the words' relations know nothing of causes and due days -/
theorem kRP.cg {Ar' : Nat → Nat → Int32} {c : Nat} (hr : kRP Z Ar T A c) (ho : ∀ j, j ≠ 22 → j ≠ 23 → Ar' j = Ar j) : kRP Z Ar' T A c := fun i hi => by
  rw [ho 10 (by decide) (by decide), ho 9 (by decide) (by decide)]; exact hr i hi
theorem kRW.cg {Ar' : Nat → Nat → Int32} {c a p : Nat} (hr : kRW Z Ar Lg c a p) (ho : ∀ j, j ≠ 22 → j ≠ 23 → Ar' j = Ar j) : kRW Z Ar' Lg c a p := fun i hi => by
  unfold hwP hwK smP
  rw [ho 16 (by decide) (by decide), ho 20 (by decide) (by decide), ho 19 (by decide) (by decide), ho 18 (by decide) (by decide), ho 8 (by decide) (by decide), ho 17 (by decide) (by decide), ho 7 (by decide) (by decide)]
  exact hr i hi
theorem lp_X6_sortAnew_30 {E : gE} (X : Gc G E "ComplaintDesk" cX6_sortAnew 6 4 0 0) {Q : State → Prop} (D : kW G Z) (V : kV Z I Ar) (hS : ∀ c, c < Z.nC → Z.Sz (300 + c) = cl (Ar 6 c)) (hR : ∀ c, c < Z.nC → kRP Z Ar T A c) (a s : Nat) (ha : a < Z.nX) (hV : ∀ p, p < Z.np a → ∀ c, c < Z.nC → kRW Z Ar Lg c a p) (K : GW G E Q 6 91 [(2, .int (nI a)), (1, .int (nI (paP I a (Ar, s) (Z.np a)).2)), (0, .ref (Z.da 1))] [] (kH G Z I (paP I a (Ar, s) (Z.np a)).1 T A Lg h0) 0 0)  : ∀ (f : Nat) (p : Nat), p ≤ Z.np a → Z.np a - p < f → GW G E Q 6 30 [(4, .int (nI p)), (3, .ref (Z.da (1000 + a))), (2, .int (nI a)), (1, .int (nI (paP I a (Ar, s) p).2)), (0, .ref (Z.da 1))] [] (kH G Z I (paP I a (Ar, s) p).1 T A Lg h0) 0 0 := by
  intro f
  induction f with
  | zero => intro p hpn hf; exact absurd hf (Nat.not_lt_zero _)
  | succ f ih =>
    intro p hpn hf
    have h80 := D.l80
    have hlx := D.lx
    have h12 := D.c12
    have h6 := D.p6 a
    obtain ⟨BB, hBB⟩ : ∃ BB, BB = paP I a (Ar, s) p := ⟨_, rfl⟩
    have VB : kV Z I BB.1 := by rw [hBB]; exact V.paP D p
    have hoff : ∀ j, j ≠ 22 → j ≠ 23 → BB.1 j = Ar j := fun j z1 z2 => by rw [hBB]; exact paP_off z1 z2 p
    rw [← hBB]
    refine g_iload X dX6_sortAnew_30 0 rfl ?_
    refine g_aload_n X dX6_sortAnew_32 1 rfl ?_
    refine g_getfield X fl_X6_155 dX6_sortAnew_33 (kLL D ha) rfl ?_
    refine g_cV X ml_X6_92 (k_szQ D ha) ⟨8, _, kLLL D ha, rfl⟩ (Nat.le_of_ble_eq_true rfl) rfl rfl (Nat.le_of_ble_eq_true rfl) (Nat.zero_le _) (Nat.zero_le _) dX6_sortAnew_36 ?_
    refine g_icmp_ge X 91 dX6_sortAnew_39 (by decide) (fun c_39 => ?_) (fun c_39 => ?_)
    · have hge : (Z.np a) ≤ p := (nI_leI (by omega) (by omega)).mp c_39
      have epn : p = Z.np a := by omega
      refine g_L [2, 3, 4] (L' := [(2, _), (1, _), (0, _)]) rfl ?_
      rw [hBB, epn]
      exact K
    · have hp : p < (Z.np a) := nI_lt_of c_39 (by omega) (by omega)
      refine g_aload_n X dX6_sortAnew_42 1 rfl ?_
      refine g_getfield X fl_X6_155 dX6_sortAnew_43 (kLL D ha) rfl ?_
      refine g_iload X dX6_sortAnew_46 0 rfl ?_
      refine g_cV X ml_X6_224 (k_getQ D ha hp) ⟨8, _, kLLL D ha, rfl⟩ (Nat.le_of_ble_eq_true rfl) rfl rfl (Nat.le_of_ble_eq_true rfl) (Nat.zero_le _) (Nat.zero_le _) dX6_sortAnew_48 ?_
      refine g_castO X cl_X6_135 (kLQ D ha hp) rfl dX6_sortAnew_51 ?_
      refine g_astore X dX6_sortAnew_54 (Nat.le_of_ble_eq_true rfl) [(5, _), (4, _), (3, _), (2, _), (1, _), (0, _)] rfl ?_
      refine g_aload X dX6_sortAnew_56 0 rfl ?_
      refine g_cV X ml_X6_171 (c_X3_isAnswered D a p ha hp) ⟨3, _, kLQ D ha hp, rfl⟩ (Nat.le_of_ble_eq_true rfl) rfl rfl (Nat.le_of_ble_eq_true rfl) (Nat.zero_le _) (Nat.zero_le _) dX6_sortAnew_58 ?_
      refine g_if_ne X 85 dX6_sortAnew_61 (by decide) (fun c_61 => ?_) (fun c_61 => ?_)
      · refine g_iinc X (v := nI (p + 1)) dX6_sortAnew_85 1 rfl (nI_1 p) (Nat.le_of_ble_eq_true rfl) [(4, _), (5, _), (3, _), (2, _), (1, _), (0, _)] rfl ?_
        refine g_goto X 30 dX6_sortAnew_88 (by decide) ?_
        refine g_L [0, 2, 3, 4, 5] (L' := [(4, _), (3, _), (2, _), (1, _), (0, _)]) rfl ?_
        have hst : paP I a (Ar, s) (p + 1) = BB := by
          rw [paP_s, ← hBB]; exact if_pos (fun z => b2_1.mp (b2_c.resolve_left c_61) (VB.k24 a ha p hp z))
        refine g_L [0, 1, 2, 3, 4] (L' := [(4, _), (3, _), (2, _), (1, .int (nI (paP I a (Ar, s) (p + 1)).2)), (0, _)]) (by rw [hst]; rfl) ?_
        refine g_h (h' := (kH G Z I (paP I a (Ar, s) (p + 1)).1 T A Lg h0)) (by rw [hst]) ?_
        exact ih (p + 1) (by omega) (by omega)
      · have h24 : BB.1 24 (6 * a + p) < 0 := by rw [Classical.not_not.mp (b2_0.mp c_61)]; decide
        have hsr : kcF BB.1 a p Z.nC = srC I BB.1 a p := kcF_srC D VB
        refine g_aload X dX6_sortAnew_64 0 rfl ?_
        refine g_aload_n X dX6_sortAnew_66 5 rfl ?_
        refine g_aload X dX6_sortAnew_67 0 rfl ?_
        refine g_cV X ml_X6_144 (c_X6_causeOf D VB.k2 (fun c hc => (hS c hc).trans (by rw [hoff 6 (by decide) (by decide)])) (fun c hc => (hR c hc).cg hoff) a p ha hp (fun c hc => (hV p hp c hc).cg hoff)) ⟨6, _, kL1 D, rfl⟩ (Nat.le_of_ble_eq_true rfl) rfl rfl (Nat.le_of_ble_eq_true rfl) (Nat.zero_le _) (Nat.zero_le _) dX6_sortAnew_69 ?_
        refine g_aload_n X dX6_sortAnew_72 2 rfl ?_
        refine g_getfield X fl_X6_148 dX6_sortAnew_73 (kLL D ha) rfl ?_
        refine g_cV X ml_X6_151 (c_X3_putTo D a p ha hp (VB.k22 a ha p hp) (kcF BB.1 a p Z.nC) (BB.1 14 a) (kcF_k _)) ⟨3, _, kLQ D ha hp, rfl⟩ (Nat.le_of_ble_eq_true rfl) rfl rfl (Nat.le_of_ble_eq_true rfl) (Nat.zero_le _) (Nat.zero_le _) dX6_sortAnew_76 ?_
        refine g_if_eq X 85 dX6_sortAnew_79 (by decide) (fun c_79 => ?_) (fun c_79 => ?_)
        · refine g_iinc X (v := nI (p + 1)) dX6_sortAnew_85 1 rfl (nI_1 p) (Nat.le_of_ble_eq_true rfl) [(4, _), (5, _), (3, _), (2, _), (1, _), (0, _)] rfl ?_
          refine g_goto X 30 dX6_sortAnew_88 (by decide) ?_
          refine g_L [0, 2, 3, 4, 5] (L' := [(4, _), (3, _), (2, _), (1, _), (0, _)]) rfl ?_
          have hst : paP I a (Ar, s) (p + 1) = BB := by
            rw [paP_s, ← hBB]; exact (if_neg (fun z => z h24)).trans (if_pos (hsr.symm.trans (Classical.not_not.mp (b2_0.mp c_79))))
          refine g_L [0, 1, 2, 3, 4] (L' := [(4, _), (3, _), (2, _), (1, .int (nI (paP I a (Ar, s) (p + 1)).2)), (0, _)]) (by rw [hst]; rfl) ?_
          refine g_h (h' := (kH G Z I (paP I a (Ar, s) (p + 1)).1 T A Lg h0)) (by rw [hst, if_pos (Classical.not_not.mp (b2_0.mp c_79))]) ?_
          exact ih (p + 1) (by omega) (by omega)
        · refine g_iinc X (v := nI (BB.2 + 1)) dX6_sortAnew_82 4 rfl (nI_1 _) (Nat.le_of_ble_eq_true rfl) [(1, _), (5, _), (4, _), (3, _), (2, _), (0, _)] rfl ?_
          refine g_iinc X (v := nI (p + 1)) dX6_sortAnew_85 2 rfl (nI_1 p) (Nat.le_of_ble_eq_true rfl) [(4, _), (1, _), (5, _), (3, _), (2, _), (0, _)] rfl ?_
          refine g_goto X 30 dX6_sortAnew_88 (by decide) ?_
          refine g_L [0, 3, 4, 1, 5] (L' := [(4, _), (3, _), (2, _), (1, _), (0, _)]) rfl ?_
          have hst : paP I a (Ar, s) (p + 1) = (ptA BB.1 a p (srC I BB.1 a p), BB.2 + 1) := by
            rw [paP_s, ← hBB]; exact (if_neg (fun z => z h24)).trans (if_neg (fun z => b2_1.mp (b2_c.resolve_left c_79) (hsr.trans z)))
          refine g_L [0, 1, 2, 3, 4] (L' := [(4, _), (3, _), (2, _), (1, .int (nI (paP I a (Ar, s) (p + 1)).2)), (0, _)]) (by rw [hst]; rfl) ?_
          refine g_h (h' := (kH G Z I (paP I a (Ar, s) (p + 1)).1 T A Lg h0)) (by rw [hst, if_neg (b2_1.mp (b2_c.resolve_left c_79)), ptB_A D (kcF_k _), hsr]) ?_
          exact ih (p + 1) (by omega) (by omega)
theorem lp_X6_sortAnew_4 {E : gE} (X : Gc G E "ComplaintDesk" cX6_sortAnew 6 4 0 0) (F : gF E M_X6_sortAnew) (D : kW G Z) (V : kV Z I Ar) (hS : ∀ c, c < Z.nC → Z.Sz (300 + c) = cl (Ar 6 c)) (hR : ∀ c, c < Z.nC → kRP Z Ar T A c) (hV : ∀ a, a < Z.nX → ∀ p, p < Z.np a → ∀ c, c < Z.nC → kRW Z Ar Lg c a p) : ∀ (f : Nat) (a : Nat), a ≤ Z.nL → Z.nL - a < f → GW G E (gMQ G E 0 0 (rX (some (.int (nI (paL I Ar Z.nL).2))) (kH G Z I (paL I Ar Z.nL).1 T A Lg h0))) 6 4 [(2, .int (nI a)), (1, .int (nI (paL I Ar a).2)), (0, .ref (Z.da 1))] [] (kH G Z I (paL I Ar a).1 T A Lg h0) 0 0 := by
  intro f
  induction f with
  | zero => intro a haa hf; exact absurd hf (Nat.not_lt_zero _)
  | succ f ih =>
    intro a haa hf
    have h80 := D.l80
    have hlx := D.lx
    have h12 := D.c12
    refine g_iload_n X dX6_sortAnew_4 0 rfl ?_
    refine g_aload_n X dX6_sortAnew_5 2 rfl ?_
    refine g_getfield X fl_X6_37 dX6_sortAnew_6 (kL1 D) rfl ?_
    refine g_cV X ml_X6_92 (k_szL D) ⟨8, _, kL6 D, rfl⟩ (Nat.le_of_ble_eq_true rfl) rfl rfl (Nat.le_of_ble_eq_true rfl) (Nat.zero_le _) (Nat.zero_le _) dX6_sortAnew_9 ?_
    refine g_icmp_ge X 97 dX6_sortAnew_12 (by decide) (fun c_12 => ?_) (fun c_12 => ?_)
    · have hge : Z.nL ≤ a := (nI_leI (by omega) (by omega)).mp c_12
      refine g_iload_n X dX6_sortAnew_97 1 rfl ?_
      refine g_iret X F rfl rfl dX6_sortAnew_98 (Nat.zero_le _) (Nat.zero_le _) ?_
      have e1 : a = Z.nL := by omega
      rw [e1]
      exact ⟨rfl, rfl⟩
    · have hla : a < Z.nL := nI_lt_of c_12 (by omega) (by omega)
      have hax : a < Z.nX := by omega
      refine g_aload_n X dX6_sortAnew_15 2 rfl ?_
      refine g_getfield X fl_X6_37 dX6_sortAnew_16 (kL1 D) rfl ?_
      refine g_iload_n X dX6_sortAnew_19 0 rfl ?_
      refine g_cV X ml_X6_224 (k_getL D hla) ⟨8, _, kL6 D, rfl⟩ (Nat.le_of_ble_eq_true rfl) rfl rfl (Nat.le_of_ble_eq_true rfl) (Nat.zero_le _) (Nat.zero_le _) dX6_sortAnew_20 ?_
      refine g_castO X cl_X6_120 (kLL D hax) rfl dX6_sortAnew_23 ?_
      refine g_astore_n X dX6_sortAnew_26 (Nat.le_of_ble_eq_true rfl) [(3, _), (2, _), (1, _), (0, _)] rfl ?_
      refine g_iconst X (v := 0) dX6_sortAnew_27 ki_0 ?_
      refine g_istore X dX6_sortAnew_28 (Nat.le_of_ble_eq_true rfl) [(4, _), (3, _), (2, _), (1, _), (0, _)] rfl ?_
      refine g_L [0, 1, 2, 3, 4] (L' := [(4, _), (3, _), (2, _), (1, _), (0, _)]) rfl ?_
      have hoff : ∀ j, j ≠ 22 → j ≠ 23 → (paL I Ar a).1 j = Ar j := fun j z1 z2 => paL_off z1 z2 a
      have e15 : cl (Ar 15 a) = Z.np a := by rw [V.2.1 a hax]; exact nI_clamp (by have := D.p6 a; omega)
      refine g_L [0, 1, 2, 3, 4] (L' := [(4, _), (3, _), (2, _), (1, .int (nI (paP I a ((paL I Ar a).1, (paL I Ar a).2) 0).2)), (0, _)]) (by rw [paP_0]; rfl) ?_
      refine g_h (h' := (kH G Z I (paP I a ((paL I Ar a).1, (paL I Ar a).2) 0).1 T A Lg h0)) (by rw [paP_0]) ?_
      refine lp_X6_sortAnew_30 X D (V.paL D a) (fun c hc => (hS c hc).trans (by rw [hoff 6 (by decide) (by decide)])) (fun c hc => (hR c hc).cg hoff) a (paL I Ar a).2 hax (fun p hp c hc => (hV a hax p hp c hc).cg hoff) ?_ _ 0 (Nat.zero_le _) (Nat.lt_succ_self _)
      refine g_iinc X (v := nI (a + 1)) dX6_sortAnew_91 0 rfl (nI_1 a) (Nat.le_of_ble_eq_true rfl) [(2, _), (1, _), (0, _)] rfl ?_
      refine g_goto X 4 dX6_sortAnew_94 (by decide) ?_
      refine g_L [0, 1, 2] (L' := [(2, _), (1, .int (nI (paL I Ar (a + 1)).2)), (0, _)]) (by rw [paL_s, e15]; rfl) ?_
      refine g_h (h' := (kH G Z I (paL I Ar (a + 1)).1 T A Lg h0)) (by rw [paL_s, e15]) ?_
      exact ih (a + 1) (by omega) (by omega)
theorem c_X6_sortAnew (D : kW G Z) (V : kV Z I Ar) (hS : ∀ c, c < Z.nC → Z.Sz (300 + c) = cl (Ar 6 c)) (hR : ∀ c, c < Z.nC → kRP Z Ar T A c) (hV : ∀ a, a < Z.nX → ∀ p, p < Z.np a → ∀ c, c < Z.nC → kRW Z Ar Lg c a p)  : Ct G l 4 0 0 M_X6_sortAnew [.ref (Z.da 1)] (kH G Z I Ar T A Lg h0) (rX (some (.int (nI (paL I Ar Z.nL).2))) (kH G Z I (paL I Ar Z.nL).1 T A Lg h0)) := by
  refine Ct.of (by decide +kernel) (Nat.le_of_ble_eq_true rfl) (fun E hE X F => ?_)
  have X : Gc G E "ComplaintDesk" cX6_sortAnew 6 4 0 0 := X
  show GW G E _ 6 0 [(0, _)] [] _ 0 0
  refine g_iconst X (v := 0) dX6_sortAnew_0 ki_0 ?_
  refine g_istore_n X dX6_sortAnew_1 (Nat.le_of_ble_eq_true rfl) [(1, _), (0, _)] rfl ?_
  refine g_iconst X (v := 0) dX6_sortAnew_2 ki_0 ?_
  refine g_istore_n X dX6_sortAnew_3 (Nat.le_of_ble_eq_true rfl) [(2, _), (1, _), (0, _)] rfl ?_
  refine g_L [0, 1, 2] (L' := [(2, _), (1, _), (0, _)]) rfl ?_
  refine g_L [0, 1, 2] (L' := [(2, _), (1, .int (nI (paL I Ar 0).2)), (0, _)]) (by rw [paL_0]; rfl) ?_
  refine g_h (h' := (kH G Z I (paL I Ar 0).1 T A Lg h0)) (by rw [paL_0]) ?_
  exact lp_X6_sortAnew_4 X F D V hS hR hV _ 0 (Nat.zero_le _) (Nat.lt_succ_self _)
end K13
