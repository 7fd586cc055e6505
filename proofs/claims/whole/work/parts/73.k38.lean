section K38
variable {G : gG} {l : Launch} {h h0 : hW} {Z : kZ} {I : Nat → Int32} {Ar : Nat → Nat → Int32} {T : Nat → Int32} {A : Nat → Nat → Int32} {Lg : Nat → Nat → Int64}
/-- a point that is in no list is in no cell -/
theorem kH_24 (D : kW G Z) (HQ : kQ Z Ar) {m : Nat} {x : Int32} (hm : ∀ a, a < Z.nX → ∀ p, p < Z.np a → 6 * a + p ≠ m) : kH G Z I (va_up Ar 24 (upd (Ar 24) m x)) T A Lg h0 = kH G Z I Ar T A Lg h0 := by
  funext b
  unfold kH oH
  by_cases hb : Z.jx b = 0
  · rw [if_pos hb, if_pos hb]
  · rw [if_neg hb, if_neg hb]
    refine congrArg some (kE_cg (Z' := Z) (I := I) (I' := I) (Ar := Ar) (Ar' := va_up Ar 24 (upd (Ar 24) m x)) (T := T) (T' := T) (A := A) (A' := A) (Lg := Lg) (Lg' := Lg) D (fun _ => True) (fun _ => False) (fun j _ => rfl) (fun j _ q => q.elim) ⟨fun _ _ q => q, HQ.1, HQ.2⟩ ⟨⟨rfl, rfl, rfl, rfl⟩, fun _ _ => rfl, ⟨rfl, rfl, rfl⟩, ⟨rfl, rfl, rfl⟩, rfl⟩
      (fun _ => ⟨fun q => q, rfl, rfl⟩) (fun _ => ⟨rfl, rfl⟩) (fun _ => ⟨fun q => q, rfl, rfl⟩) (fun _ => ⟨rfl, rfl⟩) (fun _ _ _ => ⟨⟨rfl, rfl, rfl, rfl⟩, fun q => q⟩) (fun _ _ _ => ⟨fun q => q, fun q => q, rfl⟩) (fun _ _ _ => ⟨rfl, rfl⟩) (fun _ _ _ => ⟨rfl, rfl⟩) (fun _ _ _ => ⟨⟨rfl, rfl⟩, fun q => q⟩) (fun _ _ _ => ⟨fun q => q, rfl, rfl⟩) (fun _ _ _ => ⟨rfl, rfl⟩)
      (fun a ha p hp _ => ⟨fun q => q, rfl, rfl, (pk_un (hm a ha p hp) : upd (Ar 24) m x (6 * a + p) = _)⟩) (fun _ _ _ _ _ => ⟨rfl, rfl⟩) (Z.jx b) (D.2.1 b hb) trivial)
/-- between two points of a letter under way -/
def lvI (G : gG) (Z Zp : kZ) (I9 I2 : Nat → Int32) (Ar2 : Nat → Nat → Int32) (T9 Tp : Nat → Int32) (A9 : Nat → Nat → Int32) (Lg9 Lgp : Nat → Nat → Int64) (B : Nat → Int32) (Lw : List lW) (h hp : hW) (q0 p : Nat) : Prop :=
  kD G Zp I9 (lpN I2 Z.nL Ar2 p) Tp A9 Lgp hp ∧ (Zp.nC = Z.nC ∧ Zp.nL = Z.nL ∧ Zp.nX = Z.nX + 1 ∧ (∀ b, b ≠ Z.nL → Zp.np b = Z.np b) ∧ Zp.np Z.nL = p) ∧
  ((∀ j, 300 ≤ j → j < 3000 + 6 * Z.nL → ¬ (1200 ≤ j ∧ j < 1300) → Zp.Sz j = Z.Sz j) ∧ (∀ j, j < 6 → Tp j = T9 j) ∧ (∀ j, 8 ≤ j → j < 1000 → Tp j = T9 j) ∧ ∀ j, j < 3000 + 6 * Z.nL → Lgp j = Lg9 j) ∧
  (∀ q, q < p → Zp.Sz (3000 + (6 * Z.nL + q)) = ptN Lw q ∧ ∀ x, hwJ Zp Lgp (6 * Z.nL + q) x ↔ ptW B Lw q x) ∧ kF Z Zp h hp ∧ Zp.da 1 = Z.da 1 ∧ Zp.da (1000 + Z.nL) = q0 ∧ kQ Zp (lpN I2 Z.nL Ar2 p)
theorem sub_step {p w f : Nat} (h1 : p < w) (h2 : w - p < f + 1) : w - (p + 1) < f := by omega
theorem lpN_22 {n : Nat} {j : Nat} (h1 : j ≠ 22) (h2 : j ≠ 23) (h3 : j ≠ 24) {I2 : Nat → Int32} {Ar2 : Nat → Nat → Int32} : ∀ p, lpN I2 n Ar2 p j = Ar2 j
  | 0 => by rw [lpN_0]
  | p + 1 => by
    rw [lpN_s]
    exact (show va_up (va_up (va_up _ 24 _) 22 _) 23 _ j = lpN I2 n Ar2 p j by simp [va_up, h1, h2, h3]).trans (lpN_22 h1 h2 h3 p)
theorem lp_X6_letter_97 {E : gE} (X : Gc G E "ComplaintDesk" cX6_letter 5 7 21 2280) (F : gF E M_X6_letter) (D0 : kW G Z) (hX : Z.nX = Z.nL) (hL : Z.nL < 80) (N : Nat) (T9 : Nat → Int32) (A9 : Nat → Nat → Int32) (Lg9 : Nat → Nat → Int64) (I9 I2 : Nat → Int32) (Ar2 : Nat → Nat → Int32) (q0 : Nat) (hws : kLsW (Ar 27) T9 A9 Lg9 (lR Ar N).2.2) (h4 : T9 4 = nI (lR Ar N).2.1) (h11 : I2 11 = nI Z.nC) (hA : ∀ c, c < Z.nC → kN c (Ar2 2 c)) (hS : ∀ c, c < Z.nC → Z.Sz (300 + c) = cl (Ar2 6 c)) (hR0 : ∀ c, c < Z.nC → kRP Z Ar2 T9 A9 c) (hrel : ∀ p, p < (lR Ar N).2.1 → ∀ (n : Nat) (gw : Nat → Int64), (∀ x, (∃ j, j < n ∧ gw j = x) ↔ ptW (Ar 27) (lR Ar N).2.2 p x) → ∀ c, c < Z.nC → kRY Z Ar2 Lg9 c Z.nL p n gw) (h : hW) (yb9 : Int32) : ∀ (f : Nat) (p : Nat) (Zp : kZ) (Tp : Nat → Int32) (Lgp : Nat → Nat → Int64) (hp : hW), p ≤ (lR Ar N).2.1 → lvI G Z Zp I9 I2 Ar2 T9 Tp A9 Lg9 Lgp (Ar 27) (lR Ar N).2.2 h hp q0 p → (lR Ar N).2.1 - p < f → GW G E (gMQ G E 21 2280 (fun v h' => v = some (.int (nI Z.nL)) ∧ ∃ (Z' : kZ) (T' : Nat → Int32) (Lg' : Nat → Nat → Int64), kD G Z' I9 (lpN I2 Z.nL Ar2 (lR Ar N).2.1) T' A9 Lg' h' ∧ (Z'.nC = Z.nC ∧ Z'.nL = Z.nL + 1 ∧ Z'.nX = Z.nX + 1 ∧ (∀ b, b ≠ Z.nL → Z'.np b = Z.np b) ∧ Z'.np Z.nL = (lR Ar N).2.1) ∧ ((∀ j, 300 ≤ j → j < 3000 + 6 * Z.nL → ¬ (1200 ≤ j ∧ j < 1300) → Z'.Sz j = Z.Sz j) ∧ (∀ j, 8 ≤ j → j < 1000 → T' j = T9 j) ∧ ∀ j, j < 3000 + 6 * Z.nL → Lg' j = Lg9 j) ∧ (∀ q, q < (lR Ar N).2.1 → Z'.Sz (3000 + (6 * Z.nL + q)) = ptN (lR Ar N).2.2 q ∧ ∀ x, hwJ Z' Lg' (6 * Z.nL + q) x ↔ ptW (Ar 27) (lR Ar N).2.2 q x) ∧ kF Z Z' h h' ∧ Z'.da 1 = Z.da 1)) 5 97 [(3, .int (nI p)), (2, .ref q0), (0, .ref (Z.da 1)), (1, .int yb9)] [] hp (2 + 3 * p) (6 + 354 * p) := by
  intro f
  induction f with
  | zero => intro p Zp Tp Lgp hp hpW hI9 hf; exact absurd hf (Nat.not_lt_zero _)
  | succ f ih =>
    intro p Zp Tp Lgp hp hpW hI9 hf
    obtain ⟨Kp, ⟨z1, z2, z3, z4, z5⟩, ⟨s1, s2, s3, s4⟩, hpt, hfk, hd1, hq0, HQp⟩ := hI9
    have D := Kp.1
    have hW6 : (lR Ar N).2.1 ≤ 6 := lR_wf.1
    have hax : Z.nL < Zp.nX := by omega
    have h12 := D.c12
    refine g_h Kp.self ?_
    refine g_L [0,1,2,3] (L' := [(3, .int (nI p)), (2, .ref q0), (0, .ref (Zp.da 1)), (1, .int yb9)]) (by rw [hd1]; rfl) ?_
    refine g_iload_n X dX6_letter_97 0 rfl ?_
    refine g_aload_n X dX6_letter_98 2 rfl ?_
    refine g_getfield X fl_X6_19 dX6_letter_99 (kL1 D) rfl ?_
    refine g_getfield X fl_X6_132 dX6_letter_102 (kL3 D) rfl ?_
    refine g_eqi (y := nI (lR Ar N).2.1) ((s2 4 (by decide)).trans h4) ?_
    refine g_icmp_ge X 163 dX6_letter_105 (by decide) (fun c_105 => ?_) (fun c_105 => ?_)
    · have hge : (lR Ar N).2.1 ≤ p := (nI_leI (by omega) (by omega)).mp c_105
      have ep : p = (lR Ar N).2.1 := by omega
      refine g_aload_n X dX6_letter_163 2 rfl ?_
      refine g_getfield X fl_X6_37 dX6_letter_164 (kL1 D) rfl ?_
      refine g_aload_n X dX6_letter_167 1 rfl ?_
      refine g_e3 X (fun hE3 => ?_)
      have hel : ∀ i, i < Zp.nL → ∀ y, Zp.Fo 7 i = some y → gEl (kH G Zp I9 (lpN I2 Z.nL Ar2 p) Tp A9 Lgp hp) y ∧ y ≠ Zp.da 6 := by
        intro i hi y hy
        rw [(D.2.2.2.1.2.1.2 (by omega)).2.2 i hi] at hy; cases hy
        have e1 := kLL (I := I9) (Ar := (lpN I2 Z.nL Ar2 p)) (T := Tp) (A := A9) (Lg := Lgp) (h0 := hp) D (Nat.lt_of_lt_of_le hi D.lx)
        exact ⟨⟨1, _, _, e1, rfl, ca_1⟩, fun e => by rw [e, kL6 D] at e1; cases e1⟩
      have eq0 := kLL (I := I9) (Ar := (lpN I2 Z.nL Ar2 p)) (T := Tp) (A := A9) (Lg := Lgp) (h0 := hp) D hax
      rw [hq0] at eq0
      have heq : Zp.da 7 ≠ Zp.da 6 := by
        by_cases zz : Zp.nL = 0
        · rw [D.2.2.2.1.2.1.1 zz]; intro e; rw [e, kL6 D] at hE3; cases hE3
        · intro e
          have e1 := kL7 (I := I9) (Ar := (lpN I2 Z.nL Ar2 p)) (T := Tp) (A := A9) (Lg := Lgp) (h0 := hp) D (Nat.pos_of_ne_zero zz)
          rw [e, kL6 D] at e1; cases e1
      have hvq : q0 ≠ Zp.da 6 := fun e => by rw [e, kL6 D] at eq0; cases eq0
      refine g_cVx X ml_X6_106 (c_Jx4a65c_add_9ea2d _ _ Zp.nL q0 (Zp.Fo 7) (kA6 D) (by omega) heq hel ⟨1, _, _, eq0, rfl, ca_1⟩ hvq) ⟨8, _, kL6 D, rfl⟩ (Nat.le_of_ble_eq_true rfl) rfl rfl (Nat.le_of_ble_eq_true rfl) (by omega) (by omega) dX6_letter_168 ?_
      rintro v8 h8 ⟨rfl, e2, f2, hA2', hf22, hv2, ho2, hne2, hk2⟩
      refine g_st (st' := [.int 1]) rfl ?_
      obtain ⟨⟨x8, hx8⟩, hE8⟩ := hA2'
      obtain ⟨C8, hC8, hE8, hN8⟩ := hE8.resolve_left (fun z => absurd z.1 (Nat.succ_ne_zero _))
      have he : (0 < Zp.nL ∧ e2 = Zp.da 7) ∨ (kH G Zp I9 (lpN I2 Z.nL Ar2 p) Tp A9 Lgp hp) e2 = none := by
        rcases ho2 with ⟨y1, y2⟩ | ⟨y1, -⟩
        · refine Or.inl ⟨Nat.pos_of_ne_zero (fun z => y2 ?_), y1⟩
          rw [D.2.2.2.1.2.1.1 z]; exact hE3
        · exact Or.inr y1
      have n16 : Zp.da 1 ≠ Zp.da 6 := fun e => by have e1 := kL1 (I := I9) (Ar := (lpN I2 Z.nL Ar2 p)) (T := Tp) (A := A9) (Lg := Lgp) (h0 := hp) D; rw [e, kL6 D] at e1; cases e1
      have n1 : Zp.da 1 ≠ e2 := by
        rcases he with ⟨y1, y2⟩ | y1
        · rw [y2]; intro e; have e1 := kL1 (I := I9) (Ar := (lpN I2 Z.nL Ar2 p)) (T := Tp) (A := A9) (Lg := Lgp) (h0 := hp) D; rw [e, kL7 D y1] at e1; cases e1
        · intro e; rw [← e, kL1 D] at y1; cases y1
      have l8 := (hk2 _ n16 n1).trans (kL1 (I := I9) (Ar := (lpN I2 Z.nL Ar2 p)) (T := Tp) (A := A9) (Lg := Lgp) (h0 := hp) D)
      refine g_pop X dX6_letter_171 rfl ?_
      refine g_aload_n X dX6_letter_172 2 rfl ?_
      refine g_getfield X fl_X6_37 dX6_letter_173 l8 rfl ?_
      refine g_cV X ml_X6_92 (c_Jx4a65c_size_8abf5 _ _ (Zp.nL + 1) _ hx8) ⟨8, _, hx8, rfl⟩ (Nat.le_of_ble_eq_true rfl) rfl rfl (Nat.le_of_ble_eq_true rfl) (by omega) (by omega) dX6_letter_176 ?_
      refine g_iconst X (v := 1) dX6_letter_179 ki_1 ?_
      refine g_isub X dX6_letter_180 ?_
      refine g_eqi (y := nI Zp.nL) (nI_pred _) ?_
      refine g_iret X F rfl rfl dX6_letter_181 (by omega) (by omega) ?_
      obtain ⟨Z', t1, ⟨y1, y2, y3, y4⟩, t3, t5, t6⟩ := tr_list (kD.of (I := I9) (Ar := (lpN I2 Z.nL Ar2 p)) (T := Tp) (A := A9) (Lg := Lgp) (h0 := hp) D) HQp (by omega) hx8 hE8 hC8 hN8 hf22 (by rw [hv2, ← hq0, z2]) he (fun b b1 b2 => hk2 b b1 b2)
      rw [ep] at t1 z5 hpt
      refine ⟨by rw [z2], Z', _, _, t1, ⟨y1.trans z1, by omega, y3.trans z3, fun b hb => by rw [y4]; exact z4 b hb, by rw [y4]; exact z5⟩, ⟨fun j a1 a2 a3 => (t3 j (by omega)).trans (s1 j a1 a2 a3), fun j a1 a2 => (va_up_ne _ _ (by omega)).trans (s3 j a1 a2), s4⟩, fun q hq => ?_, (hfk.tr kF.H).tr t5, t6.trans hd1⟩
      obtain ⟨w1, w2⟩ := hpt q hq
      refine ⟨(t3 _ (by omega)).trans w1, fun x => ?_⟩
      rw [← w2 x]
      unfold hwJ
      rw [t3 _ (by omega)]
    · have hlt : p < (lR Ar N).2.1 := nI_lt_of c_105 (by omega) (by omega)
      refine g_iload_n X dX6_letter_108 0 rfl ?_
      refine g_bipush X (v := 6) dX6_letter_109 kb_6 ?_
      refine g_icmp_ge X 163 dX6_letter_111 (by decide) (fun c_111 => absurd ((nI_leI (a := 6) (b := p) (by omega) (by omega)).mp c_111) (by omega)) (fun c_111 => ?_)
      refine g_new X ck3 cl_X6_135 ins_3 ini_3 [.null, .null, .int 0, .int 0] (fun j9 hj9 => by match j9, hj9 with | 0, _ => rfl | 1, _ => rfl | 2, _ => rfl | 3, _ => rfl | z9 + 4, hj9 => exact absurd hj9 (by omega)) dX6_letter_114 (by omega) (by omega) (fun qp h_qp hg_qp => ?_)
      have jq : Zp.jx qp = 0 := (kD.of (I := I9) (Ar := (lpN I2 Z.nL Ar2 p)) (T := Tp) (A := A9) (Lg := Lgp) (h0 := hp) D).j0 h_qp
      refine g_h (h' := (kH G Zp I9 (lpN I2 Z.nL Ar2 p) Tp A9 Lgp (hup hp qp (ob 3 [.null, .null, .int 0, .int 0])))) (kH_off jq) ?_
      refine g_dup X dX6_letter_117 rfl ?_
      refine g_aload_n X dX6_letter_118 2 rfl ?_
      refine g_getfield X fl_X6_19 dX6_letter_119 (kL1 D) rfl ?_
      refine g_iload_n X dX6_letter_122 0 rfl ?_
      refine g_cVx X ml_X6_137 (c_X5_codesOf D (lR Ar N).2.2.length lR_wf.2.1 (by rw [s2 3 (by decide)]; exact hws.1) (nI p)) ⟨5, _, kL3 D, rfl⟩ (Nat.le_of_ble_eq_true rfl) rfl rfl (Nat.le_of_ble_eq_true rfl) (by omega) (by omega) dX6_letter_123 ?_
      rintro v9 h9 ⟨qj, gw, h_qj, hg_qj, rfl, rfl, hgw⟩
      refine g_st (st' := [.ref qj, .ref qp, .ref qp]) rfl ?_
      obtain ⟨nw, enw⟩ : ∃ nw, nw = toW (A9 14) (lR Ar N).2.2.length (nI p) - frW (A9 14) (lR Ar N).2.2.length (nI p) := ⟨_, rfl⟩
      have jj : Zp.jx qj = 0 := (kD.of (I := I9) (Ar := (lpN I2 Z.nL Ar2 p)) (T := Tp) (A := A9) (Lg := Lgp) (h0 := hup hp qp (ob 3 [.null, .null, .int 0, .int 0])) D).j0 h_qj
      refine g_h (h' := (kH G Zp I9 (lpN I2 Z.nL Ar2 p) Tp A9 Lgp (hup (hup hp qp (ob 3 [.null, .null, .int 0, .int 0])) qj (aJ G nw gw)))) ((kH_off jj).trans (by rw [enw])) ?_
      have n_qj_qp : qj ≠ qp := fun e => by rw [e, kH_at0 jq, hup_s] at h_qj; cases h_qj
      have told := told_pt hws lR_mono (fun w hw => Nat.lt_of_lt_of_le (lR_wf.2.2 w hw).2.2 hW6) (p := p) (by omega)
      rw [← enw] at told
      have hgw2 : ∀ x, (∃ j, j < nw ∧ gw j = x) ↔ ptW (Ar 27) (lR Ar N).2.2 p x := fun x => by
        rw [← told.2 x]
        constructor
        · rintro ⟨j, hj, rfl⟩
          refine ⟨j, hj, ?_⟩
          rw [← s4 13 (by omega)]; exact (hgw j (by rw [← enw]; exact hj)).symm
        · rintro ⟨j, hj, rfl⟩
          refine ⟨j, hj, ?_⟩
          rw [← s4 13 (by omega)]; exact hgw j (by rw [← enw]; exact hj)
      refine g_cI0 X ml_X6_141 rfl (c_X3_init qp qj (by rw [kH_at0 jq, hup_n n_qj_qp.symm, hup_s])) (Nat.le_of_ble_eq_true rfl) rfl rfl (Nat.le_of_ble_eq_true rfl) (by omega) (by omega) dX6_letter_126 ?_
      have HQq : kQ Zp (lpN I2 Z.nL Ar2 p) := HQp
      have hmm : ∀ a2, a2 < Zp.nX → ∀ p2, p2 < Zp.np a2 → 6 * a2 + p2 ≠ (6 * Z.nL + p) := fun a2 ha2 p2 hp2 e => by
        have h6 := D.p6 a2
        have e2 : a2 = Z.nL := by omega
        subst e2; rw [z5] at hp2; omega
      refine g_h (h' := (kH G Zp I9 (va_up (lpN I2 Z.nL Ar2 p) 24 (upd ((lpN I2 Z.nL Ar2 p) 24) (6 * Z.nL + p) (-1))) Tp A9 Lgp (hup (hup (hup hp qp (ob 3 [.null, .null, .int 0, .int 0])) qj (aJ G nw gw)) qp (ob 3 [.ref qj, .null, .int (-1), .int (-1)])))) ((kH_off jq).trans (kH_24 D HQq hmm).symm) ?_
      have ey : (kH G Zp I9 (va_up (lpN I2 Z.nL Ar2 p) 24 (upd ((lpN I2 Z.nL Ar2 p) 24) (6 * Z.nL + p) (-1))) Tp A9 Lgp (hup (hup (hup hp qp (ob 3 [.null, .null, .int 0, .int 0])) qj (aJ G nw gw)) qp (ob 3 [.ref qj, .null, .int (-1), .int (-1)]))) qp = some (ob 3 [.ref qj, .null, .int (-1), .int (-1)]) := by rw [kH_at0 jq]; exact hup_s
      have ej : (kH G Zp I9 (va_up (lpN I2 Z.nL Ar2 p) 24 (upd ((lpN I2 Z.nL Ar2 p) 24) (6 * Z.nL + p) (-1))) Tp A9 Lgp (hup (hup (hup hp qp (ob 3 [.null, .null, .int 0, .int 0])) qj (aJ G nw gw)) qp (ob 3 [.ref qj, .null, .int (-1), .int (-1)]))) qj = some (aJ G nw gw) := by rw [kH_at0 jj, hup_n n_qj_qp, hup_s]
      have hoff : ∀ j, j ≠ 22 → j ≠ 23 → j ≠ 24 → (va_up (lpN I2 Z.nL Ar2 p) 24 (upd ((lpN I2 Z.nL Ar2 p) 24) (6 * Z.nL + p) (-1))) j = Ar2 j := fun j a1 a2 a3 => (va_up_ne _ _ a3).trans (lpN_22 a1 a2 a3 p)
      have hA2 : ∀ c, c < Zp.nC → kN c ((va_up (lpN I2 Z.nL Ar2 p) 24 (upd ((lpN I2 Z.nL Ar2 p) 24) (6 * Z.nL + p) (-1))) 2 c) := fun c hc => by rw [hoff 2 (by decide) (by decide) (by decide)]; exact hA c (by omega)
      have hnw : nw ≤ 60 := by
        have e1 : nw = ptN (lR Ar N).2.2 p := told.1
        have e2 : ptN (lR Ar N).2.2 p ≤ (lR Ar N).2.2.length := cN_le _ _
        have e3 : (lR Ar N).2.2.length ≤ 60 := lR_wf.2.1
        omega
      have esr : kcF (va_up (lpN I2 Z.nL Ar2 p) 24 (upd ((lpN I2 Z.nL Ar2 p) 24) (6 * Z.nL + p) (-1))) Z.nL p Zp.nC = srC I2 (va_up (lpN I2 Z.nL Ar2 p) 24 (upd ((lpN I2 Z.nL Ar2 p) 24) (6 * Z.nL + p) (-1))) Z.nL p := by
        unfold srC
        rw [h11, show cl (nI Z.nC) = Z.nC from nI_clamp (by omega), ← z1]
        exact kcF_sr hA2 D.c12
      refine g_astore X dX6_letter_129 (Nat.le_of_ble_eq_true rfl) [(4, _), (3, _), (2, _), (0, _), (1, _)] rfl ?_
      refine g_aload X dX6_letter_131 0 rfl ?_
      refine g_aload_n X dX6_letter_133 3 rfl ?_
      refine g_aload X dX6_letter_134 0 rfl ?_
      refine g_cV X ml_X6_144 (c_X6_causeOf_y D hA2 (fun c hc => (s1 _ (by omega) (by omega) (by omega)).trans ((hS c (by omega)).trans (by rw [hoff 6 (by decide) (by decide) (by decide)]))) (fun c hc => (hR0 c (by omega)).cg2 (s1 _ (by omega) (by omega) (by omega)) (s3 _ (by omega) (by omega)) rfl hoff) Z.nL p qp qj nw gw none (-1) (-1) hnw ey ej (fun c hc => (hrel p hlt nw gw hgw2 c (by omega)).cg (s1 _ (by omega) (by omega) (by omega)) (s4 _ (by omega)) hoff)) ⟨6, _, kL1 D, rfl⟩ (Nat.le_of_ble_eq_true rfl) rfl rfl (Nat.le_of_ble_eq_true rfl) (by omega) (by omega) dX6_letter_136 ?_
      refine g_aload_n X dX6_letter_139 2 rfl ?_
      refine g_getfield X fl_X6_148 dX6_letter_140 (by rw [← hq0]; exact kLL D hax) rfl ?_
      have hkx : kN Zp.nC (kcF (va_up (lpN I2 Z.nL Ar2 p) 24 (upd ((lpN I2 Z.nL Ar2 p) 24) (6 * Z.nL + p) (-1))) Z.nL p Zp.nC) := kcF_k _
      refine g_cV X ml_X6_151 (c_X3_putTo_y D qp qj (kcF (va_up (lpN I2 Z.nL Ar2 p) 24 (upd ((lpN I2 Z.nL Ar2 p) 24) (6 * Z.nL + p) (-1))) Z.nL p Zp.nC) (-1) (-1) ((va_up (lpN I2 Z.nL Ar2 p) 24 (upd ((lpN I2 Z.nL Ar2 p) 24) (6 * Z.nL + p) (-1))) 14 Z.nL) hkx ey) ⟨3, _, ey, rfl⟩ (Nat.le_of_ble_eq_true rfl) rfl rfl (Nat.le_of_ble_eq_true rfl) (by omega) (by omega) dX6_letter_143 ?_
      have HB : ∀ b x, (kH G Zp I9 (lpN I2 Z.nL Ar2 p) Tp A9 Lgp hp) b = some x → ∀ y, hup (kH G Zp I9 (va_up (lpN I2 Z.nL Ar2 p) 24 (upd ((lpN I2 Z.nL Ar2 p) 24) (6 * Z.nL + p) (-1))) Tp A9 Lgp (hup (hup (hup hp qp (ob 3 [.null, .null, .int 0, .int 0])) qj (aJ G nw gw)) qp (ob 3 [.ref qj, .null, .int (-1), .int (-1)]))) qp y b = some x := fun b x hb y => by
        have b1 : b ≠ qp := fun e => by rw [e, h_qp] at hb; cases hb
        rw [hup_n b1]
        have b2 : b ≠ qj := fun e => by
          rw [e] at hb
          rw [kH_at0 jj, hup_n n_qj_qp] at h_qj
          rw [kH_at0 jj, h_qj] at hb; cases hb
        rw [kH_24 D HQq hmm, ← kH_off jq, hup_n b1, ← kH_off jj, hup_n b2, ← kH_off jq, hup_n b1]; exact hb
      refine g_pop X dX6_letter_146 rfl ?_
      refine g_aload_n X dX6_letter_147 2 rfl ?_
      refine g_getfield X fl_X6_155 dX6_letter_148 (HB _ _ (by rw [← hq0]; exact kLL D hax) _) rfl ?_
      refine g_aload X dX6_letter_151 0 rfl ?_
      obtain ⟨OB, eOB⟩ : ∃ OB, OB = ob 3 [.ref qj, va_rf (cz Zp (kcF (va_up (lpN I2 Z.nL Ar2 p) 24 (upd ((lpN I2 Z.nL Ar2 p) 24) (6 * Z.nL + p) (-1))) Z.nL p Zp.nC)), .int (if kcF (va_up (lpN I2 Z.nL Ar2 p) 24 (upd ((lpN I2 Z.nL Ar2 p) 24) (6 * Z.nL + p) (-1))) Z.nL p Zp.nC = -1 then -1 else (va_up (lpN I2 Z.nL Ar2 p) 24 (upd ((lpN I2 Z.nL Ar2 p) 24) (6 * Z.nL + p) (-1))) 14 Z.nL + (va_up (lpN I2 Z.nL Ar2 p) 24 (upd ((lpN I2 Z.nL Ar2 p) 24) (6 * Z.nL + p) (-1))) 4 (cl (kcF (va_up (lpN I2 Z.nL Ar2 p) 24 (upd ((lpN I2 Z.nL Ar2 p) 24) (6 * Z.nL + p) (-1))) Z.nL p Zp.nC))), .int (-1)] := ⟨_, rfl⟩
      refine g_h (h' := hup (kH G Zp I9 (va_up (lpN I2 Z.nL Ar2 p) 24 (upd ((lpN I2 Z.nL Ar2 p) 24) (6 * Z.nL + p) (-1))) Tp A9 Lgp (hup (hup (hup hp qp (ob 3 [.null, .null, .int 0, .int 0])) qj (aJ G nw gw)) qp (ob 3 [.ref qj, .null, .int (-1), .int (-1)]))) qp OB) (by rw [eOB]) ?_
      refine g_e3 X (fun hE3 => ?_)
      have hA9 : alE G (hup (kH G Zp I9 (va_up (lpN I2 Z.nL Ar2 p) 24 (upd ((lpN I2 Z.nL Ar2 p) 24) (6 * Z.nL + p) (-1))) Tp A9 Lgp (hup (hup (hup hp qp (ob 3 [.null, .null, .int 0, .int 0])) qj (aJ G nw gw)) qp (ob 3 [.ref qj, .null, .int (-1), .int (-1)]))) qp OB) (Zp.da (1100 + Z.nL)) (Zp.da (1200 + Z.nL)) p (Zp.Fo (1200 + Z.nL)) := by
        have := (kAL (I := I9) (Ar := (lpN I2 Z.nL Ar2 p)) (T := Tp) (A := A9) (Lg := Lgp) (h0 := hp) D hax).tr (fun b x hb => HB b x hb OB)
        rw [z5] at this; exact this
      have eLL := HB _ _ (kLLL D hax) OB
      have heq : Zp.da (1200 + Z.nL) ≠ Zp.da (1100 + Z.nL) := by
        by_cases zz : Zp.np Z.nL = 0
        · rw [(D.2.2.2.1.2.2 _ hax).1 zz]; intro e; rw [e, eLL] at hE3; cases hE3
        · intro e
          have e1 := HB _ _ (kLLA D hax (Nat.pos_of_ne_zero zz)) OB
          rw [e, eLL] at e1; cases e1
      have hel : ∀ i, i < p → ∀ y, Zp.Fo (1200 + Z.nL) i = some y → gEl (hup (kH G Zp I9 (va_up (lpN I2 Z.nL Ar2 p) 24 (upd ((lpN I2 Z.nL Ar2 p) 24) (6 * Z.nL + p) (-1))) Tp A9 Lgp (hup (hup (hup hp qp (ob 3 [.null, .null, .int 0, .int 0])) qj (aJ G nw gw)) qp (ob 3 [.ref qj, .null, .int (-1), .int (-1)]))) qp OB) y ∧ y ≠ Zp.da (1100 + Z.nL) := by
        intro i hi y hy
        rw [((D.2.2.2.1.2.2 _ hax).2 (by omega)).2.2 i (by omega)] at hy; cases hy
        have e1 := HB _ _ (kLQ D hax (show i < Zp.np Z.nL by omega)) OB
        exact ⟨⟨3, _, _, e1, rfl, ca_3⟩, fun e => by rw [e, eLL] at e1; cases e1⟩
      have hvq : qp ≠ Zp.da (1100 + Z.nL) := fun e => by rw [e, kLLL D hax] at h_qp; cases h_qp
      refine g_cVx X ml_X6_106 (c_Jx4a65c_add_9ea2d _ _ p qp (Zp.Fo (1200 + Z.nL)) hA9 (by omega) heq hel ⟨3, _, _, by rw [eOB]; exact hup_s, rfl, ca_3⟩ hvq) ⟨8, _, eLL, rfl⟩ (Nat.le_of_ble_eq_true rfl) rfl rfl (Nat.le_of_ble_eq_true rfl) (by omega) (by omega) dX6_letter_153 ?_
      rintro v8 h8 ⟨rfl, e2, f2, hA2', hf22, hv2, ho2, hne2, hk2⟩
      refine g_st (st' := [.int 1]) rfl ?_
      refine g_pop X dX6_letter_156 rfl ?_
      refine g_iinc X (v := nI (p + 1)) dX6_letter_157 1 rfl (nI_1 p) (Nat.le_of_ble_eq_true rfl) [(3, _), (4, _), (2, _), (0, _), (1, _)] rfl ?_
      refine g_goto X 97 dX6_letter_160 (by decide) ?_
      refine g_L [0, 2, 3, 4] (L' := [(3, _), (2, _), (0, _), (1, _)]) rfl ?_
      have HQ24 : kQ Zp (va_up (lpN I2 Z.nL Ar2 p) 24 (upd ((lpN I2 Z.nL Ar2 p) 24) (6 * Z.nL + p) (-1))) := HQp
      have KB : kD G Zp I9 (va_up (lpN I2 Z.nL Ar2 p) 24 (upd ((lpN I2 Z.nL Ar2 p) 24) (6 * Z.nL + p) (-1))) Tp A9 Lgp (kH G Zp I9 (lpN I2 Z.nL Ar2 p) Tp A9 Lgp hp) := by
        have := kD.of (I := I9) (Ar := (va_up (lpN I2 Z.nL Ar2 p) 24 (upd ((lpN I2 Z.nL Ar2 p) 24) (6 * Z.nL + p) (-1)))) (T := Tp) (A := A9) (Lg := Lgp) (h0 := hp) D
        rw [kH_24 D HQq hmm] at this; exact this
      have u2 : (kH G Zp I9 (lpN I2 Z.nL Ar2 p) Tp A9 Lgp hp) qj = none := by
        rw [kH_at0 jj, hup_n n_qj_qp] at h_qj
        rw [kH_at0 jj]; exact h_qj
      obtain ⟨⟨x8, hx8⟩, hE8⟩ := hA2'
      obtain ⟨C8, hC8, hE8, hN8⟩ := hE8.resolve_left (fun z => absurd z.1 (Nat.succ_ne_zero _))
      have off9 : ∀ b, b ≠ qp → b ≠ qj → hup (kH G Zp I9 (va_up (lpN I2 Z.nL Ar2 p) 24 (upd ((lpN I2 Z.nL Ar2 p) 24) (6 * Z.nL + p) (-1))) Tp A9 Lgp (hup (hup (hup hp qp (ob 3 [.null, .null, .int 0, .int 0])) qj (aJ G nw gw)) qp (ob 3 [.ref qj, .null, .int (-1), .int (-1)]))) qp OB b = (kH G Zp I9 (lpN I2 Z.nL Ar2 p) Tp A9 Lgp hp) b := fun b b1 b2 => by
        rw [hup_n b1, kH_24 D HQq hmm, ← kH_off jq, hup_n b1, ← kH_off jj, hup_n b2, ← kH_off jq, hup_n b1]
      have he : (0 < Zp.np Z.nL ∧ e2 = Zp.da (1200 + Z.nL)) ∨ (kH G Zp I9 (lpN I2 Z.nL Ar2 p) Tp A9 Lgp hp) e2 = none := by
        rcases ho2 with ⟨y1, y2⟩ | ⟨y1, -⟩
        · refine Or.inl ⟨Nat.pos_of_ne_zero (fun z => y2 ?_), y1⟩
          rw [(D.2.2.2.1.2.2 _ hax).1 z]; exact hE3
        · have a1 : e2 ≠ qp := fun z => by rw [z, hup_s] at y1; cases y1
          have a2 : e2 ≠ qj := fun z => by rw [z, hup_n n_qj_qp, ej] at y1; cases y1
          rw [off9 e2 a1 a2] at y1
          exact Or.inr y1
      have ne2 : ∀ {z}, (kH G Zp I9 (lpN I2 Z.nL Ar2 p) Tp A9 Lgp hp) z = none → hup (kH G Zp I9 (va_up (lpN I2 Z.nL Ar2 p) 24 (upd ((lpN I2 Z.nL Ar2 p) 24) (6 * Z.nL + p) (-1))) Tp A9 Lgp (hup (hup (hup hp qp (ob 3 [.null, .null, .int 0, .int 0])) qj (aJ G nw gw)) qp (ob 3 [.ref qj, .null, .int (-1), .int (-1)]))) qp OB z ≠ none → e2 ≠ z := fun hz hz2 => by
        rcases ho2 with ⟨y1, y2⟩ | ⟨y1, -⟩
        · rcases he with ⟨w1, w2⟩ | w1
          · rw [w2]; intro e; rw [← e, kLLA D hax w1] at hz; cases hz
          · intro e
            by_cases zz : Zp.np Z.nL = 0
            · rw [(D.2.2.2.1.2.2 _ hax).1 zz] at y2; exact y2 hE3
            · rw [y1, kLLA D hax (Nat.pos_of_ne_zero zz)] at w1; cases w1
        · intro e; rw [← e, y1] at hz2; exact hz2 rfl
      have nqp : e2 ≠ qp := ne2 h_qp (by rw [hup_s]; simp)
      have nqj : e2 ≠ qj := ne2 u2 (by rw [hup_n n_qj_qp, ej]; simp)
      have nK : ∀ {z}, (kH G Zp I9 (lpN I2 Z.nL Ar2 p) Tp A9 Lgp hp) z = none → z ≠ Zp.da (1100 + Z.nL) := fun hz e => by rw [e, kLLL D hax] at hz; cases hz
      obtain ⟨Z', t1, ⟨y1, y2, y3, y4⟩, t3, t4, t5, t6, t7, t8⟩ := tr_point KB HQ24 hax (by omega) h_qp u2 n_qj_qp nqp nqj hnw (by rw [z5]; exact hx8) hE8 hC8 (by rw [z5]; exact hN8) (fun i hi => hf22 i (by omega)) (by rw [z5]; exact hv2) he
        ((hk2 _ (nK h_qp) nqp.symm).trans (hup_s.trans (by rw [eOB]))) ((hk2 _ (nK u2) nqj.symm).trans ((hup_n n_qj_qp).trans ej)) hkx (fun b b1 b2 b3 b4 => (hk2 b b1 b2).trans (off9 b b3 b4))
      rw [z5] at t1 t3 t4 y4
      have eN : va_up (va_up (va_up (va_up (lpN I2 Z.nL Ar2 p) 24 (upd ((lpN I2 Z.nL Ar2 p) 24) (6 * Z.nL + p) (-1))) 22 (upd ((va_up (lpN I2 Z.nL Ar2 p) 24 (upd ((lpN I2 Z.nL Ar2 p) 24) (6 * Z.nL + p) (-1))) 22) (6 * Z.nL + p) (kcF (va_up (lpN I2 Z.nL Ar2 p) 24 (upd ((lpN I2 Z.nL Ar2 p) 24) (6 * Z.nL + p) (-1))) Z.nL p Zp.nC))) 23 (upd ((va_up (lpN I2 Z.nL Ar2 p) 24 (upd ((lpN I2 Z.nL Ar2 p) 24) (6 * Z.nL + p) (-1))) 23) (6 * Z.nL + p) (if kcF (va_up (lpN I2 Z.nL Ar2 p) 24 (upd ((lpN I2 Z.nL Ar2 p) 24) (6 * Z.nL + p) (-1))) Z.nL p Zp.nC = -1 then -1 else (va_up (lpN I2 Z.nL Ar2 p) 24 (upd ((lpN I2 Z.nL Ar2 p) 24) (6 * Z.nL + p) (-1))) 14 Z.nL + (va_up (lpN I2 Z.nL Ar2 p) 24 (upd ((lpN I2 Z.nL Ar2 p) 24) (6 * Z.nL + p) (-1))) 4 (cl (kcF (va_up (lpN I2 Z.nL Ar2 p) 24 (upd ((lpN I2 Z.nL Ar2 p) 24) (6 * Z.nL + p) (-1))) Z.nL p Zp.nC))))) 24 (upd ((va_up (lpN I2 Z.nL Ar2 p) 24 (upd ((lpN I2 Z.nL Ar2 p) 24) (6 * Z.nL + p) (-1))) 24) (6 * Z.nL + p) (-1)) = lpN I2 Z.nL Ar2 (p + 1) := by
        rw [lpN_s]
        show _ = ptA (va_up (lpN I2 Z.nL Ar2 p) 24 (upd ((lpN I2 Z.nL Ar2 p) 24) (6 * Z.nL + p) (-1))) Z.nL p (srC I2 (va_up (lpN I2 Z.nL Ar2 p) 24 (upd ((lpN I2 Z.nL Ar2 p) 24) (6 * Z.nL + p) (-1))) Z.nL p)
        rw [← esr, ← ptB_A D hkx]
        have e4 : upd ((va_up (lpN I2 Z.nL Ar2 p) 24 (upd ((lpN I2 Z.nL Ar2 p) 24) (6 * Z.nL + p) (-1))) 24) (6 * Z.nL + p) (-1) = (va_up (lpN I2 Z.nL Ar2 p) 24 (upd ((lpN I2 Z.nL Ar2 p) 24) (6 * Z.nL + p) (-1))) 24 := by
          rw [va_up_self, upd_upd]
        rw [e4]
        exact va_up_id
      rw [eN] at t1
      refine g_widen (k' := 2 + 3 * (p + 1)) (n' := 6 + 354 * (p + 1)) (by omega) (by omega) ?_
      refine g_L [0,1,2,3] (L' := [(3, .int (nI (p + 1))), (2, .ref q0), (0, .ref (Z.da 1)), (1, .int yb9)]) (by rw [← hd1]; rfl) ?_
      refine ih (p + 1) Z' _ _ h8 (by omega) ⟨t1, ⟨y1.trans z1, y2.trans z2, y3.trans z3, fun b hb => ?_, ?_⟩, ⟨fun j a1 a2 a3 => ?_, fun j hj => ?_, fun j a1 a2 => ?_, fun j hj => ?_⟩, fun q hq => ?_, (hfk.tr kF.H).tr t5, t6.trans hd1, t7.trans hq0, ?_⟩ (sub_step hlt hf)
      · rw [y4, va_up_ne _ _ hb]; exact z4 b hb
      · rw [y4, va_up_self]
      · rw [t3 j (by omega) (by omega)]; exact s1 j a1 a2 a3
      · rw [va_up_ne _ _ (by omega)]; exact s2 j hj
      · rw [va_up_ne _ _ (by omega)]; exact s3 j a1 a2
      · rw [va_up_ne _ _ (by omega)]; exact s4 j hj
      · by_cases e : q = p
        · subst e
          refine ⟨t4.trans told.1, fun x => ?_⟩
          unfold hwJ
          rw [t4, va_up_self]; exact hgw2 x
        · obtain ⟨w1, w2⟩ := hpt q (by omega)
          refine ⟨(t3 _ (by omega) (by omega)).trans w1, fun x => ?_⟩
          rw [← w2 x]
          unfold hwJ
          rw [t3 _ (by omega) (by omega), va_up_ne _ _ (by omega)]
      · refine ⟨fun c hc => ?_, fun a2 ha2 p2 hp2 => ?_⟩
        · rw [lpN_22 (by decide) (by decide) (by decide)]; exact (hA c (by omega)).le (by omega)
        · rw [← eN]
          show kN Z'.nC (upd ((va_up (lpN I2 Z.nL Ar2 p) 24 (upd ((lpN I2 Z.nL Ar2 p) 24) (6 * Z.nL + p) (-1))) 22) (6 * Z.nL + p) (kcF (va_up (lpN I2 Z.nL Ar2 p) 24 (upd ((lpN I2 Z.nL Ar2 p) 24) (6 * Z.nL + p) (-1))) Z.nL p Zp.nC) (6 * a2 + p2))
          rw [y1]
          by_cases e : 6 * a2 + p2 = (6 * Z.nL + p)
          · rw [e, pk_us]; exact hkx
          · rw [pk_un e]
            rw [y4] at hp2
            refine HQp.2 a2 (by omega) p2 ?_
            by_cases e3 : a2 = Z.nL
            · subst e3; rw [va_up_self] at hp2; rw [z5]; omega
            · rw [va_up_ne _ _ e3] at hp2; exact hp2
end K38
