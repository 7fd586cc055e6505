section K33
variable {G : gG} {l : Launch} {h h0 : hW} {Z : kZ} {I : Nat → Int32} {Ar : Nat → Nat → Int32} {T : Nat → Int32} {A : Nat → Nat → Int32} {Lg : Nat → Nat → Int64}
/-- nothing is known of the empty lists' array, but that it is old -/
theorem g_e3 {E : gE} {own : String} {cc : ByteArray} {nL lv mc ms pc k n : Nat} {Q : State → Prop} {L : List (Nat × Value)} {st : List Value} (X : Gc G E own cc nL lv mc ms) (K : h (G.2.2.2.1 3) = none → GW G E Q nL pc L st h k n) : GW G E Q nL pc L st h k n := by
  intro H locs ls w b c
  refine K ?_ H locs ls w b c
  cases hz : h (G.2.2.2.1 3) with
  | none => rfl
  | some e =>
    have h1 := w.inA hz
    have h2 := X.old.et
    obtain ⟨_, _, _, _, _, _, h3⟩ := h2
    exact absurd h1 (by first | exact h3 | exact h3.1 | exact h3.2)
theorem alE.tr {q e N : Nat} {f : Nat → Option Nat} {h2 : hW} (hA : alE G h q e N f) (hk : ∀ b x, h b = some x → h2 b = some x) : alE G h2 q e N f := by
  obtain ⟨⟨x0, a1⟩, a2⟩ := hA
  exact ⟨⟨x0, hk _ _ a1⟩, a2.imp_right (fun ⟨C, b1, b2, b3⟩ => ⟨C, b1, hk _ _ b2, b3⟩)⟩
theorem ca_0 : Cond.castable "ComplaintDesk$Cause" "java/lang/Object" ∈ lw_tbl := List.mem_of_getElem? (i := 1412) (by decide +kernel)
theorem ca_1 : Cond.castable "ComplaintDesk$Letter" "java/lang/Object" ∈ lw_tbl := List.mem_of_getElem? (i := 1413) (by decide +kernel)
theorem ca_3 : Cond.castable "ComplaintDesk$Point" "java/lang/Object" ∈ lw_tbl := List.mem_of_getElem? (i := 1414) (by decide +kernel)
theorem c_X6_cause_n (K : kD G Z I Ar T A Lg h) (HQ : kQ Z Ar) (N : Nat) (hN4 : N ≤ 400) (hby : ∀ i, vp_nar .byte (Ar 27 i) = Ar 27 i) (hI28 : I 28 = nI N) (dk dd : Nat) (th : Int32) (hdk : dk < 4) (hdd : dd ≤ 60) (hth : th = 0 ∨ th = 1) (hR : (pR Ar N).1 = none) (h12 : Z.nC < 12)  : Ct G l 7 5 559 M_X6_cause [.ref (Z.da 1), .int ((-1 : Int32)), .int (nI dk), .int (nI dd), .int th] h (fun v h' => v = some (.int (nI Z.nC)) ∧ ∃ (Z' : kZ) (T' : Nat → Int32) (A' : Nat → Nat → Int32) (Lg' : Nat → Nat → Int64) (x8 tn : Int32) (gI : Nat → Int32) (gJ : Nat → Int64), (kTf T T' ∧ kAf A A' ∧ kLf Lg Lg') ∧ kD G Z' (va_up (va_up I 28 0) 32 (-1)) (caC Ar Z.nC ((-1 : Int32)) (nI dk) (nI dd) th) (va_up (va_up T' 6 x8) (200 + Z.nC) tn) (va_up A' (400 + Z.nC) gI) (va_up Lg' (300 + Z.nC) gJ) h' ∧ (Z'.nC = Z.nC + 1 ∧ Z'.nL = Z.nL ∧ Z'.nX = Z.nX ∧ Z'.np = Z.np) ∧ (∀ j, j ≠ 5 → j ≠ 300 + Z.nC → Z'.Sz j = Z.Sz j) ∧ Z'.Sz (300 + Z.nC) = (pR Ar N).2.length ∧ kF Z Z' h h' ∧ Z'.da 1 = Z.da 1 ∧ kPW (Ar 27) tn gI gJ (pR Ar N).2) := by
  refine Ct.of (by decide +kernel) (Nat.le_of_ble_eq_true rfl) (fun E hE X F => ?_)
  have X : Gc G E "ComplaintDesk" cX6_cause 7 7 5 559 := X
  show GW G E _ 7 0 [(0, _), (1, _), (2, _), (3, _), (4, _)] [] _ 0 0
  have D := K.1
  refine g_h K.self ?_
  refine g_aload_n X dX6_cause_0 0 rfl ?_
  refine g_getfield X fl_X6_10 dX6_cause_1 (kL1 D) rfl ?_
  refine g_cV0 X ml_X6_71 (c_X4_useUp D) ⟨4, _, kL2 D, rfl⟩ (Nat.le_of_ble_eq_true rfl) rfl rfl (Nat.le_of_ble_eq_true rfl) (Nat.le_of_ble_eq_true rfl) (Nat.le_of_ble_eq_true rfl) dX6_cause_4 ?_
  refine g_iload_n X dX6_cause_7 1 rfl ?_
  refine g_iconst X (v := (-1)) dX6_cause_8 ki_m1 ?_
  refine g_icmp_ne X 16 dX6_cause_9 (by decide) (fun c_9 => absurd rfl c_9) (fun c_9 => ?_)
  refine g_null X dX6_cause_12 ?_
  refine g_goto X 21 dX6_cause_13 (by decide) ?_
  refine g_astoreQ X (x := none) dX6_cause_21 (Nat.le_of_ble_eq_true rfl) [(5, .null), (0, _), (1, _), (2, _), (3, _), (4, _)] rfl ?_
  refine g_iload_n X dX6_cause_23 3 rfl ?_
  refine g_cS0 X ml_X6_78 (c_X6_checkDesk dk hdk) (Nat.le_of_ble_eq_true rfl) rfl rfl (Nat.le_of_ble_eq_true rfl) (Nat.zero_le _) (Nat.zero_le _) dX6_cause_24 ?_
  refine g_iload_n X dX6_cause_27 4 rfl ?_
  refine g_if_lt X 37 dX6_cause_28 (by decide) (fun c_28 => absurd c_28 (nI_pos (by omega))) (fun c_28 => ?_)
  refine g_iload_n X dX6_cause_31 4 rfl ?_
  refine g_bipush X (v := 60) dX6_cause_32 kb_60 ?_
  refine g_icmp_le X 47 dX6_cause_34 (by decide) (fun c_34 => ?_) (fun c_34 => absurd ((nI_leI (a := dd) (b := 60) (by omega) (by omega)).mpr hdd) c_34)
  refine g_aload_n X dX6_cause_47 1 rfl ?_
  refine g_cVx X ml_X6_88 (c_X6_readPattern (I := va_up I 28 0) (T := (va_up (va_up (va_up T 0 (I 28)) 1 0) 2 0)) D N hN4 hby hI28 rfl hR) ⟨6, _, kL1 D, rfl⟩ (Nat.le_of_ble_eq_true rfl) rfl rfl (Nat.le_of_ble_eq_true rfl) (Nat.le_of_ble_eq_true rfl) (Nat.le_of_ble_eq_true rfl) dX6_cause_48 ?_
  rintro v9 h9 ⟨T9, A9, Lg9, q, qj, qi, gJ, gI, ⟨hf1, hf2, hf3⟩, rfl, ⟨u1, u2, u3, u4, u5, u6⟩, eP, eJ, eI, hfr, hpw⟩
  refine g_st (st' := [.ref q]) rfl ?_
  have kq : ∀ b x, (kH G Z (va_up (va_up I 28 0) 32 (-1)) Ar T9 A9 Lg9 h) b = some x → h9 b = some x := fun b x hb => (hfr b (fun z => by rw [z, u1] at hb; cases hb) (fun z => by rw [z, u2] at hb; cases hb) (fun z => by rw [z, u3] at hb; cases hb)).trans hb
  have hfT : kTf T T9 := fun j hj => (hf1 j hj).trans (by rw [va_up_ne _ _ (by omega), va_up_ne _ _ (by omega), va_up_ne _ _ (by omega)])
  refine g_astore X dX6_cause_51 (Nat.le_of_ble_eq_true rfl) [(6, _), (5, _), (0, _), (1, _), (2, _), (3, _), (4, _)] rfl ?_
  refine g_aload_n X dX6_cause_53 2 rfl ?_
  refine g_getfield X fl_X6_33 dX6_cause_54 (kq _ _ (kL1 D)) rfl ?_
  refine g_cV X ml_X6_92 (c_Jx4a65c_size_8abf5 _ _ Z.nC _ (kq _ _ (kL4 D))) ⟨8, _, kq _ _ (kL4 D), rfl⟩ (Nat.le_of_ble_eq_true rfl) rfl rfl (Nat.le_of_ble_eq_true rfl) (Nat.le_of_ble_eq_true rfl) (Nat.le_of_ble_eq_true rfl) dX6_cause_57 ?_
  refine g_bipush X (v := 12) dX6_cause_60 kb_12 ?_
  refine g_icmp_lt X 75 dX6_cause_62 (by decide) (fun c_62 => ?_) (fun c_62 => absurd ((nI_ltI (a := Z.nC) (b := 12) (by omega) (by omega)).mpr h12) c_62)
  refine g_aload_n X dX6_cause_75 2 rfl ?_
  refine g_getfield X fl_X6_33 dX6_cause_76 (kq _ _ (kL1 D)) rfl ?_
  refine g_new X ck0 cl_X6_101 ins_0 ini_0 [.int 0, .null, .int 0, .int 0, .int 0, .null] (fun j9 hj9 => by match j9, hj9 with | 0, _ => rfl | 1, _ => rfl | 2, _ => rfl | 3, _ => rfl | 4, _ => rfl | 5, _ => rfl | z9 + 6, hj9 => exact absurd hj9 (by omega)) dX6_cause_79 (by omega) (by omega) (fun qc h_qc hg_qc => ?_)
  have kq2 : ∀ x b x2, (kH G Z (va_up (va_up I 28 0) 32 (-1)) Ar T9 A9 Lg9 h) b = some x2 → hup h9 qc x b = some x2 := fun x b x2 hb => (hup_n (fun z => by have := kq b x2 hb; rw [z, h_qc] at this; cases this)).trans (kq b x2 hb)
  refine g_dup X dX6_cause_82 rfl ?_
  refine g_aload_n X dX6_cause_83 2 rfl ?_
  refine g_getfield X fl_X6_33 dX6_cause_84 (kq2 _ _ _ (kL1 D)) rfl ?_
  refine g_cV X ml_X6_92 (c_Jx4a65c_size_8abf5 _ _ Z.nC _ (kq2 _ _ _ (kL4 D))) ⟨8, _, kq2 _ _ _ (kL4 D), rfl⟩ (Nat.le_of_ble_eq_true rfl) rfl rfl (Nat.le_of_ble_eq_true rfl) (Nat.le_of_ble_eq_true rfl) (Nat.le_of_ble_eq_true rfl) dX6_cause_87 ?_
  refine g_aloadQ X (x := none) dX6_cause_90 1 rfl ?_
  refine g_iload_n X dX6_cause_92 4 rfl ?_
  refine g_iload_n X dX6_cause_93 5 rfl ?_
  refine g_iload X dX6_cause_94 6 rfl ?_
  refine g_aload X dX6_cause_96 0 rfl ?_
  refine g_cI0 X ml_X6_103 rfl (c_X0_init_n qc q (nI Z.nC) (nI dk) (nI dd) th hth hup_s) (Nat.le_of_ble_eq_true rfl) rfl rfl (Nat.le_of_ble_eq_true rfl) (Nat.le_of_ble_eq_true rfl) (Nat.le_of_ble_eq_true rfl) dX6_cause_98 ?_
  refine g_h (h' := hup h9 qc (ob 0 [.int (nI Z.nC), .null, .int (nI dk), .int (nI dd), .int th, .ref q])) hup_up ?_
  refine g_e3 X (fun hE3 => ?_)
  have hA9 : alE G (hup h9 qc (ob 0 [.int (nI Z.nC), .null, .int (nI dk), .int (nI dd), .int th, .ref q])) (Z.da 4) (Z.da 5) Z.nC (Z.Fo 5) := (kA4 (I := (va_up (va_up I 28 0) 32 (-1))) (Ar := Ar) (T := T9) (A := A9) (Lg := Lg9) (h0 := h) D).tr (fun b x hb => kq2 _ b x hb)
  have heq : Z.da 5 ≠ Z.da 4 := by
    by_cases z : Z.nC = 0
    · rw [D.2.2.2.1.1.1 z]; intro e; rw [e, kq2 _ _ _ (kL4 D)] at hE3; cases hE3
    · intro e
      have e1 := kL5 (I := I) (Ar := Ar) (T := T) (A := A) (Lg := Lg) (h0 := h) D (Nat.pos_of_ne_zero z)
      rw [e, kL4 D] at e1; cases e1
  have hel : ∀ i, i < Z.nC → ∀ y, Z.Fo 5 i = some y → gEl (hup h9 qc (ob 0 [.int (nI Z.nC), .null, .int (nI dk), .int (nI dd), .int th, .ref q])) y ∧ y ≠ Z.da 4 := by
    intro i hi y hy
    rw [(D.2.2.2.1.1.2 (by omega)).2.2 i hi] at hy; cases hy
    have e1 := kq2 (ob 0 [.int (nI Z.nC), .null, .int (nI dk), .int (nI dd), .int th, .ref q]) _ _ (kLC D hi)
    exact ⟨⟨0, _, _, e1, rfl, ca_0⟩, fun e => by rw [e, kq2 (ob 0 [.int (nI Z.nC), .null, .int (nI dk), .int (nI dd), .int th, .ref q]) _ _ (kL4 D)] at e1; cases e1⟩
  have hvq : qc ≠ Z.da 4 := fun e => by have := kq _ _ (kL4 D); rw [← e, h_qc] at this; cases this
  refine g_cVx X ml_X6_106 (c_Jx4a65c_add_9ea2d _ _ Z.nC qc (Z.Fo 5) hA9 (by omega) heq hel ⟨0, _, _, hup_s, rfl, ca_0⟩ hvq) ⟨8, _, kq2 _ _ _ (kL4 D), rfl⟩ (Nat.le_of_ble_eq_true rfl) rfl rfl (Nat.le_of_ble_eq_true rfl) (Nat.le_of_ble_eq_true rfl) (Nat.le_of_ble_eq_true rfl) dX6_cause_101 ?_
  rintro v8 h8 ⟨rfl, e2, f2, hA2, hf22, hv2, ho2, hne2, hk2⟩
  refine g_st (st' := [.int 1]) rfl ?_
  obtain ⟨⟨x8, hx8⟩, hE8⟩ := hA2
  obtain ⟨C8, hC8, hE8, hN8⟩ := hE8.resolve_left (fun z => absurd z.1 (Nat.succ_ne_zero _))
  have he : (0 < Z.nC ∧ e2 = Z.da 5) ∨ ((kH G Z (va_up (va_up I 28 0) 32 (-1)) Ar T9 A9 Lg9 h) e2 = none ∧ e2 ≠ q ∧ e2 ≠ qj ∧ e2 ≠ qi ∧ e2 ≠ qc) := by
    rcases ho2 with ⟨z1, z2⟩ | ⟨z1, -⟩
    · refine Or.inl ⟨Nat.pos_of_ne_zero (fun z => z2 ?_), z1⟩
      rw [D.2.2.2.1.1.1 z]; exact hE3
    · have a1 : e2 ≠ qc := fun z => by rw [z, hup_s] at z1; cases z1
      rw [hup_n a1] at z1
      have a2 : e2 ≠ q := fun z => by rw [z, eP] at z1; cases z1
      have a3 : e2 ≠ qj := fun z => by rw [z, eJ] at z1; cases z1
      have a4 : e2 ≠ qi := fun z => by rw [z, eI] at z1; cases z1
      exact Or.inr ⟨(hfr e2 a2 a3 a4).symm.trans z1, a2, a3, a4, a1⟩
  have KH9 : kD G Z (va_up (va_up I 28 0) 32 (-1)) Ar T9 A9 Lg9 (kH G Z (va_up (va_up I 28 0) 32 (-1)) Ar T9 A9 Lg9 h) := kD.of D
  have n14 : Z.da 1 ≠ Z.da 4 := fun e => by have e1 := kq _ _ (kL1 D); rw [e, kq _ _ (kL4 D)] at e1; cases e1
  have n1 : Z.da 1 ≠ e2 := by
    rcases he with ⟨z1, z2⟩ | ⟨z1, -⟩
    · rw [z2]; intro e; have e1 := kq _ _ (kL1 D); rw [e, kq _ _ (kL5 D z1)] at e1; cases e1
    · intro e; rw [← e, kL1 D] at z1; cases z1
  have l8 := (hk2 _ n14 n1).trans (kq2 (ob 0 [.int (nI Z.nC), .null, .int (nI dk), .int (nI dd), .int th, .ref q]) _ _ (kL1 D))
  refine g_pop X dX6_cause_104 rfl ?_
  refine g_aload_n X dX6_cause_105 2 rfl ?_
  refine g_getfield X fl_X6_33 dX6_cause_106 l8 rfl ?_
  refine g_cV X ml_X6_92 (c_Jx4a65c_size_8abf5 _ _ (Z.nC + 1) _ hx8) ⟨8, _, hx8, rfl⟩ (Nat.le_of_ble_eq_true rfl) rfl rfl (Nat.le_of_ble_eq_true rfl) (Nat.le_of_ble_eq_true rfl) (Nat.le_of_ble_eq_true rfl) dX6_cause_109 ?_
  refine g_iconst X (v := 1) dX6_cause_112 ki_1 ?_
  refine g_isub X dX6_cause_113 ?_
  refine g_eqi (y := nI Z.nC) (nI_pred _) ?_
  refine g_iret X F rfl rfl dX6_cause_114 (Nat.le_of_ble_eq_true rfl) (Nat.le_of_ble_eq_true rfl) ?_
  have nq4 : ∀ {z}, (kH G Z (va_up (va_up I 28 0) 32 (-1)) Ar T9 A9 Lg9 h) z = none → z ≠ Z.da 4 := fun hz e => by rw [e, kL4 D] at hz; cases hz
  have c1 : qc ≠ q := fun e => by rw [e, eP] at h_qc; cases h_qc
  have c2 : qc ≠ qj := fun e => by rw [e, eJ] at h_qc; cases h_qc
  have c3 : qc ≠ qi := fun e => by rw [e, eI] at h_qc; cases h_qc
  have u9 : (kH G Z (va_up (va_up I 28 0) 32 (-1)) Ar T9 A9 Lg9 h) qc = none := (hfr qc c1 c2 c3).symm.trans h_qc
  have ne2 : ∀ {z}, (kH G Z (va_up (va_up I 28 0) 32 (-1)) Ar T9 A9 Lg9 h) z = none → (z = q ∨ z = qj ∨ z = qi ∨ z = qc) → z ≠ e2 := fun hz hzz => by
    rcases he with ⟨z1, z2⟩ | ⟨z1, b1, b2, b3, b4⟩
    · rw [z2]; intro e; rw [e, kL5 D z1] at hz; cases hz
    · intro e
      rcases hzz with z | z | z | z
      · exact b1 (e.symm.trans z)
      · exact b2 (e.symm.trans z)
      · exact b3 (e.symm.trans z)
      · exact b4 (e.symm.trans z)
  have g8 : ∀ {z}, (kH G Z (va_up (va_up I 28 0) 32 (-1)) Ar T9 A9 Lg9 h) z = none → (z = q ∨ z = qj ∨ z = qi ∨ z = qc) → h8 z = hup h9 qc (ob 0 [.int (nI Z.nC), .null, .int (nI dk), .int (nI dd), .int th, .ref q]) z := fun hz hzz => hk2 _ (nq4 hz) (ne2 hz hzz)
  obtain ⟨Z', t1, t2, t3, t4, t5, t6⟩ := tr_cause KH9 HQ h12 u1 u2 u3 u9 ⟨u4.symm, u5.symm, c1.symm, u6.symm, c2.symm, c3.symm⟩ pR_len hx8 hE8 hC8 hN8 hf22 hv2 he
    ((g8 u1 (Or.inl rfl)).trans ((hup_n c1.symm).trans eP)) ((g8 u2 (Or.inr (Or.inl rfl))).trans ((hup_n c2.symm).trans eJ)) ((g8 u3 (Or.inr (Or.inr (Or.inl rfl)))).trans ((hup_n c3.symm).trans eI))
    (dk := nI dk) (dd := nI dd) (th := th) (ab := (-1 : Int32)) ((g8 u9 (Or.inr (Or.inr (Or.inr rfl)))).trans (hup_s.trans (by rw [cz_n]; rfl))) (Or.inl rfl)
    (fun b b1 b2 b3 b4 b5 b6 => (hk2 b b1 b2).trans ((hup_n b6).trans (hfr b b3 b4 b5)))
  exact ⟨rfl, Z', T9, A9, Lg9, x8, T9 5, gI, gJ, ⟨hfT, hf2, hf3⟩, t1, t2, t3, t4, kF.H.tr t5, t6, hpw⟩
theorem c_X6_cause_s (K : kD G Z I Ar T A Lg h) (HQ : kQ Z Ar) (N : Nat) (hN4 : N ≤ 400) (hby : ∀ i, vp_nar .byte (Ar 27 i) = Ar 27 i) (hI28 : I 28 = nI N) (u : Nat) (hu : u < Z.nC) (dk dd : Nat) (th : Int32) (hdk : dk < 4) (hdd : dd ≤ 60) (hth : th = 0 ∨ th = 1) (hR : (pR Ar N).1 = none) (h12 : Z.nC < 12)  : Ct G l 7 5 559 M_X6_cause [.ref (Z.da 1), .int (nI u), .int (nI dk), .int (nI dd), .int th] h (fun v h' => v = some (.int (nI Z.nC)) ∧ ∃ (Z' : kZ) (T' : Nat → Int32) (A' : Nat → Nat → Int32) (Lg' : Nat → Nat → Int64) (x8 tn : Int32) (gI : Nat → Int32) (gJ : Nat → Int64), (kTf T T' ∧ kAf A A' ∧ kLf Lg Lg') ∧ kD G Z' (va_up (va_up I 28 0) 32 (-1)) (caC Ar Z.nC (nI u) (nI dk) (nI dd) th) (va_up (va_up T' 6 x8) (200 + Z.nC) tn) (va_up A' (400 + Z.nC) gI) (va_up Lg' (300 + Z.nC) gJ) h' ∧ (Z'.nC = Z.nC + 1 ∧ Z'.nL = Z.nL ∧ Z'.nX = Z.nX ∧ Z'.np = Z.np) ∧ (∀ j, j ≠ 5 → j ≠ 300 + Z.nC → Z'.Sz j = Z.Sz j) ∧ Z'.Sz (300 + Z.nC) = (pR Ar N).2.length ∧ kF Z Z' h h' ∧ Z'.da 1 = Z.da 1 ∧ kPW (Ar 27) tn gI gJ (pR Ar N).2) := by
  refine Ct.of (by decide +kernel) (Nat.le_of_ble_eq_true rfl) (fun E hE X F => ?_)
  have X : Gc G E "ComplaintDesk" cX6_cause 7 7 5 559 := X
  show GW G E _ 7 0 [(0, _), (1, _), (2, _), (3, _), (4, _)] [] _ 0 0
  have D := K.1
  refine g_h K.self ?_
  refine g_aload_n X dX6_cause_0 0 rfl ?_
  refine g_getfield X fl_X6_10 dX6_cause_1 (kL1 D) rfl ?_
  refine g_cV0 X ml_X6_71 (c_X4_useUp D) ⟨4, _, kL2 D, rfl⟩ (Nat.le_of_ble_eq_true rfl) rfl rfl (Nat.le_of_ble_eq_true rfl) (Nat.le_of_ble_eq_true rfl) (Nat.le_of_ble_eq_true rfl) dX6_cause_4 ?_
  refine g_iload_n X dX6_cause_7 1 rfl ?_
  refine g_iconst X (v := (-1)) dX6_cause_8 ki_m1 ?_
  refine g_icmp_ne X 16 dX6_cause_9 (by decide) (fun c_9 => ?_) (fun c_9 => absurd (by first | exact c_9 | exact Classical.not_not.mp c_9) (nI_ne1 (by have := D.c12; omega)))
  refine g_aload_n X dX6_cause_16 0 rfl ?_
  refine g_iload_n X dX6_cause_17 1 rfl ?_
  refine g_cV X ml_X6_74 (c_X6_causeAt D u hu) ⟨6, _, kL1 D, rfl⟩ (Nat.le_of_ble_eq_true rfl) rfl rfl (Nat.le_of_ble_eq_true rfl) (Nat.le_of_ble_eq_true rfl) (Nat.le_of_ble_eq_true rfl) dX6_cause_18 ?_
  refine g_astore X dX6_cause_21 (Nat.le_of_ble_eq_true rfl) [(5, _), (0, _), (1, _), (2, _), (3, _), (4, _)] rfl ?_
  refine g_iload_n X dX6_cause_23 3 rfl ?_
  refine g_cS0 X ml_X6_78 (c_X6_checkDesk dk hdk) (Nat.le_of_ble_eq_true rfl) rfl rfl (Nat.le_of_ble_eq_true rfl) (Nat.zero_le _) (Nat.zero_le _) dX6_cause_24 ?_
  refine g_iload_n X dX6_cause_27 4 rfl ?_
  refine g_if_lt X 37 dX6_cause_28 (by decide) (fun c_28 => absurd c_28 (nI_pos (by omega))) (fun c_28 => ?_)
  refine g_iload_n X dX6_cause_31 4 rfl ?_
  refine g_bipush X (v := 60) dX6_cause_32 kb_60 ?_
  refine g_icmp_le X 47 dX6_cause_34 (by decide) (fun c_34 => ?_) (fun c_34 => absurd ((nI_leI (a := dd) (b := 60) (by omega) (by omega)).mpr hdd) c_34)
  refine g_aload_n X dX6_cause_47 1 rfl ?_
  refine g_cVx X ml_X6_88 (c_X6_readPattern (I := va_up I 28 0) (T := (va_up (va_up (va_up T 0 (I 28)) 1 0) 2 0)) D N hN4 hby hI28 rfl hR) ⟨6, _, kL1 D, rfl⟩ (Nat.le_of_ble_eq_true rfl) rfl rfl (Nat.le_of_ble_eq_true rfl) (Nat.le_of_ble_eq_true rfl) (Nat.le_of_ble_eq_true rfl) dX6_cause_48 ?_
  rintro v9 h9 ⟨T9, A9, Lg9, q, qj, qi, gJ, gI, ⟨hf1, hf2, hf3⟩, rfl, ⟨u1, u2, u3, u4, u5, u6⟩, eP, eJ, eI, hfr, hpw⟩
  refine g_st (st' := [.ref q]) rfl ?_
  have kq : ∀ b x, (kH G Z (va_up (va_up I 28 0) 32 (-1)) Ar T9 A9 Lg9 h) b = some x → h9 b = some x := fun b x hb => (hfr b (fun z => by rw [z, u1] at hb; cases hb) (fun z => by rw [z, u2] at hb; cases hb) (fun z => by rw [z, u3] at hb; cases hb)).trans hb
  have hfT : kTf T T9 := fun j hj => (hf1 j hj).trans (by rw [va_up_ne _ _ (by omega), va_up_ne _ _ (by omega), va_up_ne _ _ (by omega)])
  refine g_astore X dX6_cause_51 (Nat.le_of_ble_eq_true rfl) [(6, _), (5, _), (0, _), (1, _), (2, _), (3, _), (4, _)] rfl ?_
  refine g_aload_n X dX6_cause_53 2 rfl ?_
  refine g_getfield X fl_X6_33 dX6_cause_54 (kq _ _ (kL1 D)) rfl ?_
  refine g_cV X ml_X6_92 (c_Jx4a65c_size_8abf5 _ _ Z.nC _ (kq _ _ (kL4 D))) ⟨8, _, kq _ _ (kL4 D), rfl⟩ (Nat.le_of_ble_eq_true rfl) rfl rfl (Nat.le_of_ble_eq_true rfl) (Nat.le_of_ble_eq_true rfl) (Nat.le_of_ble_eq_true rfl) dX6_cause_57 ?_
  refine g_bipush X (v := 12) dX6_cause_60 kb_12 ?_
  refine g_icmp_lt X 75 dX6_cause_62 (by decide) (fun c_62 => ?_) (fun c_62 => absurd ((nI_ltI (a := Z.nC) (b := 12) (by omega) (by omega)).mpr h12) c_62)
  refine g_aload_n X dX6_cause_75 2 rfl ?_
  refine g_getfield X fl_X6_33 dX6_cause_76 (kq _ _ (kL1 D)) rfl ?_
  refine g_new X ck0 cl_X6_101 ins_0 ini_0 [.int 0, .null, .int 0, .int 0, .int 0, .null] (fun j9 hj9 => by match j9, hj9 with | 0, _ => rfl | 1, _ => rfl | 2, _ => rfl | 3, _ => rfl | 4, _ => rfl | 5, _ => rfl | z9 + 6, hj9 => exact absurd hj9 (by omega)) dX6_cause_79 (by omega) (by omega) (fun qc h_qc hg_qc => ?_)
  have kq2 : ∀ x b x2, (kH G Z (va_up (va_up I 28 0) 32 (-1)) Ar T9 A9 Lg9 h) b = some x2 → hup h9 qc x b = some x2 := fun x b x2 hb => (hup_n (fun z => by have := kq b x2 hb; rw [z, h_qc] at this; cases this)).trans (kq b x2 hb)
  refine g_dup X dX6_cause_82 rfl ?_
  refine g_aload_n X dX6_cause_83 2 rfl ?_
  refine g_getfield X fl_X6_33 dX6_cause_84 (kq2 _ _ _ (kL1 D)) rfl ?_
  refine g_cV X ml_X6_92 (c_Jx4a65c_size_8abf5 _ _ Z.nC _ (kq2 _ _ _ (kL4 D))) ⟨8, _, kq2 _ _ _ (kL4 D), rfl⟩ (Nat.le_of_ble_eq_true rfl) rfl rfl (Nat.le_of_ble_eq_true rfl) (Nat.le_of_ble_eq_true rfl) (Nat.le_of_ble_eq_true rfl) dX6_cause_87 ?_
  refine g_aload X dX6_cause_90 1 rfl ?_
  refine g_iload_n X dX6_cause_92 4 rfl ?_
  refine g_iload_n X dX6_cause_93 5 rfl ?_
  refine g_iload X dX6_cause_94 6 rfl ?_
  refine g_aload X dX6_cause_96 0 rfl ?_
  refine g_cI0 X ml_X6_103 rfl (c_X0_init_s qc q (Z.da (100 + u)) (nI Z.nC) (nI dk) (nI dd) th hth hup_s) (Nat.le_of_ble_eq_true rfl) rfl rfl (Nat.le_of_ble_eq_true rfl) (Nat.le_of_ble_eq_true rfl) (Nat.le_of_ble_eq_true rfl) dX6_cause_98 ?_
  refine g_h (h' := hup h9 qc (ob 0 [.int (nI Z.nC), .ref (Z.da (100 + u)), .int (nI dk), .int (nI dd), .int th, .ref q])) hup_up ?_
  refine g_e3 X (fun hE3 => ?_)
  have hA9 : alE G (hup h9 qc (ob 0 [.int (nI Z.nC), .ref (Z.da (100 + u)), .int (nI dk), .int (nI dd), .int th, .ref q])) (Z.da 4) (Z.da 5) Z.nC (Z.Fo 5) := (kA4 (I := (va_up (va_up I 28 0) 32 (-1))) (Ar := Ar) (T := T9) (A := A9) (Lg := Lg9) (h0 := h) D).tr (fun b x hb => kq2 _ b x hb)
  have heq : Z.da 5 ≠ Z.da 4 := by
    by_cases z : Z.nC = 0
    · rw [D.2.2.2.1.1.1 z]; intro e; rw [e, kq2 _ _ _ (kL4 D)] at hE3; cases hE3
    · intro e
      have e1 := kL5 (I := I) (Ar := Ar) (T := T) (A := A) (Lg := Lg) (h0 := h) D (Nat.pos_of_ne_zero z)
      rw [e, kL4 D] at e1; cases e1
  have hel : ∀ i, i < Z.nC → ∀ y, Z.Fo 5 i = some y → gEl (hup h9 qc (ob 0 [.int (nI Z.nC), .ref (Z.da (100 + u)), .int (nI dk), .int (nI dd), .int th, .ref q])) y ∧ y ≠ Z.da 4 := by
    intro i hi y hy
    rw [(D.2.2.2.1.1.2 (by omega)).2.2 i hi] at hy; cases hy
    have e1 := kq2 (ob 0 [.int (nI Z.nC), .ref (Z.da (100 + u)), .int (nI dk), .int (nI dd), .int th, .ref q]) _ _ (kLC D hi)
    exact ⟨⟨0, _, _, e1, rfl, ca_0⟩, fun e => by rw [e, kq2 (ob 0 [.int (nI Z.nC), .ref (Z.da (100 + u)), .int (nI dk), .int (nI dd), .int th, .ref q]) _ _ (kL4 D)] at e1; cases e1⟩
  have hvq : qc ≠ Z.da 4 := fun e => by have := kq _ _ (kL4 D); rw [← e, h_qc] at this; cases this
  refine g_cVx X ml_X6_106 (c_Jx4a65c_add_9ea2d _ _ Z.nC qc (Z.Fo 5) hA9 (by omega) heq hel ⟨0, _, _, hup_s, rfl, ca_0⟩ hvq) ⟨8, _, kq2 _ _ _ (kL4 D), rfl⟩ (Nat.le_of_ble_eq_true rfl) rfl rfl (Nat.le_of_ble_eq_true rfl) (Nat.le_of_ble_eq_true rfl) (Nat.le_of_ble_eq_true rfl) dX6_cause_101 ?_
  rintro v8 h8 ⟨rfl, e2, f2, hA2, hf22, hv2, ho2, hne2, hk2⟩
  refine g_st (st' := [.int 1]) rfl ?_
  obtain ⟨⟨x8, hx8⟩, hE8⟩ := hA2
  obtain ⟨C8, hC8, hE8, hN8⟩ := hE8.resolve_left (fun z => absurd z.1 (Nat.succ_ne_zero _))
  have he : (0 < Z.nC ∧ e2 = Z.da 5) ∨ ((kH G Z (va_up (va_up I 28 0) 32 (-1)) Ar T9 A9 Lg9 h) e2 = none ∧ e2 ≠ q ∧ e2 ≠ qj ∧ e2 ≠ qi ∧ e2 ≠ qc) := by
    rcases ho2 with ⟨z1, z2⟩ | ⟨z1, -⟩
    · refine Or.inl ⟨Nat.pos_of_ne_zero (fun z => z2 ?_), z1⟩
      rw [D.2.2.2.1.1.1 z]; exact hE3
    · have a1 : e2 ≠ qc := fun z => by rw [z, hup_s] at z1; cases z1
      rw [hup_n a1] at z1
      have a2 : e2 ≠ q := fun z => by rw [z, eP] at z1; cases z1
      have a3 : e2 ≠ qj := fun z => by rw [z, eJ] at z1; cases z1
      have a4 : e2 ≠ qi := fun z => by rw [z, eI] at z1; cases z1
      exact Or.inr ⟨(hfr e2 a2 a3 a4).symm.trans z1, a2, a3, a4, a1⟩
  have KH9 : kD G Z (va_up (va_up I 28 0) 32 (-1)) Ar T9 A9 Lg9 (kH G Z (va_up (va_up I 28 0) 32 (-1)) Ar T9 A9 Lg9 h) := kD.of D
  have n14 : Z.da 1 ≠ Z.da 4 := fun e => by have e1 := kq _ _ (kL1 D); rw [e, kq _ _ (kL4 D)] at e1; cases e1
  have n1 : Z.da 1 ≠ e2 := by
    rcases he with ⟨z1, z2⟩ | ⟨z1, -⟩
    · rw [z2]; intro e; have e1 := kq _ _ (kL1 D); rw [e, kq _ _ (kL5 D z1)] at e1; cases e1
    · intro e; rw [← e, kL1 D] at z1; cases z1
  have l8 := (hk2 _ n14 n1).trans (kq2 (ob 0 [.int (nI Z.nC), .ref (Z.da (100 + u)), .int (nI dk), .int (nI dd), .int th, .ref q]) _ _ (kL1 D))
  refine g_pop X dX6_cause_104 rfl ?_
  refine g_aload_n X dX6_cause_105 2 rfl ?_
  refine g_getfield X fl_X6_33 dX6_cause_106 l8 rfl ?_
  refine g_cV X ml_X6_92 (c_Jx4a65c_size_8abf5 _ _ (Z.nC + 1) _ hx8) ⟨8, _, hx8, rfl⟩ (Nat.le_of_ble_eq_true rfl) rfl rfl (Nat.le_of_ble_eq_true rfl) (Nat.le_of_ble_eq_true rfl) (Nat.le_of_ble_eq_true rfl) dX6_cause_109 ?_
  refine g_iconst X (v := 1) dX6_cause_112 ki_1 ?_
  refine g_isub X dX6_cause_113 ?_
  refine g_eqi (y := nI Z.nC) (nI_pred _) ?_
  refine g_iret X F rfl rfl dX6_cause_114 (Nat.le_of_ble_eq_true rfl) (Nat.le_of_ble_eq_true rfl) ?_
  have nq4 : ∀ {z}, (kH G Z (va_up (va_up I 28 0) 32 (-1)) Ar T9 A9 Lg9 h) z = none → z ≠ Z.da 4 := fun hz e => by rw [e, kL4 D] at hz; cases hz
  have c1 : qc ≠ q := fun e => by rw [e, eP] at h_qc; cases h_qc
  have c2 : qc ≠ qj := fun e => by rw [e, eJ] at h_qc; cases h_qc
  have c3 : qc ≠ qi := fun e => by rw [e, eI] at h_qc; cases h_qc
  have u9 : (kH G Z (va_up (va_up I 28 0) 32 (-1)) Ar T9 A9 Lg9 h) qc = none := (hfr qc c1 c2 c3).symm.trans h_qc
  have ne2 : ∀ {z}, (kH G Z (va_up (va_up I 28 0) 32 (-1)) Ar T9 A9 Lg9 h) z = none → (z = q ∨ z = qj ∨ z = qi ∨ z = qc) → z ≠ e2 := fun hz hzz => by
    rcases he with ⟨z1, z2⟩ | ⟨z1, b1, b2, b3, b4⟩
    · rw [z2]; intro e; rw [e, kL5 D z1] at hz; cases hz
    · intro e
      rcases hzz with z | z | z | z
      · exact b1 (e.symm.trans z)
      · exact b2 (e.symm.trans z)
      · exact b3 (e.symm.trans z)
      · exact b4 (e.symm.trans z)
  have g8 : ∀ {z}, (kH G Z (va_up (va_up I 28 0) 32 (-1)) Ar T9 A9 Lg9 h) z = none → (z = q ∨ z = qj ∨ z = qi ∨ z = qc) → h8 z = hup h9 qc (ob 0 [.int (nI Z.nC), .ref (Z.da (100 + u)), .int (nI dk), .int (nI dd), .int th, .ref q]) z := fun hz hzz => hk2 _ (nq4 hz) (ne2 hz hzz)
  obtain ⟨Z', t1, t2, t3, t4, t5, t6⟩ := tr_cause KH9 HQ h12 u1 u2 u3 u9 ⟨u4.symm, u5.symm, c1.symm, u6.symm, c2.symm, c3.symm⟩ pR_len hx8 hE8 hC8 hN8 hf22 hv2 he
    ((g8 u1 (Or.inl rfl)).trans ((hup_n c1.symm).trans eP)) ((g8 u2 (Or.inr (Or.inl rfl))).trans ((hup_n c2.symm).trans eJ)) ((g8 u3 (Or.inr (Or.inr (Or.inl rfl)))).trans ((hup_n c3.symm).trans eI))
    (dk := nI dk) (dd := nI dd) (th := th) (ab := nI u) ((g8 u9 (Or.inr (Or.inr (Or.inr rfl)))).trans (hup_s.trans (by rw [cz_s (by have := D.c12; omega)]; rfl))) (Or.inr ⟨u, hu, rfl⟩)
    (fun b b1 b2 b3 b4 b5 b6 => (hk2 b b1 b2).trans ((hup_n b6).trans (hfr b b3 b4 b5)))
  exact ⟨rfl, Z', T9, A9, Lg9, x8, T9 5, gI, gJ, ⟨hfT, hf2, hf3⟩, t1, t2, t3, t4, kF.H.tr t5, t6, hpw⟩
end K33
