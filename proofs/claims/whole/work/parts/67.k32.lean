section K32
variable {G : gG} {l : Launch} {h h0 : hW} {Z : kZ} {I : Nat → Int32} {Ar : Nat → Nat → Int32} {T : Nat → Int32} {A : Nat → Nat → Int32} {Lg : Nat → Nat → Int64}
theorem c_X2_init (q td cj ci n : Nat) (p4 nn : Int32) (fJ : Nat → Int64) (fI : Nat → Int32) (hn : n ≤ 60) (hq : h q = some (ob 2 [.null, .null, .int 0])) (ht : h td = some (ob 5 [.ref cj, .ref ci, .int (nI n), .int p4, .int nn])) (hcj : h cj = some (aJ G 60 fJ)) (hci : h ci = some (aI G 60 fI))  : Ct G l 2 2 400 M_X2_init [.ref q, .ref td] h (fun v h' => v = none ∧ ∃ (qj qi : Nat) (gJ : Nat → Int64) (gI : Nat → Int32), (h qj = none ∧ h qi = none ∧ qj ≠ q ∧ qi ≠ q ∧ qi ≠ qj) ∧ h' q = some (ob 2 [.ref qj, .ref qi, .int nn]) ∧ h' qj = some (aJ G n gJ) ∧ h' qi = some (aI G n gI) ∧ (∀ b, b ≠ q → b ≠ qj → b ≠ qi → h' b = h b) ∧ (∀ i, i < n → gJ i = fJ i) ∧ ∀ i, i < n → gI i = fI i) := by
  refine Ct.of (by decide +kernel) (Nat.le_of_ble_eq_true rfl) (fun E hE X F => ?_)
  have X : Gc G E "ComplaintDesk$Pattern" cX2_init 2 2 2 400 := X
  show GW G E _ 2 0 [(0, _), (1, _)] [] _ 0 0
  have n1 : td ≠ q := fun e => by rw [e, hq] at ht; cases ht
  have n2 : cj ≠ q := fun e => by rw [e, hq] at hcj; cases hcj
  have n3 : ci ≠ q := fun e => by rw [e, hq] at hci; cases hci
  refine g_aload_n X dX2_init_0 0 rfl ?_
  refine g_objI X ol_X2_3 (Nat.le_of_ble_eq_true rfl) (Nat.le_of_ble_eq_true rfl) dX2_init_1 ?_
  refine g_aload_n X dX2_init_4 0 rfl ?_
  refine g_aload_n X dX2_init_5 1 rfl ?_
  refine g_getfield X fl_X2_9 dX2_init_6 ht rfl ?_
  refine g_aload_n X dX2_init_9 1 rfl ?_
  refine g_getfield X fl_X2_15 dX2_init_10 ht rfl ?_
  refine g_cSx X ml_X2_19 (c_J7_copyOf_c38d5 cj 60 n fJ hcj hn (by decide)) (Nat.le_of_ble_eq_true rfl) rfl rfl (Nat.le_of_ble_eq_true rfl) (Nat.le_of_ble_eq_true rfl) (Nat.le_of_ble_eq_true rfl) dX2_init_13 ?_
  rintro v9 h9 ⟨qj, gJ, hfj, hgj, rfl, rfl, hgJ⟩
  have m1 : qj ≠ q := fun e => by rw [e, hq] at hfj; cases hfj
  have m2 : td ≠ qj := fun e => by rw [e, hfj] at ht; cases ht
  have m3 : ci ≠ qj := fun e => by rw [e, hfj] at hci; cases hci
  refine g_st (st' := [.ref qj, .ref q]) rfl ?_
  refine g_putfieldF X (F).2.1 fp_X2_25 dX2_init_16 ((hup_n m1.symm).trans hq) (Nat.le_of_ble_eq_true rfl) rfl rfl _ rfl ?_
  refine g_aload_n X dX2_init_19 0 rfl ?_
  refine g_aload_n X dX2_init_20 1 rfl ?_
  refine g_getfield X fl_X2_28 dX2_init_21 ((hup_n n1).trans ((hup_n m2).trans ht)) rfl ?_
  refine g_aload_n X dX2_init_24 1 rfl ?_
  refine g_getfield X fl_X2_15 dX2_init_25 ((hup_n n1).trans ((hup_n m2).trans ht)) rfl ?_
  refine g_cSx X ml_X2_32 (c_J7_copyOf_59c91 ci 60 n fI ((hup_n n3).trans ((hup_n m3).trans hci)) hn (by decide)) (Nat.le_of_ble_eq_true rfl) rfl rfl (Nat.le_of_ble_eq_true rfl) (Nat.le_of_ble_eq_true rfl) (Nat.le_of_ble_eq_true rfl) dX2_init_28 ?_
  rintro v9 h9 ⟨qi, gI, hfi, hgi, rfl, rfl, hgI⟩
  have m4 : qi ≠ q := fun e => by rw [e, hup_s] at hfi; cases hfi
  have m5 : qi ≠ qj := fun e => by rw [e, hup_n m1, hup_s] at hfi; cases hfi
  have hfi2 : h qi = none := by rw [hup_n m4, hup_n m5] at hfi; exact hfi
  have m6 : td ≠ qi := fun e => by rw [e, hfi2] at ht; cases ht
  refine g_st (st' := [.ref qi, .ref q]) rfl ?_
  refine g_putfieldF X (F).2.1 fp_X2_35 dX2_init_31 ((hup_n m4.symm).trans hup_s) (Nat.le_of_ble_eq_true rfl) rfl rfl _ rfl ?_
  refine g_aload_n X dX2_init_34 0 rfl ?_
  refine g_aload_n X dX2_init_35 1 rfl ?_
  refine g_getfield X fl_X2_38 dX2_init_36 ((hup_n n1).trans ((hup_n m6).trans ((hup_n n1).trans ((hup_n m2).trans ht)))) rfl ?_
  refine g_putfieldF X (F).2.1 fp_X2_41 dX2_init_39 hup_s (Nat.le_of_ble_eq_true rfl) rfl rfl _ rfl ?_
  refine g_ret0 X F rfl dX2_init_42 (Nat.le_of_ble_eq_true rfl) (Nat.le_of_ble_eq_true rfl) ?_
  refine ⟨rfl, qj, qi, gJ, gI, ⟨hfj, hfi2, m1, m4, m5⟩, hup_s, ?_, ?_, fun b b1 b2 b3 => ?_, hgJ, hgI⟩
  · rw [hup_n m1, hup_n m1, hup_n m5.symm, hup_n m1, hup_s]
  · rw [hup_n m4, hup_n m4, hup_s]
  · rw [hup_n b1, hup_n b1, hup_n b3, hup_n b1, hup_n b2]
theorem tP_le {B : Nat → Int32} {N : Nat} : ∀ (f i : Nat) (w bn oq : Int32) (Lw : List pW) (z : Nat), i ≤ N → (tP B N f i w bn oq Lw).1 = some z → z ≤ N
  | 0, i, w, bn, oq, Lw, z, _, h => by rw [tP] at h; cases h; exact Nat.zero_le _
  | f + 1, i, w, bn, oq, Lw, z, hi, h => by
    have hb1 : bgn B N i ≤ N := skp_le1 hi
    have hp1 : fin B N (bgn B N i) ≤ N := skp_le1 hb1
    rw [tP_s] at h
    split at h
    · split at h
      · cases h
      · cases h; exact Nat.le_refl _
    · split at h
      · split at h
        · exact tP_le f _ _ _ _ _ z hp1 h
        · cases h; exact hb1
      · split at h
        · exact tP_le f _ _ _ _ _ z hp1 h
        · split at h
          · cases h; exact hb1
          · exact tP_le f _ _ _ _ _ z hp1 h
theorem pR_le {N z : Nat} (h : (pR Ar N).1 = some z) : z ≤ N := by
  rw [← pR_t (Nat.lt_succ_self N)] at h
  exact tP_le _ _ _ _ _ _ z (Nat.zero_le _) h
theorem enO_1 {N : Nat} (hN : N ≤ 400) {R : Option Nat} (hz : ∀ z, R = some z → z ≤ N) : enO R = -1 ↔ R = none := by
  cases R with
  | none => exact ⟨fun _ => rfl, fun _ => rfl⟩
  | some z => exact ⟨fun q => absurd q (nI_ne1 (by have := hz z rfl; omega)), fun q => by cases q⟩
theorem c_X6_readPattern_t (hs : l.stackTraces = false) (D : kW G Z) (N : Nat) (hN4 : N ≤ 400) (hby : ∀ i, vp_nar .byte (Ar 27 i) = Ar 27 i) (hN : T 0 = nI N) (hT2 : T 2 = nI 0) (hR : ¬ (pR Ar N).1 = none)  : CtX G l 6 1 6 M_X6_readPattern [.ref (Z.da 1)] (kH G Z I Ar T A Lg h0) (fun _ _ => False) (fun C h' => C = "java/lang/IllegalArgumentException" ∧ ∃ (T' : Nat → Int32) (A' : Nat → Nat → Int32) (Lg' : Nat → Nat → Int64), (kTf T T' ∧ kAf A A' ∧ kLf Lg Lg') ∧ h' = kH G Z (va_up I 32 (enO (pR Ar N).1)) Ar T' A' Lg' h0) := by
  refine CtX.of (by decide +kernel) (Nat.le_of_ble_eq_true rfl) (fun E hE X F => ?_)
  have X : Gc G E "ComplaintDesk" cX6_readPattern 1 6 1 6 := X
  show GW G E _ 1 0 [(0, _)] [] _ 0 0
  refine g_aload_n X dX6_readPattern_0 0 rfl ?_
  refine g_aload_n X dX6_readPattern_1 0 rfl ?_
  refine g_getfield X fl_X6_10 dX6_readPattern_2 (kL1 D) rfl ?_
  refine g_aload_n X dX6_readPattern_5 0 rfl ?_
  refine g_getfield X fl_X6_19 dX6_readPattern_6 (kL1 D) rfl ?_
  refine g_cSx X ml_X6_255 (c_X2_firstWrong D N hN4 hby hN hT2) (Nat.le_of_ble_eq_true rfl) rfl rfl (Nat.le_of_ble_eq_true rfl) (Nat.zero_le _) (Nat.zero_le _) dX6_readPattern_9 ?_
  rintro v9 h9 ⟨T9, A9, Lg9, ⟨hf1, hf2, hf3⟩, rfl, rfl, hws⟩
  refine g_st (st' := [.int (enO (pR Ar N).1), .ref (Z.da 1)]) rfl ?_
  refine g_putfield X fp_X6_23 dX6_readPattern_12 (kL1 D) (Nat.le_of_ble_eq_true rfl) rfl rfl _ rfl ?_
  refine g_h (h' := (kH G Z (va_up I 32 (enO (pR Ar N).1)) Ar T9 A9 Lg9 h0)) (kuI32 D) ?_
  refine g_aload_n X dX6_readPattern_15 0 rfl ?_
  refine g_getfield X fl_X6_23 dX6_readPattern_16 (kL1 D) rfl ?_
  refine g_eqi (y := (enO (pR Ar N).1)) (va_up_self _ _ _) ?_
  refine g_iconst X (v := (-1)) dX6_readPattern_19 ki_m1 ?_
  refine g_icmp_eq X 33 dX6_readPattern_20 (by decide) (fun c_20 => absurd ((enO_1 hN4 (fun z => pR_le)).mp c_20) hR) (fun c_20 => ?_)
  refine g_throwS X F (by rw [hE]; exact hs) thr_X6_85_125 dX6_readPattern_23 dX6_readPattern_26 dX6_readPattern_27 dX6_readPattern_29 dX6_readPattern_32 (Nat.le_of_ble_eq_true rfl) (Nat.le_of_ble_eq_true rfl) (Nat.le_of_ble_eq_true rfl) (Nat.le_of_ble_eq_true rfl) (Nat.le_of_ble_eq_true rfl) ?_
  exact ⟨rfl, _, _, _, ⟨hf1, hf2, hf3⟩, rfl⟩
/-- what a new pattern holds -/
def kPW (B : Nat → Int32) (tn : Int32) (gI : Nat → Int32) (gJ : Nat → Int64) (Lw : List pW) : Prop := ∀ (i : Nat) (w : pW), Lw[i]? = some w → gJ i = cdW B w.1 w.2.1 ∧ (gI i = pvA gI i ↔ w.2.2.2 = 0) ∧ (tn >>> (nI i &&& 31)) &&& 1 = w.2.2.1
theorem kWs.pw {B : Nat → Int32} {Lw : List pW} (h : kWs B T A Lg Lw) (hl : Lw.length ≤ 12) {gI : Nat → Int32} {gJ : Nat → Int64} (hJ : ∀ i, i < Lw.length → gJ i = Lg 13 i) (hI : ∀ i, i < Lw.length → gI i = A 14 i) : kPW B (T 5) gI gJ Lw := by
  obtain ⟨h1, h2, x, h3, h4, h5⟩ := h
  intro i w hi
  have hlt : i < Lw.length := by
    rcases Nat.lt_or_ge i Lw.length with q | q
    · exact q
    · rw [List.getElem?_eq_none q] at hi; cases hi
  obtain ⟨z1, z2⟩ := h2 i w hi
  have hp12 : 2 ^ Lw.length ≤ 2 ^ 12 := Nat.pow_le_pow_right (by decide) hl
  refine ⟨by rw [hJ i hlt]; exact z1, ?_, by rw [h3, bit_at (by omega) (by omega)]; exact h5 i w hi⟩
  have e : pvA gI i = pvA (A 14) i := by
    cases i with
    | zero => rfl
    | succ i => exact hI i (by omega)
  rw [hI i hlt, e]; exact z2
theorem pR_len {N : Nat} : (pR Ar N).2.length ≤ 12 := pP_len 13 0 0 [] (by decide)
theorem c_X6_readPattern (D : kW G Z) (N : Nat) (hN4 : N ≤ 400) (hby : ∀ i, vp_nar .byte (Ar 27 i) = Ar 27 i) (hN : T 0 = nI N) (hT2 : T 2 = nI 0) (hR : (pR Ar N).1 = none)  : Ct G l 6 3 403 M_X6_readPattern [.ref (Z.da 1)] (kH G Z I Ar T A Lg h0) (fun v h' => ∃ (T' : Nat → Int32) (A' : Nat → Nat → Int32) (Lg' : Nat → Nat → Int64) (q qj qi : Nat) (gJ : Nat → Int64) (gI : Nat → Int32), (kTf T T' ∧ kAf A A' ∧ kLf Lg Lg') ∧ v = some (.ref q) ∧ (kH G Z (va_up I 32 (-1)) Ar T' A' Lg' h0 q = none ∧ kH G Z (va_up I 32 (-1)) Ar T' A' Lg' h0 qj = none ∧ kH G Z (va_up I 32 (-1)) Ar T' A' Lg' h0 qi = none ∧ qj ≠ q ∧ qi ≠ q ∧ qi ≠ qj) ∧ h' q = some (ob 2 [.ref qj, .ref qi, .int (T' 5)]) ∧ h' qj = some (aJ G (pR Ar N).2.length gJ) ∧ h' qi = some (aI G (pR Ar N).2.length gI) ∧ (∀ b, b ≠ q → b ≠ qj → b ≠ qi → h' b = kH G Z (va_up I 32 (-1)) Ar T' A' Lg' h0 b) ∧ kPW (Ar 27) (T' 5) gI gJ (pR Ar N).2) := by
  refine Ct.of (by decide +kernel) (Nat.le_of_ble_eq_true rfl) (fun E hE X F => ?_)
  have X : Gc G E "ComplaintDesk" cX6_readPattern 1 6 3 403 := X
  show GW G E _ 1 0 [(0, _)] [] _ 0 0
  refine g_aload_n X dX6_readPattern_0 0 rfl ?_
  refine g_aload_n X dX6_readPattern_1 0 rfl ?_
  refine g_getfield X fl_X6_10 dX6_readPattern_2 (kL1 D) rfl ?_
  refine g_aload_n X dX6_readPattern_5 0 rfl ?_
  refine g_getfield X fl_X6_19 dX6_readPattern_6 (kL1 D) rfl ?_
  refine g_cSx X ml_X6_255 (c_X2_firstWrong D N hN4 hby hN hT2) (Nat.le_of_ble_eq_true rfl) rfl rfl (Nat.le_of_ble_eq_true rfl) (Nat.le_of_ble_eq_true rfl) (Nat.le_of_ble_eq_true rfl) dX6_readPattern_9 ?_
  rintro v9 h9 ⟨T9, A9, Lg9, ⟨hf1, hf2, hf3⟩, rfl, rfl, hws⟩
  refine g_st (st' := [.int (enO (pR Ar N).1), .ref (Z.da 1)]) rfl ?_
  refine g_putfield X fp_X6_23 dX6_readPattern_12 (kL1 D) (Nat.le_of_ble_eq_true rfl) rfl rfl _ rfl ?_
  refine g_h (h' := (kH G Z (va_up I 32 (enO (pR Ar N).1)) Ar T9 A9 Lg9 h0)) (kuI32 D) ?_
  rw [show enO (pR Ar N).1 = -1 by rw [hR]; rfl]
  refine g_aload_n X dX6_readPattern_15 0 rfl ?_
  refine g_getfield X fl_X6_23 dX6_readPattern_16 (kL1 D) rfl ?_
  refine g_eqi (y := (-1 : Int32)) (va_up_self _ _ _) ?_
  refine g_iconst X (v := (-1)) dX6_readPattern_19 ki_m1 ?_
  refine g_icmp_eq X 33 dX6_readPattern_20 (by decide) (fun c_20 => ?_) (fun c_20 => absurd rfl c_20)
  refine g_new X ck2 cl_X6_256 ins_2 ini_2 [.null, .null, .int 0] (fun j9 hj9 => by match j9, hj9 with | 0, _ => rfl | 1, _ => rfl | 2, _ => rfl | z9 + 3, hj9 => exact absurd hj9 (by omega)) dX6_readPattern_33 (by omega) (by omega) (fun qp h_qp hg_qp => ?_)
  have n_1 : Z.da 1 ≠ qp := fun e => by rw [← e, kL1 D] at h_qp; cases h_qp
  have n_3 : Z.da 3 ≠ qp := fun e => by rw [← e, kL3 D] at h_qp; cases h_qp
  have n_13 : Z.da 13 ≠ qp := fun e => by rw [← e, kL13 D] at h_qp; cases h_qp
  have n_14 : Z.da 14 ≠ qp := fun e => by rw [← e, kL14 D] at h_qp; cases h_qp
  refine g_dup X dX6_readPattern_36 rfl ?_
  refine g_aload_n X dX6_readPattern_37 0 rfl ?_
  refine g_getfield X fl_X6_19 dX6_readPattern_38 ((hup_n n_1).trans (kL1 D)) rfl ?_
  have hw9 := hws hR
  refine g_cIx X ml_X6_258 rfl (c_X2_init qp (Z.da 3) (Z.da 13) (Z.da 14) (pR Ar N).2.length (T9 4) (T9 5) (Lg9 13) (A9 14) (Nat.le_trans pR_len (by decide)) hup_s (by rw [← hw9.1]; exact (hup_n n_3).trans (kL3 D)) ((hup_n n_13).trans (kL13 D)) ((hup_n n_14).trans (kL14 D))) (Nat.le_of_ble_eq_true rfl) rfl rfl (Nat.le_of_ble_eq_true rfl) (Nat.le_of_ble_eq_true rfl) (Nat.le_of_ble_eq_true rfl) dX6_readPattern_41 ?_
  rintro v8 h8 ⟨rfl, qj, qi, gJ, gI, ⟨k1, k2, k3, k4, k5⟩, e1, e2, e3, e4, e5, e6⟩
  refine g_st (st' := [.ref qp]) rfl ?_
  refine g_aret X F rfl (Or.inl ⟨_, rfl⟩) (Or.inr ⟨_, rfl⟩) dX6_readPattern_44 (Nat.le_of_ble_eq_true rfl) (Nat.le_of_ble_eq_true rfl) ?_
  refine ⟨T9, A9, Lg9, qp, qj, qi, gJ, gI, ⟨hf1, hf2, hf3⟩, rfl, ⟨h_qp, ?_, ?_, k3, k4, k5⟩, e1, e2, e3, fun b b1 b2 b3 => ?_, hw9.pw pR_len e5 e6⟩
  · rw [hup_n k3] at k1; exact k1
  · rw [hup_n k4] at k2; exact k2
  · rw [e4 b b1 b2 b3, hup_n b1]
end K32
