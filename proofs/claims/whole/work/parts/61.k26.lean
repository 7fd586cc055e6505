section K26
variable {G : gG} {l : Launch} {h h0 : hW} {Z : kZ} {I : Nat → Int32} {Ar : Nat → Nat → Int32} {T : Nat → Int32} {A : Nat → Nat → Int32} {Lg : Nat → Nat → Int64}
/-- a word's code by its bounds; none for a long one -/
def cdV (B : Nat → Int32) (b p : Nat) : Int64 := if p - b ≤ 12 then cdW B b (p - b) else 0
theorem cdT_V {B : Nat → Int32} {N b : Nat} (h : atP B N b 97 122) : cdT B N b = cdV B b (fin B N b) := by
  obtain ⟨h1, h2⟩ := nxE_w h
  unfold cdT cdV
  rw [h1]
  by_cases z : fin B N b - b ≤ 12
  · rw [if_pos ⟨h, z⟩, if_pos z]
  · rw [if_neg (fun q => z q.2), if_neg z]
/-- a letter's words read so far stand in told -/
def kLsW (B : Nat → Int32) (T : Nat → Int32) (A : Nat → Nat → Int32) (Lg : Nat → Nat → Int64) (Lw : List lW) : Prop :=
  T 3 = nI Lw.length ∧ ∀ (i : Nat) (w : lW), Lw[i]? = some w → Lg 13 i = cdV B w.1 w.2.1 ∧ A 14 i = nI w.2.2
theorem app_get {α : Type} {Lw : List α} {x w : α} {i : Nat} (hi : (Lw ++ [x])[i]? = some w) : (i < Lw.length ∧ Lw[i]? = some w) ∨ (i = Lw.length ∧ w = x) := by
  rcases Nat.lt_or_ge i Lw.length with q | q
  · rw [List.getElem?_append_left q] at hi; exact Or.inl ⟨q, hi⟩
  · rw [List.getElem?_append_right q] at hi
    cases hz : i - Lw.length with
    | zero => rw [hz] at hi; exact Or.inr ⟨by omega, (Option.some.inj hi).symm⟩
    | succ z => rw [hz] at hi; simp at hi
theorem kLsW.cons {B : Nat → Int32} {Lw : List lW} {T' : Nat → Int32} (h : kLsW B T A Lg Lw) {b p c : Nat} {cw : Int64} {v4 : Int32} (hc : cw = cdV B b p) (h4 : v4 = nI c) :
    kLsW B (va_up T' 3 (nI (Lw.length + 1))) (va_up A 14 (upd (A 14) Lw.length v4)) (va_up Lg 13 (vp_updL (Lg 13) Lw.length cw)) (Lw ++ [(b, p, c)]) := by
  refine ⟨by rw [va_up_self, List.length_append]; rfl, fun i w hi => ?_⟩
  rw [va_up_self, va_up_self]
  rcases app_get hi with ⟨q, hw⟩ | ⟨rfl, rfl⟩
  · rw [pk_uLn (by omega), pk_un (by omega)]; exact h.2 i w hw
  · rw [pk_uLs, pk_us]; exact ⟨hc, h4⟩
theorem kLsW.tt {B : Nat → Int32} {Lw : List lW} {T' : Nat → Int32} (h : kLsW B T A Lg Lw) (h3 : T' 3 = T 3) : kLsW B T' A Lg Lw := by
  unfold kLsW; rw [h3]; exact h
def lwI (B : Nat → Int32) (N e c : Nat) (fr : Int32) (Lw : List lW) (T T1 : Nat → Int32) (A A1 : Nat → Nat → Int32) (Lg Lg1 : Nat → Nat → Int64) : Prop :=
  (kTf T T1 ∧ kAf A A1 ∧ kLf Lg Lg1) ∧ (T1 0 = nI N ∧ T1 2 = nI e ∧ T1 4 = nI c) ∧ kLsW B T1 A1 Lg1 Lw ∧ (c ≤ 6 ∧ (fr = 0 → 1 ≤ c)) ∧ Lw.length ≤ 60
theorem lp_X1_firstWrong_8 {E : gE} (X : Gc G E "ComplaintDesk$Letter" cX1_firstWrong 4 4 0 0) (F : gF E M_X1_firstWrong) (D : kW G Z) (N : Nat) (hN4 : N ≤ 400) (hby : ∀ i, vp_nar .byte (Ar 27 i) = Ar 27 i) (R : Option Nat × Nat × List lW) : ∀ (f : Nat) (k e c : Nat) (fr : Int32) (Lw : List lW) (T1 : Nat → Int32) (A1 : Nat → Nat → Int32) (Lg1 : Nat → Nat → Int64), k ≤ e → e ≤ N → lwI (Ar 27) N e c fr Lw T T1 A A1 Lg Lg1 → lP (Ar 27) N f e c fr Lw = R → N - e < f → GW G E (gMQ G E 0 0 (fun v h' => ∃ (T' : Nat → Int32) (A' : Nat → Nat → Int32) (Lg' : Nat → Nat → Int64), (kTf T T' ∧ kAf A A' ∧ kLf Lg Lg') ∧ h' = kH G Z I Ar T' A' Lg' h0 ∧ v = some (.int (enO (R).1)) ∧ ((R).1 = none → kLsW (Ar 27) T' A' Lg' (R).2.2 ∧ T' 4 = nI (R).2.1))) 4 8 [(3, .int (nI k)), (2, .int fr), (0, .ref (Z.da 2)), (1, .ref (Z.da 3))] [] (kH G Z I Ar T1 A1 Lg1 h0) 0 0 := by
  intro f
  induction f with
  | zero => intro k e c fr Lw T1 A1 Lg1 hke heN hI9 hR hf; exact absurd hf (Nat.not_lt_zero _)
  | succ f ih =>
    intro k e c fr Lw T1 A1 Lg1 hke heN hI9 hR hf
    obtain ⟨⟨hF1, hF2, hF3⟩, ⟨hw0, hw2, hw4⟩, hWs, ⟨hc6, hcz⟩, hl60⟩ := hI9
    have hb1 : (bgn (Ar 27) N e) ≤ N := skp_le1 heN
    have hb0 : e ≤ (bgn (Ar 27) N e) := skp_ge1 heN
    have hp1 : (fin (Ar 27) N (bgn (Ar 27) N e)) ≤ N := skp_le1 hb1
    have hp0 : (bgn (Ar 27) N e) ≤ (fin (Ar 27) N (bgn (Ar 27) N e)) := skp_ge1 hb1
    rw [lP_s] at hR
    refine g_iload_n X dX1_firstWrong_8 0 rfl ?_
    refine g_sipush X (v := 400) dX1_firstWrong_9 ks_400 ?_
    refine g_icmp_ge X 106 dX1_firstWrong_12 (by decide) (fun c_12 => ?_) (fun c_12 => ?_)
    · refine g_aload_n X dX1_firstWrong_106 3 rfl ?_
      refine g_getfield X fl_X1_48 dX1_firstWrong_107 (kL3 D) rfl ?_
      refine g_eqi (y := nI Lw.length) (hWs.1) ?_
      refine g_if_ne X 120 dX1_firstWrong_110 (by decide) (fun c_110 => ?_) (fun c_110 => ?_)
      · refine g_iconst X (v := (-1)) dX1_firstWrong_120 ki_m1 ?_
        refine g_iret X F rfl rfl dX1_firstWrong_121 (Nat.zero_le _) (Nat.zero_le _) ?_
        have hge : 400 ≤ k := ge_lit (N := 400) rfl c_12 (by omega)
        have eE : e = N := by omega
        have ebN : (bgn (Ar 27) N e) = N := by rw [eE, bgn_N]
        rw [ebN, if_pos fin_N, if_pos fin_N] at hR
        have hl0 : ¬ Lw.length = 0 := fun q => c_110 (by rw [q]; rfl)
        rw [if_neg hl0] at hR
        subst hR
        exact ⟨_, _, _, ⟨hF1, hF2, hF3⟩, rfl, rfl, fun _ => ⟨hWs, hw4⟩⟩
      · refine g_aload_n X dX1_firstWrong_113 2 rfl ?_
        refine g_getfield X fl_X1_62 dX1_firstWrong_114 (kL2 D) rfl ?_
        refine g_eqi (y := nI N) (hw0) ?_
        refine g_goto X 121 dX1_firstWrong_117 (by decide) ?_
        refine g_iret X F rfl rfl dX1_firstWrong_121 (Nat.zero_le _) (Nat.zero_le _) ?_
        have hge : 400 ≤ k := ge_lit (N := 400) rfl c_12 (by omega)
        have eE : e = N := by omega
        have ebN : (bgn (Ar 27) N e) = N := by rw [eE, bgn_N]
        rw [ebN, if_pos fin_N, if_pos fin_N] at hR
        have hl0 : Lw.length = 0 := (nI_eq (a := Lw.length) (b := 0) (by omega) (by decide)).mp (by first | exact c_110 | exact Classical.not_not.mp c_110)
        rw [if_pos hl0] at hR
        subst hR
        exact ⟨_, _, _, ⟨hF1, hF2, hF3⟩, rfl, rfl, fun q => by cases q⟩
    · refine g_aload_n X dX1_firstWrong_15 2 rfl ?_
      refine g_cV X ml_X1_30 (c_X4_next D N hw0 hN4 hby e heN hw2) ⟨4, _, kL2 D, rfl⟩ (Nat.le_of_ble_eq_true rfl) rfl rfl (Nat.le_of_ble_eq_true rfl) (Nat.zero_le _) (Nat.zero_le _) dX1_firstWrong_16 ?_
      refine g_if_eq X 106 dX1_firstWrong_19 (by decide) (fun c_19 => ?_) (fun c_19 => ?_)
      · refine g_aload_n X dX1_firstWrong_106 3 rfl ?_
        refine g_getfield X fl_X1_48 dX1_firstWrong_107 (kL3 D) rfl ?_
        refine g_eqi (y := nI Lw.length) (hWs.1) ?_
        refine g_if_ne X 120 dX1_firstWrong_110 (by decide) (fun c_110 => ?_) (fun c_110 => ?_)
        · refine g_iconst X (v := (-1)) dX1_firstWrong_120 ki_m1 ?_
          refine g_iret X F rfl rfl dX1_firstWrong_121 (Nat.zero_le _) (Nat.zero_le _) ?_
          have hnb := b2_0.mp c_19
          have ebN : (bgn (Ar 27) N e) = N := by omega
          rw [ebN, if_pos fin_N, if_pos fin_N] at hR
          have hl0 : ¬ Lw.length = 0 := fun q => c_110 (by rw [q]; rfl)
          rw [if_neg hl0] at hR
          subst hR
          exact ⟨_, _, _, ⟨(hF1.up (by decide)).up (by decide), hF2, hF3⟩, rfl, rfl, fun _ => ⟨hWs.tt rfl, hw4⟩⟩
        · refine g_aload_n X dX1_firstWrong_113 2 rfl ?_
          refine g_getfield X fl_X1_62 dX1_firstWrong_114 (kL2 D) rfl ?_
          refine g_eqi (y := nI N) (hw0) ?_
          refine g_goto X 121 dX1_firstWrong_117 (by decide) ?_
          refine g_iret X F rfl rfl dX1_firstWrong_121 (Nat.zero_le _) (Nat.zero_le _) ?_
          have hnb := b2_0.mp c_19
          have ebN : (bgn (Ar 27) N e) = N := by omega
          rw [ebN, if_pos fin_N, if_pos fin_N] at hR
          have hl0 : Lw.length = 0 := (nI_eq (a := Lw.length) (b := 0) (by omega) (by decide)).mp (by first | exact c_110 | exact Classical.not_not.mp c_110)
          rw [if_pos hl0] at hR
          subst hR
          exact ⟨_, _, _, ⟨(hF1.up (by decide)).up (by decide), hF2, hF3⟩, rfl, rfl, fun q => by cases q⟩
      · have hlb : (bgn (Ar 27) N e) < N := b2_1.mp (b2_c.resolve_left c_19)
        refine g_aload_n X dX1_firstWrong_22 2 rfl ?_
        refine g_cV X ml_X1_36 (c_X4_isWord (T := (va_up (va_up T1 1 (nI (bgn (Ar 27) N e))) 2 (nI (nxE (Ar 27) N (bgn (Ar 27) N e))))) D N (bgn (Ar 27) N e) hw0 hN4 (by omega) hby rfl) ⟨4, _, kL2 D, rfl⟩ (Nat.le_of_ble_eq_true rfl) rfl rfl (Nat.le_of_ble_eq_true rfl) (Nat.zero_le _) (Nat.zero_le _) dX1_firstWrong_23 ?_
        refine g_if_eq X 79 dX1_firstWrong_26 (by decide) (fun c_26 => ?_) (fun c_26 => ?_)
        · refine g_aload_n X dX1_firstWrong_79 2 rfl ?_
          refine g_cV X ml_X1_59 (c_X4_isStop (T := (va_up (va_up T1 1 (nI (bgn (Ar 27) N e))) 2 (nI (nxE (Ar 27) N (bgn (Ar 27) N e))))) D N (bgn (Ar 27) N e) hw0 hN4 (by omega) hby rfl) ⟨4, _, kL2 D, rfl⟩ (Nat.le_of_ble_eq_true rfl) rfl rfl (Nat.le_of_ble_eq_true rfl) (Nat.zero_le _) (Nat.zero_le _) dX1_firstWrong_80 ?_
          refine g_if_eq X 95 dX1_firstWrong_83 (by decide) (fun c_83 => ?_) (fun c_83 => ?_)
          · refine g_aload_n X dX1_firstWrong_95 2 rfl ?_
            refine g_getfield X fl_X1_42 dX1_firstWrong_96 (kL2 D) rfl ?_
            refine g_eqi (y := nI (bgn (Ar 27) N e)) (rfl) ?_
            refine g_iret X F rfl rfl dX1_firstWrong_99 (Nat.zero_le _) (Nat.zero_le _) ?_
            have hnat := b2_0.mp c_26
            have eff : (fin (Ar 27) N (bgn (Ar 27) N e)) = (bgn (Ar 27) N e) := Classical.not_not.mp (fun z => hnat ((atP_fin hb1).mpr z))
            rw [if_pos eff, if_neg (fun q => by omega)] at hR
            rw [if_pos (Or.inr (b2_0.mp c_83))] at hR
            subst hR
            exact ⟨_, _, _, ⟨(hF1.up (by decide)).up (by decide), hF2, hF3⟩, rfl, rfl, fun q => by cases q⟩
          · refine g_iload_n X dX1_firstWrong_86 1 rfl ?_
            refine g_if_ne X 95 dX1_firstWrong_87 (by decide) (fun c_87 => ?_) (fun c_87 => ?_)
            · refine g_aload_n X dX1_firstWrong_95 2 rfl ?_
              refine g_getfield X fl_X1_42 dX1_firstWrong_96 (kL2 D) rfl ?_
              refine g_eqi (y := nI (bgn (Ar 27) N e)) (rfl) ?_
              refine g_iret X F rfl rfl dX1_firstWrong_99 (Nat.zero_le _) (Nat.zero_le _) ?_
              have hnat := b2_0.mp c_26
              have eff : (fin (Ar 27) N (bgn (Ar 27) N e)) = (bgn (Ar 27) N e) := Classical.not_not.mp (fun z => hnat ((atP_fin hb1).mpr z))
              rw [if_pos eff, if_neg (fun q => by omega)] at hR
              rw [if_pos (Or.inl c_87)] at hR
              subst hR
              exact ⟨_, _, _, ⟨(hF1.up (by decide)).up (by decide), hF2, hF3⟩, rfl, rfl, fun q => by cases q⟩
            · refine g_iconst X (v := 1) dX1_firstWrong_90 ki_1 ?_
              refine g_istore_n X dX1_firstWrong_91 (Nat.le_of_ble_eq_true rfl) [(2, _), (3, _), (0, _), (1, _)] rfl ?_
              refine g_goto X 100 dX1_firstWrong_92 (by decide) ?_
              refine g_iinc X (v := nI (k + 1)) dX1_firstWrong_100 1 rfl (nI_1 k) (Nat.le_of_ble_eq_true rfl) [(3, _), (2, _), (0, _), (1, _)] rfl ?_
              refine g_goto X 8 dX1_firstWrong_103 (by decide) ?_
              refine g_L [0, 1, 2, 3] (L' := [(3, _), (2, _), (0, _), (1, _)]) rfl ?_
              have hnat := b2_0.mp c_26
              have eff : (fin (Ar 27) N (bgn (Ar 27) N e)) = (bgn (Ar 27) N e) := Classical.not_not.mp (fun z => hnat ((atP_fin hb1).mpr z))
              have hst := b2_1.mp (b2_c.resolve_left c_83)
              have hfr0 : fr = 0 := by first | exact c_87 | exact Classical.not_not.mp c_87
              rw [if_pos eff, if_neg (fun q => by omega), if_neg (fun q => q.elim (fun z => z hfr0) (fun z => z hst))] at hR
              have enx : (nxE (Ar 27) N (bgn (Ar 27) N e)) = (bgn (Ar 27) N e) + 1 := if_pos ⟨eff, hlb⟩
              exact ih (k + 1) ((bgn (Ar 27) N e) + 1) c 1 Lw _ _ _ (by omega) hlb ⟨⟨(hF1.up (by decide)).up (by decide), hF2, hF3⟩, ⟨hw0, (show nI (nxE (Ar 27) N (bgn (Ar 27) N e)) = nI ((bgn (Ar 27) N e) + 1) by rw [enx]), hw4⟩, hWs.tt rfl, ⟨hc6, fun q => absurd q (by decide)⟩, hl60⟩ hR (by omega)
        · refine g_iload_n X dX1_firstWrong_29 1 rfl ?_
          refine g_if_eq X 53 dX1_firstWrong_30 (by decide) (fun c_30 => ?_) (fun c_30 => ?_)
          · refine g_aload_n X dX1_firstWrong_53 3 rfl ?_
            refine g_getfield X fl_X1_48 dX1_firstWrong_54 (kL3 D) rfl ?_
            refine g_eqi (y := nI Lw.length) (hWs.1) ?_
            refine g_bipush X (v := 60) dX1_firstWrong_57 kb_60 ?_
            refine g_icmp_lt X 67 dX1_firstWrong_59 (by decide) (fun c_59 => ?_) (fun c_59 => ?_)
            · refine g_aload_n X dX1_firstWrong_67 3 rfl ?_
              refine g_aload_n X dX1_firstWrong_68 2 rfl ?_
              refine g_cV X ml_X1_51 (c_X4_codeOfThing (T := (va_up (va_up T1 1 (nI (bgn (Ar 27) N e))) 2 (nI (nxE (Ar 27) N (bgn (Ar 27) N e))))) D N (bgn (Ar 27) N e) hw0 hN4 hb1 hby rfl rfl) ⟨4, _, kL2 D, rfl⟩ (Nat.le_of_ble_eq_true rfl) rfl rfl (Nat.le_of_ble_eq_true rfl) (Nat.zero_le _) (Nat.zero_le _) dX1_firstWrong_69 ?_
              refine g_iconst X (v := 0) dX1_firstWrong_72 ki_0 ?_
              refine g_cV0 X ml_X1_55 (c_X5_add_0 (T := (va_up (va_up T1 1 (nI (bgn (Ar 27) N e))) 2 (nI (nxE (Ar 27) N (bgn (Ar 27) N e))))) D Lw.length ((nI_ltI (by omega) (by decide)).mp c_59) hWs.1 _) ⟨5, _, kL3 D, rfl⟩ (Nat.le_of_ble_eq_true rfl) rfl rfl (Nat.le_of_ble_eq_true rfl) (Nat.zero_le _) (Nat.zero_le _) dX1_firstWrong_73 ?_
              refine g_goto X 100 dX1_firstWrong_76 (by decide) ?_
              refine g_iinc X (v := nI (k + 1)) dX1_firstWrong_100 0 rfl (nI_1 k) (Nat.le_of_ble_eq_true rfl) [(3, _), (2, _), (0, _), (1, _)] rfl ?_
              refine g_goto X 8 dX1_firstWrong_103 (by decide) ?_
              refine g_L [0, 1, 2, 3] (L' := [(3, _), (2, _), (0, _), (1, _)]) rfl ?_
              have hat := b2_1.mp (b2_c.resolve_left c_26)
              rw [if_neg ((atP_fin hb1).mp hat)] at hR
              obtain ⟨enx, hgt⟩ := nxE_w hat
              have hl9 : Lw.length < 60 := (nI_ltI (by omega) (by decide)).mp c_59
              have hfr0 : fr = 0 := by first | exact c_30 | exact Classical.not_not.mp c_30
              rw [if_neg (fun q => q.elim (fun z => z.1 hfr0) (fun z => by omega)), show lP1 c fr = c from if_pos hfr0] at hR
              have hc1 := hcz hfr0
              rw [hfr0]
              refine ih (k + 1) (fin (Ar 27) N (bgn (Ar 27) N e)) c 0 _ _ _ _ (by omega) hp1 ⟨⟨((hF1.up (by decide)).up (by decide)).up (by decide), hF2.up, hF3.up⟩, ⟨hw0, (show nI (nxE (Ar 27) N (bgn (Ar 27) N e)) = nI (fin (Ar 27) N (bgn (Ar 27) N e)) by rw [enx]), hw4⟩, (hWs.tt (T' := (va_up (va_up T1 1 (nI (bgn (Ar 27) N e))) 2 (nI (nxE (Ar 27) N (bgn (Ar 27) N e))))) rfl).cons (cdT_V hat) ?_, ⟨by omega, fun _ => by omega⟩, by rw [List.length_append]; exact hl9⟩ hR (by omega)
              · show T1 4 - 1 = nI (c - 1)
                rw [hw4, show c = c - 1 + 1 by omega]; exact nI_pred _
            · refine g_aload_n X dX1_firstWrong_62 2 rfl ?_
              refine g_getfield X fl_X1_42 dX1_firstWrong_63 (kL2 D) rfl ?_
              refine g_eqi (y := nI (bgn (Ar 27) N e)) (rfl) ?_
              refine g_iret X F rfl rfl dX1_firstWrong_66 (Nat.zero_le _) (Nat.zero_le _) ?_
              have hat := b2_1.mp (b2_c.resolve_left c_26)
              rw [if_neg ((atP_fin hb1).mp hat)] at hR
              have hl66 : Lw.length = 60 := by
                have := (nI_leI (a := 60) (b := Lw.length) (by decide) (by omega)).mp (Int32.not_lt.mp c_59)
                omega
              rw [if_pos (Or.inr hl66)] at hR
              subst hR
              exact ⟨_, _, _, ⟨(hF1.up (by decide)).up (by decide), hF2, hF3⟩, rfl, rfl, fun q => by cases q⟩
          · refine g_aload_n X dX1_firstWrong_33 3 rfl ?_
            refine g_getfield X fl_X1_39 dX1_firstWrong_34 (kL3 D) rfl ?_
            refine g_eqi (y := nI c) (hw4) ?_
            refine g_bipush X (v := 6) dX1_firstWrong_37 kb_6 ?_
            refine g_icmp_lt X 47 dX1_firstWrong_39 (by decide) (fun c_39 => ?_) (fun c_39 => ?_)
            · refine g_aload_n X dX1_firstWrong_47 3 rfl ?_
              refine g_cV0 X ml_X1_45 (c_X5_beginPart (T := (va_up (va_up T1 1 (nI (bgn (Ar 27) N e))) 2 (nI (nxE (Ar 27) N (bgn (Ar 27) N e))))) D c hw4) ⟨5, _, kL3 D, rfl⟩ (Nat.le_of_ble_eq_true rfl) rfl rfl (Nat.le_of_ble_eq_true rfl) (Nat.zero_le _) (Nat.zero_le _) dX1_firstWrong_48 ?_
              refine g_iconst X (v := 0) dX1_firstWrong_51 ki_0 ?_
              refine g_istore_n X dX1_firstWrong_52 (Nat.le_of_ble_eq_true rfl) [(2, _), (3, _), (0, _), (1, _)] rfl ?_
              refine g_aload_n X dX1_firstWrong_53 3 rfl ?_
              refine g_getfield X fl_X1_48 dX1_firstWrong_54 (kL3 D) rfl ?_
              refine g_eqi (y := nI Lw.length) (hWs.1) ?_
              refine g_bipush X (v := 60) dX1_firstWrong_57 kb_60 ?_
              refine g_icmp_lt X 67 dX1_firstWrong_59 (by decide) (fun c_59 => ?_) (fun c_59 => ?_)
              · refine g_aload_n X dX1_firstWrong_67 3 rfl ?_
                refine g_aload_n X dX1_firstWrong_68 2 rfl ?_
                refine g_cV X ml_X1_51 (c_X4_codeOfThing (T := (va_up (va_up (va_up T1 1 (nI (bgn (Ar 27) N e))) 2 (nI (nxE (Ar 27) N (bgn (Ar 27) N e)))) 4 (nI (c + 1)))) D N (bgn (Ar 27) N e) hw0 hN4 hb1 hby rfl rfl) ⟨4, _, kL2 D, rfl⟩ (Nat.le_of_ble_eq_true rfl) rfl rfl (Nat.le_of_ble_eq_true rfl) (Nat.zero_le _) (Nat.zero_le _) dX1_firstWrong_69 ?_
                refine g_iconst X (v := 0) dX1_firstWrong_72 ki_0 ?_
                refine g_cV0 X ml_X1_55 (c_X5_add_0 (T := (va_up (va_up (va_up T1 1 (nI (bgn (Ar 27) N e))) 2 (nI (nxE (Ar 27) N (bgn (Ar 27) N e)))) 4 (nI (c + 1)))) D Lw.length ((nI_ltI (by omega) (by decide)).mp c_59) hWs.1 _) ⟨5, _, kL3 D, rfl⟩ (Nat.le_of_ble_eq_true rfl) rfl rfl (Nat.le_of_ble_eq_true rfl) (Nat.zero_le _) (Nat.zero_le _) dX1_firstWrong_73 ?_
                refine g_goto X 100 dX1_firstWrong_76 (by decide) ?_
                refine g_iinc X (v := nI (k + 1)) dX1_firstWrong_100 1 rfl (nI_1 k) (Nat.le_of_ble_eq_true rfl) [(3, _), (2, _), (0, _), (1, _)] rfl ?_
                refine g_goto X 8 dX1_firstWrong_103 (by decide) ?_
                refine g_L [0, 1, 2, 3] (L' := [(3, _), (2, _), (0, _), (1, _)]) rfl ?_
                have hat := b2_1.mp (b2_c.resolve_left c_26)
                rw [if_neg ((atP_fin hb1).mp hat)] at hR
                obtain ⟨enx, hgt⟩ := nxE_w hat
                have hl9 : Lw.length < 60 := (nI_ltI (by omega) (by decide)).mp c_59
                have hc9 : c < 6 := (nI_ltI (by omega) (by decide)).mp c_39
                rw [if_neg (fun q => q.elim (fun z => by omega) (fun z => by omega)), show lP1 c fr = c + 1 from if_neg c_30] at hR
                refine ih (k + 1) (fin (Ar 27) N (bgn (Ar 27) N e)) (c + 1) 0 _ _ _ _ (by omega) hp1 ⟨⟨(((hF1.up (by decide)).up (by decide)).up (by decide)).up (by decide), hF2.up, hF3.up⟩, ⟨hw0, (show nI (nxE (Ar 27) N (bgn (Ar 27) N e)) = nI (fin (Ar 27) N (bgn (Ar 27) N e)) by rw [enx]), rfl⟩, (hWs.tt (T' := (va_up (va_up (va_up T1 1 (nI (bgn (Ar 27) N e))) 2 (nI (nxE (Ar 27) N (bgn (Ar 27) N e)))) 4 (nI (c + 1)))) rfl).cons (cdT_V hat) ?_, ⟨by omega, fun _ => by omega⟩, by rw [List.length_append]; exact hl9⟩ hR (by omega)
                · show nI (c + 1) - 1 = nI (c + 1 - 1)
                  exact nI_pred _
              · refine g_aload_n X dX1_firstWrong_62 2 rfl ?_
                refine g_getfield X fl_X1_42 dX1_firstWrong_63 (kL2 D) rfl ?_
                refine g_eqi (y := nI (bgn (Ar 27) N e)) (rfl) ?_
                refine g_iret X F rfl rfl dX1_firstWrong_66 (Nat.zero_le _) (Nat.zero_le _) ?_
                have hat := b2_1.mp (b2_c.resolve_left c_26)
                rw [if_neg ((atP_fin hb1).mp hat)] at hR
                have hl66 : Lw.length = 60 := by
                  have := (nI_leI (a := 60) (b := Lw.length) (by decide) (by omega)).mp (Int32.not_lt.mp c_59)
                  omega
                rw [if_pos (Or.inr hl66)] at hR
                subst hR
                exact ⟨_, _, _, ⟨((hF1.up (by decide)).up (by decide)).up (by decide), hF2, hF3⟩, rfl, rfl, fun q => by cases q⟩
            · refine g_aload_n X dX1_firstWrong_42 2 rfl ?_
              refine g_getfield X fl_X1_42 dX1_firstWrong_43 (kL2 D) rfl ?_
              refine g_eqi (y := nI (bgn (Ar 27) N e)) (rfl) ?_
              refine g_iret X F rfl rfl dX1_firstWrong_46 (Nat.zero_le _) (Nat.zero_le _) ?_
              have hat := b2_1.mp (b2_c.resolve_left c_26)
              rw [if_neg ((atP_fin hb1).mp hat)] at hR
              have hc66 : c = 6 := by
                have := (nI_leI (a := 6) (b := c) (by decide) (by omega)).mp (Int32.not_lt.mp c_39)
                omega
              rw [if_pos (Or.inl ⟨c_30, hc66⟩)] at hR
              subst hR
              exact ⟨_, _, _, ⟨(hF1.up (by decide)).up (by decide), hF2, hF3⟩, rfl, rfl, fun q => by cases q⟩
theorem c_X1_firstWrong (D : kW G Z) (N : Nat) (hN4 : N ≤ 400) (hby : ∀ i, vp_nar .byte (Ar 27 i) = Ar 27 i) (hN : T 0 = nI N) (hT2 : T 2 = nI 0)  : Ct G l 4 0 0 M_X1_firstWrong [.ref (Z.da 2), .ref (Z.da 3)] (kH G Z I Ar T A Lg h0) (fun v h' => ∃ (T' : Nat → Int32) (A' : Nat → Nat → Int32) (Lg' : Nat → Nat → Int64), (kTf T T' ∧ kAf A A' ∧ kLf Lg Lg') ∧ h' = kH G Z I Ar T' A' Lg' h0 ∧ v = some (.int (enO (lR Ar N).1)) ∧ ((lR Ar N).1 = none → kLsW (Ar 27) T' A' Lg' (lR Ar N).2.2 ∧ T' 4 = nI (lR Ar N).2.1)) := by
  refine Ct.of (by decide +kernel) (Nat.le_of_ble_eq_true rfl) (fun E hE X F => ?_)
  have X : Gc G E "ComplaintDesk$Letter" cX1_firstWrong 4 4 0 0 := X
  show GW G E _ 4 0 [(0, _), (1, _)] [] _ 0 0
  refine g_iconst X (v := 1) dX1_firstWrong_0 ki_1 ?_
  refine g_istore_n X dX1_firstWrong_1 (Nat.le_of_ble_eq_true rfl) [(2, _), (0, _), (1, _)] rfl ?_
  refine g_aload_n X dX1_firstWrong_2 2 rfl ?_
  refine g_cV0 X ml_X1_25 (c_X5_clear D) ⟨5, _, kL3 D, rfl⟩ (Nat.le_of_ble_eq_true rfl) rfl rfl (Nat.le_of_ble_eq_true rfl) (Nat.zero_le _) (Nat.zero_le _) dX1_firstWrong_3 ?_
  refine g_iconst X (v := 0) dX1_firstWrong_6 ki_0 ?_
  refine g_istore_n X dX1_firstWrong_7 (Nat.le_of_ble_eq_true rfl) [(3, _), (2, _), (0, _), (1, _)] rfl ?_
  refine g_L [0, 1, 2, 3] (L' := [(3, _), (2, _), (0, _), (1, _)]) rfl ?_
  refine lp_X1_firstWrong_8 X F D N hN4 hby (lR Ar N) 401 0 0 0 1 [] _ _ _ (Nat.le_refl _) (Nat.zero_le _) ⟨⟨fun j9 hj9 => ?_, fun j9 _ => rfl, fun j9 _ => rfl⟩, ⟨hN, hT2, rfl⟩, ⟨rfl, fun i9 w9 q => by simp at q⟩, ⟨by decide, fun q => absurd q (by decide)⟩, by decide⟩ rfl (by omega)
  rw [va_up_ne _ _ (by omega), va_up_ne _ _ (by omega), va_up_ne _ _ (by omega)]
end K26
