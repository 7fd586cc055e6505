section K25
variable {G : gG} {l : Launch} {h h0 : hW} {Z : kZ} {I : Nat → Int32} {Ar : Nat → Nat → Int32} {T : Nat → Int32} {A : Nat → Nat → Int32} {Lg : Nat → Nat → Int64}
theorem lp_X2_firstWrong_15 {E : gE} (X : Gc G E "ComplaintDesk$Pattern" cX2_firstWrong 7 4 0 0) (F : gF E M_X2_firstWrong) (D : kW G Z) (N : Nat) (hN4 : N ≤ 400) (hby : ∀ i, vp_nar .byte (Ar 27 i) = Ar 27 i) (R : Option Nat × List pW) : ∀ (f : Nat) (k e pz : Nat) (w bn oq : Int32) (Lw : List pW) (T1 : Nat → Int32) (A1 : Nat → Nat → Int32) (Lg1 : Nat → Nat → Int64), k ≤ e → e ≤ N → pz ≤ k → fwI (Ar 27) N e w bn oq pz Lw T T1 A A1 Lg Lg1 → tP (Ar 27) N f e w bn oq Lw = R → N - e < f → GW G E (gMQ G E 0 0 (fun v h' => ∃ (T' : Nat → Int32) (A' : Nat → Nat → Int32) (Lg' : Nat → Nat → Int64), (kTf T T' ∧ kAf A A' ∧ kLf Lg Lg') ∧ h' = kH G Z I Ar T' A' Lg' h0 ∧ v = some (.int (enO (R).1)) ∧ ((R).1 = none → kWs (Ar 27) T' A' Lg' (R).2))) 7 15 [(4, .int (nI k)), (3, .int bn), (2, .int w), (0, .ref (Z.da 2)), (1, .ref (Z.da 3))] [] (kH G Z I Ar T1 A1 Lg1 h0) 0 0 := by
  intro f
  induction f with
  | zero => intro k e pz w bn oq Lw T1 A1 Lg1 hke heN hpk hI9 hR hf; exact absurd hf (Nat.not_lt_zero _)
  | succ f ih =>
    intro k e pz w bn oq Lw T1 A1 Lg1 hke heN hpk hI9 hR hf
    obtain ⟨⟨hF1, hF2, hF3⟩, ⟨hw0, hw2, hw4⟩, hWs, ⟨hww, hbb, hwz, hop⟩, hl12⟩ := hI9
    have hb1 : (bgn (Ar 27) N e) ≤ N := skp_le1 heN
    have hb0 : e ≤ (bgn (Ar 27) N e) := skp_ge1 heN
    have hp1 : (fin (Ar 27) N (bgn (Ar 27) N e)) ≤ N := skp_le1 hb1
    have hp0 : (bgn (Ar 27) N e) ≤ (fin (Ar 27) N (bgn (Ar 27) N e)) := skp_ge1 hb1
    rw [tP_s] at hR
    refine g_iload X dX2_firstWrong_15 0 rfl ?_
    refine g_sipush X (v := 400) dX2_firstWrong_17 ks_400 ?_
    refine g_icmp_ge X 138 dX2_firstWrong_20 (by decide) (fun c_20 => ?_) (fun c_20 => ?_)
    · refine g_iload_n X dX2_firstWrong_138 2 rfl ?_
      refine g_if_eq X 149 dX2_firstWrong_139 (by decide) (fun c_139 => ?_) (fun c_139 => ?_)
      · refine g_iconst X (v := (-1)) dX2_firstWrong_149 ki_m1 ?_
        refine g_iret X F rfl rfl dX2_firstWrong_150 (Nat.zero_le _) (Nat.zero_le _) ?_
        have hge : 400 ≤ k := ge_lit (N := 400) rfl c_20 (by omega)
        have eE : e = N := by omega
        have hnb : ¬ (bgn (Ar 27) N e) < N := by rw [eE, bgn_N]; exact Nat.lt_irrefl N
        rw [if_pos hnb] at hR
        rw [if_pos c_139] at hR
        subst hR
        exact ⟨_, _, _, ⟨hF1, hF2, hF3⟩, rfl, rfl, fun _ => hWs⟩
      · refine g_aload_n X dX2_firstWrong_142 3 rfl ?_
        refine g_getfield X fl_X2_75 dX2_firstWrong_143 (kL2 D) rfl ?_
        refine g_eqi (y := nI N) (hw0) ?_
        refine g_goto X 150 dX2_firstWrong_146 (by decide) ?_
        refine g_iret X F rfl rfl dX2_firstWrong_150 (Nat.zero_le _) (Nat.zero_le _) ?_
        have hge : 400 ≤ k := ge_lit (N := 400) rfl c_20 (by omega)
        have eE : e = N := by omega
        have hnb : ¬ (bgn (Ar 27) N e) < N := by rw [eE, bgn_N]; exact Nat.lt_irrefl N
        rw [if_pos hnb] at hR
        rw [if_neg c_139] at hR
        subst hR
        exact ⟨_, _, _, ⟨hF1, hF2, hF3⟩, rfl, rfl, fun q => by cases q⟩
    · refine g_aload_n X dX2_firstWrong_23 3 rfl ?_
      refine g_cV X ml_X2_48 (c_X4_next D N hw0 hN4 hby e heN hw2) ⟨4, _, kL2 D, rfl⟩ (Nat.le_of_ble_eq_true rfl) rfl rfl (Nat.le_of_ble_eq_true rfl) (Nat.zero_le _) (Nat.zero_le _) dX2_firstWrong_24 ?_
      refine g_if_eq X 138 dX2_firstWrong_27 (by decide) (fun c_27 => ?_) (fun c_27 => ?_)
      · refine g_iload_n X dX2_firstWrong_138 2 rfl ?_
        refine g_if_eq X 149 dX2_firstWrong_139 (by decide) (fun c_139 => ?_) (fun c_139 => ?_)
        · refine g_iconst X (v := (-1)) dX2_firstWrong_149 ki_m1 ?_
          refine g_iret X F rfl rfl dX2_firstWrong_150 (Nat.zero_le _) (Nat.zero_le _) ?_
          have hnb := b2_0.mp c_27
          rw [if_pos hnb] at hR
          rw [if_pos c_139] at hR
          subst hR
          exact ⟨_, _, _, ⟨(hF1.up (by decide)).up (by decide), hF2, hF3⟩, rfl, rfl, fun _ => hWs.tt rfl rfl⟩
        · refine g_aload_n X dX2_firstWrong_142 3 rfl ?_
          refine g_getfield X fl_X2_75 dX2_firstWrong_143 (kL2 D) rfl ?_
          refine g_eqi (y := nI N) (hw0) ?_
          refine g_goto X 150 dX2_firstWrong_146 (by decide) ?_
          refine g_iret X F rfl rfl dX2_firstWrong_150 (Nat.zero_le _) (Nat.zero_le _) ?_
          have hnb := b2_0.mp c_27
          rw [if_pos hnb] at hR
          rw [if_neg c_139] at hR
          subst hR
          exact ⟨_, _, _, ⟨(hF1.up (by decide)).up (by decide), hF2, hF3⟩, rfl, rfl, fun q => by cases q⟩
      · have hlb : (bgn (Ar 27) N e) < N := b2_1.mp (b2_c.resolve_left c_27)
        refine g_aload_n X dX2_firstWrong_30 3 rfl ?_
        refine g_cV X ml_X2_54 (c_X4_codeOfThing (T := (va_up (va_up T1 1 (nI (bgn (Ar 27) N e))) 2 (nI (nxE (Ar 27) N (bgn (Ar 27) N e))))) D N (bgn (Ar 27) N e) hw0 hN4 hb1 hby rfl (va_up_self _ _ _)) ⟨4, _, kL2 D, rfl⟩ (Nat.le_of_ble_eq_true rfl) rfl rfl (Nat.le_of_ble_eq_true rfl) (Nat.zero_le _) (Nat.zero_le _) dX2_firstWrong_31 ?_
        refine g_lstore X dX2_firstWrong_34 (Nat.le_of_ble_eq_true rfl) [(5, _), (4, _), (3, _), (2, _), (0, _), (1, _)] rfl ?_
        refine g_iload_n X dX2_firstWrong_36 3 rfl ?_
        refine g_if_ne X 81 dX2_firstWrong_37 (by decide) (fun c_37 => ?_) (fun c_37 => ?_)
        · refine g_lload X dX2_firstWrong_81 0 rfl ?_
          refine g_ldc2 X dX2_firstWrong_83 con_X2_65 ?_
          refine g_lcmp X dX2_firstWrong_86 ?_
          refine g_if_ne X 99 dX2_firstWrong_87 (by decide) (fun c_87 => ?_) (fun c_87 => ?_)
          · refine g_lload X dX2_firstWrong_99 0 rfl ?_
            refine g_cS X ml_X2_67 (c_X2_isPlainWord _) (Nat.le_of_ble_eq_true rfl) rfl rfl (Nat.le_of_ble_eq_true rfl) (Nat.zero_le _) (Nat.zero_le _) dX2_firstWrong_101 ?_
            refine g_if_eq X 116 dX2_firstWrong_104 (by decide) (fun c_104 => ?_) (fun c_104 => ?_)
            · refine g_aload_n X dX2_firstWrong_116 4 rfl ?_
              refine g_getfield X fl_X2_62 dX2_firstWrong_117 (kL2 D) rfl ?_
              refine g_eqi (y := nI (bgn (Ar 27) N e)) (rfl) ?_
              refine g_iret X F rfl rfl dX2_firstWrong_120 (Nat.zero_le _) (Nat.zero_le _) ?_
              rw [if_neg (fun q => q hlb)] at hR
              rw [if_neg c_37] at hR
              rw [if_neg (fun q => c_87 ((lg_cmp_eq _ _).mpr ((sg2 hb1).mpr q.1)))] at hR
              rw [if_pos ((bad_p hb1).mpr (Or.inl (b2_0.mp c_104)))] at hR
              subst hR
              exact ⟨_, _, _, ⟨(hF1.up (by decide)).up (by decide), hF2, hF3⟩, rfl, rfl, fun q => by cases q⟩
            · refine g_aload_n X dX2_firstWrong_107 5 rfl ?_
              refine g_getfield X fl_X2_15 dX2_firstWrong_108 (kL3 D) rfl ?_
              refine g_eqi (y := nI Lw.length) (hWs.1) ?_
              refine g_bipush X (v := 12) dX2_firstWrong_111 kb_12 ?_
              refine g_icmp_lt X 121 dX2_firstWrong_113 (by decide) (fun c_113 => ?_) (fun c_113 => ?_)
              · have hl : Lw.length < 12 := (nI_ltI (by omega) (by decide)).mp c_113
                refine g_aload_n X dX2_firstWrong_121 5 rfl ?_
                refine g_lload X dX2_firstWrong_122 0 rfl ?_
                refine g_iload_n X dX2_firstWrong_124 2 rfl ?_
                refine g_cV0 X ml_X2_71 (c_X5_add (T := (va_up (va_up T1 1 (nI (bgn (Ar 27) N e))) 2 (nI (nxE (Ar 27) N (bgn (Ar 27) N e))))) D Lw.length (by omega) hWs.1 _ bn hbb) ⟨5, _, kL3 D, rfl⟩ (Nat.le_of_ble_eq_true rfl) rfl rfl (Nat.le_of_ble_eq_true rfl) (Nat.zero_le _) (Nat.zero_le _) dX2_firstWrong_125 ?_
                refine g_iconst X (v := 0) dX2_firstWrong_128 ki_0 ?_
                refine g_istore_n X dX2_firstWrong_129 (Nat.le_of_ble_eq_true rfl) [(2, _), (5, _), (4, _), (3, _), (0, _), (1, _)] rfl ?_
                refine g_iconst X (v := 0) dX2_firstWrong_130 ki_0 ?_
                refine g_istore_n X dX2_firstWrong_131 (Nat.le_of_ble_eq_true rfl) [(3, _), (2, _), (5, _), (4, _), (0, _), (1, _)] rfl ?_
                refine g_iinc X (v := nI (k + 1)) dX2_firstWrong_132 3 rfl (nI_1 k) (Nat.le_of_ble_eq_true rfl) [(4, _), (3, _), (2, _), (5, _), (0, _), (1, _)] rfl ?_
                refine g_goto X 15 dX2_firstWrong_135 (by decide) ?_
                refine g_L [0, 1, 2, 4, 5] (L' := [(4, _), (3, _), (2, _), (0, _), (1, _)]) rfl ?_
                rw [if_neg (fun q => q hlb)] at hR
                rw [if_neg c_37] at hR
                rw [if_neg (fun q => c_87 ((lg_cmp_eq _ _).mpr ((sg2 hb1).mpr q.1)))] at hR
                have hpl := b2_1.mp (b2_c.resolve_left c_104)
                rw [if_neg (fun q => ((bad_p hb1).mp q).elim (fun z => z hpl) (fun z => by omega))] at hR
                have hc0 : ¬ ((fin (Ar 27) N (bgn (Ar 27) N e)) = (bgn (Ar 27) N e) ∨ 12 < (fin (Ar 27) N (bgn (Ar 27) N e)) - (bgn (Ar 27) N e)) := fun q => hpl.1 ((cdT_0 hb1).mpr q)
                have hat : atP (Ar 27) N (bgn (Ar 27) N e) 97 122 := (atP_fin hb1).mpr (fun q => hc0 (Or.inl q))
                obtain ⟨enx, hgt⟩ := nxE_w hat
                have hcd : cdT (Ar 27) N (bgn (Ar 27) N e) = cdW (Ar 27) (bgn (Ar 27) N e) ((fin (Ar 27) N (bgn (Ar 27) N e)) - (bgn (Ar 27) N e)) := by
                  unfold cdT; rw [enx, if_pos ⟨hat, by omega⟩]
                have e4 : (va_up (va_up T1 1 (nI (bgn (Ar 27) N e))) 2 (nI (nxE (Ar 27) N (bgn (Ar 27) N e)))) 4 - 1 = nI pz := by
                  show T1 4 - 1 = nI pz
                  rw [hw4]; exact nI_pred pz
                rw [e4]
                have hWt : kWs (Ar 27) (va_up (va_up T1 1 (nI (bgn (Ar 27) N e))) 2 (nI (nxE (Ar 27) N (bgn (Ar 27) N e)))) A1 Lg1 Lw := hWs.tt rfl rfl
                have ht5 : ∀ j9, ¬ j9 = 5 → t5g (va_up (va_up T1 1 (nI (bgn (Ar 27) N e))) 2 (nI (nxE (Ar 27) N (bgn (Ar 27) N e)))) Lw.length bn j9 = (va_up (va_up T1 1 (nI (bgn (Ar 27) N e))) 2 (nI (nxE (Ar 27) N (bgn (Ar 27) N e)))) j9 := fun j9 hj9 => by
                  unfold t5g
                  split
                  · rfl
                  · exact va_up_ne _ _ hj9
                refine ih (k + 1) (fin (Ar 27) N (bgn (Ar 27) N e)) pz 0 0 0 _ _ _ _ (by omega) hp1 (by omega) ⟨⟨fun j9 hj9 => (va_up_ne _ _ (by omega)).trans ((ht5 j9 (by omega)).trans (((hF1.up (by decide)).up (by decide)) j9 hj9)), hF2.up, hF3.up⟩, ⟨?_, ?_, ?_⟩, hWt.cons hl (oq := oq) hbb hcd hop, ⟨Or.inl rfl, Or.inl rfl, fun _ => ⟨rfl, rfl⟩, ?_⟩, by rw [List.length_append]; exact hl⟩ hR (by omega)
                · exact (va_up_ne _ _ (by decide)).trans ((ht5 0 (by decide)).trans hw0)
                · exact (va_up_ne _ _ (by decide)).trans ((ht5 2 (by decide)).trans (by rw [va_up_self, enx]))
                · exact (va_up_ne _ _ (by decide)).trans ((ht5 4 (by decide)).trans hw4)
                · rw [List.length_append]
                  show nI pz = pvA (va_up A1 14 (upd (A1 14) Lw.length (nI pz)) 14) (Lw.length + 1) ↔ _
                  rw [va_up_self]
                  show nI pz = upd (A1 14) Lw.length (nI pz) Lw.length ↔ _
                  rw [pk_us]
                  exact ⟨fun _ => rfl, fun _ => rfl⟩
              · refine g_aload_n X dX2_firstWrong_116 4 rfl ?_
                refine g_getfield X fl_X2_62 dX2_firstWrong_117 (kL2 D) rfl ?_
                refine g_eqi (y := nI (bgn (Ar 27) N e)) (rfl) ?_
                refine g_iret X F rfl rfl dX2_firstWrong_120 (Nat.zero_le _) (Nat.zero_le _) ?_
                rw [if_neg (fun q => q hlb)] at hR
                rw [if_neg c_37] at hR
                rw [if_neg (fun q => c_87 ((lg_cmp_eq _ _).mpr ((sg2 hb1).mpr q.1)))] at hR
                have h12n : Lw.length = 12 := by
                  have z9 : ¬ Lw.length < 12 := fun q => c_113 ((nI_ltI (a := Lw.length) (b := 12) (by omega) (by decide)).mpr q)
                  omega
                rw [if_pos ((bad_p hb1).mpr (Or.inr h12n))] at hR
                subst hR
                exact ⟨_, _, _, ⟨(hF1.up (by decide)).up (by decide), hF2, hF3⟩, rfl, rfl, fun q => by cases q⟩
          · refine g_iload_n X dX2_firstWrong_90 2 rfl ?_
            refine g_if_ne X 99 dX2_firstWrong_91 (by decide) (fun c_91 => ?_) (fun c_91 => ?_)
            · refine g_lload X dX2_firstWrong_99 0 rfl ?_
              refine g_cS X ml_X2_67 (c_X2_isPlainWord _) (Nat.le_of_ble_eq_true rfl) rfl rfl (Nat.le_of_ble_eq_true rfl) (Nat.zero_le _) (Nat.zero_le _) dX2_firstWrong_101 ?_
              refine g_if_eq X 116 dX2_firstWrong_104 (by decide) (fun c_104 => ?_) (fun c_104 => ?_)
              · refine g_aload_n X dX2_firstWrong_116 4 rfl ?_
                refine g_getfield X fl_X2_62 dX2_firstWrong_117 (kL2 D) rfl ?_
                refine g_eqi (y := nI (bgn (Ar 27) N e)) (rfl) ?_
                refine g_iret X F rfl rfl dX2_firstWrong_120 (Nat.zero_le _) (Nat.zero_le _) ?_
                rw [if_neg (fun q => q hlb)] at hR
                rw [if_neg c_37] at hR
                rw [if_neg (fun q => c_91 q.2)] at hR
                rw [if_pos ((bad_p hb1).mpr (Or.inl (b2_0.mp c_104)))] at hR
                subst hR
                exact ⟨_, _, _, ⟨(hF1.up (by decide)).up (by decide), hF2, hF3⟩, rfl, rfl, fun q => by cases q⟩
              · refine g_aload_n X dX2_firstWrong_107 5 rfl ?_
                refine g_getfield X fl_X2_15 dX2_firstWrong_108 (kL3 D) rfl ?_
                refine g_eqi (y := nI Lw.length) (hWs.1) ?_
                refine g_bipush X (v := 12) dX2_firstWrong_111 kb_12 ?_
                refine g_icmp_lt X 121 dX2_firstWrong_113 (by decide) (fun c_113 => ?_) (fun c_113 => ?_)
                · have hl : Lw.length < 12 := (nI_ltI (by omega) (by decide)).mp c_113
                  refine g_aload_n X dX2_firstWrong_121 5 rfl ?_
                  refine g_lload X dX2_firstWrong_122 0 rfl ?_
                  refine g_iload_n X dX2_firstWrong_124 2 rfl ?_
                  refine g_cV0 X ml_X2_71 (c_X5_add (T := (va_up (va_up T1 1 (nI (bgn (Ar 27) N e))) 2 (nI (nxE (Ar 27) N (bgn (Ar 27) N e))))) D Lw.length (by omega) hWs.1 _ bn hbb) ⟨5, _, kL3 D, rfl⟩ (Nat.le_of_ble_eq_true rfl) rfl rfl (Nat.le_of_ble_eq_true rfl) (Nat.zero_le _) (Nat.zero_le _) dX2_firstWrong_125 ?_
                  refine g_iconst X (v := 0) dX2_firstWrong_128 ki_0 ?_
                  refine g_istore_n X dX2_firstWrong_129 (Nat.le_of_ble_eq_true rfl) [(2, _), (5, _), (4, _), (3, _), (0, _), (1, _)] rfl ?_
                  refine g_iconst X (v := 0) dX2_firstWrong_130 ki_0 ?_
                  refine g_istore_n X dX2_firstWrong_131 (Nat.le_of_ble_eq_true rfl) [(3, _), (2, _), (5, _), (4, _), (0, _), (1, _)] rfl ?_
                  refine g_iinc X (v := nI (k + 1)) dX2_firstWrong_132 3 rfl (nI_1 k) (Nat.le_of_ble_eq_true rfl) [(4, _), (3, _), (2, _), (5, _), (0, _), (1, _)] rfl ?_
                  refine g_goto X 15 dX2_firstWrong_135 (by decide) ?_
                  refine g_L [0, 1, 2, 4, 5] (L' := [(4, _), (3, _), (2, _), (0, _), (1, _)]) rfl ?_
                  rw [if_neg (fun q => q hlb)] at hR
                  rw [if_neg c_37] at hR
                  rw [if_neg (fun q => c_91 q.2)] at hR
                  have hpl := b2_1.mp (b2_c.resolve_left c_104)
                  rw [if_neg (fun q => ((bad_p hb1).mp q).elim (fun z => z hpl) (fun z => by omega))] at hR
                  have hc0 : ¬ ((fin (Ar 27) N (bgn (Ar 27) N e)) = (bgn (Ar 27) N e) ∨ 12 < (fin (Ar 27) N (bgn (Ar 27) N e)) - (bgn (Ar 27) N e)) := fun q => hpl.1 ((cdT_0 hb1).mpr q)
                  have hat : atP (Ar 27) N (bgn (Ar 27) N e) 97 122 := (atP_fin hb1).mpr (fun q => hc0 (Or.inl q))
                  obtain ⟨enx, hgt⟩ := nxE_w hat
                  have hcd : cdT (Ar 27) N (bgn (Ar 27) N e) = cdW (Ar 27) (bgn (Ar 27) N e) ((fin (Ar 27) N (bgn (Ar 27) N e)) - (bgn (Ar 27) N e)) := by
                    unfold cdT; rw [enx, if_pos ⟨hat, by omega⟩]
                  have e4 : (va_up (va_up T1 1 (nI (bgn (Ar 27) N e))) 2 (nI (nxE (Ar 27) N (bgn (Ar 27) N e)))) 4 - 1 = nI pz := by
                    show T1 4 - 1 = nI pz
                    rw [hw4]; exact nI_pred pz
                  rw [e4]
                  have hWt : kWs (Ar 27) (va_up (va_up T1 1 (nI (bgn (Ar 27) N e))) 2 (nI (nxE (Ar 27) N (bgn (Ar 27) N e)))) A1 Lg1 Lw := hWs.tt rfl rfl
                  have ht5 : ∀ j9, ¬ j9 = 5 → t5g (va_up (va_up T1 1 (nI (bgn (Ar 27) N e))) 2 (nI (nxE (Ar 27) N (bgn (Ar 27) N e)))) Lw.length bn j9 = (va_up (va_up T1 1 (nI (bgn (Ar 27) N e))) 2 (nI (nxE (Ar 27) N (bgn (Ar 27) N e)))) j9 := fun j9 hj9 => by
                    unfold t5g
                    split
                    · rfl
                    · exact va_up_ne _ _ hj9
                  refine ih (k + 1) (fin (Ar 27) N (bgn (Ar 27) N e)) pz 0 0 0 _ _ _ _ (by omega) hp1 (by omega) ⟨⟨fun j9 hj9 => (va_up_ne _ _ (by omega)).trans ((ht5 j9 (by omega)).trans (((hF1.up (by decide)).up (by decide)) j9 hj9)), hF2.up, hF3.up⟩, ⟨?_, ?_, ?_⟩, hWt.cons hl (oq := oq) hbb hcd hop, ⟨Or.inl rfl, Or.inl rfl, fun _ => ⟨rfl, rfl⟩, ?_⟩, by rw [List.length_append]; exact hl⟩ hR (by omega)
                  · exact (va_up_ne _ _ (by decide)).trans ((ht5 0 (by decide)).trans hw0)
                  · exact (va_up_ne _ _ (by decide)).trans ((ht5 2 (by decide)).trans (by rw [va_up_self, enx]))
                  · exact (va_up_ne _ _ (by decide)).trans ((ht5 4 (by decide)).trans hw4)
                  · rw [List.length_append]
                    show nI pz = pvA (va_up A1 14 (upd (A1 14) Lw.length (nI pz)) 14) (Lw.length + 1) ↔ _
                    rw [va_up_self]
                    show nI pz = upd (A1 14) Lw.length (nI pz) Lw.length ↔ _
                    rw [pk_us]
                    exact ⟨fun _ => rfl, fun _ => rfl⟩
                · refine g_aload_n X dX2_firstWrong_116 4 rfl ?_
                  refine g_getfield X fl_X2_62 dX2_firstWrong_117 (kL2 D) rfl ?_
                  refine g_eqi (y := nI (bgn (Ar 27) N e)) (rfl) ?_
                  refine g_iret X F rfl rfl dX2_firstWrong_120 (Nat.zero_le _) (Nat.zero_le _) ?_
                  rw [if_neg (fun q => q hlb)] at hR
                  rw [if_neg c_37] at hR
                  rw [if_neg (fun q => c_91 q.2)] at hR
                  have h12n : Lw.length = 12 := by
                    have z9 : ¬ Lw.length < 12 := fun q => c_113 ((nI_ltI (a := Lw.length) (b := 12) (by omega) (by decide)).mpr q)
                    omega
                  rw [if_pos ((bad_p hb1).mpr (Or.inr h12n))] at hR
                  subst hR
                  exact ⟨_, _, _, ⟨(hF1.up (by decide)).up (by decide), hF2, hF3⟩, rfl, rfl, fun q => by cases q⟩
            · refine g_iconst X (v := 1) dX2_firstWrong_94 ki_1 ?_
              refine g_istore_n X dX2_firstWrong_95 (Nat.le_of_ble_eq_true rfl) [(3, _), (5, _), (4, _), (2, _), (0, _), (1, _)] rfl ?_
              refine g_goto X 132 dX2_firstWrong_96 (by decide) ?_
              refine g_iinc X (v := nI (k + 1)) dX2_firstWrong_132 2 rfl (nI_1 k) (Nat.le_of_ble_eq_true rfl) [(4, _), (3, _), (5, _), (2, _), (0, _), (1, _)] rfl ?_
              refine g_goto X 15 dX2_firstWrong_135 (by decide) ?_
              refine g_L [0, 1, 3, 4, 5] (L' := [(4, _), (3, _), (2, _), (0, _), (1, _)]) rfl ?_
              rw [if_neg (fun q => q hlb)] at hR
              rw [if_neg c_37] at hR
              have hnt : isW (Ar 27) (bgn (Ar 27) N e) (fin (Ar 27) N (bgn (Ar 27) N e)) 2 := (sg2 hb1).mp ((lg_cmp_eq _ _).mp (by first | exact c_87 | exact Classical.not_not.mp c_87))
              have hb00 : bn = 0 := by first | exact c_91 | exact Classical.not_not.mp c_91
              rw [if_pos ⟨hnt, hb00⟩] at hR
              have hgt := isW_len hnt (by decide)
              have enx : (nxE (Ar 27) N (bgn (Ar 27) N e)) = (fin (Ar 27) N (bgn (Ar 27) N e)) := if_neg (fun q => by omega)
              rw [hww.resolve_left c_37]
              exact ih (k + 1) (fin (Ar 27) N (bgn (Ar 27) N e)) pz 1 1 oq Lw (va_up (va_up T1 1 (nI (bgn (Ar 27) N e))) 2 (nI (nxE (Ar 27) N (bgn (Ar 27) N e)))) A1 Lg1 (by omega) hp1 (by omega) ⟨⟨(hF1.up (by decide)).up (by decide), hF2, hF3⟩, ⟨hw0, by rw [va_up_self, enx], hw4⟩, hWs.tt rfl rfl, ⟨Or.inr rfl, Or.inr rfl, fun q => absurd q (by decide), hop⟩, hl12⟩ hR (by omega)
        · have hw00 : w = 0 := by first | exact c_37 | exact Classical.not_not.mp c_37
          refine g_lload X dX2_firstWrong_40 0 rfl ?_
          refine g_ldc2 X dX2_firstWrong_42 con_X2_58 ?_
          refine g_lcmp X dX2_firstWrong_45 ?_
          refine g_if_eq X 63 dX2_firstWrong_46 (by decide) (fun c_46 => ?_) (fun c_46 => ?_)
          · refine g_lload X dX2_firstWrong_63 0 rfl ?_
            refine g_ldc2 X dX2_firstWrong_65 con_X2_60 ?_
            refine g_lcmp X dX2_firstWrong_68 ?_
            refine g_if_ne X 76 dX2_firstWrong_69 (by decide) (fun c_69 => ?_) (fun c_69 => ?_)
            · refine g_iconst X (v := 1) dX2_firstWrong_76 ki_1 ?_
              refine g_istore_n X dX2_firstWrong_77 (Nat.le_of_ble_eq_true rfl) [(2, _), (5, _), (4, _), (3, _), (0, _), (1, _)] rfl ?_
              refine g_goto X 132 dX2_firstWrong_78 (by decide) ?_
              refine g_iinc X (v := nI (k + 1)) dX2_firstWrong_132 2 rfl (nI_1 k) (Nat.le_of_ble_eq_true rfl) [(4, _), (2, _), (5, _), (3, _), (0, _), (1, _)] rfl ?_
              refine g_goto X 15 dX2_firstWrong_135 (by decide) ?_
              refine g_L [0, 3, 1, 4, 5] (L' := [(4, _), (3, _), (2, _), (0, _), (1, _)]) rfl ?_
              rw [if_neg (fun q => q hlb)] at hR
              rw [if_pos hw00] at hR
              have hnd : isW (Ar 27) (bgn (Ar 27) N e) (fin (Ar 27) N (bgn (Ar 27) N e)) 0 := (sg0 hb1).mp ((lg_cmp_eq _ _).mp c_46)
              have hnr : ¬ isW (Ar 27) (bgn (Ar 27) N e) (fin (Ar 27) N (bgn (Ar 27) N e)) 1 := fun z => c_69 ((lg_cmp_eq _ _).mpr ((sg1 hb1).mpr z))
              rw [if_pos (Or.inr hnd), b2_f hnr] at hR
              have hgt := isW_len hnd (by decide)
              have enx : (nxE (Ar 27) N (bgn (Ar 27) N e)) = (fin (Ar 27) N (bgn (Ar 27) N e)) := if_neg (fun q => by omega)
              rw [(hwz hw00).1]
              refine ih (k + 1) (fin (Ar 27) N (bgn (Ar 27) N e)) pz 1 0 0 Lw (va_up (va_up T1 1 (nI (bgn (Ar 27) N e))) 2 (nI (nxE (Ar 27) N (bgn (Ar 27) N e)))) A1 Lg1 (by omega) hp1 (by omega) ⟨⟨(hF1.up (by decide)).up (by decide), hF2, hF3⟩, ⟨hw0, by rw [va_up_self, enx], hw4⟩, hWs.tt rfl rfl, ⟨Or.inr rfl, Or.inl rfl, fun q => absurd q (by decide), ?_⟩, hl12⟩ hR (by omega)
              rw [(hwz hw00).2] at hop
              exact hop
            · refine g_aload_n X dX2_firstWrong_72 5 rfl ?_
              refine g_cV0 X ml_X2_45 (c_X5_beginPart (T := (va_up (va_up T1 1 (nI (bgn (Ar 27) N e))) 2 (nI (nxE (Ar 27) N (bgn (Ar 27) N e))))) D (pz + 1) hw4) ⟨5, _, kL3 D, rfl⟩ (Nat.le_of_ble_eq_true rfl) rfl rfl (Nat.le_of_ble_eq_true rfl) (Nat.zero_le _) (Nat.zero_le _) dX2_firstWrong_73 ?_
              refine g_iconst X (v := 1) dX2_firstWrong_76 ki_1 ?_
              refine g_istore_n X dX2_firstWrong_77 (Nat.le_of_ble_eq_true rfl) [(2, _), (5, _), (4, _), (3, _), (0, _), (1, _)] rfl ?_
              refine g_goto X 132 dX2_firstWrong_78 (by decide) ?_
              refine g_iinc X (v := nI (k + 1)) dX2_firstWrong_132 2 rfl (nI_1 k) (Nat.le_of_ble_eq_true rfl) [(4, _), (2, _), (5, _), (3, _), (0, _), (1, _)] rfl ?_
              refine g_goto X 15 dX2_firstWrong_135 (by decide) ?_
              refine g_L [0, 3, 1, 4, 5] (L' := [(4, _), (3, _), (2, _), (0, _), (1, _)]) rfl ?_
              exact absurd (((lg_cmp_eq _ _).mp c_46).symm.trans ((lg_cmp_eq _ _).mp (by first | exact c_69 | exact Classical.not_not.mp c_69))) (by decide)
          · refine g_lload X dX2_firstWrong_49 0 rfl ?_
            refine g_ldc2 X dX2_firstWrong_51 con_X2_60 ?_
            refine g_lcmp X dX2_firstWrong_54 ?_
            refine g_if_eq X 63 dX2_firstWrong_55 (by decide) (fun c_55 => ?_) (fun c_55 => ?_)
            · refine g_lload X dX2_firstWrong_63 0 rfl ?_
              refine g_ldc2 X dX2_firstWrong_65 con_X2_60 ?_
              refine g_lcmp X dX2_firstWrong_68 ?_
              refine g_if_ne X 76 dX2_firstWrong_69 (by decide) (fun c_69 => ?_) (fun c_69 => ?_)
              · refine g_iconst X (v := 1) dX2_firstWrong_76 ki_1 ?_
                refine g_istore_n X dX2_firstWrong_77 (Nat.le_of_ble_eq_true rfl) [(2, _), (5, _), (4, _), (3, _), (0, _), (1, _)] rfl ?_
                refine g_goto X 132 dX2_firstWrong_78 (by decide) ?_
                refine g_iinc X (v := nI (k + 1)) dX2_firstWrong_132 2 rfl (nI_1 k) (Nat.le_of_ble_eq_true rfl) [(4, _), (2, _), (5, _), (3, _), (0, _), (1, _)] rfl ?_
                refine g_goto X 15 dX2_firstWrong_135 (by decide) ?_
                refine g_L [0, 3, 1, 4, 5] (L' := [(4, _), (3, _), (2, _), (0, _), (1, _)]) rfl ?_
                exact absurd c_55 c_69
              · refine g_aload_n X dX2_firstWrong_72 5 rfl ?_
                refine g_cV0 X ml_X2_45 (c_X5_beginPart (T := (va_up (va_up T1 1 (nI (bgn (Ar 27) N e))) 2 (nI (nxE (Ar 27) N (bgn (Ar 27) N e))))) D (pz + 1) hw4) ⟨5, _, kL3 D, rfl⟩ (Nat.le_of_ble_eq_true rfl) rfl rfl (Nat.le_of_ble_eq_true rfl) (Nat.zero_le _) (Nat.zero_le _) dX2_firstWrong_73 ?_
                refine g_iconst X (v := 1) dX2_firstWrong_76 ki_1 ?_
                refine g_istore_n X dX2_firstWrong_77 (Nat.le_of_ble_eq_true rfl) [(2, _), (5, _), (4, _), (3, _), (0, _), (1, _)] rfl ?_
                refine g_goto X 132 dX2_firstWrong_78 (by decide) ?_
                refine g_iinc X (v := nI (k + 1)) dX2_firstWrong_132 2 rfl (nI_1 k) (Nat.le_of_ble_eq_true rfl) [(4, _), (2, _), (5, _), (3, _), (0, _), (1, _)] rfl ?_
                refine g_goto X 15 dX2_firstWrong_135 (by decide) ?_
                refine g_L [0, 3, 1, 4, 5] (L' := [(4, _), (3, _), (2, _), (0, _), (1, _)]) rfl ?_
                rw [if_neg (fun q => q hlb)] at hR
                rw [if_pos hw00] at hR
                have hnr : isW (Ar 27) (bgn (Ar 27) N e) (fin (Ar 27) N (bgn (Ar 27) N e)) 1 := (sg1 hb1).mp ((lg_cmp_eq _ _).mp (by first | exact c_69 | exact Classical.not_not.mp c_69))
                rw [if_pos (Or.inl hnr), b2_t hnr] at hR
                have hgt := isW_len hnr (by decide)
                have enx : (nxE (Ar 27) N (bgn (Ar 27) N e)) = (fin (Ar 27) N (bgn (Ar 27) N e)) := if_neg (fun q => by omega)
                rw [(hwz hw00).1]
                refine ih (k + 1) (fin (Ar 27) N (bgn (Ar 27) N e)) (pz + 1) 1 0 1 Lw (va_up (va_up (va_up T1 1 (nI (bgn (Ar 27) N e))) 2 (nI (nxE (Ar 27) N (bgn (Ar 27) N e)))) 4 (nI (pz + 1 + 1))) A1 Lg1 (by omega) hp1 (by omega) ⟨⟨((hF1.up (by decide)).up (by decide)).up (by decide), hF2, hF3⟩, ⟨hw0, (show nI (nxE (Ar 27) N (bgn (Ar 27) N e)) = nI (fin (Ar 27) N (bgn (Ar 27) N e)) by rw [enx]), va_up_self _ _ _⟩, hWs.tt rfl rfl, ⟨Or.inr rfl, Or.inl rfl, fun q => absurd q (by decide), ?_⟩, hl12⟩ hR (by omega)
                rw [(hwz hw00).2] at hop
                rw [← hop.mpr rfl]
                exact ⟨fun q => by have := (nI_eq (by omega) (by omega)).mp q; omega, fun q => absurd q (by decide)⟩
            · refine g_aload_n X dX2_firstWrong_58 4 rfl ?_
              refine g_getfield X fl_X2_62 dX2_firstWrong_59 (kL2 D) rfl ?_
              refine g_eqi (y := nI (bgn (Ar 27) N e)) (rfl) ?_
              refine g_iret X F rfl rfl dX2_firstWrong_62 (Nat.zero_le _) (Nat.zero_le _) ?_
              rw [if_neg (fun q => q hlb)] at hR
              rw [if_pos hw00] at hR
              rw [if_neg (fun q => q.elim (fun z => c_55 ((lg_cmp_eq _ _).mpr ((sg1 hb1).mpr z))) (fun z => c_46 ((lg_cmp_eq _ _).mpr ((sg0 hb1).mpr z))))] at hR
              subst hR
              exact ⟨_, _, _, ⟨(hF1.up (by decide)).up (by decide), hF2, hF3⟩, rfl, rfl, fun q => by cases q⟩
theorem c_X2_firstWrong (D : kW G Z) (N : Nat) (hN4 : N ≤ 400) (hby : ∀ i, vp_nar .byte (Ar 27 i) = Ar 27 i) (hN : T 0 = nI N) (hT2 : T 2 = nI 0)  : Ct G l 4 0 0 M_X2_firstWrong [.ref (Z.da 2), .ref (Z.da 3)] (kH G Z I Ar T A Lg h0) (fun v h' => ∃ (T' : Nat → Int32) (A' : Nat → Nat → Int32) (Lg' : Nat → Nat → Int64), (kTf T T' ∧ kAf A A' ∧ kLf Lg Lg') ∧ h' = kH G Z I Ar T' A' Lg' h0 ∧ v = some (.int (enO (pR Ar N).1)) ∧ ((pR Ar N).1 = none → kWs (Ar 27) T' A' Lg' (pR Ar N).2)) := by
  refine Ct.of (by decide +kernel) (Nat.le_of_ble_eq_true rfl) (fun E hE X F => ?_)
  have X : Gc G E "ComplaintDesk$Pattern" cX2_firstWrong 7 4 0 0 := X
  show GW G E _ 7 0 [(0, _), (1, _)] [] _ 0 0
  refine g_iconst X (v := 1) dX2_firstWrong_0 ki_1 ?_
  refine g_istore_n X dX2_firstWrong_1 (Nat.le_of_ble_eq_true rfl) [(2, _), (0, _), (1, _)] rfl ?_
  refine g_iconst X (v := 0) dX2_firstWrong_2 ki_0 ?_
  refine g_istore_n X dX2_firstWrong_3 (Nat.le_of_ble_eq_true rfl) [(3, _), (2, _), (0, _), (1, _)] rfl ?_
  refine g_aload_n X dX2_firstWrong_4 3 rfl ?_
  refine g_cV0 X ml_X2_42 (c_X5_clear D) ⟨5, _, kL3 D, rfl⟩ (Nat.le_of_ble_eq_true rfl) rfl rfl (Nat.le_of_ble_eq_true rfl) (Nat.zero_le _) (Nat.zero_le _) dX2_firstWrong_5 ?_
  refine g_aload_n X dX2_firstWrong_8 3 rfl ?_
  refine g_cV0 X ml_X2_45 (c_X5_beginPart (T := va_up (va_up (va_up T 3 0) 4 0) 5 0) D 0 rfl) ⟨5, _, kL3 D, rfl⟩ (Nat.le_of_ble_eq_true rfl) rfl rfl (Nat.le_of_ble_eq_true rfl) (Nat.zero_le _) (Nat.zero_le _) dX2_firstWrong_9 ?_
  refine g_iconst X (v := 0) dX2_firstWrong_12 ki_0 ?_
  refine g_istore X dX2_firstWrong_13 (Nat.le_of_ble_eq_true rfl) [(4, _), (3, _), (2, _), (0, _), (1, _)] rfl ?_
  refine g_L [0, 1, 2, 3, 4] (L' := [(4, _), (3, _), (2, _), (0, _), (1, _)]) rfl ?_
  refine lp_X2_firstWrong_15 X F D N hN4 hby (pR Ar N) (N + 1) 0 0 0 1 0 0 [] _ _ _ (Nat.le_refl _) (Nat.zero_le _) (Nat.le_refl _) ⟨⟨fun j9 hj9 => ?_, fun j9 _ => rfl, fun j9 _ => rfl⟩, ⟨hN, hT2, rfl⟩, ⟨rfl, fun i9 w9 q => by simp at q, 0, rfl, by decide, fun i9 w9 q => by simp at q⟩, ⟨Or.inr rfl, Or.inl rfl, fun q => absurd q (by decide), ⟨fun _ => rfl, fun _ => rfl⟩⟩, by decide⟩ (pR_t (Nat.lt_succ_self _)) (Nat.lt_succ_self _)
  rw [va_up_ne _ _ (by omega), va_up_ne _ _ (by omega), va_up_ne _ _ (by omega), va_up_ne _ _ (by omega)]
end K25
