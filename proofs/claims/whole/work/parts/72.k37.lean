section K37
variable {G : gG} {l : Launch} {h h0 : hW} {Z : kZ} {I : Nat → Int32} {Ar : Nat → Nat → Int32} {T : Nat → Int32} {A : Nat → Nat → Int32} {Lg : Nat → Nat → Int64}
/-- a letter's words of one part: is x the code of one; how many are they -/
def ptW (B : Nat → Int32) (Lw : List lW) (p : Nat) (x : Int64) : Prop := ∃ (i : Nat) (w : lW), Lw[i]? = some w ∧ w.2.2 = p ∧ cdV B w.1 w.2.1 = x
def ptN (Lw : List lW) (p : Nat) : Nat := cN (fun i => (Lw.getD i (0, 0, 0)).2.2 = p) Lw.length
theorem cN_cg {P1 P2 : Nat → Prop} [DecidablePred P1] [DecidablePred P2] : ∀ n, (∀ i, i < n → (P1 i ↔ P2 i)) → cN P1 n = cN P2 n
  | 0, _ => by rw [cN_0, cN_0]
  | n + 1, h => by
    rw [cN_s, cN_s, cN_cg n (fun i hi => h i (by omega))]
    by_cases e : P1 n
    · rw [if_pos e, if_pos ((h n (by omega)).mp e)]
    · rw [if_neg e, if_neg (fun z => e ((h n (by omega)).mpr z))]
theorem told_pt {B : Nat → Int32} {Lw : List lW} (hW : kLsW B T A Lg Lw) (hm : Lw.Pairwise (fun a b => a.2.2 ≤ b.2.2)) (hc : ∀ w ∈ Lw, w.2.2 < 6) {p : Nat} (hp : p < 6) :
    toW (A 14) Lw.length (nI p) - frW (A 14) Lw.length (nI p) = ptN Lw p ∧ ∀ x, (∃ j, j < toW (A 14) Lw.length (nI p) - frW (A 14) Lw.length (nI p) ∧ Lg 13 (frW (A 14) Lw.length (nI p) + j) = x) ↔ ptW B Lw p x := by
  have gd : ∀ i (hi : i < Lw.length), Lw.getD i (0, 0, 0) = Lw[i] := fun i hi => by rw [List.getD_eq_getElem?_getD, List.getElem?_eq_getElem hi]; rfl
  have hg : ∀ i, i < Lw.length → A 14 i = nI (Lw.getD i (0, 0, 0)).2.2 ∧ (Lw.getD i (0, 0, 0)).2.2 < 1000 := fun i hi => by
    rw [gd i hi]
    have := hc _ (List.getElem_mem hi)
    exact ⟨(hW.2 i _ (List.getElem?_eq_getElem hi)).2, by omega⟩
  have hs : ∀ i j, i ≤ j → j < Lw.length → (Lw.getD i (0, 0, 0)).2.2 ≤ (Lw.getD j (0, 0, 0)).2.2 := fun i j hij hj => by
    rw [gd i (by omega), gd j hj]
    rcases Nat.lt_or_ge i j with q | q
    · exact List.pairwise_iff_getElem.mp hm i j (by omega) hj q
    · have : i = j := by omega
      subst this; exact Nat.le_refl _
  have hf1 : frW (A 14) Lw.length (nI p) ≤ Lw.length := skw_le1 (Nat.zero_le _)
  have hf2 : frW (A 14) Lw.length (nI p) ≤ toW (A 14) Lw.length (nI p) := skw_ge1 hf1
  have hf3 : toW (A 14) Lw.length (nI p) ≤ Lw.length := skw_le1 hf1
  have key := fun i hi => run_iff (f := A 14) (n := Lw.length) (p := p) (g := fun i => (Lw.getD i (0, 0, 0)).2.2) (by omega) hg hs i hi
  have kp : ∀ i, i < Lw.length → (A 14 i = nI p ↔ (Lw.getD i (0, 0, 0)).2.2 = p) := fun i hi => by
    obtain ⟨z1, z2⟩ := hg i hi
    rw [z1]; exact nI_eq (by omega) (by omega)
  constructor
  · refine (cN_iv hf2 Lw.length hf3 (fun i hi => ?_)).symm
    rw [← kp i hi]; exact (key i hi).symm
  · intro x
    constructor
    · rintro ⟨j, hj, hx⟩
      have hi : frW (A 14) Lw.length (nI p) + j < Lw.length := by omega
      have h1 := (key _ hi).mp ⟨by omega, by omega⟩
      refine ⟨_, _, List.getElem?_eq_getElem hi, ?_, ?_⟩
      · have := (kp _ hi).mp h1; rw [gd _ hi] at this; exact this
      · rw [← hx]; exact ((hW.2 _ _ (List.getElem?_eq_getElem hi)).1).symm
    · rintro ⟨i, w, hw, h1, h2⟩
      have hi : i < Lw.length := by
        rcases Nat.lt_or_ge i Lw.length with q | q
        · exact q
        · rw [List.getElem?_eq_none q] at hw; cases hw
      have e1 : Lw[i] = w := by rw [List.getElem?_eq_getElem hi] at hw; exact Option.some.inj hw
      have h3 := (key i hi).mpr ((kp i hi).mpr (by rw [gd i hi, e1]; exact h1))
      refine ⟨i - frW (A 14) Lw.length (nI p), by omega, ?_⟩
      rw [show frW (A 14) Lw.length (nI p) + (i - frW (A 14) Lw.length (nI p)) = i by omega, (hW.2 i w hw).1]; exact h2
/-- off the desk -/
theorem kH_at0 {b : Nat} (hj : Z.jx b = 0) : kH G Z I Ar T A Lg h0 b = h0 b := by unfold kH oH; rw [if_pos hj]
theorem kH_off {q : Nat} {x : va_E} (hj : Z.jx q = 0) : hup (kH G Z I Ar T A Lg h0) q x = kH G Z I Ar T A Lg (hup h0 q x) := by
  funext b
  unfold hup kH oH
  by_cases hb : b = q
  · subst hb; rw [if_pos rfl, if_pos hj]; exact (if_pos rfl).symm
  · rw [if_neg hb]
    by_cases h1 : Z.jx b = 0
    · rw [if_pos h1, if_pos h1]; exact (if_neg hb).symm
    · rw [if_neg h1, if_neg h1]
theorem hup_id {q : Nat} {x : va_E} (hq : h q = some x) : hup h q x = h := by
  funext b
  unfold hup
  by_cases hb : b = q
  · rw [if_pos hb, hb, hq]
  · rw [if_neg hb]
theorem kRY.cg {Z1 : kZ} {Lg1 : Nat → Nat → Int64} {Ar1 : Nat → Nat → Int32} {c a p n : Nat} {gw : Nat → Int64} (hr : kRY Z Ar Lg c a p n gw) (h1 : Z1.Sz (300 + c) = Z.Sz (300 + c)) (h2 : Lg1 (300 + c) = Lg (300 + c)) (ho : ∀ j, j ≠ 22 → j ≠ 23 → j ≠ 24 → Ar1 j = Ar j) : kRY Z1 Ar1 Lg1 c a p n gw := fun i hi => by
  unfold hwP hwK smP
  rw [h2, ho 16 (by decide) (by decide) (by decide), ho 20 (by decide) (by decide) (by decide), ho 19 (by decide) (by decide) (by decide), ho 18 (by decide) (by decide) (by decide), ho 8 (by decide) (by decide) (by decide), ho 17 (by decide) (by decide) (by decide), ho 7 (by decide) (by decide) (by decide)]
  exact hr i (by rw [← h1]; exact hi)
theorem kRP.cg2 {Z1 : kZ} {T1 : Nat → Int32} {A1 : Nat → Nat → Int32} {Ar1 : Nat → Nat → Int32} {c : Nat} (hr : kRP Z Ar T A c) (h1 : Z1.Sz (300 + c) = Z.Sz (300 + c)) (h2 : T1 (200 + c) = T (200 + c)) (h3 : A1 (400 + c) = A (400 + c)) (ho : ∀ j, j ≠ 22 → j ≠ 23 → j ≠ 24 → Ar1 j = Ar j) : kRP Z1 Ar1 T1 A1 c := fun i hi => by
  rw [h2, h3, ho 10 (by decide) (by decide) (by decide), ho 9 (by decide) (by decide) (by decide)]
  exact hr i (by rw [← h1]; exact hi)
/-- putting a point that is in no list, and has no cause -/
theorem c_X3_putTo_y (D : kW G Z) (y yj : Nat) (x du an cm : Int32) (hx : kN Z.nC x) (hy : kH G Z I Ar T A Lg h0 y = some (ob 3 [.ref yj, .null, .int du, .int an])) : Ct G l 0 0 0 M_X3_putTo [.ref y, va_rf (cz Z x), .int cm] (kH G Z I Ar T A Lg h0) (rX (some (.int (b2 (¬ x = -1)))) (hup (kH G Z I Ar T A Lg h0) y (ob 3 [.ref yj, va_rf (cz Z x), .int (if x = -1 then du else cm + Ar 4 (cl x)), .int an]))) := by
  have h12 := D.c12
  rcases hx with rfl | ⟨c, hc, rfl⟩
  · rw [cz_n, if_pos rfl, show va_rf none = Value.null from rfl, hup_id hy, b2_f (fun q => q rfl)]
    exact c_X3_putTo_yn y yj du an cm hy
  · rw [cz_s (by omega), if_neg (nI_ne1 (by omega)), b2_t (nI_ne1 (by omega)), show cl (nI c) = c from nI_clamp (by omega)]
    exact c_X3_putTo_ys y yj _ du an cm _ _ _ _ _ _ hy (kLC D hc) (fun e => by have := kLC (I := I) (Ar := Ar) (T := T) (A := A) (Lg := Lg) (h0 := h0) D hc; rw [e, hy] at this; cases this)
theorem c_X1_init (q : Nat) (yb td : Int32) (hq : h q = some (ob 1 [.int 0, .int 0, .null]))  : Ct G l 4 1 3 M_X1_init [.ref q, .int yb, .int td] h (fun v h' => v = none ∧ ∃ qk : Nat, h qk = none ∧ qk ≠ q ∧ h' q = some (ob 1 [.int yb, .int td, .ref qk]) ∧ h' qk = some (ob 8 [.int 0, .ref (G.2.2.2.1 3), .int 0]) ∧ ∀ b, b ≠ q → b ≠ qk → h' b = h b) := by
  refine Ct.of (by decide +kernel) (Nat.le_of_ble_eq_true rfl) (fun E hE X F => ?_)
  have X : Gc G E "ComplaintDesk$Letter" cX1_init 3 4 1 3 := X
  show GW G E _ 3 0 [(0, _), (1, _), (2, _)] [] _ 0 0
  refine g_aload_n X dX1_init_0 0 rfl ?_
  refine g_objI X ol_X1_3 (Nat.le_of_ble_eq_true rfl) (Nat.le_of_ble_eq_true rfl) dX1_init_1 ?_
  refine g_aload_n X dX1_init_4 0 rfl ?_
  refine g_new X ck8 cl_X1_9 ins_8 ini_8 [.int 0, .null, .int 0] (fun j9 hj9 => by match j9, hj9 with | 0, _ => rfl | 1, _ => rfl | 2, _ => rfl | z9 + 3, hj9 => exact absurd hj9 (by omega)) dX1_init_5 (by omega) (by omega) (fun qk h_qk hg_qk => ?_)
  have n1 : q ≠ qk := fun e => by rw [e, h_qk] at hq; cases hq
  refine g_dup X dX1_init_8 rfl ?_
  refine g_cI0 X ml_X1_11 rfl (c_Jx4a65c_init_da8c8 qk hup_s) (Nat.le_of_ble_eq_true rfl) rfl rfl (Nat.le_of_ble_eq_true rfl) (Nat.le_of_ble_eq_true rfl) (Nat.le_of_ble_eq_true rfl) dX1_init_9 ?_
  refine g_h (h' := hup h qk (ob 8 [.int 0, .ref (G.2.2.2.1 3), .int 0])) hup_up ?_
  refine g_putfieldF X (F).2.1 fp_X1_12 dX1_init_12 ((hup_n n1).trans hq) (Nat.le_of_ble_eq_true rfl) rfl rfl _ rfl ?_
  refine g_aload_n X dX1_init_15 0 rfl ?_
  refine g_iload_n X dX1_init_16 1 rfl ?_
  refine g_putfieldF X (F).2.1 fp_X1_18 dX1_init_17 hup_s (Nat.le_of_ble_eq_true rfl) rfl rfl _ rfl ?_
  refine g_aload_n X dX1_init_20 0 rfl ?_
  refine g_iload_n X dX1_init_21 2 rfl ?_
  refine g_putfieldF X (F).2.1 fp_X1_22 dX1_init_22 hup_s (Nat.le_of_ble_eq_true rfl) rfl rfl _ rfl ?_
  refine g_ret0 X F rfl dX1_init_25 (Nat.le_of_ble_eq_true rfl) (Nat.le_of_ble_eq_true rfl) ?_
  refine ⟨rfl, qk, h_qk, n1.symm, ?_, ?_, fun b b1 b2 => ?_⟩
  · rw [hup_s]; rfl
  · rw [hup_n n1.symm, hup_n n1.symm, hup_n n1.symm, hup_s]
  · rw [hup_n b1, hup_n b1, hup_n b1, hup_n b2]
end K37
