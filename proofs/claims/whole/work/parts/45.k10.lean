section K10
variable {G : gG} {l : Launch} {h h0 : hW} {Z : kZ} {I : Nat → Int32} {Ar : Nat → Nat → Int32} {T : Nat → Int32} {A : Nat → Nat → Int32} {Lg : Nat → Nat → Int64}
/-- what stands beside the cells: the reference's numbers are the desk's -/
def kV (Z : kZ) (I : Nat → Int32) (Ar : Nat → Nat → Int32) : Prop :=
  (Z.nX = Z.nL ∧ I 21 = nI Z.nL ∧ I 11 = nI Z.nC) ∧ (∀ a, a < Z.nX → Ar 15 a = nI (Z.np a)) ∧
  (∀ a, a < Z.nX → ∀ q, q < Z.np a → kN Z.nC (Ar 22 (6 * a + q)) ∧ (Ar 24 (6 * a + q) < 0 → Ar 24 (6 * a + q) = -1)) ∧
  (∀ c, c < Z.nC → kN c (Ar 2 c) ∧ (Ar 5 c = 0 ∨ Ar 5 c = 1))
theorem kV.k22 (V : kV Z I Ar) : ∀ a, a < Z.nX → ∀ q, q < Z.np a → kN Z.nC (Ar 22 (6 * a + q)) := fun a ha q hq => (V.2.2.1 a ha q hq).1
theorem kV.k24 (V : kV Z I Ar) : ∀ a, a < Z.nX → ∀ q, q < Z.np a → Ar 24 (6 * a + q) < 0 → Ar 24 (6 * a + q) = -1 := fun a ha q hq => (V.2.2.1 a ha q hq).2
theorem kV.k2 (V : kV Z I Ar) : ∀ c, c < Z.nC → kN c (Ar 2 c) := fun c hc => (V.2.2.2 c hc).1
theorem kN.neg {n : Nat} {x : Int32} (h : kN n x) (hn : n < 2 ^ 31) : ¬ x = -1 ↔ 0 ≤ x := by
  rcases h with rfl | ⟨c, hc, rfl⟩
  · exact ⟨fun q => absurd rfl q, fun q => absurd q (by decide)⟩
  · exact ⟨fun _ => nI_pos' (by omega), fun _ => nI_ne1 (by omega)⟩
theorem m_div {a q : Nat} (h : q < 6) : (6 * a + q) / 6 = a := by omega
theorem m_mod {a q : Nat} (h : q < 6) : (6 * a + q) % 6 = q := by omega
theorem isOf_w (D : kW G Z) (V : kV Z I Ar) {d : Int32} {a q : Nat} (ha : a < Z.nX) (hq : q < Z.np a) : isOfP I Ar d (6 * a + q) ↔ wtP Ar d (6 * a + q) := by
  have h6 := D.p6 a
  have h80 := D.l80
  have h12 := D.c12
  unfold isOfP wtP
  rw [m_div (by omega), m_mod (by omega), V.1.2.1, V.2.1 a ha, ← V.1.1]
  have h1 := (nI_ltI (a := a) (b := Z.nX) (by omega) (by omega)).mpr ha
  have h2 := (nI_ltI (a := q) (b := Z.np a) (by omega) (by omega)).mpr hq
  have h3 := (V.k22 a ha q hq).neg (by omega)
  constructor
  · rintro ⟨-, -, q3, q4, q5⟩
    exact ⟨V.k24 a ha q hq q3, h3.mpr q4, q5⟩
  · rintro ⟨q3, q4, q5⟩
    exact ⟨h1, h2, by rw [q3]; decide, h3.mp q4, q5⟩
/-- a point that is -/
def usP (Z : kZ) (m : Nat) : Prop := m / 6 < Z.nX ∧ m % 6 < Z.np (m / 6) ∧ 6 * (m / 6) + m % 6 = m
theorem isOf_u (D : kW G Z) (V : kV Z I Ar) {d : Int32} {m : Nat} (hm : m < 480) (h : isOfP I Ar d m) : usP Z m := by
  obtain ⟨q1, q2, -⟩ := h
  have h80 := D.l80
  have h6 := D.p6 (m / 6)
  rw [V.1.2.1, ← V.1.1] at q1
  have h1 : m / 6 < Z.nX := (nI_ltI (by omega) (by omega)).mp q1
  rw [V.2.1 _ h1] at q2
  exact ⟨h1, (nI_ltI (by omega) (by omega)).mp q2, by omega⟩
theorem isOf_n (D : kW G Z) (V : kV Z I Ar) {d : Int32} {a q : Nat} (hm : 6 * a + q < 480) (hq6 : q < 6) (h : ¬ (a < Z.nX ∧ q < Z.np a)) : ¬ isOfP I Ar d (6 * a + q) := fun z => by
  have := isOf_u D V hm z
  unfold usP at this
  rw [m_div hq6, m_mod hq6] at this
  exact h ⟨this.1, this.2.1⟩
theorem bestF_no {d : Int32} {k : Nat} (h : ¬ isOfP I Ar d k) : bestF I Ar d (k + 1) = bestF I Ar d k := by
  rw [bestF_s]
  cases bestF I Ar d k with
  | none => exact if_neg h
  | some b2x => exact if_neg (fun q => h q.1)
theorem bestF_skip {d : Int32} {k : Nat} : ∀ n, (∀ j, k ≤ j → j < k + n → ¬ isOfP I Ar d j) → bestF I Ar d (k + n) = bestF I Ar d k
  | 0, _ => rfl
  | n + 1, h => by rw [show k + (n + 1) = k + n + 1 from rfl, bestF_no (h _ (by omega) (by omega)), bestF_skip n (fun j a b => h j a (by omega))]
theorem bestF_row (D : kW G Z) (V : kV Z I Ar) {d : Int32} {a : Nat} (ha : a < Z.nX) : bestF I Ar d (6 * a + Z.np a) = bestF I Ar d (6 * (a + 1)) := by
  have h6 := D.p6 a
  have h80 := D.l80
  rw [show 6 * (a + 1) = 6 * a + Z.np a + (6 - Z.np a) by omega]
  refine (bestF_skip (I := I) (Ar := Ar) (d := d) (k := 6 * a + Z.np a) (6 - Z.np a) (fun j h1 h2 => ?_)).symm
  rw [show j = 6 * a + (j - 6 * a) by omega]
  exact isOf_n D V (by omega) (by omega) (fun q => by omega)
theorem bestF_all (D : kW G Z) (V : kV Z I Ar) {d : Int32} : bestF I Ar d (6 * Z.nL) = bestF I Ar d 480 := by
  have h80 := D.l80
  have hX := V.1.1
  rw [show 480 = 6 * Z.nL + (480 - 6 * Z.nL) by omega]
  exact (bestF_skip (I := I) (Ar := Ar) (d := d) (k := 6 * Z.nL) (480 - 6 * Z.nL) (fun j h1 h2 q => by have := (isOf_u D V (by omega) q).1; omega)).symm
theorem mp_ah (D : kW G Z) (V : kV Z I Ar) {m o : Nat} (um : usP Z m) (uo : usP Z o) (hm : ¬ Ar 22 m = -1) (ho : ¬ Ar 22 o = -1) : mpP Ar m o ↔ ¬ ahV Ar m o = 0 := by
  have h5 : ∀ z, usP Z z → ¬ Ar 22 z = -1 → b2 (thP Ar z) = Ar 5 (cl (Ar 22 z)) ∧ (thP Ar z ↔ ¬ Ar 5 (cl (Ar 22 z)) = 0) := by
    intro z uz hz
    have hk := V.k22 _ uz.1 _ uz.2.1
    rw [uz.2.2] at hk
    have e5 : Ar 5 (cl (Ar 22 z)) = 0 ∨ Ar 5 (cl (Ar 22 z)) = 1 := by
      rcases hk with q | ⟨c, hc, q⟩
      · exact absurd q hz
      · have h12 := D.c12
        rw [q, show cl (nI c) = c from nI_clamp (by omega)]
        exact (V.2.2.2 c hc).2
    have e6 : thP Ar z ↔ ¬ Ar 5 (cl (Ar 22 z)) = 0 := ⟨fun q => q.2, fun q => ⟨hz, q⟩⟩
    refine ⟨?_, e6⟩
    rcases e5 with q | q
    · rw [b2_f (fun z2 => e6.mp z2 q), q]
    · rw [b2_t (e6.mpr (by rw [q]; decide)), q]
  obtain ⟨m1, m2⟩ := h5 m um hm
  obtain ⟨o1, o2⟩ := h5 o uo ho
  unfold mpP ahV
  rw [m1, o1]
  by_cases e : Ar 5 (cl (Ar 22 m)) = Ar 5 (cl (Ar 22 o))
  · rw [if_pos e, if_pos e]
    exact ⟨fun q => by rw [b2_t q]; decide, fun q => b2_1.mp (b2_c.resolve_left q)⟩
  · rw [if_neg e, if_neg e]
    exact m2
def bz (Z : kZ) : Option Nat → Option Nat
  | none => none
  | some m => some (Z.da (2000 + m))
theorem bz_s {x : Option Nat} {y : Nat} (h : bz Z x = some y) : ∃ m, x = some m ∧ y = Z.da (2000 + m) := by
  cases x with
  | none => cases h
  | some m => cases h; exact ⟨m, rfl, rfl⟩
theorem bz_n {x : Option Nat} (h : bz Z x = none) : x = none := by
  cases x with
  | none => rfl
  | some m => cases h
theorem kV.up24 (V : kV Z I Ar) {j : Nat} {x : Int32} (hx : ¬ x < 0) : kV Z I (va_up Ar 24 (upd (Ar 24) j x)) := by
  refine ⟨V.1, V.2.1, fun a ha q hq => ⟨V.k22 a ha q hq, fun h => ?_⟩, V.2.2.2⟩
  have h : upd (Ar 24) j x (6 * a + q) < 0 := h
  show upd (Ar 24) j x (6 * a + q) = -1
  by_cases e : 6 * a + q = j
  · rw [e, pk_us] at h; exact absurd h hx
  · rw [pk_un e] at h ⊢; exact V.k24 a ha q hq h
theorem kV.work (V : kV Z I Ar) {d : Int32} (hx : ¬ I 1 < 0) : ∀ n, kV Z I (workN I Ar d n)
  | 0 => by rw [workN_0]; exact V
  | n + 1 => by
    rw [workN_s]
    have := kV.work V (d := d) hx n
    split
    · exact this
    · exact this.up24 hx
theorem workN_stop {d : Int32} {n : Nat} (h : bestF I (workN I Ar d n) d 480 = none) : ∀ k, workN I Ar d (n + k) = workN I Ar d n
  | 0 => rfl
  | k + 1 => by rw [show n + (k + 1) = n + k + 1 from rfl, workN_s, workN_stop h k, h]
theorem lp_X6_firstWaiting_34 {E : gE} (X : Gc G E "ComplaintDesk" cX6_firstWaiting 7 3 0 0) {Q : State → Prop} (D : kW G Z) (V : kV Z I Ar) (d : Int32) (a : Nat) (ha : a < Z.nX) (K : GW G E Q 7 87 [(3, .int (nI a)), (2, va_rf (bz Z (bestF I Ar d (6 * a + Z.np a)))), (0, .ref (Z.da 1)), (1, .int d)] [] (kH G Z I Ar T A Lg h0) 0 0)  : ∀ (f : Nat) (p : Nat), p ≤ Z.np a → Z.np a - p < f → GW G E Q 7 34 [(5, .int (nI p)), (4, .ref (Z.da (1100 + a))), (3, .int (nI a)), (2, va_rf (bz Z (bestF I Ar d ((6 * a + p))))), (0, .ref (Z.da 1)), (1, .int d)] [] (kH G Z I Ar T A Lg h0) 0 0 := by
  intro f
  induction f with
  | zero => intro p hpn hf; exact absurd hf (Nat.not_lt_zero _)
  | succ f ih =>
    intro p hpn hf
    have h80 := D.l80
    have hlx := D.lx
    have h12 := D.c12
    have h6 := D.p6 a
    refine g_iload X dX6_firstWaiting_34 0 rfl ?_
    refine g_aload X dX6_firstWaiting_36 1 rfl ?_
    refine g_cV X ml_X6_92 (k_szQ D ha) ⟨8, _, kLLL D ha, rfl⟩ (Nat.le_of_ble_eq_true rfl) rfl rfl (Nat.le_of_ble_eq_true rfl) (Nat.zero_le _) (Nat.zero_le _) dX6_firstWaiting_38 ?_
    refine g_icmp_ge X 87 dX6_firstWaiting_41 (by decide) (fun c_41 => ?_) (fun c_41 => ?_)
    · have hge : (Z.np a) ≤ p := (nI_leI (by omega) (by omega)).mp c_41
      have epn : p = Z.np a := by omega
      subst epn
      refine g_L [2, 3, 4, 5] (L' := [(3, _), (2, _), (0, _), (1, _)]) rfl ?_
      exact K
    · have hp : p < (Z.np a) := nI_lt_of c_41 (by omega) (by omega)
      refine g_aload X dX6_firstWaiting_44 1 rfl ?_
      refine g_iload X dX6_firstWaiting_46 0 rfl ?_
      refine g_cV X ml_X6_224 (k_getQ D ha hp) ⟨8, _, kLLL D ha, rfl⟩ (Nat.le_of_ble_eq_true rfl) rfl rfl (Nat.le_of_ble_eq_true rfl) (Nat.zero_le _) (Nat.zero_le _) dX6_firstWaiting_48 ?_
      refine g_castO X cl_X6_135 (kLQ D ha hp) rfl dX6_firstWaiting_51 ?_
      refine g_astore X dX6_firstWaiting_54 (Nat.le_of_ble_eq_true rfl) [(6, _), (5, _), (4, _), (3, _), (2, _), (0, _), (1, _)] rfl ?_
      refine g_aload X dX6_firstWaiting_56 0 rfl ?_
      refine g_iload_n X dX6_firstWaiting_58 6 rfl ?_
      refine g_cV X ml_X6_228 (c_X3_isWaitingAt D a p ha hp (V.k22 a ha p hp) d) ⟨3, _, kLQ D ha hp, rfl⟩ (Nat.le_of_ble_eq_true rfl) rfl rfl (Nat.le_of_ble_eq_true rfl) (Nat.zero_le _) (Nat.zero_le _) dX6_firstWaiting_59 ?_
      refine g_if_eq X 81 dX6_firstWaiting_62 (by decide) (fun c_62 => ?_) (fun c_62 => ?_)
      · refine g_iinc X (v := nI (p + 1)) dX6_firstWaiting_81 1 rfl (nI_1 p) (Nat.le_of_ble_eq_true rfl) [(5, _), (6, _), (4, _), (3, _), (2, _), (0, _), (1, _)] rfl ?_
        refine g_goto X 34 dX6_firstWaiting_84 (by decide) ?_
        refine g_L [0, 2, 3, 4, 5, 6] (L' := [(5, _), (4, _), (3, _), (2, _), (0, _), (1, _)]) rfl ?_
        have e1 : bestF I Ar d (6 * a + p + 1) = bestF I Ar d (6 * a + p) := bestF_no (fun q => b2_0.mp c_62 ((isOf_w D V ha hp).mp q))
        refine g_L [0, 1, 2, 3, 4, 5] (L' := [(5, _), (4, _), (3, _), (2, va_rf (bz Z (bestF I Ar d (6 * a + (p + 1))))), (0, _), (1, _)]) (by rw [show 6 * a + (p + 1) = 6 * a + p + 1 from rfl, e1]; rfl) ?_
        exact ih (p + 1) (by omega) (by omega)
      · refine g_aload_nQ X dX6_firstWaiting_65 4 rfl ?_
        refine g_ifnull X 78 dX6_firstWaiting_66 (by decide) rfl (fun c_66 => ?_) (fun y c_66 => ?_)
        · refine g_aload X dX6_firstWaiting_78 0 rfl ?_
          refine g_astore_n X dX6_firstWaiting_80 (Nat.le_of_ble_eq_true rfl) [(2, _), (6, _), (5, _), (4, _), (3, _), (0, _), (1, _)] rfl ?_
          refine g_iinc X (v := nI (p + 1)) dX6_firstWaiting_81 2 rfl (nI_1 p) (Nat.le_of_ble_eq_true rfl) [(5, _), (2, _), (6, _), (4, _), (3, _), (0, _), (1, _)] rfl ?_
          refine g_goto X 34 dX6_firstWaiting_84 (by decide) ?_
          refine g_L [0, 3, 4, 1, 5, 6] (L' := [(5, _), (4, _), (3, _), (2, _), (0, _), (1, _)]) rfl ?_
          have ew : isOfP I Ar d (6 * a + p) := (isOf_w D V ha hp).mpr (b2_1.mp (b2_c.resolve_left c_62))
          have e1 : bestF I Ar d (6 * a + p + 1) = some (6 * a + p) := by
            rw [bestF_s, bz_n c_66]; exact if_pos ew
          refine g_L [0, 1, 2, 3, 4, 5] (L' := [(5, _), (4, _), (3, _), (2, va_rf (bz Z (bestF I Ar d (6 * a + (p + 1))))), (0, _), (1, _)]) (by rw [show 6 * a + (p + 1) = 6 * a + p + 1 from rfl, e1]; rfl) ?_
          exact ih (p + 1) (by omega) (by omega)
        · obtain ⟨bm, hbm, hby⟩ := bz_s c_66
          obtain ⟨hbl, hbo⟩ := bestF_lt hbm
          have hub := isOf_u D V (by omega) hbo
          have hbw : ¬ Ar 22 bm = -1 := by
            have := V.k22 _ hub.1 _ hub.2.1
            rw [hub.2.2] at this
            exact (this.neg (by omega)).mpr hbo.2.2.2.1
          refine g_aload X dX6_firstWaiting_69 0 rfl ?_
          refine g_aload_nQ X dX6_firstWaiting_71 4 rfl ?_
          refine g_st (st' := [.ref (Z.da (2000 + (6 * (bm / 6) + bm % 6))), .ref (Z.da (2000 + (6 * a + p)))]) (by rw [c_66, hby, hub.2.2]; rfl) ?_
          refine g_cV X ml_X6_271 (c_X3_isMorePressing D a p ha hp (V.k22 a ha p hp) (bm / 6) (bm % 6) hub.1 hub.2.1 (V.k22 _ hub.1 _ hub.2.1)) ⟨3, _, kLQ D ha hp, rfl⟩ (Nat.le_of_ble_eq_true rfl) rfl rfl (Nat.le_of_ble_eq_true rfl) (Nat.zero_le _) (Nat.zero_le _) dX6_firstWaiting_72 ?_
          refine g_if_eq X 81 dX6_firstWaiting_75 (by decide) (fun c_75 => ?_) (fun c_75 => ?_)
          · refine g_iinc X (v := nI (p + 1)) dX6_firstWaiting_81 1 rfl (nI_1 p) (Nat.le_of_ble_eq_true rfl) [(5, _), (6, _), (4, _), (3, _), (2, _), (0, _), (1, _)] rfl ?_
            refine g_goto X 34 dX6_firstWaiting_84 (by decide) ?_
            refine g_L [0, 2, 3, 4, 5, 6] (L' := [(5, _), (4, _), (3, _), (2, _), (0, _), (1, _)]) rfl ?_
            have ew : isOfP I Ar d (6 * a + p) := (isOf_w D V ha hp).mpr (b2_1.mp (b2_c.resolve_left c_62))
            have eah := mp_ah D V (m := 6 * a + p) (o := bm) ⟨by rw [m_div (by omega)]; exact ha, by rw [m_div (by omega), m_mod (by omega)]; exact hp, by omega⟩ hub (b2_1.mp (b2_c.resolve_left c_62)).2.1 hbw
            rw [hub.2.2] at c_75
            have e1 : bestF I Ar d (6 * a + p + 1) = bestF I Ar d (6 * a + p) := by
              rw [bestF_s, hbm]; exact if_neg (fun q => b2_0.mp c_75 (eah.mpr q.2))
            refine g_L [0, 1, 2, 3, 4, 5] (L' := [(5, _), (4, _), (3, _), (2, va_rf (bz Z (bestF I Ar d (6 * a + (p + 1))))), (0, _), (1, _)]) (by rw [show 6 * a + (p + 1) = 6 * a + p + 1 from rfl, e1]; rfl) ?_
            exact ih (p + 1) (by omega) (by omega)
          · refine g_aload X dX6_firstWaiting_78 0 rfl ?_
            refine g_astore_n X dX6_firstWaiting_80 (Nat.le_of_ble_eq_true rfl) [(2, _), (6, _), (5, _), (4, _), (3, _), (0, _), (1, _)] rfl ?_
            refine g_iinc X (v := nI (p + 1)) dX6_firstWaiting_81 2 rfl (nI_1 p) (Nat.le_of_ble_eq_true rfl) [(5, _), (2, _), (6, _), (4, _), (3, _), (0, _), (1, _)] rfl ?_
            refine g_goto X 34 dX6_firstWaiting_84 (by decide) ?_
            refine g_L [0, 3, 4, 1, 5, 6] (L' := [(5, _), (4, _), (3, _), (2, _), (0, _), (1, _)]) rfl ?_
            have ew : isOfP I Ar d (6 * a + p) := (isOf_w D V ha hp).mpr (b2_1.mp (b2_c.resolve_left c_62))
            have eah := mp_ah D V (m := 6 * a + p) (o := bm) ⟨by rw [m_div (by omega)]; exact ha, by rw [m_div (by omega), m_mod (by omega)]; exact hp, by omega⟩ hub (b2_1.mp (b2_c.resolve_left c_62)).2.1 hbw
            rw [hub.2.2] at c_75
            have e1 : bestF I Ar d (6 * a + p + 1) = some (6 * a + p) := by
              rw [bestF_s, hbm]; exact if_pos ⟨ew, eah.mp (b2_1.mp (b2_c.resolve_left c_75))⟩
            refine g_L [0, 1, 2, 3, 4, 5] (L' := [(5, _), (4, _), (3, _), (2, va_rf (bz Z (bestF I Ar d (6 * a + (p + 1))))), (0, _), (1, _)]) (by rw [show 6 * a + (p + 1) = 6 * a + p + 1 from rfl, e1]; rfl) ?_
            exact ih (p + 1) (by omega) (by omega)
theorem lp_X6_firstWaiting_4 {E : gE} (X : Gc G E "ComplaintDesk" cX6_firstWaiting 7 3 0 0) (F : gF E M_X6_firstWaiting) (D : kW G Z) (V : kV Z I Ar) (d : Int32)  : ∀ (f : Nat) (a : Nat), a ≤ Z.nL → Z.nL - a < f → GW G E (gMQ G E 0 0 (rX (some (va_rf (bz Z (bestF I Ar d (480))))) (kH G Z I Ar T A Lg h0))) 7 4 [(3, .int (nI a)), (2, va_rf (bz Z (bestF I Ar d (6 * a)))), (0, .ref (Z.da 1)), (1, .int d)] [] (kH G Z I Ar T A Lg h0) 0 0 := by
  intro f
  induction f with
  | zero => intro a haa hf; exact absurd hf (Nat.not_lt_zero _)
  | succ f ih =>
    intro a haa hf
    have h80 := D.l80
    have hlx := D.lx
    have h12 := D.c12
    refine g_iload_n X dX6_firstWaiting_4 0 rfl ?_
    refine g_aload_n X dX6_firstWaiting_5 2 rfl ?_
    refine g_getfield X fl_X6_37 dX6_firstWaiting_6 (kL1 D) rfl ?_
    refine g_cV X ml_X6_92 (k_szL D) ⟨8, _, kL6 D, rfl⟩ (Nat.le_of_ble_eq_true rfl) rfl rfl (Nat.le_of_ble_eq_true rfl) (Nat.zero_le _) (Nat.zero_le _) dX6_firstWaiting_9 ?_
    refine g_icmp_ge X 93 dX6_firstWaiting_12 (by decide) (fun c_12 => ?_) (fun c_12 => ?_)
    · have hge : Z.nL ≤ a := (nI_leI (by omega) (by omega)).mp c_12
      refine g_aload_nQ X dX6_firstWaiting_93 1 rfl ?_
      refine g_aret X F rfl (Or.inl ⟨_, rfl⟩) ref_or dX6_firstWaiting_94 (Nat.zero_le _) (Nat.zero_le _) ?_
      have e1 : a = Z.nL := by omega
      subst e1
      exact ⟨by rw [bestF_all D V], rfl⟩
    · have hla : a < Z.nL := nI_lt_of c_12 (by omega) (by omega)
      refine g_aload_n X dX6_firstWaiting_15 2 rfl ?_
      refine g_getfield X fl_X6_37 dX6_firstWaiting_16 (kL1 D) rfl ?_
      refine g_iload_n X dX6_firstWaiting_19 0 rfl ?_
      refine g_cV X ml_X6_224 (k_getL D hla) ⟨8, _, kL6 D, rfl⟩ (Nat.le_of_ble_eq_true rfl) rfl rfl (Nat.le_of_ble_eq_true rfl) (Nat.zero_le _) (Nat.zero_le _) dX6_firstWaiting_20 ?_
      refine g_castO X cl_X6_120 (kLL D (Nat.lt_of_lt_of_le hla D.lx)) rfl dX6_firstWaiting_23 ?_
      refine g_getfield X fl_X6_155 dX6_firstWaiting_26 (kLL D (Nat.lt_of_lt_of_le hla D.lx)) rfl ?_
      refine g_astore X dX6_firstWaiting_29 (Nat.le_of_ble_eq_true rfl) [(4, _), (3, _), (2, _), (0, _), (1, _)] rfl ?_
      refine g_iconst X (v := 0) dX6_firstWaiting_31 ki_0 ?_
      refine g_istore X dX6_firstWaiting_32 (Nat.le_of_ble_eq_true rfl) [(5, _), (4, _), (3, _), (2, _), (0, _), (1, _)] rfl ?_
      refine g_L [0, 1, 2, 3, 4, 5] (L' := [(5, _), (4, _), (3, _), (2, _), (0, _), (1, _)]) rfl ?_
      refine lp_X6_firstWaiting_34 X D V d a (Nat.lt_of_lt_of_le hla D.lx) ?_ _ 0 (Nat.zero_le _) (Nat.lt_succ_self _)
      refine g_iinc X (v := nI (a + 1)) dX6_firstWaiting_87 0 rfl (nI_1 a) (Nat.le_of_ble_eq_true rfl) [(3, .int (nI (a + 1))), (2, va_rf (bz Z (bestF I Ar d (6 * a + Z.np a)))), (0, .ref (Z.da 1)), (1, .int d)] (by simp [g1, va_rf_cat]) ?_
      refine g_goto X 4 dX6_firstWaiting_90 (by decide) ?_
      refine g_L [0, 1, 2, 3] (L' := [(3, _), (2, va_rf (bz Z (bestF I Ar d (6 * (a + 1))))), (0, _), (1, _)]) (by rw [← bestF_row D V (Nat.lt_of_lt_of_le hla D.lx)]; rfl) ?_
      exact ih (a + 1) (by omega) (by omega)
theorem c_X6_firstWaiting (D : kW G Z) (V : kV Z I Ar) (d : Int32)  : Ct G l 3 0 0 M_X6_firstWaiting [.ref (Z.da 1), .int d] (kH G Z I Ar T A Lg h0) (rX (some (va_rf (bz Z (bestF I Ar d (480))))) (kH G Z I Ar T A Lg h0)) := by
  refine Ct.of (by decide +kernel) (Nat.le_of_ble_eq_true rfl) (fun E hE X F => ?_)
  have X : Gc G E "ComplaintDesk" cX6_firstWaiting 7 3 0 0 := X
  show GW G E _ 7 0 [(0, _), (1, _)] [] _ 0 0
  refine g_null X dX6_firstWaiting_0 ?_
  refine g_astore_nQ X (x := none) dX6_firstWaiting_1 (Nat.le_of_ble_eq_true rfl) [(2, .null), (0, _), (1, _)] rfl ?_
  refine g_iconst X (v := 0) dX6_firstWaiting_2 ki_0 ?_
  refine g_istore_n X dX6_firstWaiting_3 (Nat.le_of_ble_eq_true rfl) [(3, _), (2, _), (0, _), (1, _)] rfl ?_
  refine g_L [0, 1, 2, 3] (L' := [(3, _), (2, _), (0, _), (1, _)]) rfl ?_
  refine g_L [0, 1, 2, 3] (L' := [(3, _), (2, va_rf (bz Z (bestF I Ar d (6 * 0)))), (0, _), (1, _)]) (by rw [show 6 * 0 = 0 from rfl, bestF_0]; rfl) ?_
  exact lp_X6_firstWaiting_4 X F D V d _ 0 (Nat.zero_le _) (Nat.lt_succ_self _)
end K10
