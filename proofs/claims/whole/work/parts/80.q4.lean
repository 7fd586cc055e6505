section Q4
variable {G : gG} {Z : kZ} {I : Nat → Int32} {Ar : Nat → Nat → Int32}
theorem cdP_low {it : Int32} {a : Nat} {F F' : Nat → Int32} (hF : ∀ i, i < 401 → F i = F' i) (h14 : cl (Ar 14 a) < 401) : ∀ p, ∀ i, i < 401 → cdP Ar it a F p i = cdP Ar it a F' p i
  | 0, i, hi => by rw [cdP_0, cdP_0]; exact hF i hi
  | p + 1, i, hi => by
    have ih := cdP_low (it := it) hF h14 p
    rw [cdP_s, cdP_s]
    by_cases e : i = cl (Ar 14 a)
    · rw [e, pk_us, pk_us, ih _ h14]
    · rw [pk_un e, pk_un e]; exact ih i hi
theorem cdL_low {it : Int32} {F F' : Nat → Int32} (hF : ∀ i, i < 401 → F i = F' i) : ∀ n, (∀ a, a < n → cl (Ar 14 a) < 401) → ∀ i, i < 401 → cdL Ar it F n i = cdL Ar it F' n i
  | 0, _, i, hi => by rw [cdL_0, cdL_0]; exact hF i hi
  | n + 1, h, i, hi => by
    rw [cdL_s, cdL_s]
    exact cdP_low (cdL_low hF n (fun a ha => h a (by omega))) (h n (Nat.lt_succ_self n)) _ i hi
theorem rareP_cg {F F' : Nat → Int32} {d : Nat} (h : ∀ i, i ≤ d → F i = F' i) : rareP F d ↔ rareP F' d := by
  have e : cN (fun k => ¬ F k < F d) d = cN (fun k => ¬ F' k < F' d) d := cN_cg d (fun i hi => by rw [h i (by omega), h d (Nat.le_refl d)])
  unfold rareP
  rw [e, h d (Nat.le_refl d)]
theorem waveF_cg {F F' : Nat → Int32} : ∀ n, (∀ i, i < n → F i = F' i) → waveF F n = waveF F' n
  | 0, _ => by rw [waveF_0, waveF_0]
  | n + 1, h => by
    have hr := rareP_cg (d := n) (fun i hi => h i (by omega))
    rw [waveF_s, waveF_s, waveF_cg n (fun i hi => h i (by omega))]
    cases waveF F' n with
    | some x => rfl
    | none =>
      by_cases q : rareP F n
      · simp only [if_pos q, if_pos (hr.mp q)]
      · simp only [if_neg q, if_neg (fun z => q (hr.mpr z))]
theorem tpl_bits (q : Int32) (c : Nat) (hc : c ≤ 12) : q &&& ((nI (2 ^ c) - 1) ^^^ -1) = 0 ↔ q.toBitVec.toNat < 2 ^ c := by
  have h1 : 1 ≤ 2 ^ c := Nat.one_le_two_pow
  have e1 : nI (2 ^ c) - 1 = nI (2 ^ c - 1) := pk_sub h1
  rw [e1]
  have key : ∀ i, (q &&& (nI (2 ^ c - 1) ^^^ -1)).toBitVec.getLsbD i = (q.toBitVec.getLsbD i && (decide (i < 32) && !decide (i < c))) := by
    intro i
    rw [Int32.toBitVec_and, Int32.toBitVec_xor, BitVec.getLsbD_and, BitVec.getLsbD_xor]
    have e2 : (nI (2 ^ c - 1)).toBitVec = BitVec.ofNat 32 (2 ^ c - 1) := rfl
    have e3 : (-1 : Int32).toBitVec = BitVec.allOnes 32 := by decide
    rw [e2, e3, BitVec.getLsbD_allOnes, BitVec.getLsbD_ofNat, Nat.testBit_two_pow_sub_one]
    by_cases h : i < 32 <;> by_cases h3 : i < c <;> simp [h, h3]
  constructor
  · intro h
    apply Nat.lt_pow_two_of_testBit
    intro i hi
    by_cases h32 : i < 32
    · have h4 := key i
      rw [h] at h4
      have e0 : (0 : Int32).toBitVec.getLsbD i = false := by
        show (0#32).getLsbD i = false
        simp
      rw [e0] at h4
      have h5 : q.toBitVec.getLsbD i = false := by
        cases hz : q.toBitVec.getLsbD i with
        | false => rfl
        | true => rw [hz] at h4; simp [h32, show ¬ i < c by omega] at h4
      exact h5
    · exact Nat.testBit_lt_two_pow (Nat.lt_of_lt_of_le q.toBitVec.isLt (Nat.pow_le_pow_right (by decide) (by omega)))
  · intro h
    apply Int32.toBitVec_inj.mp
    apply BitVec.eq_of_getLsbD_eq
    intro i hi
    rw [key]
    have e0 : (0 : Int32).toBitVec.getLsbD i = false := by
      show (0#32).getLsbD i = false
      simp
    rw [e0]
    by_cases h3 : i < c
    · simp [h3]
    · have h5 : q.toBitVec.getLsbD i = false := Nat.testBit_lt_two_pow (Nat.lt_of_lt_of_le h (Nat.pow_le_pow_right (by decide) (by omega)))
      rw [h5]; rfl
theorem tpl_iff (q : Int32) (c : Nat) (hc : c ≤ 12) : (q ≤ 0 ∨ nI (2 ^ c) ≤ q) ↔ (q = 0 ∨ ¬ q &&& ((nI (2 ^ c) - 1) ^^^ -1) = 0) := by
  have h2 : 2 ^ c ≤ 2 ^ 12 := Nat.pow_le_pow_right (by decide) hc
  have h1 : 1 ≤ 2 ^ c := Nat.one_le_two_pow
  rw [tpl_bits q c hc, i32_le, i32_le, nI_toInt (by omega)]
  have e0 : (0 : Int32).toInt = 0 := by decide
  have eq : q.toInt = q.toBitVec.toInt := rfl
  have ez : q = 0 ↔ q.toBitVec.toNat = 0 := by
    constructor
    · rintro rfl; rfl
    · intro h; apply Int32.toBitVec_inj.mp; apply BitVec.eq_of_toNat_eq; rw [h]; rfl
  rw [e0, eq, ez, BitVec.toInt_eq_toNat_cond]
  have hl := q.toBitVec.isLt
  obtain ⟨x, hx⟩ : ∃ x, x = q.toBitVec.toNat := ⟨_, rfl⟩
  rw [← hx] at hl ⊢
  split <;> omega
theorem sN_cg {f g : Nat → Nat} : ∀ n, (∀ k, k < n → f k = g k) → sN f n = sN g n
  | 0, _ => by rw [sN_0, sN_0]
  | n + 1, h => by rw [sN_s, sN_s, sN_cg n (fun k hk => h k (by omega)), h n (Nat.lt_succ_self n)]
theorem kV.n21 (D : kW G Z) (V : kV Z I Ar) : cl (I 21) = Z.nL := by
  have h1 := D.l80; have h2 := D.lx
  rw [V.1.2.1]; exact nI_clamp (by omega)
theorem kV.n11 (D : kW G Z) (V : kV Z I Ar) : cl (I 11) = Z.nC := by
  have h1 := D.c12
  rw [V.1.2.2]; exact nI_clamp (by omega)
theorem kV.n15 (D : kW G Z) (V : kV Z I Ar) {a : Nat} (ha : a < Z.nL) : cl (Ar 15 a) = Z.np a := by
  have h1 := D.p6 a; have h2 := D.lx
  rw [V.2.1 a (by omega)]; exact nI_clamp (by omega)
/-- the days on which points are due -/
def jQ (Z : kZ) (I : Nat → Int32) (Ar : Nat → Nat → Int32) : Prop := ∀ a, a < Z.nX → ∀ p, p < Z.np a → (Ar 22 (6 * a + p) = -1 → Ar 23 (6 * a + p) = -1) ∧ (¬ Ar 22 (6 * a + p) = -1 → ∃ dd : Nat, dd ≤ cl (I 1) + 60 ∧ Ar 23 (6 * a + p) = nI dd)
theorem neg_of {n : Nat} {x : Int32} (h : kN n x) (hn : n ≤ 12) : x < 0 ↔ x = -1 := by
  rcases h with rfl | ⟨c, hc, rfl⟩
  · exact ⟨fun _ => rfl, fun _ => by decide⟩
  · exact ⟨fun q => absurd q (nI_pos (by omega)), fun q => absurd q (nI_ne1 (by omega))⟩
theorem cnt_ic (D : kW G Z) (V : kV Z I Ar) (q : jQ Z I Ar) (h1 : cl (I 1) ≤ 400) {w : Int32} (hw : w = 5 ∨ w = 6 ∨ w = 7) {a p : Nat} (ha : a < Z.nX) (hp : p < Z.np a) : pcP Ar w (6 * a + p) ↔ icP Ar w (6 * a + p) := by
  obtain ⟨q1, q2⟩ := q a ha p hp
  have n22 := neg_of (V.k22 a ha p hp) D.c12
  have n24 : Ar 24 (6 * a + p) < 0 ↔ Ar 24 (6 * a + p) = -1 := ⟨V.k24 a ha p hp, fun e => by rw [e]; decide⟩
  unfold pcP icP
  rcases hw with rfl | rfl | rfl
  · rw [if_pos rfl, if_neg (by decide), if_pos rfl, n22, n24]
    exact ⟨fun z => ⟨z.2, z.1⟩, fun z => ⟨z.2, z.1⟩⟩
  · rw [if_neg (by decide), if_pos rfl, if_neg (by decide), if_neg (by decide), if_pos rfl, n24]
  · rw [if_neg (by decide), if_neg (by decide), if_neg (by decide), if_neg (by decide), if_neg (by decide), n24, n22]
    have e23 : ¬ Ar 22 (6 * a + p) = -1 ↔ ¬ Ar 23 (6 * a + p) = -1 := by
      constructor
      · intro z
        obtain ⟨dd, d1, d2⟩ := q2 z
        rw [d2]; exact nI_ne1 (by omega)
      · intro z y; exact z (q1 y)
    rw [e23, Int32.not_le]
theorem cnt_eq (D : kW G Z) (V : kV Z I Ar) (q : jQ Z I Ar) (h1 : cl (I 1) ≤ 400) {w : Int32} (hw : w = 5 ∨ w = 6 ∨ w = 7) : sN (pcN Ar w) (cl (I 21)) = sN (fun a => cN (fun p => icP Ar w (6 * a + p)) (Z.np a)) Z.nL := by
  have h2 := D.lx
  rw [kV.n21 D V]
  refine sN_cg _ (fun a ha => ?_)
  unfold pcN
  rw [kV.n15 D V ha]
  exact cN_cg _ (fun p hp => cnt_ic D V q h1 hw (by omega) hp)
theorem cnt_4 (D : kW G Z) (V : kV Z I Ar) : sN (fun k => cl (Ar 15 k)) (cl (I 21)) = sN (fun a => cN (fun p => icP Ar 4 (6 * a + p)) (Z.np a)) Z.nL := by
  rw [kV.n21 D V]
  refine sN_cg _ (fun a ha => ?_)
  rw [kV.n15 D V ha]
  have : ∀ n, cN (fun p => icP Ar 4 (6 * a + p)) n = n := fun n => by
    induction n with
    | zero => exact cN_0
    | succ n ih => rw [cN_s, ih, if_pos (by unfold icP; rw [if_pos rfl]; trivial)]
  exact (this _).symm
theorem cnt_3 (D : kW G Z) (V : kV Z I Ar) : cN (fun k => clP Ar k (cl (Ar 15 k))) (cl (I 21)) = cN (fun k => clP Ar k (Z.np k)) Z.nL := by
  rw [kV.n21 D V]
  exact cN_cg _ (fun a ha => by rw [kV.n15 D V ha])
theorem mt_eq (D : kW G Z) (V : kV Z I Ar) {a k0 c : Nat} (hk : Ar 22 k0 = nI c) : sN (mtN Ar a k0) (cl (I 21)) = sN (fun q => cN (fun p => Ar 13 q = Ar 13 a ∧ Ar 22 (6 * q + p) = nI c) (Z.np q)) Z.nL := by
  rw [kV.n21 D V]
  refine sN_cg _ (fun q hq => ?_)
  unfold mtN
  rw [kV.n15 D V hq]
  exact cN_cg _ (fun p hp => by unfold mtP; rw [hk])
theorem an_eq (D : kW G Z) (V : kV Z I Ar) {nt a : Nat} (ha : a < Z.nL) : ansF Ar nt a = anC Ar nt a (Z.np a) := by
  unfold ansF anC; rw [kV.n15 D V ha]
  cases needF Ar a (Z.np a) <;> rfl
/-- a point's words are counted alike -/
theorem wd_eq {Lg : Nat → Nat → Int64} {a p : Nat} (hA : jA Z Ar Lg a) (hp : p < Z.np a) (h6 : Z.np a ≤ 6) : cN (fun v => Ar 20 (60 * a + v) = nI p) (cl (Ar 16 a)) = Z.Sz (3000 + (6 * a + p)) := by
  obtain ⟨B, Lw, ⟨t1, t2, t3⟩, hx⟩ := hA
  rw [(hx p hp).1, t2, show cl (nI Lw.length) = Lw.length from nI_clamp (by omega)]
  unfold ptN
  refine cN_cg _ (fun i hi => ?_)
  have hg := List.getElem?_eq_getElem hi
  obtain ⟨⟨-, -, w3⟩, ⟨-, -, w5⟩, -⟩ := t3 i _ hg
  rw [w3, List.getD_eq_getElem?_getD, hg]
  exact nI_eq (by omega) (by omega)
end Q4
