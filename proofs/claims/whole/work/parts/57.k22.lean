section K22
variable {G : gG} {l : Launch} {h h0 : hW} {Z : kZ} {I : Nat → Int32} {Ar : Nat → Nat → Int32} {T : Nat → Int32} {A : Nat → Nat → Int32} {Lg : Nat → Nat → Int64}
/-- a byte that is a small letter -/
def ltr (x : Int32) : Prop := ¬ x < 97 ∧ ¬ 122 < x
theorem dg_ex {x : Int32} (h : ltr x) : ∃ d9 : Nat, 1 ≤ d9 ∧ d9 ≤ 26 ∧ x = nI (d9 + 96) ∧ x - 97 + 1 = nI d9 := by
  obtain ⟨h1, h2⟩ := h
  have h3 : ¬ x < 0 := fun q => h1 (Int32.lt_trans q (by decide))
  obtain ⟨j, hj, rfl⟩ := nI_of2 (M := 122) (n := 122) (by decide) h3 (Int32.not_lt.mp h2)
  have h4 : 97 ≤ j := by
    rcases Nat.lt_or_ge j 97 with q | q
    · exact absurd ((nI_ltI (a := j) (b := 97) (by omega) (by decide)).mpr q) h1
    · exact q
  refine ⟨j - 96, by omega, by omega, by rw [show j - 96 + 96 = j by omega], ?_⟩
  rw [show (97 : Int32) = nI 97 from rfl, pk_sub (by omega), nI_1]
  congr 1; omega
theorem lN_shl {a9 : Nat} (h : a9 < 2 ^ 57) : lN a9 <<< ((5 : Int32).toInt64 &&& 63) = lN (32 * a9) := by
  rw [show ((5 : Int32).toInt64 &&& 63) = (5 : Int64) by decide]
  apply Int64.toBitVec_inj.mp
  apply BitVec.eq_of_toNat_eq
  rw [Int64.toBitVec_shiftLeft, show (BitVec.smod (5 : Int64).toBitVec 64) = 5#64 by decide]
  show (BitVec.shiftLeft _ _).toNat = _
  have e1 : ∀ z : Nat, z < 2 ^ 62 → (lN z).toBitVec.toNat = z := fun z hz => by
    show (BitVec.ofNat 64 z).toNat = z
    rw [BitVec.toNat_ofNat]; exact Nat.mod_eq_of_lt (by omega)
  show ((lN a9).toBitVec <<< (5 : Nat)).toNat = _
  rw [BitVec.toNat_shiftLeft, e1 _ (by omega), e1 _ (by omega), Nat.shiftLeft_eq]
  rw [Nat.mod_eq_of_lt (by omega)]; omega
/-- the code as a number -/
def cdN (B : Nat → Int32) (b : Nat) : Nat → Nat
  | 0 => 0
  | k + 1 => 32 * cdN B b k + cl (B (b + k) - 97 + 1)
termination_by n => n
theorem cdN_0 {B : Nat → Int32} {b : Nat} : cdN B b 0 = 0 := by rw [cdN]
theorem cdN_s {B : Nat → Int32} {b k : Nat} : cdN B b (k + 1) = 32 * cdN B b k + cl (B (b + k) - 97 + 1) := by rw [cdN]
theorem cl_dg {x : Int32} (h : ltr x) : 1 ≤ cl (x - 97 + 1) ∧ cl (x - 97 + 1) ≤ 26 ∧ x = nI (cl (x - 97 + 1) + 96) ∧ x - 97 + 1 = nI (cl (x - 97 + 1)) := by
  obtain ⟨d9, h1, h2, h3, h4⟩ := dg_ex h
  rw [h4, show cl (nI d9) = d9 from nI_clamp (by omega)]
  exact ⟨h1, h2, h3, rfl⟩
theorem cdN_lt {B : Nat → Int32} {b : Nat} : ∀ k, (∀ i, i < k → ltr (B (b + i))) → cdN B b k < 32 ^ k
  | 0, _ => by rw [cdN_0]; decide
  | k + 1, h => by
    have h1 := cdN_lt k (fun i hi => h i (by omega))
    obtain ⟨h2, h3, -⟩ := cl_dg (h k (by omega))
    rw [cdN_s, Nat.pow_succ]; omega
theorem cdW_N {B : Nat → Int32} {b : Nat} : ∀ k, k ≤ 12 → (∀ i, i < k → ltr (B (b + i))) → cdW B b k = lN (cdN B b k)
  | 0, _, _ => by rw [cdW_0, cdN_0]; rfl
  | k + 1, hk, h => by
    have h1 := cdN_lt k (fun i hi => h i (by omega))
    have h5 : (32 : Nat) ^ k ≤ 32 ^ 11 := Nat.pow_le_pow_right (by decide) (by omega)
    obtain ⟨h2, h3, -, h4⟩ := cl_dg (h k (by omega))
    have h6 : cdN B b k < 2 ^ 57 := Nat.lt_of_lt_of_le h1 (Nat.le_trans h5 (by decide))
    rw [cdW_s, cdW_N k (by omega) (fun i hi => h i (by omega)), cdN_s, lN_shl h6]
    have h7 : (B (b + k) - 97 + 1).toInt64 = lN (cl (B (b + k) - 97 + 1)) := by
      rw [h4, show cl (nI (cl (B (b + k) - 97 + 1))) = cl (B (b + k) - 97 + 1) from nI_clamp (by omega)]
      exact nI_l (by omega)
    rw [h7, lN_add]
theorem cdN_inj {B V : Nat → Int32} {b v : Nat} : ∀ m9 n9, (∀ i, i < m9 → ltr (B (b + i))) → (∀ i, i < n9 → ltr (V (v + i))) → cdN B b m9 = cdN V v n9 → m9 = n9 ∧ ∀ i, i < m9 → B (b + i) = V (v + i)
  | 0, 0, _, _, _ => ⟨rfl, fun i hi => absurd hi (Nat.not_lt_zero _)⟩
  | 0, n9 + 1, _, hV, e => by
    obtain ⟨h2, -⟩ := cl_dg (hV n9 (by omega))
    rw [cdN_0, cdN_s] at e; omega
  | m9 + 1, 0, hB, _, e => by
    obtain ⟨h2, -⟩ := cl_dg (hB m9 (by omega))
    rw [cdN_0, cdN_s] at e; omega
  | m9 + 1, n9 + 1, hB, hV, e => by
    obtain ⟨b2', b3, b4, -⟩ := cl_dg (hB m9 (by omega))
    obtain ⟨v2, v3, v4, -⟩ := cl_dg (hV n9 (by omega))
    rw [cdN_s, cdN_s] at e
    obtain ⟨z1, z2⟩ := cdN_inj m9 n9 (fun i hi => hB i (by omega)) (fun i hi => hV i (by omega)) (by omega)
    subst z1
    refine ⟨rfl, fun i hi => ?_⟩
    by_cases hi2 : i = m9
    · subst hi2
      rw [b4, v4, show cl (B (b + i) - 97 + 1) = cl (V (v + i) - 97 + 1) by omega]
    · exact z2 i (by omega)
theorem lN_inj {a9 b9 : Nat} (ha : a9 < 2 ^ 63) (hb : b9 < 2 ^ 63) : lN a9 = lN b9 ↔ a9 = b9 := pk_lEQ ha hb
theorem p12 {k : Nat} (hk : k ≤ 12) : (32 : Nat) ^ k < 2 ^ 63 := Nat.lt_of_le_of_lt (Nat.pow_le_pow_right (by decide) hk) (by decide)
/-- two words' codes are one just when the words are -/
theorem cdW_inj {B V : Nat → Int32} {b v m9 n9 : Nat} (hm : m9 ≤ 12) (hn : n9 ≤ 12) (hB : ∀ i, i < m9 → ltr (B (b + i))) (hV : ∀ i, i < n9 → ltr (V (v + i))) : cdW B b m9 = cdW V v n9 ↔ (m9 = n9 ∧ ∀ i, i < m9 → B (b + i) = V (v + i)) := by
  rw [cdW_N m9 hm hB, cdW_N n9 hn hV, lN_inj (Nat.lt_trans (cdN_lt m9 hB) (p12 hm)) (Nat.lt_trans (cdN_lt n9 hV) (p12 hn))]
  constructor
  · exact cdN_inj m9 n9 hB hV
  · rintro ⟨rfl, h⟩
    have : ∀ k, k ≤ m9 → cdN B b k = cdN V v k := by
      intro k
      induction k with
      | zero => intro _; rw [cdN_0, cdN_0]
      | succ k ih => intro hk; rw [cdN_s, cdN_s, ih (by omega), h k (by omega)]
    exact this _ (Nat.le_refl _)
theorem cdW_pos {B : Nat → Int32} {b m9 : Nat} (h0 : 0 < m9) (hm : m9 ≤ 12) (hB : ∀ i, i < m9 → ltr (B (b + i))) : ¬ cdW B b m9 = 0 := by
  intro q
  have := (cdW_inj (V := B) (v := b) hm (Nat.zero_le 12) hB (fun i hi => absurd hi (Nat.not_lt_zero _))).mp (q.trans cdW_0.symm)
  omega
theorem fin_l {B : Nat → Int32} {N b : Nat} : ∀ i, i < fin B N b - b → ltr (B (b + i)) := fun i hi => by
  have hi2 : i < skp 97 122 B N b - b := hi
  exact (skp_all (lo := 97) (hi := 122) (B := B) (N := N) _ b (Nat.lt_succ_self _) (b + i) (by omega) (by omega)).2
theorem atP_fin {B : Nat → Int32} {N b : Nat} (hb : b ≤ N) : atP B N b 97 122 ↔ ¬ fin B N b = b := by
  constructor
  · intro h q; have := (nxE_w h).2; omega
  · intro h
    apply Classical.byContradiction
    intro q
    exact h (skp_f q)
/-- a thing has no code just when it is no word that a pattern may have -/
theorem cdT_0 {B : Nat → Int32} {N b : Nat} (hb : b ≤ N) : cdT B N b = 0 ↔ (fin B N b = b ∨ 12 < fin B N b - b) := by
  unfold cdT
  by_cases h : atP B N b 97 122
  · obtain ⟨h1, h2⟩ := nxE_w h
    rw [h1]
    by_cases h3 : fin B N b - b ≤ 12
    · rw [if_pos ⟨h, h3⟩]
      exact ⟨fun q => absurd q (cdW_pos (by omega) h3 fin_l), fun q => by omega⟩
    · rw [if_neg (fun q => h3 q.2)]
      exact ⟨fun _ => Or.inr (by omega), fun _ => rfl⟩
  · rw [if_neg (fun q => h q.1)]
    exact ⟨fun _ => Or.inl (Classical.not_not.mp (fun z => h ((atP_fin hb).mpr z))), fun _ => rfl⟩
/-- the codes of and, or, not -/
def sgC (i : Nat) : Int64 := cdW (sCh i) 0 (sLn i)
theorem sgL : ∀ i : Nat, i < 3 → sLn i ≤ 12 ∧ 0 < sLn i ∧ ∀ k : Nat, k < 3 → k < sLn i → (¬ sCh i k < 97 ∧ ¬ 122 < sCh i k) := by decide +kernel
theorem cdT_sg {B : Nat → Int32} {N b i : Nat} (hb : b ≤ N) (hi : i < 3) : cdT B N b = sgC i ↔ isW B b (fin B N b) i := by
  obtain ⟨s1, s2, s3⟩ := sgL i hi
  have s4 : sLn i ≤ 3 := by
    have : ∀ z : Nat, z < 3 → sLn z ≤ 3 := by decide +kernel
    exact this i hi
  have hV : ∀ k, k < sLn i → ltr (sCh i (0 + k)) := fun k hk => by rw [Nat.zero_add]; exact s3 k (by omega) hk
  by_cases h : fin B N b = b ∨ 12 < fin B N b - b
  · rw [(cdT_0 hb).mpr h]
    constructor
    · intro q; exact absurd q.symm (cdW_pos s2 s1 hV)
    · intro q; have := q.1; omega
  · have hne : ¬ fin B N b = b := fun q => h (Or.inl q)
    have hat := (atP_fin hb).mpr hne
    obtain ⟨h1, h2⟩ := nxE_w hat
    have e : cdT B N b = cdW B b (fin B N b - b) := by
      unfold cdT; rw [h1, if_pos ⟨hat, by omega⟩]
    rw [e]
    unfold sgC
    rw [cdW_inj (by omega) s1 fin_l hV]
    unfold isW
    constructor
    · rintro ⟨z1, z2⟩
      exact ⟨z1, fun k hk => by have := z2 k (by omega); rw [Nat.zero_add] at this; exact this⟩
    · rintro ⟨z1, z2⟩
      exact ⟨z1, fun k hk => by rw [Nat.zero_add]; exact z2 k (by omega)⟩
theorem sgC_v : sgC 0 = 1476 ∧ sgC 1 = 498 ∧ sgC 2 = 14836 := by
  have h : ∀ i, i < 3 → sgC i = lN (cdN (sCh i) 0 (sLn i)) := fun i hi => by
    obtain ⟨s1, s2, s3⟩ := sgL i hi
    have s4 : sLn i ≤ 3 := by
      have : ∀ z : Nat, z < 3 → sLn z ≤ 3 := by decide +kernel
      exact this i hi
    exact cdW_N _ s1 (fun k hk => by rw [Nat.zero_add]; exact s3 k (by omega) hk)
  refine ⟨?_, ?_, ?_⟩
  · rw [h 0 (by decide), show sLn 0 = 2 + 1 from rfl, cdN_s, show (2 : Nat) = 1 + 1 from rfl, cdN_s, show (1 : Nat) = 0 + 1 from rfl, cdN_s, cdN_0]; decide +kernel
  · rw [h 1 (by decide), show sLn 1 = 1 + 1 from rfl, cdN_s, show (1 : Nat) = 0 + 1 from rfl, cdN_s, cdN_0]; decide +kernel
  · rw [h 2 (by decide), show sLn 2 = 2 + 1 from rfl, cdN_s, show (2 : Nat) = 1 + 1 from rfl, cdN_s, show (1 : Nat) = 0 + 1 from rfl, cdN_s, cdN_0]; decide +kernel
end K22
