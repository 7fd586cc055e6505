section Q3
variable {I : Nat → Int32} {Ar : Nat → Nat → Int32}
theorem cN_or {P1 P2 P3 : Nat → Prop} [DecidablePred P1] [DecidablePred P2] [DecidablePred P3] : ∀ n, (∀ i, i < n → (P1 i ↔ P2 i ∨ P3 i) ∧ ¬ (P2 i ∧ P3 i)) → cN P1 n = cN P2 n + cN P3 n
  | 0, _ => by rw [cN_0, cN_0, cN_0]
  | n + 1, h => by
    obtain ⟨h1, h2⟩ := h n (Nat.lt_succ_self n)
    rw [cN_s, cN_s, cN_s, cN_or n (fun i hi => h i (by omega))]
    by_cases z2 : P2 n
    · have z3 : ¬ P3 n := fun q => h2 ⟨z2, q⟩
      rw [if_pos (h1.mpr (Or.inl z2)), if_pos z2, if_neg z3]; omega
    · by_cases z3 : P3 n
      · rw [if_pos (h1.mpr (Or.inr z3)), if_neg z2, if_pos z3]; omega
      · rw [if_neg (fun q => (h1.mp q).elim z2 z3), if_neg z2, if_neg z3]; omega
theorem cN_no {P1 : Nat → Prop} [DecidablePred P1] : ∀ n, (∀ i, i < n → ¬ P1 i) → cN P1 n = 0
  | 0, _ => cN_0
  | n + 1, h => by rw [cN_s, cN_no n (fun i hi => h i (by omega)), if_neg (h n (Nat.lt_succ_self n))]
/-- what is due on day e, of the first n points -/
abbrev dqP (I : Nat → Int32) (Ar : Nat → Nat → Int32) (d : Int32) (e k : Nat) : Prop := isOfP I Ar d k ∧ cl (Ar 23 k) = e
abbrev stq (t H e a c : Nat) : Nat := if t < e then min (a + c) (max a (H * (e - t))) else a
theorem bm_small {x : Int} (h1 : -100000 ≤ x) (h2 : x ≤ 100000) : x.bmod (2 ^ 32) = x := by
  unfold Int.bmod
  dsimp only
  rw [show ((2 ^ 32 : Nat) : Int) = 4294967296 from rfl]
  split <;> omega
theorem nonp {A e t H : Nat} (hA : A < 2 ^ 31) (he : e ≤ 460) (ht : t ≤ 400) (hH : H ≤ 20) (het : e ≤ t) : ¬ nI A < nI H * (nI e - nI t) := by
  intro q
  rw [i32_lt, nI_toInt hA, Int32.toInt_mul, nI_toInt (by omega), pk_sub_toInt (by omega) (by omega)] at q
  have h1 : H * (t - e) ≤ 20 * 400 := Nat.mul_le_mul hH (by omega)
  have h2 : (H : Int) * ((e : Int) - t) = -((H * (t - e) : Nat) : Int) := by
    rw [show ((e : Int) - t) = -((t - e : Nat) : Int) by omega, Int.mul_neg, Int.natCast_mul]
  rw [h2, bm_small (by omega) (by omega)] at q
  omega
theorem ltK_v {d t H e a b0 : Nat} (hd : d < 4) (hI : I 1 = nI t) (ht : t ≤ 400) (hH : Ar 12 d = nI H) (hH2 : H ≤ 20) (he : e ≤ 460) (ha : a ≤ 1000000) (hdue : ∀ k, k < 480 → isOfP I Ar (nI d) k → ∃ dd, dd ≤ t + 60 ∧ Ar 23 k = nI dd) : ∀ n, n ≤ 480 → ltK I Ar (nI d) (nI e) (nI a, nI b0) n = (nI (stq t H e a (cN (dqP I Ar (nI d) e) n)), nI (b0 + cN (dqP I Ar (nI d) e) n))
  | 0, _ => by
    rw [ltK_0, cN_0]
    unfold stq
    split
    · rw [Nat.add_zero, Nat.add_zero, Nat.min_eq_left (Nat.le_max_left _ _)]
    · rw [Nat.add_zero]
  | n + 1, hn => by
    rw [ltK_s, ltK_v hd hI ht hH hH2 he ha hdue n (by omega), cN_s]
    obtain ⟨cc, hcc⟩ : ∃ cc, cc = cN (dqP I Ar (nI d) e) n := ⟨_, rfl⟩
    have hc5 : cc ≤ 480 := by rw [hcc]; exact Nat.le_trans (cN_le _ n) (by omega)
    rw [← hcc]
    unfold ltS
    have hM : H * (e - t) ≤ 20 * 460 := Nat.mul_le_mul hH2 (by omega)
    by_cases hq : dqP I Ar (nI d) e n
    · obtain ⟨dd, h1, h2⟩ := hdue n (by omega) hq.1
      have h3 : dd = e := by have := hq.2; rw [h2, show cl (nI dd) = dd from nI_clamp (by omega)] at this; exact this
      rw [if_pos ⟨hq.1, by rw [h2, h3]⟩, if_pos hq]
      have e12 : Ar 12 (cl (nI d)) = nI H := by rw [show cl (nI d) = d from nI_clamp (by omega)]; exact hH
      rw [e12, hI]
      refine Prod.ext ?_ (nI_1 (b0 + cc))
      show nI (stq t H e a cc) + (if nI (stq t H e a cc) < nI H * (nI e - nI t) then 1 else 0) = nI (stq t H e a (cc + 1))
      by_cases het : t < e
      · unfold stq
        rw [if_pos het, if_pos het, pk_sub (Nat.le_of_lt het), pk_mul]
        obtain ⟨M, hMM⟩ : ∃ M, M = H * (e - t) := ⟨_, rfl⟩
        rw [← hMM] at hM ⊢
        by_cases hlt : min (a + cc) (max a M) < M
        · rw [if_pos ((nI_ltI (by omega) (by omega)).mpr hlt), nI_1]
          congr 1; omega
        · rw [if_neg (fun q => hlt ((nI_ltI (by omega) (by omega)).mp q))]
          show nI _ + nI 0 = _
          rw [nI_add]; congr 1; omega
      · unfold stq
        rw [if_neg het, if_neg het, if_neg (nonp (by omega) he ht hH2 (by omega))]
        show nI _ + nI 0 = _
        rw [nI_add]; rfl
    · rw [if_neg hq, if_neg (fun q => hq ⟨q.1, by rw [q.2]; exact nI_clamp (by omega)⟩), Nat.add_zero]
def lqK (N : Nat → Nat) (t H : Nat) : Nat → Nat
  | 0 => 0
  | e + 1 => stq t H e (lqK N t H e) (N e)
termination_by n => n
theorem lqK_0 {N : Nat → Nat} {t H : Nat} : lqK N t H 0 = 0 := by rw [lqK]
theorem lqK_s {N : Nat → Nat} {t H e : Nat} : lqK N t H (e + 1) = stq t H e (lqK N t H e) (N e) := by rw [lqK]
theorem lqK_le {N : Nat → Nat} {t H : Nat} (hN : ∀ e, N e ≤ 480) : ∀ e, lqK N t H e ≤ e * 480
  | 0 => by rw [lqK_0]; exact Nat.zero_le _
  | e + 1 => by
    have h1 := lqK_le (t := t) (H := H) hN e
    have h2 := hN e
    rw [lqK_s]
    unfold stq
    split
    · exact Nat.le_trans (Nat.min_le_left _ _) (by rw [Nat.succ_mul]; exact Nat.add_le_add h1 h2)
    · exact Nat.le_trans h1 (Nat.mul_le_mul_right 480 (Nat.le_succ e))
theorem ltD_v {d t H : Nat} (hd : d < 4) (hI : I 1 = nI t) (ht : t ≤ 400) (hH : Ar 12 d = nI H) (hH2 : H ≤ 20) (hdue : ∀ k, k < 480 → isOfP I Ar (nI d) k → ∃ dd, dd ≤ t + 60 ∧ Ar 23 k = nI dd) : ∀ e, e ≤ 461 → ltD I Ar (nI d) 480 e = (nI (lqK (fun e => cN (dqP I Ar (nI d) e) 480) t H e), nI (cN (fun k => isOfP I Ar (nI d) k ∧ cl (Ar 23 k) < e) 480))
  | 0, _ => by
    rw [ltD_0, lqK_0, cN_no _ (fun i _ q => absurd q.2 (Nat.not_lt_zero _))]; rfl
  | e + 1, he => by
    have hle := lqK_le (N := fun e => cN (dqP I Ar (nI d) e) 480) (t := t) (H := H) (fun e => cN_le _ _) e
    rw [ltD_s, ltD_v hd hI ht hH hH2 hdue e (by omega), ltK_v hd hI ht hH hH2 (by omega) (by omega) hdue 480 (Nat.le_refl _), lqK_s]
    refine Prod.ext rfl ?_
    show nI _ = nI _
    congr 1
    exact (cN_or 480 (fun i _ => ⟨⟨fun q => by
      by_cases z : cl (Ar 23 i) < e
      · exact Or.inl ⟨q.1, z⟩
      · exact Or.inr ⟨q.1, by have := q.2; omega⟩, fun q => by
      rcases q with q | q
      · exact ⟨q.1, by have := q.2; omega⟩
      · exact ⟨q.1, by have := q.2; omega⟩⟩, fun q => by have h1 := q.1.2; have h2 := q.2.2; omega⟩)).symm
theorem fdK_v {d t : Nat} {F0 : Nat → Int32} (hI : I 1 = nI t) (ht : t ≤ 400) (hF : ∀ x, x < 61 → F0 x = 0) (hdue : ∀ k, k < 480 → isOfP I Ar (nI d) k → ∃ dd, dd ≤ t + 60 ∧ Ar 23 k = nI dd) : ∀ n, n ≤ 480 → ∀ x, 1 ≤ x → x ≤ 60 → fdK I Ar (nI d) F0 n x = nI (cN (dqP I Ar (nI d) (t + x)) n)
  | 0, _, x, _, h2 => by rw [fdK_0, cN_0, hF x (by omega)]; rfl
  | n + 1, hn, x, h1, h2 => by
    have ih := fdK_v hI ht hF hdue n (by omega)
    rw [fdK_s, cN_s]
    by_cases hq : isOfP I Ar (nI d) n
    · obtain ⟨dd, e1, e2⟩ := hdue n (by omega) hq
      have ecl : cl (Ar 23 n) = dd := by rw [e2]; exact nI_clamp (by omega)
      by_cases hlt : t < dd
      · have e3 : Ar 23 n - I 1 = nI (dd - t) := by rw [e2, hI]; exact pk_sub (Nat.le_of_lt hlt)
        rw [if_pos ⟨hq, by rw [e3]; exact (nI_ltI (a := 0) (by decide) (by omega)).mpr (by omega), by rw [e3]; exact (nI_ltI (b := 61) (by omega) (by decide)).mpr (by omega)⟩, e3, show cl (nI (dd - t)) = dd - t from nI_clamp (by omega)]
        by_cases hx : x = dd - t
        · rw [hx, pk_us, ih _ (by omega) (by omega), if_pos ⟨hq, by rw [ecl]; omega⟩, nI_1]
        · rw [pk_un hx, ih x h1 h2, if_neg (fun q => hx (by have := q.2; rw [ecl] at this; omega)), Nat.add_zero]
      · have hn0 : ¬ (0 : Int32) < Ar 23 n - I 1 := fun q => by
          rw [e2, hI, i32_lt, pk_sub_toInt (by omega) (by omega)] at q
          have : (0 : Int32).toInt = 0 := by decide
          omega
        rw [if_neg (fun q => hn0 q.2.1), ih x h1 h2, if_neg (fun q => by have := q.2; rw [ecl] at this; omega), Nat.add_zero]
    · rw [if_neg (fun q => hq q.1), ih x h1 h2, if_neg (fun q => hq q.1), Nat.add_zero]
theorem lqK_0t {N : Nat → Nat} {t H : Nat} : ∀ e, e ≤ t + 1 → lqK N t H e = 0
  | 0, _ => lqK_0
  | e + 1, he => by rw [lqK_s, lqK_0t e (by omega)]; unfold stq; rw [if_neg (by omega)]
theorem kpF_v {N : Nat → Nat} {t H : Nat} {F : Nat → Int32} (hH : H ≤ 20) (hN : ∀ e, N e ≤ 480) (hF : ∀ x, 1 ≤ x → x ≤ 60 → F x = nI (N (t + x))) : ∀ x, x ≤ 60 → kpF F (nI H) x = nI (lqK N t H (t + 1 + x)) ∧ lqK N t H (t + 1 + x) ≤ H * x
  | 0, _ => by rw [kpF_0, lqK_0t _ (Nat.le_refl _)]; exact ⟨rfl, Nat.zero_le _⟩
  | x + 1, hx => by
    obtain ⟨h1, h2⟩ := kpF_v hH hN hF x (by omega)
    have h3 : H * x ≤ 20 * 60 := Nat.mul_le_mul hH (by omega)
    have h4 : H * (x + 1) = H * x + H := Nat.mul_succ H x
    have h5 := hN (t + (x + 1))
    rw [kpF_s, h1, hF (x + 1) (by omega) hx, nI_add, pk_mul, mnF_n (by omega) (by omega), show t + 1 + (x + 1) = t + 1 + x + 1 from rfl, lqK_s]
    unfold stq
    rw [if_pos (by omega), show t + 1 + x - t = x + 1 by omega, show t + (x + 1) = t + 1 + x by omega, Nat.max_eq_right (by omega)]
    exact ⟨rfl, Nat.min_le_right _ _⟩
theorem lqK_end {N : Nat → Nat} {t H : Nat} (hN : ∀ e, t + 60 < e → N e = 0) : ∀ k, lqK N t H (t + 61 + k) = lqK N t H (t + 61)
  | 0 => rfl
  | k + 1 => by
    rw [show t + 61 + (k + 1) = t + 61 + k + 1 from rfl, lqK_s, lqK_end hN k, hN _ (by omega)]
    unfold stq
    split
    · rw [Nat.add_zero, Nat.min_eq_left (Nat.le_max_left _ _)]
    · rfl
/-- both reckon late alike -/
theorem late_eq {d t H : Nat} {F0 : Nat → Int32} (hd : d < 4) (hI : I 1 = nI t) (ht : t ≤ 400) (hH : Ar 12 d = nI H) (hH2 : H ≤ 20) (hF : ∀ x, x < 61 → F0 x = 0) (hdue : ∀ k, k < 480 → isOfP I Ar (nI d) k → ∃ dd, dd ≤ t + 60 ∧ Ar 23 k = nI dd) :
    (ltD I Ar (nI d) 480 461).2 - (ltD I Ar (nI d) 480 461).1 = nI (cN (isOfP I Ar (nI d)) 480) - kpF (fdK I Ar (nI d) F0 480) (Ar 12 d) 60 := by
  have hN : ∀ e, cN (dqP I Ar (nI d) e) 480 ≤ 480 := fun e => cN_le _ _
  have hz : ∀ e, t + 60 < e → cN (dqP I Ar (nI d) e) 480 = 0 := fun e he => cN_no _ (fun k hk q => by
    obtain ⟨dd, e1, e2⟩ := hdue k hk q.1
    have := q.2
    rw [e2, show cl (nI dd) = dd from nI_clamp (by omega)] at this
    omega)
  rw [ltD_v hd hI ht hH hH2 hdue 461 (Nat.le_refl _), hH, (kpF_v (N := fun e => cN (dqP I Ar (nI d) e) 480) (t := t) hH2 hN (fun x h1 h2 => fdK_v hI ht hF hdue 480 (Nat.le_refl _) x h1 h2) 60 (Nat.le_refl _)).1]
  have e1 : lqK (fun e => cN (dqP I Ar (nI d) e) 480) t H 461 = lqK (fun e => cN (dqP I Ar (nI d) e) 480) t H (t + 1 + 60) := by
    rw [show 461 = t + 61 + (400 - t) by omega, lqK_end hz]
  have e2 : cN (fun k => isOfP I Ar (nI d) k ∧ cl (Ar 23 k) < 461) 480 = cN (isOfP I Ar (nI d)) 480 := cN_cg 480 (fun k hk => ⟨fun q => q.1, fun q => ⟨q, by
    obtain ⟨dd, z1, z2⟩ := hdue k hk q
    rw [z2, show cl (nI dd) = dd from nI_clamp (by omega)]; omega⟩⟩)
  show nI _ - nI _ = nI _ - nI _
  rw [e1, e2]
end Q3
