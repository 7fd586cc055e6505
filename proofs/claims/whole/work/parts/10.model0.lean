/-- the answer and the heap behind it, as equations -/
abbrev rX (v0 : Option Value) (h1 : hW) : Option Value → hW → Prop := fun v h' => v = v0 ∧ h' = h1
def b2 (p : Prop) [Decidable p] : Int32 := if p then 1 else 0
theorem b2_0 {p : Prop} [Decidable p] : b2 p = 0 ↔ ¬ p := by unfold b2; split <;> simp_all
theorem b2_1 {p : Prop} [Decidable p] : b2 p = 1 ↔ p := by unfold b2; split <;> simp_all
theorem b2_c {p : Prop} [Decidable p] : b2 p = 0 ∨ b2 p = 1 := by unfold b2; split <;> simp
theorem b2_t {p : Prop} [Decidable p] (h : p) : b2 p = 1 := if_pos h
theorem b2_f {p : Prop} [Decidable p] (h : ¬ p) : b2 p = 0 := if_neg h
theorem b2_n {p : Prop} [Decidable p] : narrow .boolean (.int (b2 p)) = .int (b2 p) := by unfold b2; split <;> rfl
theorem b2_iff {p q : Prop} [Decidable p] [Decidable q] (h : p ↔ q) : b2 p = b2 q := by unfold b2; simp [h]
/-- how many numbers below n have P -/
def cN (P : Nat → Prop) [DecidablePred P] : Nat → Nat
  | 0 => 0
  | n + 1 => cN P n + if P n then 1 else 0
termination_by n => n
theorem cN_0 {P : Nat → Prop} [DecidablePred P] : cN P 0 = 0 := by rw [cN]
theorem cN_s {P : Nat → Prop} [DecidablePred P] {n : Nat} : cN P (n + 1) = cN P n + if P n then 1 else 0 := by rw [cN]
theorem cN_le (P : Nat → Prop) [DecidablePred P] (n : Nat) : cN P n ≤ n := by
  induction n with
  | zero => rw [cN_0]; exact Nat.le_refl 0
  | succ n ih => rw [cN_s]; split <;> omega
theorem cN_t {P : Nat → Prop} [DecidablePred P] {n : Nat} (h : P n) : nI (cN P n) + 1 = nI (cN P (n + 1)) := by rw [cN_s, if_pos h]; exact nI_1 _
theorem cN_f {P : Nat → Prop} [DecidablePred P] {n : Nat} (h : ¬ P n) : nI (cN P n) + 0 = nI (cN P (n + 1)) := by rw [cN_s, if_neg h]; exact nI_add _ 0
theorem cN_z {P : Nat → Prop} [DecidablePred P] : (0 : Int32) = nI (cN P 0) := by rw [cN_0]; rfl
theorem i32_le {x y : Int32} : x ≤ y ↔ x.toInt ≤ y.toInt := Int32.le_iff_toInt_le
theorem i32_lt {x y : Int32} : x < y ↔ x.toInt < y.toInt := Int32.lt_iff_toInt_lt
/-- an Int32 that is a Nat of at most N -/
abbrev cl (x : Int32) : Nat := x.toNatClampNeg
def okN (x : Int32) (N : Nat) : Prop := ∃ j : Nat, j ≤ N ∧ x = nI j
theorem okN.eq {x : Int32} {N : Nat} (h : okN x N) (hN : N < 2 ^ 31 := by omega) : x = nI (cl x) ∧ cl x ≤ N := by
  obtain ⟨j, h1, rfl⟩ := h
  rw [show cl (nI j) = j from nI_clamp (by omega)]
  exact ⟨rfl, h1⟩
theorem okN.le {x : Int32} {N : Nat} (h : okN x N) (hN : N < 2 ^ 31 := by omega) : cl x ≤ N := (h.eq hN).2
theorem okN.ge {x : Int32} {N p : Nat} (h : okN x N) (c : x ≤ nI p) (hp : p < 2 ^ 31 := by omega) (hN : N < 2 ^ 31 := by omega) : cl x ≤ p := by
  have e := h.eq hN
  rw [e.1] at c
  exact (nI_leI (by omega) hp).mp c
theorem okN.lt {x : Int32} {N p : Nat} (h : okN x N) (c : nI p < x) (hp : p < 2 ^ 31 := by omega) (hN : N < 2 ^ 31 := by omega) : p < cl x := by
  have e := h.eq hN
  rw [e.1] at c
  exact (nI_ltI hp (by omega)).mp c
theorem okN.vp {x : Int32} {N M : Nat} (h : okN x N) (hM : N < M) (hM2 : M < 2 ^ 31 := by omega) : vp_in x M := by
  obtain ⟨j, h1, rfl⟩ := h
  exact vp_in_nI (by omega) hM2
theorem lt_lit {k N : Nat} {c : Int32} (hc : c.toInt = (N : Int)) (h : nI k < c) (hk : k < 2 ^ 31) : k < N := by
  rw [i32_lt, nI_toInt hk, hc] at h; omega
theorem ge_lit {k N : Nat} {c : Int32} (hc : c.toInt = (N : Int)) (h : c ≤ nI k) (hk : k < 2 ^ 31) : N ≤ k := by
  rw [i32_le, nI_toInt hk, hc] at h; omega
theorem gt_lit {k N : Nat} {c : Int32} (hc : c.toInt = (N : Int)) (h : c < nI k) (hk : k < 2 ^ 31) : N < k := by
  rw [i32_lt, nI_toInt hk, hc] at h; omega
theorem le_lit {k N : Nat} {c : Int32} (hc : c.toInt = (N : Int)) (h : nI k ≤ c) (hk : k < 2 ^ 31) : k ≤ N := by
  rw [i32_le, nI_toInt hk, hc] at h; omega
theorem ix6 (l p : Nat) : (6 : Int32) * nI l + nI p = nI (6 * l + p) := by
  rw [show (6 : Int32) * nI l = nI (6 * l) from pk_mul 6 l]; exact nI_add _ _
theorem ix60 (l p : Nat) : (60 : Int32) * nI l + nI p = nI (60 * l + p) := by
  rw [show (60 : Int32) * nI l = nI (60 * l) from pk_mul 60 l]; exact nI_add _ _
theorem vpi {x : Int32} {n : Nat} (h0 : 0 ≤ x.toInt) (h1 : x.toInt < n) : vp_in x n := vp_in_iff.mpr ⟨h0, h1⟩

section GR2
variable {G : gG} {E : gE} {own : String} {cc : ByteArray} {nL lv mc ms pc k n : Nat} {Q : State → Prop} {L : List (Nat × Value)} {st : List Value} {h : hW}
theorem g_cV (X : Gc G E own cc nL lv mc ms) {idx nA lvc : Nat} {M : gM} (ml : MLv own idx M nA) {b : Nat} {As rest : List Value} {w : Value} {h1 : hW} (hM : Ct G E.l lvc 0 0 M (.ref b :: As) h (rX (some w) h1)) (hb : ∃ ci fs, h b = some (ob ci fs) ∧ (vwCl[ci]?).map (·.1) = some M.1.cls) (hlv : lvc + 1 ≤ lv) (hA : As.length = nA) (hst : st = As.reverse ++ .ref b :: rest) (hW : (rest.map fun v => v.category).sum ≤ 8) (hk : k ≤ mc) (hn : n ≤ ms) (d : decode cc pc = .ok (.invokevirtual idx, 3)) (K : GW G E Q nL (pc + 3) L (w :: rest) h1 k n) : GW G E Q nL pc L st h k n :=
  g_callV X ml hM hb hlv hA hst hW hk hn d (fun v h' q => by obtain ⟨rfl, rfl⟩ := q; exact K)
theorem g_cV0 (X : Gc G E own cc nL lv mc ms) {idx nA lvc : Nat} {M : gM} (ml : MLv own idx M nA) {b : Nat} {As rest : List Value} {h1 : hW} (hM : Ct G E.l lvc 0 0 M (.ref b :: As) h (rX none h1)) (hb : ∃ ci fs, h b = some (ob ci fs) ∧ (vwCl[ci]?).map (·.1) = some M.1.cls) (hlv : lvc + 1 ≤ lv) (hA : As.length = nA) (hst : st = As.reverse ++ .ref b :: rest) (hW : (rest.map fun v => v.category).sum ≤ 8) (hk : k ≤ mc) (hn : n ≤ ms) (d : decode cc pc = .ok (.invokevirtual idx, 3)) (K : GW G E Q nL (pc + 3) L rest h1 k n) : GW G E Q nL pc L st h k n :=
  g_callV X ml hM hb hlv hA hst hW hk hn d (fun v h' q => by obtain ⟨rfl, rfl⟩ := q; exact K)
theorem g_cVx (X : Gc G E own cc nL lv mc ms) {idx nA lvc mcc msc : Nat} {M : gM} (ml : MLv own idx M nA) {b : Nat} {As rest : List Value} {post : Option Value → hW → Prop} (hM : Ct G E.l lvc mcc msc M (.ref b :: As) h post) (hb : ∃ ci fs, h b = some (ob ci fs) ∧ (vwCl[ci]?).map (·.1) = some M.1.cls) (hlv : lvc + 1 ≤ lv) (hA : As.length = nA) (hst : st = As.reverse ++ .ref b :: rest) (hW : (rest.map fun v => v.category).sum ≤ 8) (hk : k + mcc ≤ mc) (hn : n + msc ≤ ms) (d : decode cc pc = .ok (.invokevirtual idx, 3)) (K : ∀ v h', post v h' → GW G E Q nL (pc + 3) L (v.toList ++ rest) h' (k + mcc) (n + msc)) : GW G E Q nL pc L st h k n :=
  g_callV X ml hM hb hlv hA hst hW hk hn d K
theorem g_cI (X : Gc G E own cc nL lv mc ms) {idx nA lvc : Nat} {M : gM} (ml : MLi own idx M nA) (hret : M.2.2.2 = none) {b : Nat} {As rest : List Value} {w : Value} {h1 : hW} (hM : Ct G E.l lvc 0 0 M (.ref b :: As) h (rX (some w) h1)) (hlv : lvc + 1 ≤ lv) (hA : As.length = nA) (hst : st = As.reverse ++ .ref b :: rest) (hW : (rest.map fun v => v.category).sum ≤ 8) (hk : k ≤ mc) (hn : n ≤ ms) (d : decode cc pc = .ok (.invokespecial idx, 3)) (K : GW G E Q nL (pc + 3) L (w :: rest) h1 k n) : GW G E Q nL pc L st h k n :=
  g_callI X ml hret hM hlv hA hst hW hk hn d (fun v h' q => by obtain ⟨rfl, rfl⟩ := q; exact K)
theorem g_cI0 (X : Gc G E own cc nL lv mc ms) {idx nA lvc : Nat} {M : gM} (ml : MLi own idx M nA) (hret : M.2.2.2 = none) {b : Nat} {As rest : List Value} {h1 : hW} (hM : Ct G E.l lvc 0 0 M (.ref b :: As) h (rX none h1)) (hlv : lvc + 1 ≤ lv) (hA : As.length = nA) (hst : st = As.reverse ++ .ref b :: rest) (hW : (rest.map fun v => v.category).sum ≤ 8) (hk : k ≤ mc) (hn : n ≤ ms) (d : decode cc pc = .ok (.invokespecial idx, 3)) (K : GW G E Q nL (pc + 3) L rest h1 k n) : GW G E Q nL pc L st h k n :=
  g_callI X ml hret hM hlv hA hst hW hk hn d (fun v h' q => by obtain ⟨rfl, rfl⟩ := q; exact K)
theorem g_cIx (X : Gc G E own cc nL lv mc ms) {idx nA lvc mcc msc : Nat} {M : gM} (ml : MLi own idx M nA) (hret : M.2.2.2 = none) {b : Nat} {As rest : List Value} {post : Option Value → hW → Prop} (hM : Ct G E.l lvc mcc msc M (.ref b :: As) h post) (hlv : lvc + 1 ≤ lv) (hA : As.length = nA) (hst : st = As.reverse ++ .ref b :: rest) (hW : (rest.map fun v => v.category).sum ≤ 8) (hk : k + mcc ≤ mc) (hn : n + msc ≤ ms) (d : decode cc pc = .ok (.invokespecial idx, 3)) (K : ∀ v h', post v h' → GW G E Q nL (pc + 3) L (v.toList ++ rest) h' (k + mcc) (n + msc)) : GW G E Q nL pc L st h k n :=
  g_callI X ml hret hM hlv hA hst hW hk hn d K
theorem g_cS (X : Gc G E own cc nL lv mc ms) {idx nA lvc : Nat} {M : gM} (ml : MLs own idx M nA) {As rest : List Value} {w : Value} {h1 : hW} (hM : Ct G E.l lvc 0 0 M As h (rX (some w) h1)) (hlv : lvc + 1 ≤ lv) (hA : As.length = nA) (hst : st = As.reverse ++ rest) (hW : (rest.map fun v => v.category).sum ≤ 8) (hk : k ≤ mc) (hn : n ≤ ms) (d : decode cc pc = .ok (.invokestatic idx, 3)) (K : GW G E Q nL (pc + 3) L (w :: rest) h1 k n) : GW G E Q nL pc L st h k n :=
  g_callS X ml hM hlv hA hst hW hk hn d (fun v h' q => by obtain ⟨rfl, rfl⟩ := q; exact K)
theorem g_cS0 (X : Gc G E own cc nL lv mc ms) {idx nA lvc : Nat} {M : gM} (ml : MLs own idx M nA) {As rest : List Value} {h1 : hW} (hM : Ct G E.l lvc 0 0 M As h (rX none h1)) (hlv : lvc + 1 ≤ lv) (hA : As.length = nA) (hst : st = As.reverse ++ rest) (hW : (rest.map fun v => v.category).sum ≤ 8) (hk : k ≤ mc) (hn : n ≤ ms) (d : decode cc pc = .ok (.invokestatic idx, 3)) (K : GW G E Q nL (pc + 3) L rest h1 k n) : GW G E Q nL pc L st h k n :=
  g_callS X ml hM hlv hA hst hW hk hn d (fun v h' q => by obtain ⟨rfl, rfl⟩ := q; exact K)
theorem g_cSx (X : Gc G E own cc nL lv mc ms) {idx nA lvc mcc msc : Nat} {M : gM} (ml : MLs own idx M nA) {As rest : List Value} {post : Option Value → hW → Prop} (hM : Ct G E.l lvc mcc msc M As h post) (hlv : lvc + 1 ≤ lv) (hA : As.length = nA) (hst : st = As.reverse ++ rest) (hW : (rest.map fun v => v.category).sum ≤ 8) (hk : k + mcc ≤ mc) (hn : n + msc ≤ ms) (d : decode cc pc = .ok (.invokestatic idx, 3)) (K : ∀ v h', post v h' → GW G E Q nL (pc + 3) L (v.toList ++ rest) h' (k + mcc) (n + msc)) : GW G E Q nL pc L st h k n :=
  g_callS X ml hM hlv hA hst hW hk hn d K
theorem g_eqi {x y : Int32} (e : x = y) (K : GW G E Q nL pc L (.int y :: st) h k n) : GW G E Q nL pc L (.int x :: st) h k n := e ▸ K
theorem g_eql {x y : Int64} (e : x = y) (K : GW G E Q nL pc L (.long y :: st) h k n) : GW G E Q nL pc L (.long x :: st) h k n := e ▸ K
theorem g_ret0r (X : Gc G E own cc nL lv mc ms) {mc' ms' : Nat} {M : gM} (F : gF E M) (hM : M.2.2.2 = none) {h1 : hW} (d : decode cc pc = .ok (.return_, 1)) (hk : k ≤ mc') (hn : n ≤ ms') (e : h = h1) : GW G E (gMQ G E mc' ms' (rX none h1)) nL pc L [] h k n := g_ret0 X F hM d hk hn ⟨rfl, e⟩
theorem g_tswIn (X : Gc G E own cc nL lv mc ms) {dflt lo hi : Int} {offs : Array Int} {len : Nat} {x : Int32} {off : Int} (tgt : Nat) (d : decode cc pc = .ok (.tableswitch dflt lo hi offs, len)) (h1 : ¬ x.toInt < lo) (h2 : ¬ hi < x.toInt) (ho : offs[(x.toInt - lo).toNat]? = some off) (ht : (pc : Int) + off = (tgt : Int)) (K : GW G E Q nL tgt L st h k n) : GW G E Q nL pc L (.int x :: st) h k n :=
  fun H locs ls a b c => lv_tableIn X.1 X.2.1 d h1 h2 ho ht (K H locs ls a b c)
theorem g_tswOut (X : Gc G E own cc nL lv mc ms) {dflt lo hi : Int} {offs : Array Int} {len : Nat} {x : Int32} (tgt : Nat) (d : decode cc pc = .ok (.tableswitch dflt lo hi offs, len)) (h1 : x.toInt < lo ∨ hi < x.toInt) (ht : (pc : Int) + dflt = (tgt : Int)) (K : GW G E Q nL tgt L st h k n) : GW G E Q nL pc L (.int x :: st) h k n :=
  fun H locs ls a b c => lv_tableOut X.1 X.2.1 d h1 ht (K H locs ls a b c)
end GR2
def mF (I : Nat → Int32) (ad : Nat → Nat) : List Value := [.int (I 0), .int (I 1), .ref (ad 2), .ref (ad 3), .ref (ad 4), .ref (ad 5), .ref (ad 6), .ref (ad 7), .ref (ad 8), .ref (ad 9), .ref (ad 10), .int (I 11), .ref (ad 12), .ref (ad 13), .ref (ad 14), .ref (ad 15), .ref (ad 16), .ref (ad 17), .ref (ad 18), .ref (ad 19), .ref (ad 20), .int (I 21), .ref (ad 22), .ref (ad 23), .ref (ad 24), .ref (ad 25), .int (I 26), .ref (ad 27), .int (I 28), .int (I 29), .int (I 30), .int (I 31), .int (I 32), .ref (ad 33), .ref (ad 34)]
def mJ (j : Nat) : Bool := j < 35 && !([0, 1, 11, 21, 26, 28, 29, 30, 31, 32].contains j)
def mE (G : gG) (j : Nat) (f : Nat → Int32) : va_E := match j with
  | 2 => aI G 12 f
  | 3 => aI G 12 f
  | 4 => aI G 12 f
  | 5 => aZ G 12 f
  | 6 => aI G 13 f
  | 7 => aB G 1872 f
  | 8 => aI G 156 f
  | 9 => aZ G 156 f
  | 10 => aZ G 156 f
  | 12 => aI G 4 f
  | 13 => aI G 80 f
  | 14 => aI G 80 f
  | 15 => aI G 81 f
  | 16 => aI G 81 f
  | 17 => aB G 32400 f
  | 18 => aI G 4860 f
  | 19 => aI G 4860 f
  | 20 => aI G 4860 f
  | 22 => aI G 480 f
  | 23 => aI G 480 f
  | 24 => aI G 480 f
  | 25 => aI G 10 f
  | 27 => aB G 400 f
  | 33 => aI G 5 f
  | _ => aI G 401 f
/-- the reference's cells: ix tells of an address which cell it is -/
def md (ix : Nat → Nat) (m : Nat) (ad : Nat → Nat) : Prop := (∀ b, ix b = 1 ↔ b = m) ∧ ∀ j, mJ j = true → ∀ b, ix b = j + 2 ↔ b = ad j
def mH (G : gG) (ix : Nat → Nat) (ad : Nat → Nat) (I : Nat → Int32) (Ar : Nat → Nat → Int32) (h0 : hW) : hW := fun b => match ix b with
  | 0 => h0 b
  | 1 => some (ob 7 (mF I ad))
  | j + 2 => if mJ j = true then some (mE G j (Ar j)) else h0 b
section MR
variable {G : gG} {ix : Nat → Nat} {m : Nat} {ad : Nat → Nat} {I : Nat → Int32} {Ar : Nat → Nat → Int32} {h0 : hW}
theorem mLm (D : md ix m ad) : mH G ix ad I Ar h0 m = some (ob 7 (mF I ad)) := by
  unfold mH
  rw [(D.1 m).mpr rfl]
theorem mLa (D : md ix m ad) (j : Nat) (hj : mJ j = true) : mH G ix ad I Ar h0 (ad j) = some (mE G j (Ar j)) := by
  unfold mH
  rw [(D.2 j hj (ad j)).mpr rfl]
  exact if_pos hj
theorem mUm (D : md ix m ad) (I' : Nat → Int32) : hup (mH G ix ad I Ar h0) m (ob 7 (mF I' ad)) = mH G ix ad I' Ar h0 := by
  funext b
  unfold hup
  by_cases hb : b = m
  · rw [if_pos hb, hb, mLm D]
  · rw [if_neg hb]
    have h1 : ix b ≠ 1 := fun q => hb ((D.1 b).mp q)
    unfold mH
    split <;> first | rfl | (rename_i q; exact absurd q h1)
theorem mUa (D : md ix m ad) (j : Nat) (hj : mJ j = true) (f : Nat → Int32) : hup (mH G ix ad I Ar h0) (ad j) (mE G j f) = mH G ix ad I (va_up Ar j f) h0 := by
  funext b
  unfold hup
  by_cases hb : b = ad j
  · rw [if_pos hb, hb, mLa D j hj]
    simp [va_up]
  · rw [if_neg hb]
    have h1 : ix b ≠ j + 2 := fun q => hb ((D.2 j hj b).mp q)
    unfold mH
    split
    · rfl
    · rfl
    · rename_i k q
      have hk : k ≠ j := fun z => h1 (by rw [q, z])
      simp [va_up, hk]
theorem mH_off (b : Nat) (hb : ix b = 0) : mH G ix ad I Ar h0 b = h0 b := by
  unfold mH
  rw [hb]
/-- the overlay's ground may be any that agrees off the cells -/
theorem mH_mH {I' : Nat → Int32} {Ar' : Nat → Nat → Int32} : mH G ix ad I Ar (mH G ix ad I' Ar' h0) = mH G ix ad I Ar h0 := by
  funext b
  unfold mH
  split
  · rfl
  · rfl
  · split
    · rfl
    · rename_i hc
      simp [hc]
theorem mset_0 (I : Nat → Int32) (ad : Nat → Nat) (x : Int32) : (mF I ad).set 0 (.int x) = mF (va_up I 0 x) ad := rfl
theorem mset_1 (I : Nat → Int32) (ad : Nat → Nat) (x : Int32) : (mF I ad).set 1 (.int x) = mF (va_up I 1 x) ad := rfl
theorem mset_11 (I : Nat → Int32) (ad : Nat → Nat) (x : Int32) : (mF I ad).set 11 (.int x) = mF (va_up I 11 x) ad := rfl
theorem mset_21 (I : Nat → Int32) (ad : Nat → Nat) (x : Int32) : (mF I ad).set 21 (.int x) = mF (va_up I 21 x) ad := rfl
theorem mset_26 (I : Nat → Int32) (ad : Nat → Nat) (x : Int32) : (mF I ad).set 26 (.int x) = mF (va_up I 26 x) ad := rfl
theorem mset_28 (I : Nat → Int32) (ad : Nat → Nat) (x : Int32) : (mF I ad).set 28 (.int x) = mF (va_up I 28 x) ad := rfl
theorem mset_29 (I : Nat → Int32) (ad : Nat → Nat) (x : Int32) : (mF I ad).set 29 (.int x) = mF (va_up I 29 x) ad := rfl
theorem mset_30 (I : Nat → Int32) (ad : Nat → Nat) (x : Int32) : (mF I ad).set 30 (.int x) = mF (va_up I 30 x) ad := rfl
theorem mset_31 (I : Nat → Int32) (ad : Nat → Nat) (x : Int32) : (mF I ad).set 31 (.int x) = mF (va_up I 31 x) ad := rfl
theorem mset_32 (I : Nat → Int32) (ad : Nat → Nat) (x : Int32) : (mF I ad).set 32 (.int x) = mF (va_up I 32 x) ad := rfl
variable {E : gE} {own : String} {cc : ByteArray} {nL lv mc ms pc k n : Nat} {Q : State → Prop} {L : List (Nat × Value)} {st : List Value}
theorem m_put (X : Gc G E own cc nL lv mc ms) (D : md ix m ad) (j : Nat) (hj : j < 35) {idx : Nat} (fl : FL own idx 7 j .int false) {x : Int32} (d : decode cc pc = .ok (.putfield idx, 3)) (he : (mF I ad).set j (.int x) = mF (va_up I j x) ad) (K : GW G E Q nL (pc + 3) L st (mH G ix ad (va_up I j x) Ar h0) k n) : GW G E Q nL pc L (.int x :: .ref m :: st) (mH G ix ad I Ar h0) k n :=
  g_putfield X fl d (mLm D) (show j < (mF I ad).length from hj) rfl rfl _ he (g_h (mUm D _) K)
end MR
