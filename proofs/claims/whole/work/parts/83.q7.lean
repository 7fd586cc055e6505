section Q7
variable {G : gG} {l : Launch} {h h0 h1 : hW} {Z : kZ} {I : Nat → Int32} {Ar : Nat → Nat → Int32} {T : Nat → Int32} {A : Nat → Nat → Int32} {Lg : Nat → Nat → Int64} {ix ad : Nat → Nat} {x m o : Nat}
/-- the reference's cells stand -/
def jM (G : gG) (m : Nat) (ad : Nat → Nat) (I : Nat → Int32) (Ar : Nat → Nat → Int32) (h : hW) : Prop := h m = some (ob 7 (mF I ad)) ∧ ∀ j, mJ j = true → h (ad j) = some (mE G j (Ar j))
theorem jM.of (D : md ix m ad) : jM G m ad I Ar (mH G ix ad I Ar h0) := ⟨mLm D, fun j hj => mLa D j hj⟩
theorem jM.self (D : md ix m ad) (M : jM G m ad I Ar h) : h = mH G ix ad I Ar h := by
  funext b
  unfold mH
  split
  · rfl
  · rename_i q
    rw [(D.1 b).mp q]; exact M.1
  · rename_i j q
    split
    · rename_i hj
      rw [(D.2 j hj b).mp q]; exact M.2 j hj
    · rfl
theorem mH_else (D : md ix m ad) {b : Nat} (hb : b ≠ m) (hj : ∀ j, mJ j = true → b ≠ ad j) : mH G ix ad I Ar h0 b = h0 b := by
  unfold mH
  split
  · rfl
  · rename_i q; exact absurd ((D.1 b).mp q) hb
  · rename_i j q
    split
    · rename_i hj2; exact absurd ((D.2 j hj2 b).mp q) (hj j hj2)
    · rfl
/-- desk, reference and the law's row of answers stand side by side; the desk's numbers are I1, Ar1, the reference's I, Ar -/
def jS2 (G : gG) (x m o : Nat) (ad : Nat → Nat) (Z : kZ) (I1 : Nat → Int32) (Ar1 : Nat → Nat → Int32) (T : Nat → Int32) (A : Nat → Nat → Int32) (Lg : Nat → Nat → Int64) (I : Nat → Int32) (Ar : Nat → Nat → Int32) (fo : Nat → Int64) (h : hW) : Prop :=
  kD G Z I1 Ar1 T A Lg h ∧ jM G m ad I Ar h ∧ (h o = some (aJ G 1 fo) ∧ Z.jx o = 0 ∧ o ≠ m ∧ ∀ j, mJ j = true → o ≠ ad j) ∧ (Z.jx m = 0 ∧ ∀ j, mJ j = true → Z.jx (ad j) = 0) ∧ Z.da 1 = x
section J2
variable {I1 I2 I' : Nat → Int32} {Ar1 Ar2 Ar' : Nat → Nat → Int32} {fo fo' : Nat → Int64} {Z' : kZ} {T' : Nat → Int32} {A' : Nat → Nat → Int32} {Lg' : Nat → Nat → Int64}
theorem jS2.desk (S : jS2 G x m o ad Z I1 Ar1 T A Lg I Ar fo h) (hk : kD G Z' I2 Ar2 T' A' Lg' h1) (hf : kF Z Z' h h1) (hd : Z'.da 1 = Z.da 1) : jS2 G x m o ad Z' I2 Ar2 T' A' Lg' I Ar fo h1 := by
  obtain ⟨s1, ⟨s2, s3⟩, ⟨s4, s5, s6, s7⟩, ⟨s8, s9⟩, s10⟩ := S
  obtain ⟨a1, a2⟩ := hf m (by rw [s2]; simp) s8
  obtain ⟨b1, b2'⟩ := hf o (by rw [s4]; simp) s5
  refine ⟨hk, ⟨a1.trans s2, fun j hj => ?_⟩, ⟨b1.trans s4, b2', s6, s7⟩, ⟨a2, fun j hj => ?_⟩, hd.trans s10⟩
  · exact (hf _ (by rw [s3 j hj]; simp) (s9 j hj)).1.trans (s3 j hj)
  · exact (hf _ (by rw [s3 j hj]; simp) (s9 j hj)).2
theorem jS2.off (S : jS2 G x m o ad Z I1 Ar1 T A Lg I Ar fo h) {k : Nat} (hk : kU Z k) : Z.da k ≠ m ∧ (∀ j, mJ j = true → Z.da k ≠ ad j) ∧ Z.da k ≠ o := by
  have e : Z.jx (Z.da k) = k := (S.1.1.1 k hk _).mpr rfl
  have n : k ≠ 0 := hk.n0
  refine ⟨fun q => ?_, fun j hj q => ?_, fun q => ?_⟩
  · rw [q, S.2.2.2.1.1] at e; exact n e.symm
  · rw [q, S.2.2.2.1.2 j hj] at e; exact n e.symm
  · rw [q, S.2.2.1.2.1] at e; exact n e.symm
theorem jS2.model (D : md ix m ad) (S : jS2 G x m o ad Z I1 Ar1 T A Lg I Ar fo h) : jS2 G x m o ad Z I1 Ar1 T A Lg I' Ar' fo (mH G ix ad I' Ar' h) := by
  refine ⟨⟨S.1.1, fun k hk => ?_⟩, jM.of D, ⟨?_, S.2.2.1.2⟩, S.2.2.2.1, S.2.2.2.2⟩
  · obtain ⟨n1, n2, -⟩ := S.off hk
    rw [mH_else D n1 n2]; exact S.1.2 k hk
  · rw [mH_else D S.2.2.1.2.2.1 S.2.2.1.2.2.2]; exact S.2.2.1.1
theorem jS2.out (S : jS2 G x m o ad Z I1 Ar1 T A Lg I Ar fo h) : jS2 G x m o ad Z I1 Ar1 T A Lg I Ar fo' (hup h o (aJ G 1 fo')) := by
  refine ⟨⟨S.1.1, fun k hk => ?_⟩, ⟨?_, fun j hj => ?_⟩, ⟨hup_s, S.2.2.1.2⟩, S.2.2.2.1, S.2.2.2.2⟩
  · rw [hup_n (S.off hk).2.2]; exact S.1.2 k hk
  · rw [hup_n S.2.2.1.2.2.1.symm]; exact S.2.1.1
  · rw [hup_n (S.2.2.1.2.2.2 j hj).symm]; exact S.2.1.2 j hj
/-- the numbers that the desk's cells show are the same -/
def jG (I1 : Nat → Int32) (Ar1 : Nat → Nat → Int32) (I : Nat → Int32) (Ar : Nat → Nat → Int32) : Prop := (I 32 = I1 32 ∧ I 1 = I1 1 ∧ I 26 = I1 26 ∧ I 28 = I1 28) ∧ ∀ j, j ∈ [2, 3, 4, 5, 12, 13, 14, 22, 23, 24, 25, 27] → Ar j = Ar1 j
theorem kE_I (hI : I 32 = I1 32 ∧ I 1 = I1 1 ∧ I 26 = I1 26 ∧ I 28 = I1 28) : kE G Z I Ar T A Lg = kE G Z I1 Ar T A Lg := by
  obtain ⟨e1, e2, e3, e4⟩ := hI
  funext k
  unfold kE
  by_cases hk : k < 15
  · rw [if_pos hk, if_pos hk]
    match k, hk with
    | 0, _ | 3, _ | 4, _ | 5, _ | 6, _ | 7, _ | 8, _ | 9, _ | 10, _ | 11, _ | 12, _ | 13, _ | 14, _ => rfl
    | 1, _ => show ob 6 _ = ob 6 _; rw [e1, e2, e3]
    | 2, _ => show ob 4 _ = ob 4 _; rw [e4]
    | z + 15, hz => omega
  · rw [if_neg hk, if_neg hk]
theorem jS2.merge (S : jS2 G x m o ad Z I1 Ar1 T A Lg I Ar fo h) (g : jG I1 Ar1 I Ar) : jS2 G x m o ad Z I Ar T A Lg I Ar fo h := by
  refine ⟨⟨S.1.1, fun k hk => ?_⟩, S.2⟩
  rw [kE_I g.1, kE_Ar g.2]; exact S.1.2 k hk
theorem jG.rf : jG I Ar I Ar := ⟨⟨rfl, rfl, rfl, rfl⟩, fun _ _ => rfl⟩
/-- the desk's heap by itself -/
theorem jS2.self (S : jS2 G x m o ad Z I1 Ar1 T A Lg I Ar fo h) : h = kH G Z I1 Ar1 T A Lg h := S.1.self
end J2
/-- what holds of the reference's numbers alone -/
def jR (I : Nat → Int32) (Ar : Nat → Nat → Int32) : Prop :=
  ((∃ t : Nat, t ≤ 400 ∧ I 1 = nI t) ∧ (∃ N : Nat, N ≤ 400 ∧ I 28 = nI N) ∧ (∃ b9 : Nat, I 31 = nI b9) ∧ ∃ nt : Nat, nt ≤ 10 ∧ I 26 = nI nt) ∧
  ((∀ k, k < 4 → okN (Ar 12 k) 20) ∧ (∀ i, vp_nar .byte (Ar 27 i) = Ar 27 i) ∧ (∀ k, k < 480 → Ar 22 k < 12) ∧ ∀ c, c < 12 → Ar 5 c = 0 ∨ Ar 5 c = 1) ∧
  PV Ar ∧ ∀ a, a < 80 → LV Ar a ∧ okN (Ar 15 a) 6 ∧ okN (Ar 14 a) 400
/-- what holds of the desk's numbers beside the reference's -/
def jJ (Z : kZ) (I : Nat → Int32) (Ar : Nat → Nat → Int32) (T : Nat → Int32) (A : Nat → Nat → Int32) (Lg : Nat → Nat → Int64) : Prop :=
  kV Z I Ar ∧ jQ Z I Ar ∧ (∀ c, c < Z.nC → jC Z Ar T A Lg c ∧ okN (Ar 4 c) 60) ∧ (∀ a, a < Z.nX → jA Z Ar Lg a ∧ 0 < Z.np a ∧ ∃ ca : Nat, ca ≤ cl (I 1) ∧ Ar 14 a = nI ca) ∧ jR I Ar
/-- between two calls of the law -/
def jN (G : gG) (x m o : Nat) (ad : Nat → Nat) (h : hW) (k v : Int32) : Prop := ∃ (Z : kZ) (I : Nat → Int32) (Ar : Nat → Nat → Int32) (T : Nat → Int32) (A : Nat → Nat → Int32) (Lg : Nat → Nat → Int64) (fo : Nat → Int64), jS2 G x m o ad Z I Ar T A Lg I Ar fo h ∧ jJ Z I Ar T A Lg ∧ I 0 = k ∧ (k = 0 → fo 0 = v.toInt64)
/-- the same, nothing said of the last answers -/
def jN0 (G : gG) (x m o : Nat) (ad : Nat → Nat) (h : hW) : Prop := ∃ (Z : kZ) (I : Nat → Int32) (Ar : Nat → Nat → Int32) (T : Nat → Int32) (A : Nat → Nat → Int32) (Lg : Nat → Nat → Int64) (fo : Nat → Int64), jS2 G x m o ad Z I Ar T A Lg I Ar fo h ∧ jJ Z I Ar T A Lg
/-- the same, and the reference's last code -/
def jNk (G : gG) (x m o : Nat) (ad : Nat → Nat) (h : hW) (k : Int32) : Prop := ∃ (Z : kZ) (I : Nat → Int32) (Ar : Nat → Nat → Int32) (T : Nat → Int32) (A : Nat → Nat → Int32) (Lg : Nat → Nat → Int64) (fo : Nat → Int64), jS2 G x m o ad Z I Ar T A Lg I Ar fo h ∧ jJ Z I Ar T A Lg ∧ I 0 = k
theorem jN.j0 {k v : Int32} (n : jN G x m o ad h k v) : jN0 G x m o ad h := by
  obtain ⟨Z, I, Ar, T, A, Lg, fo, S, J, -, -⟩ := n
  exact ⟨Z, I, Ar, T, A, Lg, fo, S, J⟩
/-- behind the desk's call, ahead of the reference's -/
def jP (G : gG) (x m o : Nat) (ad : Nat → Nat) (I : Nat → Int32) (Ar : Nat → Nat → Int32) (W : kZ → (Nat → Int32) → (Nat → Nat → Int32) → (Nat → Int32) → (Nat → Nat → Int32) → (Nat → Nat → Int64) → Prop) (k v : Int32) (h : hW) : Prop := ∃ (Z1 : kZ) (I1 : Nat → Int32) (Ar1 : Nat → Nat → Int32) (T1 : Nat → Int32) (A1 : Nat → Nat → Int32) (Lg1 : Nat → Nat → Int64) (fo : Nat → Int64), jS2 G x m o ad Z1 I1 Ar1 T1 A1 Lg1 I Ar fo h ∧ W Z1 I1 Ar1 T1 A1 Lg1 ∧ (k = 0 → fo 0 = v.toInt64)
/-- a call of the law that may throw: first the desk's, then the reference's -/
def opW (P : Int32 → Prop) (G : gG) (l : Launch) (x m o : Nat) (ad : Nat → Nat) (ML : gM) (hh : List (Nat × Nat × Nat × Nat)) (av : List Value) (M7 : gM) (am : List Value) (h : hW) : Prop :=
  ∃ (k v : Int32) (mcc msc lvm : Nat) (P1 : hW → Prop), P v ∧ mcc ≤ 21 ∧ msc ≤ 2280 ∧ lvm ≤ 10 ∧ CtH G l 12 mcc msc ML hh av h (fun r h1 => r = some (.int k) ∧ P1 h1) ∧
    ∀ h1, P1 h1 → (∃ fs, h1 m = some (ob 7 fs)) ∧ Ct G l lvm 0 0 M7 (.ref m :: am) h1 (fun r h2 => r = some (.int v) ∧ jN G x m o ad h2 k v)
theorem opW.of {P : Int32 → Prop} {k v : Int32} {mcc msc lvm : Nat} {ML M7 : gM} {hh : List (Nat × Nat × Nat × Nat)} {av am : List Value} {W : kZ → (Nat → Int32) → (Nat → Nat → Int32) → (Nat → Int32) → (Nat → Nat → Int32) → (Nat → Nat → Int64) → Prop} {E7 : (Nat → Int32) → (Nat → Nat → Int32) → Prop} (D : md ix m ad) (hP : P v) (h21 : mcc ≤ 21) (h22 : msc ≤ 2280) (h10 : lvm ≤ 10)
    (h6 : CtH G l 12 mcc msc ML hh av h (fun r h1 => r = some (.int k) ∧ jP G x m o ad I Ar W k v h1))
    (h7 : ∀ h0, Ct G l lvm 0 0 M7 (.ref m :: am) (mH G ix ad I Ar h0) (fun r h2 => r = some (.int v) ∧ ∃ (I' : Nat → Int32) (Ar' : Nat → Nat → Int32), h2 = mH G ix ad I' Ar' h0 ∧ E7 I' Ar'))
    (hE : ∀ Z1 I1 Ar1 T1 A1 Lg1 I' Ar', W Z1 I1 Ar1 T1 A1 Lg1 → E7 I' Ar' → jG I1 Ar1 I' Ar' ∧ jJ Z1 I' Ar' T1 A1 Lg1 ∧ I' 0 = k) : opW P G l x m o ad ML hh av M7 am h := by
  refine ⟨k, v, mcc, msc, lvm, _, hP, h21, h22, h10, h6, fun h1 hP1 => ?_⟩
  obtain ⟨Z1, I1, Ar1, T1, A1, Lg1, fo, S, hW, hv⟩ := hP1
  refine ⟨⟨_, S.2.1.1⟩, ?_⟩
  have e := S.2.1.self D
  rw [e]
  refine (h7 h1).mono (fun r h2 q => ?_)
  obtain ⟨q1, I', Ar', q2, q3⟩ := q
  obtain ⟨g, J, hk⟩ := hE Z1 I1 Ar1 T1 A1 Lg1 I' Ar' hW q3
  refine ⟨q1, Z1, I', Ar', T1, A1, Lg1, fo, ?_, J, hk, hv⟩
  rw [q2]
  exact (S.model D).merge g
/-- a call that doesn't throw -/
def opD (G : gG) (l : Launch) (x m o : Nat) (ad : Nat → Nat) (M6 : gM) (av : List Value) (M7 : gM) (am : List Value) (h : hW) : Prop :=
  ∃ (v : Int32) (lvd lvm : Nat) (P1 : hW → Prop), lvd ≤ 10 ∧ lvm ≤ 10 ∧ Ct G l lvd 0 0 M6 (.ref x :: av) h (fun r h1 => r = some (.int v) ∧ P1 h1) ∧
    ∀ h1, P1 h1 → (∃ fs, h1 m = some (ob 7 fs)) ∧ Ct G l lvm 0 0 M7 (.ref m :: am) h1 (fun r h2 => r = some (.int v) ∧ jN0 G x m o ad h2)
theorem opD.of {v : Int32} {lvd lvm : Nat} {M6 M7 : gM} {av am : List Value} {W : kZ → (Nat → Int32) → (Nat → Nat → Int32) → (Nat → Int32) → (Nat → Nat → Int32) → (Nat → Nat → Int64) → Prop} {E7 : (Nat → Int32) → (Nat → Nat → Int32) → Prop} (D : md ix m ad) (h9 : lvd ≤ 10) (h10 : lvm ≤ 10)
    (h6 : Ct G l lvd 0 0 M6 (.ref x :: av) h (fun r h1 => r = some (.int v) ∧ jP G x m o ad I Ar W 1 0 h1))
    (h7 : ∀ h0, Ct G l lvm 0 0 M7 (.ref m :: am) (mH G ix ad I Ar h0) (fun r h2 => r = some (.int v) ∧ ∃ (I' : Nat → Int32) (Ar' : Nat → Nat → Int32), h2 = mH G ix ad I' Ar' h0 ∧ E7 I' Ar'))
    (hE : ∀ Z1 I1 Ar1 T1 A1 Lg1 I' Ar', W Z1 I1 Ar1 T1 A1 Lg1 → E7 I' Ar' → jG I1 Ar1 I' Ar' ∧ jJ Z1 I' Ar' T1 A1 Lg1) : opD G l x m o ad M6 av M7 am h := by
  refine ⟨v, lvd, lvm, _, h9, h10, h6, fun h1 hP => ?_⟩
  obtain ⟨Z1, I1, Ar1, T1, A1, Lg1, fo, S, hW, hv⟩ := hP
  refine ⟨⟨_, S.2.1.1⟩, ?_⟩
  have e := S.2.1.self D
  rw [e]
  refine (h7 h1).mono (fun r h2 q => ?_)
  obtain ⟨q1, I', Ar', q2, q3⟩ := q
  obtain ⟨g, J⟩ := hE Z1 I1 Ar1 T1 A1 Lg1 I' Ar' hW q3
  refine ⟨q1, Z1, I', Ar', T1, A1, Lg1, fo, ?_, J⟩
  rw [q2]
  exact (S.model D).merge g
end Q7
