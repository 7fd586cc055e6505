section Q8
variable {G : gG} {l : Launch} {h h0 h1 : hW} {Z : kZ} {I : Nat → Int32} {Ar : Nat → Nat → Int32} {T : Nat → Int32} {A : Nat → Nat → Int32} {Lg : Nat → Nat → Int64} {ix ad : Nat → Nat} {x m o : Nat} {fo : Nat → Int64}
variable {I1 I' : Nat → Int32} {Ar1 Ar' : Nat → Nat → Int32} {T1 : Nat → Int32} {A1 : Nat → Nat → Int32}
theorem CtH.mono {lv mc ms : Nat} {M : gM} {hh : List (Nat × Nat × Nat × Nat)} {av : List Value} {post post' : Option Value → hW → Prop} (K : CtH G l lv mc ms M hh av h post) (hp : ∀ v h', post v h' → post' v h') : CtH G l lv mc ms M hh av h post' := by
  intro p e ha hc hk s m args below hf happ hP hx
  obtain ⟨t, o, b0, b1, b2, ⟨⟨v, h', e1, e2, e3⟩, e4⟩, e5⟩ := K p e ha hc hk s m args below hf happ hP hx
  exact ⟨t, o, b0, b1, b2, ⟨⟨v, h', e1, hp v h' e2, e3⟩, e4⟩, e5⟩
/-- where the desk's call ended -/
def dP (G : gG) (Z : kZ) (h : hW) (W : kZ → (Nat → Int32) → (Nat → Nat → Int32) → (Nat → Int32) → (Nat → Nat → Int32) → (Nat → Nat → Int64) → Prop) (h' : hW) : Prop := ∃ (Z1 : kZ) (I1 : Nat → Int32) (Ar1 : Nat → Nat → Int32) (T1 : Nat → Int32) (A1 : Nat → Nat → Int32) (Lg1 : Nat → Nat → Int64), kD G Z1 I1 Ar1 T1 A1 Lg1 h' ∧ kF Z Z1 h h' ∧ Z1.da 1 = Z.da 1 ∧ W Z1 I1 Ar1 T1 A1 Lg1
/-- it ended in the very state -/
def dW (Z : kZ) (I1 : Nat → Int32) (Ar1 : Nat → Nat → Int32) (T1 : Nat → Int32) (A1 : Nat → Nat → Int32) (Lg : Nat → Nat → Int64) : kZ → (Nat → Int32) → (Nat → Nat → Int32) → (Nat → Int32) → (Nat → Nat → Int32) → (Nat → Nat → Int64) → Prop := fun Z2 I2 Ar2 T2 A2 Lg2 => Z2 = Z ∧ I2 = I1 ∧ Ar2 = Ar1 ∧ T2 = T1 ∧ A2 = A1 ∧ Lg2 = Lg
theorem dP.kh (D : kW G Z) : dP G Z h (dW Z I1 Ar1 T1 A1 Lg) (kH G Z I1 Ar1 T1 A1 Lg h) := ⟨Z, I1, Ar1, T1, A1, Lg, kD.of D, kF.H, rfl, rfl, rfl, rfl, rfl, rfl, rfl⟩
theorem dP.rf (K : kD G Z I Ar T A Lg h) : dP G Z h (dW Z I Ar T A Lg) h := ⟨Z, I, Ar, T, A, Lg, K, kF.rf, rfl, rfl, rfl, rfl, rfl, rfl, rfl⟩
theorem Ct.kh {lv mc ms : Nat} {M : gM} {av : List Value} {r : Option Value} (K : kD G Z I Ar T A Lg h) (c : ∀ h0, Ct G l lv mc ms M av (kH G Z I Ar T A Lg h0) (rX r (kH G Z I1 Ar1 T1 A1 Lg h0))) : Ct G l lv mc ms M av h (fun v h' => v = r ∧ dP G Z h (dW Z I1 Ar1 T1 A1 Lg) h') := by
  have q : ∀ X, X = kH G Z I Ar T A Lg h → Ct G l lv mc ms M av X (rX r (kH G Z I1 Ar1 T1 A1 Lg h)) := fun X hX => by rw [hX]; exact c h
  refine (q h K.self).mono (fun v h' z => ⟨z.1, ?_⟩)
  rw [z.2]; exact dP.kh K.1
theorem CtX.kh {lv mc ms : Nat} {M : gM} {av : List Value} {cls : String} (K : kD G Z I Ar T A Lg h) (c : ∀ h0, CtX G l lv mc ms M av (kH G Z I Ar T A Lg h0) (fun _ _ => False) (tX cls (kH G Z I Ar T A Lg h0))) : CtX G l lv mc ms M av h (fun _ _ => False) (fun C h' => C = cls ∧ dP G Z h (dW Z I Ar T A Lg) h') := by
  have q : ∀ X, X = kH G Z I Ar T A Lg h → CtX G l lv mc ms M av X (fun _ _ => False) (tX cls X) := fun X hX => by rw [hX]; exact c h
  refine (q h K.self).mono (fun v h' z => z) (fun C h' z => ⟨z.1, ?_⟩)
  rw [z.2]; exact dP.rf K
theorem CtX.hh {lv mc ms : Nat} {M : gM} {av : List Value} {cls : String} (K : kD G Z I Ar T A Lg h) (c : CtX G l lv mc ms M av h (fun _ _ => False) (tX cls h)) : CtX G l lv mc ms M av h (fun _ _ => False) (fun C h' => C = cls ∧ dP G Z h (dW Z I Ar T A Lg) h') :=
  c.mono (fun v h' z => z) (fun C h' z => ⟨z.1, by rw [z.2]; exact dP.rf K⟩)
theorem CtX.kt {lv mc ms : Nat} {M : gM} {av : List Value} {cls : String} (K : kD G Z I Ar T A Lg h) (c : CtX G l lv mc ms M av h (fun _ _ => False) (fun C h' => C = cls ∧ h' = kH G Z I1 Ar1 T1 A1 Lg h)) : CtX G l lv mc ms M av h (fun _ _ => False) (fun C h' => C = cls ∧ dP G Z h (dW Z I1 Ar1 T1 A1 Lg) h') :=
  c.mono (fun v h' z => z) (fun C h' z => ⟨z.1, by rw [z.2]; exact dP.kh K.1⟩)
theorem dP.jP {W : kZ → (Nat → Int32) → (Nat → Nat → Int32) → (Nat → Int32) → (Nat → Nat → Int32) → (Nat → Nat → Int64) → Prop} {h' : hW} (S : jS2 G x m o ad Z I Ar T A Lg I Ar fo h) (d : dP G Z h W h') : ∃ (Z1 : kZ) (I1 : Nat → Int32) (Ar1 : Nat → Nat → Int32) (T1 : Nat → Int32) (A1 : Nat → Nat → Int32) (Lg1 : Nat → Nat → Int64), jS2 G x m o ad Z1 I1 Ar1 T1 A1 Lg1 I Ar fo h' ∧ W Z1 I1 Ar1 T1 A1 Lg1 := by
  obtain ⟨Z1, I1, Ar1, T1, A1, Lg1, a, b, c, d⟩ := d
  exact ⟨Z1, I1, Ar1, T1, A1, Lg1, S.desk a b c, d⟩
/-- the desk returns -/
theorem opW.ret {P : Int32 → Prop} {r : Int32} {mcc msc lvc lvm : Nat} {ML M6 M7 : gM} {hh : List (Nat × Nat × Nat × Nat)} {av av6 am : List Value} {F : Int32 → Int64} {W : kZ → (Nat → Int32) → (Nat → Nat → Int32) → (Nat → Int32) → (Nat → Nat → Int32) → (Nat → Nat → Int64) → Prop} {E7 : (Nat → Int32) → (Nat → Nat → Int32) → Prop} (D : md ix m ad) (S : jS2 G x m o ad Z I Ar T A Lg I Ar fo h) (hP : P r) (hF : F r = r.toInt64) (h21 : mcc ≤ 21) (h22 : msc ≤ 2280) (h10 : lvm ≤ 10)
    (w : ∀ {post0 : Option Value → hW → Prop}, Ct G l lvc mcc msc M6 av6 h post0 → (∀ v h1, post0 v h1 → ∃ (r : Int32) (fo : Nat → Int64), v = some (.int r) ∧ h1 o = some (aJ G 1 fo)) → CtH G l 12 mcc msc ML hh av h (fun v h' => ∃ (r : Int32) (h1 : hW) (fo : Nat → Int64), post0 (some (.int r)) h1 ∧ h1 o = some (aJ G 1 fo) ∧ v = some (.int 0) ∧ h' = hup h1 o (aJ G 1 (vp_updL fo 0 (F r)))))
    (c6 : Ct G l lvc mcc msc M6 av6 h (fun v h' => v = some (.int r) ∧ dP G Z h W h'))
    (c7 : ∀ h0, Ct G l lvm 0 0 M7 (.ref m :: am) (mH G ix ad I Ar h0) (fun v h2 => v = some (.int r) ∧ ∃ (I' : Nat → Int32) (Ar' : Nat → Nat → Int32), h2 = mH G ix ad I' Ar' h0 ∧ E7 I' Ar'))
    (hE : ∀ Z1 I1 Ar1 T1 A1 Lg1 I' Ar', W Z1 I1 Ar1 T1 A1 Lg1 → E7 I' Ar' → jG I1 Ar1 I' Ar' ∧ jJ Z1 I' Ar' T1 A1 Lg1 ∧ I' 0 = 0) : opW P G l x m o ad ML hh av M7 am h := by
  refine opW.of (k := 0) (v := r) (W := W) D hP h21 h22 h10 (CtH.mono (w c6 ?_) ?_) c7 hE
  · intro v h1 q
    obtain ⟨Z1, I1, Ar1, T1, A1, Lg1, S1, -⟩ := q.2.jP S
    exact ⟨r, fo, q.1, S1.2.2.1.1⟩
  · rintro v h' ⟨r2, h1, fo2, ⟨q1, q2⟩, q3, q4, q5⟩
    refine ⟨q4, ?_⟩
    have e : r2 = r := by injection q1 with q1; injection q1
    obtain ⟨Z1, I1, Ar1, T1, A1, Lg1, S1, q6⟩ := q2.jP S
    refine ⟨Z1, I1, Ar1, T1, A1, Lg1, vp_updL fo2 0 (F r), ?_, q6, fun _ => ?_⟩
    · rw [q5, e]; exact S1.out
    · exact (if_pos rfl).trans hF
/-- the desk throws -/
theorem opW.thr {P : Int32 → Prop} {k v : Int32} {mcc msc lvm : Nat} {ML M7 : gM} {hh : List (Nat × Nat × Nat × Nat)} {av am : List Value} {cls : String} {W : kZ → (Nat → Int32) → (Nat → Nat → Int32) → (Nat → Int32) → (Nat → Nat → Int32) → (Nat → Nat → Int64) → Prop} {E7 : (Nat → Int32) → (Nat → Nat → Int32) → Prop} (D : md ix m ad) (S : jS2 G x m o ad Z I Ar T A Lg I Ar fo h) (hP : P v) (hk : ¬ k = 0) (h21 : mcc ≤ 21) (h22 : msc ≤ 2280) (h10 : lvm ≤ 10)
    (c6 : CtH G l 12 mcc msc ML hh av h (fun r h' => (cls = cls ∧ dP G Z h W h') ∧ r = some (.int k)))
    (c7 : ∀ h0, Ct G l lvm 0 0 M7 (.ref m :: am) (mH G ix ad I Ar h0) (fun r h2 => r = some (.int v) ∧ ∃ (I' : Nat → Int32) (Ar' : Nat → Nat → Int32), h2 = mH G ix ad I' Ar' h0 ∧ E7 I' Ar'))
    (hE : ∀ Z1 I1 Ar1 T1 A1 Lg1 I' Ar', W Z1 I1 Ar1 T1 A1 Lg1 → E7 I' Ar' → jG I1 Ar1 I' Ar' ∧ jJ Z1 I' Ar' T1 A1 Lg1 ∧ I' 0 = k) : opW P G l x m o ad ML hh av M7 am h := by
  refine opW.of (k := k) (v := v) (W := W) D hP h21 h22 h10 (CtH.mono c6 ?_) c7 hE
  rintro r h' ⟨⟨-, q2⟩, q1⟩
  obtain ⟨Z1, I1, Ar1, T1, A1, Lg1, S1, q6⟩ := q2.jP S
  exact ⟨q1, Z1, I1, Ar1, T1, A1, Lg1, fo, S1, q6, fun z => absurd z hk⟩
/-- the reference returns with known numbers -/
def eW (I2 : Nat → Int32) (Ar2 : Nat → Nat → Int32) : (Nat → Int32) → (Nat → Nat → Int32) → Prop := fun I' Ar' => I' = I2 ∧ Ar' = Ar2
theorem Ct.mh {lv : Nat} {M : gM} {av : List Value} {r : Option Value} (c : ∀ h0, Ct G l lv 0 0 M av (mH G ix ad I Ar h0) (rX r (mH G ix ad I' Ar' h0))) : ∀ h0, Ct G l lv 0 0 M av (mH G ix ad I Ar h0) (fun v h2 => v = r ∧ ∃ (I1 : Nat → Int32) (Ar1 : Nat → Nat → Int32), h2 = mH G ix ad I1 Ar1 h0 ∧ eW I' Ar' I1 Ar1) := fun h0 => (c h0).mono (fun v h2 q => ⟨q.1, I', Ar', q.2, rfl, rfl⟩)
theorem hE_of {k : Int32} {Z1 : kZ} {Lg1 : Nat → Nat → Int64} (g : jG I1 Ar1 I' Ar') (J : jJ Z1 I' Ar' T1 A1 Lg1) (hk : I' 0 = k) : ∀ Z2 I2 Ar2 T2 A2 Lg2 I3 Ar3, dW Z1 I1 Ar1 T1 A1 Lg1 Z2 I2 Ar2 T2 A2 Lg2 → eW I' Ar' I3 Ar3 → jG I2 Ar2 I3 Ar3 ∧ jJ Z2 I3 Ar3 T2 A2 Lg2 ∧ I3 0 = k := by
  rintro Z2 I2 Ar2 T2 A2 Lg2 I3 Ar3 ⟨rfl, rfl, rfl, rfl, rfl, rfl⟩ ⟨rfl, rfl⟩
  exact ⟨g, J, hk⟩
/-- a call that answers without an error -/
theorem opD.kh {v : Int32} {lvd lvm : Nat} {M6 M7 : gM} {av am : List Value} (D : md ix m ad) (S : jS2 G x m o ad Z I Ar T A Lg I Ar fo h) (h9 : lvd ≤ 10) (h10 : lvm ≤ 10)
    (c6 : Ct G l lvd 0 0 M6 (.ref x :: av) h (fun r h' => r = some (.int v) ∧ dP G Z h (dW Z I1 Ar1 T1 A1 Lg) h'))
    (c7 : ∀ h0, Ct G l lvm 0 0 M7 (.ref m :: am) (mH G ix ad I Ar h0) (rX (some (.int v)) (mH G ix ad I' Ar' h0))) (g : jG I1 Ar1 I' Ar') (J : jJ Z I' Ar' T1 A1 Lg) : opD G l x m o ad M6 av M7 am h := by
  refine opD.of (v := v) (W := dW Z I1 Ar1 T1 A1 Lg) D h9 h10 (c6.mono (fun r h' q => ⟨q.1, ?_⟩)) (Ct.mh c7) (fun Z1 I1 Ar1 T1 A1 Lg1 I' Ar' a b => ?_)
  · obtain ⟨Z1, I1, Ar1, T1, A1, Lg1, S1, q6⟩ := q.2.jP S
    exact ⟨Z1, I1, Ar1, T1, A1, Lg1, fo, S1, q6, fun z => absurd z (by decide)⟩
  · obtain ⟨q1, q2, -⟩ := hE_of (k := _) g J rfl Z1 I1 Ar1 T1 A1 Lg1 I' Ar' a b
    exact ⟨q1, q2⟩
end Q8
