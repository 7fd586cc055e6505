section Q13
variable {G : gG} {l : Launch} {h h0 h1 : hW} {Z : kZ} {I : Nat → Int32} {Ar : Nat → Nat → Int32} {T : Nat → Int32} {A : Nat → Nat → Int32} {Lg : Nat → Nat → Int64} {ix ad : Nat → Nat} {x m o : Nat} {fo : Nat → Int64}
variable {I1 I' : Nat → Int32} {Ar1 Ar' : Nat → Nat → Int32} {T1 : Nat → Int32} {A1 : Nat → Nat → Int32} {Lg1 : Nat → Nat → Int64}
theorem agR.of_p (g : AGp Ar Ar') : agR Ar Ar' :=
  ⟨fun j a b c d e _ _ _ _ _ => g.1 j a b c d e, fun k hk => g.2.1 k (by omega), g.2.2.2, g.2.2.1, fun k _ => ⟨congrFun (g.1 15 (by decide) (by decide) (by decide) (by decide) (by decide)) k, congrFun (g.1 16 (by decide) (by decide) (by decide) (by decide) (by decide)) k⟩, fun k _ => ⟨congrFun (g.1 18 (by decide) (by decide) (by decide) (by decide) (by decide)) k, congrFun (g.1 19 (by decide) (by decide) (by decide) (by decide) (by decide)) k, congrFun (g.1 20 (by decide) (by decide) (by decide) (by decide) (by decide)) k⟩⟩
theorem agR.of_l (g : AGl Ar Ar') : agR Ar Ar' :=
  ⟨fun j _ _ _ _ _ a b c d e => g.1 j a b c d e, fun k _ => congrFun (g.1 6 (by decide) (by decide) (by decide) (by decide) (by decide)) k, fun k _ => congrFun (g.1 7 (by decide) (by decide) (by decide) (by decide) (by decide)) k, fun k _ => ⟨congrFun (g.1 8 (by decide) (by decide) (by decide) (by decide) (by decide)) k, congrFun (g.1 9 (by decide) (by decide) (by decide) (by decide) (by decide)) k, congrFun (g.1 10 (by decide) (by decide) (by decide) (by decide) (by decide)) k⟩, g.2.1, g.2.2⟩
/-- where it is only what nobody looks at that differs -/
theorem jJ.ag (D : kW G Z) (J : jJ Z I Ar T A Lg) (g : agR Ar Ar') : jJ Z I Ar' T A Lg := by
  obtain ⟨⟨a1, a2, a3, a4⟩, b, c, d, e1, ⟨f1, f2, f3, f4⟩, ⟨p1, p2⟩, lv⟩ := J
  obtain ⟨g0, g6, g7, g8, g15, g18⟩ := g
  have gg : ∀ j, j ∈ [2, 4, 5, 12, 14, 17, 22, 23, 24, 27] → Ar' j = Ar j := fun j hj => by
    refine g0 j ?_ ?_ ?_ ?_ ?_ ?_ ?_ ?_ ?_ ?_ <;> (intro z; rw [z] at hj; revert hj; decide)
  have e2 := gg 2 (by decide)
  have e4 := gg 4 (by decide)
  have e5 := gg 5 (by decide)
  have e12 := gg 12 (by decide)
  have e14 := gg 14 (by decide)
  have e17 := gg 17 (by decide)
  have e22 := gg 22 (by decide)
  have e23 := gg 23 (by decide)
  have e24 := gg 24 (by decide)
  have e27 := gg 27 (by decide)
  have h80 := D.l80
  have h12 := D.c12
  refine ⟨⟨a1, ?_, ?_, ?_⟩, ?_, ?_, ?_, e1, ⟨?_, ?_, ?_, ?_⟩, ⟨?_, ?_⟩, ?_⟩
  · intro a ha; rw [(g15 a (by omega)).1]; exact a2 a ha
  · rw [e22, e24]; exact a3
  · rw [e2, e5]; exact a4
  · unfold jQ; rw [e22, e23]; exact b
  · intro c2 hc2
    refine ⟨(c c2 hc2).1.cg rfl rfl rfl rfl (g6 c2 (by omega)) (fun k _ hk => g7 k (by omega)) (fun k _ hk => g8 k (by omega)) (D.s12 hc2), ?_⟩
    rw [e4]; exact (c c2 hc2).2
  · intro a ha
    refine ⟨(d a ha).1.cg rfl (fun p _ => ⟨rfl, rfl⟩) (g15 a (by omega)).2 (fun k _ => by rw [e17]) (fun k hk => g18 _ (by omega)), ?_⟩
    rw [e14]; exact (d a ha).2
  · rw [e12]; exact f1
  · rw [e27]; exact f2
  · rw [e22]; exact f3
  · rw [e5]; exact f4
  · intro k hk; rw [(g8 k hk).1]; exact p1 k hk
  · intro c2 hc2; rw [g6 c2 hc2]; exact p2 c2 hc2
  · intro a ha
    obtain ⟨⟨z1, z2⟩, z3, z4⟩ := lv a ha
    refine ⟨⟨?_, ?_⟩, ?_, ?_⟩
    · rw [(g15 a ha).2]; exact z1
    · intro w hw
      rw [(g15 a ha).2] at hw
      obtain ⟨j, hj, q⟩ := z1
      have hw2 : w < 60 := by rw [q, show cl (nI j) = j from nI_clamp (by omega)] at hw; omega
      obtain ⟨y1, y2, -⟩ := g18 (60 * a + w) (by omega)
      rw [y1, y2]; exact z2 w hw
    · rw [(g15 a ha).1]; exact z3
    · rw [e14]; exact z4
/-- after the text is looked at -/
def eT (I : Nat → Int32) (Ar : Nat → Nat → Int32) (e k : Int32) (Q : (Nat → Nat → Int32) → Prop) : (Nat → Int32) → (Nat → Nat → Int32) → Prop := fun I' Ar' => ∃ (b' p' : Nat), I' = va_up (va_up (wI (usI I) b' p') 32 e) 0 k ∧ agR Ar Ar' ∧ Q Ar'
theorem eT.gg {e k : Int32} {Q : (Nat → Nat → Int32) → Prop} (q : eT I Ar e k Q I' Ar') (h : ∀ j, j ∈ [2, 3, 4, 5, 12, 13, 14, 22, 23, 24, 25, 27] → Ar' j = Ar j) : jG (va_up (va_up I 28 0) 32 e) Ar I' Ar' := by
  obtain ⟨b', p', rfl, -⟩ := q
  exact ⟨⟨rfl, rfl, rfl, rfl⟩, h⟩
theorem agR.l12 (g : agR Ar Ar') : ∀ j, j ∈ [2, 3, 4, 5, 12, 13, 14, 22, 23, 24, 25, 27] → Ar' j = Ar j := fun j hj => by
  refine g.1 j ?_ ?_ ?_ ?_ ?_ ?_ ?_ ?_ ?_ ?_ <;> (intro z; rw [z] at hj; revert hj; decide)
theorem eT.hE {e k : Int32} {Q : (Nat → Nat → Int32) → Prop} (D : kW G Z) (J : jJ Z I Ar T A Lg) (hT : kTf T T1) (hA : kAf A A1) (hL : kLf Lg Lg1) (q : eT I Ar e k Q I' Ar') : jG (va_up (va_up I 28 0) 32 e) Ar I' Ar' ∧ jJ Z I' Ar' T1 A1 Lg1 ∧ I' 0 = k := by
  refine ⟨q.gg ?_, ?_, ?_⟩
  · obtain ⟨b', p', rfl, g, -⟩ := q
    exact g.l12
  · obtain ⟨b', p', rfl, g, -⟩ := q
    exact (((J.ag D g).cI (I' := va_up (va_up (wI (usI I) b' p') 32 e) 0 k) ⟨rfl, rfl, rfl⟩ ⟨0, by decide, rfl⟩ ⟨b', rfl⟩ J.i26).cT (fun c => hT _ (by omega)) (fun c => hA _ (by omega)) (fun j hj => hL j (by omega)))
  · obtain ⟨b', p', rfl, g, -⟩ := q
    rfl
/-- where the text is thrown away unread -/
theorem jG.us {k : Int32} : jG (va_up I 28 0) Ar (va_up (usI I) 0 k) Ar := ⟨⟨rfl, rfl, rfl, rfl⟩, fun _ _ => rfl⟩
theorem jJ.us {k a b c : Int32} (J : jJ Z I Ar T A Lg) : jJ Z (va_up (usI I) 0 k) Ar (va_up (va_up (va_up T 0 a) 1 b) 2 c) A Lg :=
  (J.cI (I' := va_up (usI I) 0 k) ⟨rfl, rfl, rfl⟩ ⟨0, by decide, rfl⟩ J.i31 J.i26).cT (fun c2 => by rw [va_up_ne _ _ (by omega), va_up_ne _ _ (by omega), va_up_ne _ _ (by omega)]) (fun _ => rfl) (fun _ _ => rfl)
/-- what the desk leaves behind a text that it refuses -/
def rW (Z : kZ) (I1 : Nat → Int32) (Ar : Nat → Nat → Int32) (T : Nat → Int32) (A : Nat → Nat → Int32) (Lg : Nat → Nat → Int64) : kZ → (Nat → Int32) → (Nat → Nat → Int32) → (Nat → Int32) → (Nat → Nat → Int32) → (Nat → Nat → Int64) → Prop := fun Z2 I2 Ar2 T2 A2 Lg2 => Z2 = Z ∧ I2 = I1 ∧ Ar2 = Ar ∧ kTf T T2 ∧ kAf A A2 ∧ kLf Lg Lg2
theorem CtX.kr {lv mc ms : Nat} {M : gM} {av : List Value} {cls : String} (c : CtX G l lv mc ms M av h (fun _ _ => False) (fun C h' => C = cls ∧ ∃ (T' : Nat → Int32) (A' : Nat → Nat → Int32) (Lg' : Nat → Nat → Int64), (kTf T T' ∧ kAf A A' ∧ kLf Lg Lg') ∧ kD G Z I1 Ar T' A' Lg' h' ∧ kF Z Z h h')) : CtX G l lv mc ms M av h (fun _ _ => False) (fun C h' => C = cls ∧ dP G Z h (rW Z I1 Ar T A Lg) h') :=
  c.mono (fun v h' z => z) (fun C h' z => by
    obtain ⟨z0, T', A', Lg', ⟨z1, z2, z3⟩, z4, z5⟩ := z
    exact ⟨z0, Z, I1, Ar, T', A', Lg', z4, z5, rfl, rfl, rfl, rfl, z1, z2, z3⟩)
theorem rW.hE {e k : Int32} {Q : (Nat → Nat → Int32) → Prop} (D : kW G Z) (J : jJ Z I Ar T A Lg) : ∀ Z1 I1 Ar1 T1 A1 Lg1 I' Ar', rW Z (va_up (va_up I 28 0) 32 e) Ar T A Lg Z1 I1 Ar1 T1 A1 Lg1 → eT I Ar e k Q I' Ar' → jG I1 Ar1 I' Ar' ∧ jJ Z1 I' Ar' T1 A1 Lg1 ∧ I' 0 = k := by
  rintro Z1 I1 Ar1 T1 A1 Lg1 I' Ar' ⟨rfl, rfl, rfl, z1, z2, z3⟩ q
  exact q.hE D J z1 z2 z3
end Q13
