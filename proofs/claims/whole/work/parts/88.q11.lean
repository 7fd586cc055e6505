section Q11
variable {G : gG} {l : Launch} {h h0 h1 : hW} {Z : kZ} {I : Nat → Int32} {Ar : Nat → Nat → Int32} {T : Nat → Int32} {A : Nat → Nat → Int32} {Lg : Nat → Nat → Int64} {ix ad : Nat → Nat} {x m o : Nat} {fo : Nat → Int64}
variable {I1 I' : Nat → Int32} {Ar1 Ar' : Nat → Nat → Int32} {T1 : Nat → Int32} {A1 : Nat → Nat → Int32} {Lg1 : Nat → Nat → Int64}
variable {P : Int32 → Prop}
theorem inR3 {d : Nat} (hd : d < 4) : inR (nI d) 0 3 := inR.of (N := 4) (by decide) hd
theorem nin3 {z : Int32} (h : noI z 4) : ¬ inR z 0 3 := h.inR (N := 4) (by decide)
theorem j_waits (hs : l.stackTraces = false) (hP : ∀ v, P v) (D : md ix m ad) (S : jS2 G x m o ad Z I Ar T A Lg I Ar fo h) (J : jJ Z I Ar T A Lg) (p : Int32) : opW P G l x m o ad M_L_waits hh_waits [.ref x, .int p, .ref o] M_X7_waits [.int p] h := by
  have hx := S.2.2.2.2
  subst hx
  have D6 := S.1.1
  have V := J.V
  have h12 := D6.c12
  have h80 := J.l80 D6
  have hP0 := hP 0
  rcases noI_or p 4 (by decide) with q | ⟨d, hd, rfl⟩
  · exact opW.thr (P := P) (k := 1) (v := 0) (mcc := 1) (msc := 6) (cls := "java/lang/IndexOutOfBoundsException") D S hP0 (by decide) (Nat.le_of_ble_eq_true rfl) (Nat.le_of_ble_eq_true rfl) (Nat.le_of_ble_eq_true rfl) (w_waits_1 (post0 := fun _ _ => False) (px0 := fun C h' => C = "java/lang/IndexOutOfBoundsException" ∧ dP G Z h (dW Z I Ar T A Lg) h') _ o p S.hx (Nat.le_of_ble_eq_true rfl) (CtX.hh S.1 (c_X6_waits_t hs p q)) (fun C h' z => z.1)) (Ct.mh (fun h0 => c_X7_waits_e1 D p (nin3 q))) (hE_of jG.c00 J.c00 rfl)
  · exact opW.ret (P := P) (r := _) (mcc := 0) (msc := 0) (F := fun r => r.toInt64) D S (hP _) rfl (Nat.zero_le _) (Nat.zero_le _) (Nat.le_of_ble_eq_true rfl) (fun hM hp => w_waits (px0 := fun _ _ => True) _ o (nI d) S.hx (Nat.le_of_ble_eq_true rfl) hM hp) (Ct.kh S.1 (fun h0 => c_X6_waits S.1.1 V d hd)) (Ct.mh (fun h0 => c_X7_waits D (nI d) (inR3 hd) J.hC)) (hE_of jG.c0 J.c0 rfl)
theorem j_late (hs : l.stackTraces = false) (hP : ∀ v, P v) (D : md ix m ad) (S : jS2 G x m o ad Z I Ar T A Lg I Ar fo h) (J : jJ Z I Ar T A Lg) (p : Int32) : opW P G l x m o ad M_L_late hh_late [.ref x, .int p, .ref o] M_X7_late [.int p] h := by
  have hx := S.2.2.2.2
  subst hx
  have D6 := S.1.1
  have V := J.V
  have h12 := D6.c12
  have h80 := J.l80 D6
  have hP0 := hP 0
  rcases noI_or p 4 (by decide) with q | ⟨d, hd, rfl⟩
  · exact opW.thr (P := P) (k := 1) (v := 0) (mcc := 1) (msc := 6) (cls := "java/lang/IndexOutOfBoundsException") D S hP0 (by decide) (Nat.le_of_ble_eq_true rfl) (Nat.le_of_ble_eq_true rfl) (Nat.le_of_ble_eq_true rfl) (w_late_1 (post0 := fun _ _ => False) (px0 := fun C h' => C = "java/lang/IndexOutOfBoundsException" ∧ dP G Z h (dW Z I Ar T A Lg) h') _ o p S.hx (Nat.le_of_ble_eq_true rfl) (CtX.hh S.1 (c_X6_late_t hs p q)) (fun C h' z => z.1)) (Ct.mh (fun h0 => c_X7_late_e1 D p (nin3 q))) (hE_of jG.c00 J.c00 rfl)
  · obtain ⟨t, ht, e1⟩ := J.i1
    obtain ⟨H, hH, e2⟩ := J.h12 d hd
    have e := late_eq (d := d) (t := t) (H := H) (Ar := Ar) (F0 := zeroN (A 11) 61) hd e1 ht e2 hH (fun x hx => if_pos hx) (fun k hk q => by
      obtain ⟨q1, q2, q3, q4, q5⟩ := q
      have hL : k / 6 < Z.nL := by
        rw [V.1.2.1] at q1; exact (nI_ltI (by omega) (by omega)).mp q1
      have hX := Nat.lt_of_lt_of_le hL D6.lx
      have h6 := D6.p6 (k / 6)
      have hp : k % 6 < Z.np (k / 6) := by
        rw [V.2.1 _ hX] at q2; exact (nI_ltI (by omega) (by omega)).mp q2
      obtain ⟨-, z2⟩ := J.2.1 _ hX _ hp
      rw [Nat.div_add_mod] at z2
      obtain ⟨dd, z3, z4⟩ := z2 (fun z => by rw [z] at q4; exact absurd q4 (by decide))
      rw [e1, show cl (nI t) = t from nI_clamp (by omega)] at z3
      exact ⟨dd, z3, z4⟩)
    exact opW.ret (P := P) (r := _) (mcc := 0) (msc := 0) (F := fun r => r.toInt64) D S (hP _) rfl (Nat.zero_le _) (Nat.zero_le _) (Nat.le_of_ble_eq_true rfl) (fun hM hp => w_late (px0 := fun _ _ => True) _ o (nI d) S.hx (Nat.le_of_ble_eq_true rfl) hM hp) (Ct.kh S.1 (fun h0 => c_X6_late S.1.1 V d hd)) (Ct.mh (fun h0 => by have q := c_X7_late (l := l) (G := G) (I := I) (h0 := h0) D (nI d) (inR3 hd) J.hC; rw [e] at q; exact q)) (hE_of jG.c0 (J.c0.cA1 (by decide)) rfl)
theorem j_template (hs : l.stackTraces = false) (hP : ∀ v, P v) (D : md ix m ad) (S : jS2 G x m o ad Z I Ar T A Lg I Ar fo h) (J : jJ Z I Ar T A Lg) (q : Int32) : opW P G l x m o ad M_L_template hh_template [.ref x, .int q, .ref o] M_X7_template [.int q] h := by
  have hx := S.2.2.2.2
  subst hx
  have D6 := S.1.1
  have V := J.V
  have h12 := D6.c12
  have h80 := J.l80 D6
  have hP0 := hP 0
  obtain ⟨nt, hnt, e26⟩ := J.i26
  have hsh : ((1 : Int32) <<< (I 11 &&& 31)) = nI (2 ^ Z.nC) := by rw [V.1.2.2, shl1 _ h12]
  have hq0 := tpl_iff q Z.nC h12
  by_cases hq : q = 0 ∨ ¬ q &&& ((nI (2 ^ Z.nC) - 1) ^^^ -1) = 0
  · have hq2 : (q ≤ 0 ∨ (1 : Int32) <<< (I 11 &&& 31) ≤ q) := by rw [hsh]; exact hq0.mpr hq
    exact opW.thr (P := P) (k := 1) (v := 0) (mcc := 1) (msc := 6) (cls := "java/lang/IllegalArgumentException") D S hP0 (by decide) (Nat.le_of_ble_eq_true rfl) (Nat.le_of_ble_eq_true rfl) (Nat.le_of_ble_eq_true rfl) (w_template_1 (post0 := fun _ _ => False) (px0 := fun C h' => C = "java/lang/IllegalArgumentException" ∧ dP G Z h (dW Z I Ar T A Lg) h') _ o q S.hx (Nat.le_of_ble_eq_true rfl) (CtX.kh S.1 (fun h0 => c_X6_template_t hs S.1.1 q hq)) (fun C h' z => z.1)) (Ct.mh (fun h0 => c_X7_template_e1 D q hq2)) (hE_of jG.c00 J.c00 rfl)
  · have hq2 : ¬ (q ≤ 0 ∨ (1 : Int32) <<< (I 11 &&& 31) ≤ q) := by rw [hsh]; exact fun z => hq (hq0.mp z)
    have n1 : ¬ q = 0 := fun z => hq (Or.inl z)
    have n2 : q &&& ((nI (2 ^ Z.nC) - 1) ^^^ -1) = 0 := Decidable.not_not.mp (fun z => hq (Or.inr z))
    by_cases h10 : nt = 10
    · subst h10
      have e10 : I 26 = 10 := e26
      exact opW.ret (P := P) (r := _) (mcc := 0) (msc := 0) (F := fun r => r.toInt64) D S (hP _) rfl (Nat.zero_le _) (Nat.zero_le _) (Nat.le_of_ble_eq_true rfl) (fun hM hp => w_template (px0 := fun _ _ => True) _ o q S.hx (Nat.le_of_ble_eq_true rfl) hM hp) (Ct.kh S.1 (fun h0 => c_X6_template_full S.1.1 q n1 n2 e10)) (Ct.mh (fun h0 => by have z := c_X7_template (l := l) (G := G) (I := I) (Ar := Ar) (h0 := h0) D q hq2 ⟨10, Nat.le_refl _, e26⟩; rw [if_pos e10, if_pos e10, if_pos e10] at z; exact z)) (hE_of jG.c0 J.c0 rfl)
    · have e10 : ¬ I 26 = 10 := fun z => h10 ((nI_eq (b := 10) (by omega) (by decide)).mp (e26.symm.trans z))
      have g : jG (va_up I 26 (nI (nt + 1))) (va_up Ar 25 (upd (Ar 25) nt q)) (va_up (t0 I) 26 (nI (nt + 1))) (va_up Ar 25 (upd (Ar 25) nt q)) := ⟨⟨rfl, rfl, rfl, rfl⟩, fun _ _ => rfl⟩
      have J2 : jJ Z (va_up (t0 I) 26 (nI (nt + 1))) Ar T A Lg := J.cI ⟨rfl, rfl, rfl⟩ J.i28 J.i31 ⟨nt + 1, by omega, rfl⟩
      have J3 : jJ Z (va_up (t0 I) 26 (nI (nt + 1))) (va_up Ar 25 (upd (Ar 25) nt q)) T A Lg := J2.cA (fun j _ _ _ _ _ a _ _ _ => va_up_ne _ _ a) (fun a ha p hp => V.k24 a ha p hp) J.h12 J.by27
      exact opW.ret (P := P) (r := _) (mcc := 0) (msc := 0) (F := fun r => r.toInt64) D S (hP _) rfl (Nat.zero_le _) (Nat.zero_le _) (Nat.le_of_ble_eq_true rfl) (fun hM hp => w_template (px0 := fun _ _ => True) _ o q S.hx (Nat.le_of_ble_eq_true rfl) hM hp) (Ct.kh S.1 (fun h0 => c_X6_template S.1.1 q n1 n2 nt (by omega) e26)) (Ct.mh (fun h0 => by have z := c_X7_template (l := l) (G := G) (I := I) (Ar := Ar) (h0 := h0) D q hq2 ⟨nt, hnt, e26⟩; rw [if_neg e10, if_neg e10, if_neg e10, e26, nI_1, show cl (nI nt) = nt from nI_clamp (by omega)] at z; exact z)) (hE_of g J3 rfl)
theorem j_counts (hs : l.stackTraces = false) (hP : ∀ v, P v) (D : md ix m ad) (S : jS2 G x m o ad Z I Ar T A Lg I Ar fo h) (J : jJ Z I Ar T A Lg) (p q : Int32) : opW P G l x m o ad M_L_counts hh_counts [.ref x, .int p, .int q, .ref o] M_X7_counts [.int p, .int q] h := by
  have hx := S.2.2.2.2
  subst hx
  have D6 := S.1.1
  have V := J.V
  have h12 := D6.c12
  have h80 := J.l80 D6
  have hP0 := hP 0
  rcases noI_or p Z.nC (by omega) with q1 | ⟨c, hc, rfl⟩
  · have hq : ¬ inR p 0 (I 11 - 1) := by rw [V.1.2.2]; exact q1.inR (by omega)
    exact opW.thr (P := P) (k := 1) (v := 0) (mcc := 1) (msc := 6) (cls := "java/lang/IndexOutOfBoundsException") D S hP0 (by decide) (Nat.le_of_ble_eq_true rfl) (Nat.le_of_ble_eq_true rfl) (Nat.le_of_ble_eq_true rfl) (w_counts_1 (post0 := fun _ _ => False) (px0 := fun C h' => C = "java/lang/IndexOutOfBoundsException" ∧ dP G Z h (dW Z I Ar T A Lg) h') _ o p q S.hx (Nat.le_of_ble_eq_true rfl) (CtX.kh S.1 (fun h0 => c_X6_counts_t hs S.1.1 p q q1)) (fun C h' z => z.1)) (Ct.mh (fun h0 => c_X7_counts_e1 D p q hq)) (hE_of jG.c00 J.c00 rfl)
  · obtain ⟨t, ht, e1⟩ := J.i1
    have hin : inR (nI c) 0 (I 11 - 1) := by rw [V.1.2.2]; exact inR.of (by omega) hc
    have h14 : ∀ a, a < Z.nX → okN (Ar 14 a) 400 := fun a ha => J.h14 a (by rw [V.1.1] at ha; omega)
    have hlow : ∀ i, i < 401 → cdA I Ar (nI c) i = cdL Ar (nI c) (zeroN (A 10) 401) Z.nL i := fun i hi => by
      show cdL Ar (nI c) (zeroN (Ar 34) 401) (cl (I 21)) i = _
      rw [kV.n21 D6 V]
      exact cdL_low (fun i hi => by unfold zeroN; rw [if_pos hi, if_pos hi]) _ (fun a ha => by
        obtain ⟨j, hj, q⟩ := J.h14 a (by omega)
        rw [q, show cl (nI j) = j from nI_clamp (by omega)]; omega) i hi
    have g34 : ∀ {f : Nat → Int32} {k : Int32}, jG I Ar (va_up I 0 k) (va_up Ar 34 f) := fun {f k} => ⟨⟨rfl, rfl, rfl, rfl⟩, fun j hj => va_up_ne _ _ (fun z => by rw [z] at hj; revert hj; decide)⟩
    have J34 : ∀ {f g : Nat → Int32} {k : Int32}, jJ Z (va_up I 0 k) (va_up Ar 34 f) T (va_up A 10 g) Lg := fun {f g k} => (J.c0.cA (fun j _ _ _ _ _ _ _ _ a => va_up_ne _ _ a) (fun a ha p hp => V.k24 a ha p hp) J.h12 J.by27).cA1 (by decide)
    by_cases hd : inR q 0 (I 1)
    · obtain ⟨d, hd1, rfl⟩ := nI_of hd.1
      have hdt : d ≤ t := Nat.le_of_not_lt (fun z => hd.2 (by rw [e1]; exact nI_lt z hd1))
      have hd2 : nI d ≤ I 1 := by rw [e1]; exact nI_le hdt (by omega)
      exact opW.ret (P := P) (r := _) (mcc := 0) (msc := 0) (F := fun r => r.toInt64) D S (hP _) rfl (Nat.zero_le _) (Nat.zero_le _) (Nat.le_of_ble_eq_true rfl) (fun hM hp => w_counts (px0 := fun _ _ => True) _ o (nI c) (nI d) S.hx (Nat.le_of_ble_eq_true rfl) hM hp) (Ct.kh S.1 (fun h0 => c_X6_counts S.1.1 V h14 c hc d (by omega) hd2)) (Ct.mh (fun h0 => by have z := c_X7_counts (l := l) (G := G) (I := I) (Ar := Ar) (h0 := h0) D (nI c) (nI d) hin (J.abv D6) (J.i11 D6) (J.i21 D6) J.h15 J.h14 (J.c22 D6) J.i1; rw [if_pos hd, if_pos hd, show cl (nI d) = d from nI_clamp (by omega), hlow d (by omega)] at z; exact z)) (hE_of g34 J34 rfl)
    · have hd2 : q < 0 ∨ I 1 < q := by
        by_cases z : q < 0
        · exact Or.inl z
        · exact Or.inr (Decidable.not_not.mp (fun y => hd ⟨z, y⟩))
      exact opW.ret (P := P) (r := _) (mcc := 0) (msc := 0) (F := fun r => r.toInt64) D S (hP _) rfl (Nat.zero_le _) (Nat.zero_le _) (Nat.le_of_ble_eq_true rfl) (fun hM hp => w_counts (px0 := fun _ _ => True) _ o (nI c) q S.hx (Nat.le_of_ble_eq_true rfl) hM hp) (Ct.kh S.1 (fun h0 => c_X6_counts_z S.1.1 c hc q hd2)) (Ct.mh (fun h0 => by have z := c_X7_counts (l := l) (G := G) (I := I) (Ar := Ar) (h0 := h0) D (nI c) q hin (J.abv D6) (J.i11 D6) (J.i21 D6) J.h15 J.h14 (J.c22 D6) J.i1; rw [if_neg hd, if_neg hd] at z; exact z)) (hE_of jG.c0 J.c0 rfl)
theorem j_wave (hs : l.stackTraces = false) (hP : ∀ v, P v) (D : md ix m ad) (S : jS2 G x m o ad Z I Ar T A Lg I Ar fo h) (J : jJ Z I Ar T A Lg) (p : Int32) : opW P G l x m o ad M_L_wave hh_wave [.ref x, .int p, .ref o] M_X7_wave [.int p] h := by
  have hx := S.2.2.2.2
  subst hx
  have D6 := S.1.1
  have V := J.V
  have h12 := D6.c12
  have h80 := J.l80 D6
  have hP0 := hP 0
  rcases noI_or p Z.nC (by omega) with q1 | ⟨c, hc, rfl⟩
  · have hq : ¬ inR p 0 (I 11 - 1) := by rw [V.1.2.2]; exact q1.inR (by omega)
    exact opW.thr (P := P) (k := 1) (v := 0) (mcc := 1) (msc := 6) (cls := "java/lang/IndexOutOfBoundsException") D S hP0 (by decide) (Nat.le_of_ble_eq_true rfl) (Nat.le_of_ble_eq_true rfl) (Nat.le_of_ble_eq_true rfl) (w_wave_1 (post0 := fun _ _ => False) (px0 := fun C h' => C = "java/lang/IndexOutOfBoundsException" ∧ dP G Z h (dW Z I Ar T A Lg) h') _ o p S.hx (Nat.le_of_ble_eq_true rfl) (CtX.kh S.1 (fun h0 => c_X6_wave_t hs S.1.1 p q1)) (fun C h' z => z.1)) (Ct.mh (fun h0 => c_X7_wave_e1 D p hq)) (hE_of jG.c00 J.c00 rfl)
  · obtain ⟨t, ht, e1⟩ := J.i1
    have hin : inR (nI c) 0 (I 11 - 1) := by rw [V.1.2.2]; exact inR.of (by omega) hc
    have h14 : ∀ a, a < Z.nX → okN (Ar 14 a) 400 := fun a ha => J.h14 a (by rw [V.1.1] at ha; omega)
    have hlow : ∀ i, i < 401 → cdA I Ar (nI c) i = cdL Ar (nI c) (zeroN (A 10) 401) Z.nL i := fun i hi => by
      show cdL Ar (nI c) (zeroN (Ar 34) 401) (cl (I 21)) i = _
      rw [kV.n21 D6 V]
      exact cdL_low (fun i hi => by unfold zeroN; rw [if_pos hi, if_pos hi]) _ (fun a ha => by
        obtain ⟨j, hj, q⟩ := J.h14 a (by omega)
        rw [q, show cl (nI j) = j from nI_clamp (by omega)]; omega) i hi
    have g34 : ∀ {f : Nat → Int32} {k : Int32}, jG I Ar (va_up I 0 k) (va_up Ar 34 f) := fun {f k} => ⟨⟨rfl, rfl, rfl, rfl⟩, fun j hj => va_up_ne _ _ (fun z => by rw [z] at hj; revert hj; decide)⟩
    have J34 : ∀ {f g : Nat → Int32} {k : Int32}, jJ Z (va_up I 0 k) (va_up Ar 34 f) T (va_up A 10 g) Lg := fun {f g k} => (J.c0.cA (fun j _ _ _ _ _ _ _ _ a => va_up_ne _ _ a) (fun a ha p hp => V.k24 a ha p hp) J.h12 J.by27).cA1 (by decide)
    exact opW.ret (P := P) (r := _) (mcc := 0) (msc := 0) (F := fun r => r.toInt64) D S (hP _) rfl (Nat.zero_le _) (Nat.zero_le _) (Nat.le_of_ble_eq_true rfl) (fun hM hp => w_wave (px0 := fun _ _ => True) _ o (nI c) S.hx (Nat.le_of_ble_eq_true rfl) hM hp) (Ct.kh S.1 (fun h0 => c_X6_wave S.1.1 V h14 c hc t ht e1)) (Ct.mh (fun h0 => by have z := c_X7_wave (l := l) (G := G) (I := I) (Ar := Ar) (h0 := h0) D (nI c) hin (J.abv D6) (J.i11 D6) (J.i21 D6) J.h15 J.h14 (J.c22 D6) J.i1; rw [e1, show cl (nI t) = t from nI_clamp (by omega), waveF_cg (t + 1) (fun i hi => hlow i (by omega))] at z; exact z)) (hE_of g34 J34 rfl)
end Q11
