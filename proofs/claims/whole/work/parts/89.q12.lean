section Q12
variable {G : gG} {l : Launch} {h h0 h1 : hW} {Z : kZ} {I : Nat → Int32} {Ar : Nat → Nat → Int32} {T : Nat → Int32} {A : Nat → Nat → Int32} {Lg : Nat → Nat → Int64} {ix ad : Nat → Nat} {x m o : Nat} {fo : Nat → Int64}
variable {I1 I' : Nat → Int32} {Ar1 Ar' : Nat → Nat → Int32} {T1 : Nat → Int32} {A1 : Nat → Nat → Int32} {Lg1 : Nat → Nat → Int64}
variable {P : Int32 → Prop}
theorem bestF_cg {d : Int32} (e : I' 21 = I 21) : ∀ n, bestF I' Ar d n = bestF I Ar d n
  | 0 => by rw [bestF_0, bestF_0]
  | n + 1 => by
    have hq : isOfP I' Ar d n ↔ isOfP I Ar d n := by unfold isOfP; rw [e]
    rw [bestF_s, bestF_s, bestF_cg e n]
    cases bestF I Ar d n with
    | none =>
      by_cases q : isOfP I Ar d n
      · simp only [if_pos q, if_pos (hq.mpr q)]
      · simp only [if_neg q, if_neg (fun z => q (hq.mp z))]
    | some b =>
      by_cases q : isOfP I Ar d n ∧ ¬ ahV Ar n b = 0
      · simp only [if_pos q, if_pos (show isOfP I' Ar d n ∧ ¬ ahV Ar n b = 0 from ⟨hq.mpr q.1, q.2⟩)]
      · simp only [if_neg q, if_neg (show ¬ (isOfP I' Ar d n ∧ ¬ ahV Ar n b = 0) from fun z => q ⟨hq.mp z.1, z.2⟩)]
theorem workN_cg {d : Int32} (e : I' 21 = I 21) (e1 : I' 1 = I 1) : ∀ n, workN I' Ar d n = workN I Ar d n
  | 0 => by rw [workN_0, workN_0]
  | n + 1 => by rw [workN_s, workN_s, workN_cg e e1 n, bestF_cg e, e1]
theorem deskN_cg (e : I' 21 = I 21) (e1 : I' 1 = I 1) : ∀ n, deskN I' Ar n = deskN I Ar n
  | 0 => by rw [deskN_0, deskN_0]
  | n + 1 => by rw [deskN_s, deskN_s, deskN_cg e e1 n, workN_cg e e1]
theorem dayN_t0 : ∀ n, (dayN (t0 I) Ar n).2 = (dayN I Ar n).2 ∧ ∀ j, j ≠ 0 → (dayN (t0 I) Ar n).1 j = (dayN I Ar n).1 j
  | 0 => by rw [dayN_0, dayN_0]; exact ⟨rfl, fun j hj => va_up_ne _ _ hj⟩
  | n + 1 => by
    obtain ⟨e1, e2⟩ := dayN_t0 n
    have e3 : ∀ j, j ≠ 0 → va_up (dayN (t0 I) Ar n).1 1 ((dayN (t0 I) Ar n).1 1 + 1) j = va_up (dayN I Ar n).1 1 ((dayN I Ar n).1 1 + 1) j := by
      intro j hj
      by_cases h1 : j = 1
      · subst h1; rw [va_up_self, va_up_self, e2 1 (by decide)]
      · rw [va_up_ne _ _ h1, va_up_ne _ _ h1, e2 j hj]
    rw [dayN_s, dayN_s]
    refine ⟨?_, e3⟩
    show deskN _ _ 4 = deskN _ _ 4
    rw [e1]
    exact deskN_cg (e3 21 (by decide)) (e3 1 (by decide)) 4
/-- a later day -/
theorem jJ.up1 {t t' : Nat} (J : jJ Z I Ar T A Lg) (hI : I 1 = nI t) (h1 : t ≤ t') (h2 : t' ≤ 400) (hI2 : I' 1 = nI t') (hj : ∀ j, j = 11 ∨ j = 21 ∨ j = 26 ∨ j = 28 ∨ j = 31 → I' j = I j) : jJ Z I' Ar T A Lg := by
  obtain ⟨⟨⟨a1, a2, a3⟩, a4⟩, b, c, d, ⟨e1, e28, e31, e26⟩, e3⟩ := J
  have c1 : cl (I 1) = t := by rw [hI]; exact nI_clamp (by omega)
  have c2 : cl (I' 1) = t' := by rw [hI2]; exact nI_clamp (by omega)
  refine ⟨⟨⟨a1, (hj 21 (by decide)).trans a2, (hj 11 (by decide)).trans a3⟩, a4⟩, ?_, c, ?_, ⟨⟨t', h2, hI2⟩, ?_, ?_, ?_⟩, e3⟩
  · intro a ha p hp
    refine ⟨(b a ha p hp).1, fun z => ?_⟩
    obtain ⟨dd, z1, z2⟩ := (b a ha p hp).2 z
    exact ⟨dd, by rw [c1] at z1; rw [c2]; omega, z2⟩
  · intro a ha
    obtain ⟨q1, q2, ca, q3, q4⟩ := d a ha
    exact ⟨q1, q2, ca, by rw [c1] at q3; rw [c2]; omega, q4⟩
  · rw [hj 28 (by decide)]; exact e28
  · rw [hj 31 (by decide)]; exact e31
  · rw [hj 26 (by decide)]; exact e26
theorem jJ.day {t k : Nat} (J : jJ Z I Ar T A Lg) (hI : I 1 = nI t) (hk : t + k ≤ 400) : jJ Z (dayN I Ar k).1 (dayN I Ar k).2 T A Lg := by
  have V := J.V.day hI k hk
  have J2 : jJ Z I (dayN I Ar k).2 T A Lg := by
    refine J.cA (fun j _ _ _ _ a _ _ _ _ => dayN_off a) (fun a ha q hq => V.k24 a ha q hq) ?_ ?_
    · rw [dayN_off (by decide)]; exact J.h12
    · rw [dayN_off (by decide)]; exact J.by27
  refine J2.up1 hI (Nat.le_add_right t k) hk (dayN_1 hI) (fun j hj => dayN_offI (by omega))
theorem inR60 {n : Nat} {z : Int32} {M : Int32} (hM : M = nI n) (hn : n ≤ 1000) (q : ¬ (z < 0 ∨ M < z)) : ∃ a, a ≤ n ∧ z = nI a ∧ inR z 0 M := by
  have q1 : ¬ z < 0 := fun y => q (Or.inl y)
  have q2 : ¬ M < z := fun y => q (Or.inr y)
  obtain ⟨j, hj, rfl⟩ := nI_of q1
  exact ⟨j, Nat.le_of_not_lt (fun y => q2 (by rw [hM]; exact nI_lt y hj)), rfl, q1, q2⟩
theorem j_answer (hs : l.stackTraces = false) (D : md ix m ad) (S : jS2 G x m o ad Z I Ar T A Lg I Ar fo h) (J : jJ Z I Ar T A Lg) (p q : Int32) : opW (fun v => v = 0 ∨ v = 1) G l x m o ad M_L_answer hh_answer [.ref x, .int p, .int q, .ref o] M_X7_answer [.int p, .int q] h := by
  have hx := S.2.2.2.2
  subst hx
  have D6 := S.1.1
  have V := J.V
  have h12 := D6.c12
  have h80 := J.l80 D6
  have hP0 : ((fun v : Int32 => v = 0 ∨ v = 1) 0) := Or.inl rfl
  rcases noI_or p Z.nL (by omega) with q1 | ⟨a, ha, rfl⟩
  · exact opW.thr (P := fun v => v = 0 ∨ v = 1) (k := 1) (v := 0) (mcc := 1) (msc := 6) (cls := "java/lang/IndexOutOfBoundsException") D S hP0 (by decide) (Nat.le_of_ble_eq_true rfl) (Nat.le_of_ble_eq_true rfl) (Nat.le_of_ble_eq_true rfl) (w_answer_1 (post0 := fun _ _ => False) (px0 := fun C h' => C = "java/lang/IndexOutOfBoundsException" ∧ dP G Z h (dW Z I Ar T A Lg) h') _ o p q S.hx (Nat.le_of_ble_eq_true rfl) (CtX.kh S.1 (fun h0 => c_X6_answer_t1 hs S.1.1 p q q1)) (fun C h' z => z.1)) (Ct.mh (fun h0 => c_X7_answer_e1 D p q (J.in81 D6) (J.nopt D6 (Or.inl q1)))) (hE_of jG.c00 J.c00 rfl)
  · have h6 := D6.p6 a
    rcases noI_or q (Z.np a) (by omega) with q2 | ⟨b, hb, rfl⟩
    · exact opW.thr (P := fun v => v = 0 ∨ v = 1) (k := 1) (v := 0) (mcc := 1) (msc := 6) (cls := "java/lang/IndexOutOfBoundsException") D S hP0 (by decide) (Nat.le_of_ble_eq_true rfl) (Nat.le_of_ble_eq_true rfl) (Nat.le_of_ble_eq_true rfl) (w_answer_1 (post0 := fun _ _ => False) (px0 := fun C h' => C = "java/lang/IndexOutOfBoundsException" ∧ dP G Z h (dW Z I Ar T A Lg) h') _ o (nI a) q S.hx (Nat.le_of_ble_eq_true rfl) (CtX.kh S.1 (fun h0 => c_X6_answer_t2 hs S.1.1 a ha q q2)) (fun C h' z => z.1)) (Ct.mh (fun h0 => c_X7_answer_e1 D (nI a) q (J.in81 D6) (J.nopt D6 (Or.inr ⟨a, ha, rfl, q2⟩)))) (hE_of jG.c00 J.c00 rfl)
    · obtain ⟨a80, b6, hd⟩ := J.pt D6 ha hb
      have g : jG I (if Ar 24 (6 * a + b) < 0 then va_up Ar 24 (upd (Ar 24) (6 * a + b) (I 1)) else Ar) (t0 I) (if Ar 24 (6 * a + b) < 0 then va_up Ar 24 (upd (Ar 24) (6 * a + b) (I 1)) else Ar) := ⟨⟨rfl, rfl, rfl, rfl⟩, fun _ _ => rfl⟩
      have J2 : jJ Z (t0 I) (if Ar 24 (6 * a + b) < 0 then va_up Ar 24 (upd (Ar 24) (6 * a + b) (I 1)) else Ar) T A Lg := by
        split
        · obtain ⟨t, ht, e1⟩ := J.i1
          exact J.c0.u24 (by rw [e1]; exact nI_pos (by omega))
        · exact J.c0
      have hF : (if b2 (Ar 24 (6 * a + b) < 0) = 0 then (0 : Int64) else 1) = (b2 (Ar 24 (6 * a + b) < 0)).toInt64 := by
        by_cases q : Ar 24 (6 * a + b) < 0
        · rw [b2_t q]; decide +kernel
        · rw [b2_f q]; decide +kernel
      exact opW.ret (P := fun v => v = 0 ∨ v = 1) (r := _) (mcc := 0) (msc := 0) (F := fun r => if r = 0 then 0 else 1) D S b2_c hF (Nat.zero_le _) (Nat.zero_le _) (Nat.le_of_ble_eq_true rfl) (fun hM hp => w_answer (px0 := fun _ _ => True) _ o (nI a) (nI b) S.hx (Nat.le_of_ble_eq_true rfl) hM hp) (Ct.kh S.1 (fun h0 => c_X6_answer S.1.1 V a b ha hb)) (Ct.mh (fun h0 => c_X7_answer D a b a80 b6 (J.in81 D6) hd)) (hE_of g J2 rfl)
theorem j_look (hs : l.stackTraces = false) (hP : ∀ v, P v) (D : md ix m ad) (S : jS2 G x m o ad Z I Ar T A Lg I Ar fo h) (J : jJ Z I Ar T A Lg) (p w : Int32) : opW P G l x m o ad M_L_look hh_look [.ref x, .int p, .int w, .ref o] M_X7_look [.int p, .int w] h := by
  have hx := S.2.2.2.2
  subst hx
  have D6 := S.1.1
  have V := J.V
  have h12 := D6.c12
  have h80 := J.l80 D6
  have hP0 := hP 0
  rcases noI_or p Z.nL (by omega) with q1 | ⟨a, ha, rfl⟩
  · have hq : ¬ inR p 0 (I 21 - 1) := by rw [V.1.2.1]; exact q1.inR (by omega)
    exact opW.thr (P := P) (k := 1) (v := 0) (mcc := 1) (msc := 6) (cls := "java/lang/IndexOutOfBoundsException") D S hP0 (by decide) (Nat.le_of_ble_eq_true rfl) (Nat.le_of_ble_eq_true rfl) (Nat.le_of_ble_eq_true rfl) (w_look_1 (post0 := fun _ _ => False) (px0 := fun C h' => C = "java/lang/IndexOutOfBoundsException" ∧ dP G Z h (dW Z I Ar T A Lg) h') _ o p w S.hx (Nat.le_of_ble_eq_true rfl) (CtX.kh S.1 (fun h0 => c_X6_look_t1 hs S.1.1 p w q1)) (fun C h' z => z.1)) (Ct.mh (fun h0 => c_X7_look_e1 D p w hq)) (hE_of jG.c00 J.c00 rfl)
  · have hX := Nat.lt_of_lt_of_le ha D6.lx
    have hin : inR (nI a) 0 (I 21 - 1) := by rw [V.1.2.1]; exact inR.of (by omega) ha
    have a80 : a < 80 := by omega
    have h6 := D6.p6 a
    rcases noI_or w 5 (by decide) with q | ⟨b, hb, rfl⟩
    · have hw : w.toInt < 0 ∨ 4 < w.toInt := by
        rcases q with q | q
        · left; exact Int32.lt_iff_toInt_lt.mp q
        · right; rw [Int32.le_iff_toInt_le, nI_toInt (by decide)] at q; omega
      exact opW.thr (P := P) (k := 2) (v := 0) (mcc := 1) (msc := 6) (cls := "java/util/NoSuchElementException") D S hP0 (by decide) (Nat.le_of_ble_eq_true rfl) (Nat.le_of_ble_eq_true rfl) (Nat.le_of_ble_eq_true rfl) (w_look_2 (post0 := fun _ _ => False) (px0 := fun C h' => C = "java/util/NoSuchElementException" ∧ dP G Z h (dW Z I Ar T A Lg) h') _ o (nI a) w S.hx (Nat.le_of_ble_eq_true rfl) (CtX.kh S.1 (fun h0 => c_X6_look_t2 hs S.1.1 a ha w hw)) (fun C h' z => z.1)) (Ct.mh (fun h0 => c_X7_look_e2 D a a80 hin w hw)) (hE_of jG.c00 J.c00 rfl)
    · obtain ⟨nt, hnt, e26⟩ := J.i26
      match b, hb with
      | 0, _ => exact opW.ret (P := P) (r := _) (mcc := 0) (msc := 0) (F := fun r => r.toInt64) D S (hP _) rfl (Nat.zero_le _) (Nat.zero_le _) (Nat.le_of_ble_eq_true rfl) (fun hM hp => w_look (px0 := fun _ _ => True) _ o (nI a) (nI 0) S.hx (Nat.le_of_ble_eq_true rfl) hM hp) (Ct.kh S.1 (fun h0 => c_X6_look_0 S.1.1 V a ha)) (Ct.mh (fun h0 => c_X7_look_0 D a a80 hin)) (hE_of jG.c0 J.c0 rfl)
      | 1, _ => exact opW.ret (P := P) (r := _) (mcc := 0) (msc := 0) (F := fun r => r.toInt64) D S (hP _) rfl (Nat.zero_le _) (Nat.zero_le _) (Nat.le_of_ble_eq_true rfl) (fun hM hp => w_look (px0 := fun _ _ => True) _ o (nI a) (nI 1) S.hx (Nat.le_of_ble_eq_true rfl) hM hp) (Ct.kh S.1 (fun h0 => c_X6_look_1 S.1.1 V a ha)) (Ct.mh (fun h0 => c_X7_look_1 D a a80 hin)) (hE_of jG.c0 J.c0 rfl)
      | 2, _ => exact opW.ret (P := P) (r := _) (mcc := 0) (msc := 0) (F := fun r => r.toInt64) D S (hP _) rfl (Nat.zero_le _) (Nat.zero_le _) (Nat.le_of_ble_eq_true rfl) (fun hM hp => w_look (px0 := fun _ _ => True) _ o (nI a) (nI 2) S.hx (Nat.le_of_ble_eq_true rfl) hM hp) (Ct.kh S.1 (fun h0 => c_X6_look_2 S.1.1 V a ha)) (Ct.mh (fun h0 => by have z := c_X7_look_2 D a a80 hin (l := l) (G := G) (I := I) (Ar := Ar) (h0 := h0) (ix := ix); rw [V.2.1 a hX] at z; exact z)) (hE_of (jG.c0 (k := 0)) (J.c0 (k := 0)) rfl)
      | 3, _ => exact opW.ret (P := P) (r := _) (mcc := 0) (msc := 0) (F := fun r => r.toInt64) D S (hP _) rfl (Nat.zero_le _) (Nat.zero_le _) (Nat.le_of_ble_eq_true rfl) (fun hM hp => w_look (px0 := fun _ _ => True) _ o (nI a) (nI 3) S.hx (Nat.le_of_ble_eq_true rfl) hM hp) (Ct.kh S.1 (fun h0 => c_X6_look_3 S.1.1 V a ha)) (Ct.mh (fun h0 => by have z := c_X7_look_3 D a a80 hin (J.h15 a a80) (l := l) (G := G) (I := I) (Ar := Ar) (h0 := h0) (ix := ix); rw [kV.n15 D6 V ha] at z; exact z)) (hE_of (jG.c0 (k := 0)) (J.c0 (k := 0)) rfl)
      | 4, _ => exact opW.ret (P := P) (r := _) (mcc := 0) (msc := 0) (F := fun r => r.toInt64) D S (hP _) rfl (Nat.zero_le _) (Nat.zero_le _) (Nat.le_of_ble_eq_true rfl) (fun hM hp => w_look (px0 := fun _ _ => True) _ o (nI a) (nI 4) S.hx (Nat.le_of_ble_eq_true rfl) hM hp) (Ct.kh S.1 (fun h0 => c_X6_look_4 S.1.1 V a ha (J.2.2.2.1 a hX).2.1 nt hnt e26)) (Ct.mh (fun h0 => by have z := c_X7_look_4 D a a80 hin nt hnt e26 (J.h15 a a80) (l := l) (G := G) (I := I) (Ar := Ar) (h0 := h0) (ix := ix); rw [an_eq D6 V ha] at z; exact z)) (hE_of (jG.c0 (k := 0)) (J.c0 (k := 0)) rfl)
theorem j_point (hs : l.stackTraces = false) (hP : ∀ v, P v) (D : md ix m ad) (S : jS2 G x m o ad Z I Ar T A Lg I Ar fo h) (J : jJ Z I Ar T A Lg) (p q w : Int32) : opW P G l x m o ad M_L_point hh_point [.ref x, .int p, .int q, .int w, .ref o] M_X7_point [.int p, .int q, .int w] h := by
  have hx := S.2.2.2.2
  subst hx
  have D6 := S.1.1
  have V := J.V
  have h12 := D6.c12
  have h80 := J.l80 D6
  have hP0 := hP 0
  rcases noI_or p Z.nL (by omega) with q1 | ⟨a, ha, rfl⟩
  · exact opW.thr (P := P) (k := 1) (v := 0) (mcc := 1) (msc := 6) (cls := "java/lang/IndexOutOfBoundsException") D S hP0 (by decide) (Nat.le_of_ble_eq_true rfl) (Nat.le_of_ble_eq_true rfl) (Nat.le_of_ble_eq_true rfl) (w_point_1 (post0 := fun _ _ => False) (px0 := fun C h' => C = "java/lang/IndexOutOfBoundsException" ∧ dP G Z h (dW Z I Ar T A Lg) h') _ o p q w S.hx (Nat.le_of_ble_eq_true rfl) (CtX.kh S.1 (fun h0 => c_X6_point_t1 hs S.1.1 p q w q1)) (fun C h' z => z.1)) (Ct.mh (fun h0 => c_X7_point_e1 D p q w (J.in81 D6) (J.nopt D6 (Or.inl q1)))) (hE_of jG.c00 J.c00 rfl)
  · have hX := Nat.lt_of_lt_of_le ha D6.lx
    have h6 := D6.p6 a
    rcases noI_or q (Z.np a) (by omega) with q2 | ⟨b, hb, rfl⟩
    · exact opW.thr (P := P) (k := 1) (v := 0) (mcc := 1) (msc := 6) (cls := "java/lang/IndexOutOfBoundsException") D S hP0 (by decide) (Nat.le_of_ble_eq_true rfl) (Nat.le_of_ble_eq_true rfl) (Nat.le_of_ble_eq_true rfl) (w_point_1 (post0 := fun _ _ => False) (px0 := fun C h' => C = "java/lang/IndexOutOfBoundsException" ∧ dP G Z h (dW Z I Ar T A Lg) h') _ o (nI a) q w S.hx (Nat.le_of_ble_eq_true rfl) (CtX.kh S.1 (fun h0 => c_X6_point_t2 hs S.1.1 a ha q w q2)) (fun C h' z => z.1)) (Ct.mh (fun h0 => c_X7_point_e1 D (nI a) q w (J.in81 D6) (J.nopt D6 (Or.inr ⟨a, ha, rfl, q2⟩)))) (hE_of jG.c00 J.c00 rfl)
    · obtain ⟨a80, b6, hd⟩ := J.pt D6 ha hb
      rcases noI_or w 5 (by decide) with q | ⟨d, hd5, rfl⟩
      · have hw : w.toInt < 0 ∨ 4 < w.toInt := by
          rcases q with q | q
          · left; exact Int32.lt_iff_toInt_lt.mp q
          · right; rw [Int32.le_iff_toInt_le, nI_toInt (by decide)] at q; omega
        exact opW.thr (P := P) (k := 2) (v := 0) (mcc := 1) (msc := 6) (cls := "java/util/NoSuchElementException") D S hP0 (by decide) (Nat.le_of_ble_eq_true rfl) (Nat.le_of_ble_eq_true rfl) (Nat.le_of_ble_eq_true rfl) (w_point_2 (post0 := fun _ _ => False) (px0 := fun C h' => C = "java/util/NoSuchElementException" ∧ dP G Z h (dW Z I Ar T A Lg) h') _ o (nI a) (nI b) w S.hx (Nat.le_of_ble_eq_true rfl) (CtX.kh S.1 (fun h0 => c_X6_point_t3 hs S.1.1 a b ha hb w hw)) (fun C h' z => z.1)) (Ct.mh (fun h0 => c_X7_point_e2 D a b a80 b6 (J.in81 D6) hd w hw)) (hE_of jG.c00 J.c00 rfl)
      · match d, hd5 with
        | 0, _ => exact opW.ret (P := P) (r := _) (mcc := 0) (msc := 0) (F := fun r => r.toInt64) D S (hP _) rfl (Nat.zero_le _) (Nat.zero_le _) (Nat.le_of_ble_eq_true rfl) (fun hM hp => w_point (px0 := fun _ _ => True) _ o (nI a) (nI b) (nI 0) S.hx (Nat.le_of_ble_eq_true rfl) hM hp) (Ct.kh S.1 (fun h0 => c_X6_point_0 S.1.1 V a b ha hb)) (Ct.mh (fun h0 => c_X7_point_0 D a b a80 b6 (J.in81 D6) hd)) (hE_of jG.c0 J.c0 rfl)
        | 1, _ => exact opW.ret (P := P) (r := _) (mcc := 0) (msc := 0) (F := fun r => r.toInt64) D S (hP _) rfl (Nat.zero_le _) (Nat.zero_le _) (Nat.le_of_ble_eq_true rfl) (fun hM hp => w_point (px0 := fun _ _ => True) _ o (nI a) (nI b) (nI 1) S.hx (Nat.le_of_ble_eq_true rfl) hM hp) (Ct.kh S.1 (fun h0 => c_X6_point_1 S.1.1 V a b ha hb)) (Ct.mh (fun h0 => c_X7_point_1 D a b a80 b6 (J.in81 D6) hd)) (hE_of jG.c0 J.c0 rfl)
        | 2, _ => exact opW.ret (P := P) (r := _) (mcc := 0) (msc := 0) (F := fun r => r.toInt64) D S (hP _) rfl (Nat.zero_le _) (Nat.zero_le _) (Nat.le_of_ble_eq_true rfl) (fun hM hp => w_point (px0 := fun _ _ => True) _ o (nI a) (nI b) (nI 2) S.hx (Nat.le_of_ble_eq_true rfl) hM hp) (Ct.kh S.1 (fun h0 => c_X6_point_2 S.1.1 V a b ha hb)) (Ct.mh (fun h0 => c_X7_point_2 D a b a80 b6 (J.in81 D6) hd)) (hE_of jG.c0 J.c0 rfl)
        | 3, _ =>
          rcases V.k22 a hX b hb with z0 | ⟨c, hc, z0⟩
          · exact opW.ret (P := P) (r := _) (mcc := 0) (msc := 0) (F := fun r => r.toInt64) D S (hP _) rfl (Nat.zero_le _) (Nat.zero_le _) (Nat.le_of_ble_eq_true rfl) (fun hM hp => w_point (px0 := fun _ _ => True) _ o (nI a) (nI b) (nI 3) S.hx (Nat.le_of_ble_eq_true rfl) hM hp) (Ct.kh S.1 (fun h0 => c_X6_point_3n S.1.1 V a b ha hb z0)) (Ct.mh (fun h0 => by have z := c_X7_point_3 D a b a80 b6 (J.in81 D6) hd (J.i21 D6) J.h15 (l := l) (G := G) (I := I) (Ar := Ar) (h0 := h0) (ix := ix); rw [if_pos (show Ar 22 (6 * a + b) < 0 by rw [z0]; decide)] at z; exact z)) (hE_of (jG.c0 (k := 0)) (J.c0 (k := 0)) rfl)
          · have zn : ¬ Ar 22 (6 * a + b) < 0 := by rw [z0]; exact nI_pos (by omega)
            exact opW.ret (P := P) (r := _) (mcc := 0) (msc := 0) (F := fun r => r.toInt64) D S (hP _) rfl (Nat.zero_le _) (Nat.zero_le _) (Nat.le_of_ble_eq_true rfl) (fun hM hp => w_point (px0 := fun _ _ => True) _ o (nI a) (nI b) (nI 3) S.hx (Nat.le_of_ble_eq_true rfl) hM hp) (Ct.kh S.1 (fun h0 => c_X6_point_3 S.1.1 V a b ha hb c hc z0)) (Ct.mh (fun h0 => by have z := c_X7_point_3 D a b a80 b6 (J.in81 D6) hd (J.i21 D6) J.h15 (l := l) (G := G) (I := I) (Ar := Ar) (h0 := h0) (ix := ix); rw [if_neg zn, mt_eq D6 V z0] at z; exact z)) (hE_of (jG.c0 (k := 0)) (J.c0 (k := 0)) rfl)
        | 4, _ => exact opW.ret (P := P) (r := _) (mcc := 0) (msc := 0) (F := fun r => r.toInt64) D S (hP _) rfl (Nat.zero_le _) (Nat.zero_le _) (Nat.le_of_ble_eq_true rfl) (fun hM hp => w_point (px0 := fun _ _ => True) _ o (nI a) (nI b) (nI 4) S.hx (Nat.le_of_ble_eq_true rfl) hM hp) (Ct.kh S.1 (fun h0 => c_X6_point_4 S.1.1 V a b ha hb)) (Ct.mh (fun h0 => by have z := c_X7_point_4 D a b a80 b6 (J.in81 D6) hd (J.hLV a a80).1 (l := l) (G := G) (I := I) (Ar := Ar) (h0 := h0) (ix := ix); rw [wd_eq (J.2.2.2.1 a hX).1 hb h6] at z; exact z)) (hE_of (jG.c0 (k := 0)) (J.c0 (k := 0)) rfl)
theorem j_days (hs : l.stackTraces = false) (hP : ∀ v, P v) (D : md ix m ad) (S : jS2 G x m o ad Z I Ar T A Lg I Ar fo h) (J : jJ Z I Ar T A Lg) (n : Int32) : opW P G l x m o ad M_L_days hh_days [.ref x, .int n, .ref o] M_X7_days [.int n] h := by
  have hx := S.2.2.2.2
  subst hx
  have D6 := S.1.1
  have V := J.V
  have h12 := D6.c12
  have h80 := J.l80 D6
  have hP0 := hP 0
  by_cases q : n < 0 ∨ 60 < n
  · have hq : ¬ inR n 0 60 := fun z => q.elim z.1 z.2
    exact opW.thr (P := P) (k := 1) (v := 0) (mcc := 1) (msc := 6) (cls := "java/lang/IllegalArgumentException") D S hP0 (by decide) (Nat.le_of_ble_eq_true rfl) (Nat.le_of_ble_eq_true rfl) (Nat.le_of_ble_eq_true rfl) (w_days_1 (post0 := fun _ _ => False) (px0 := fun C h' => C = "java/lang/IllegalArgumentException" ∧ dP G Z h (dW Z I Ar T A Lg) h') _ o n S.hx (Nat.le_of_ble_eq_true rfl) (CtX.hh S.1 (c_X6_days_t hs n q)) (fun C h' z => z.1)) (Ct.mh (fun h0 => c_X7_days_e1 D n hq)) (hE_of jG.c00 J.c00 rfl)
  · obtain ⟨b, hb, rfl, -⟩ := inR60 (n := 60) rfl (by decide) q
    obtain ⟨t, ht, e1⟩ := J.i1
    obtain ⟨d1, d2⟩ := dayN_t0 (I := I) (Ar := Ar) (min b (400 - t))
    have g : jG (dayN I Ar (min b (400 - t))).1 (dayN I Ar (min b (400 - t))).2 (dayN (t0 I) Ar (min b (400 - t))).1 (dayN (t0 I) Ar (min b (400 - t))).2 := ⟨⟨d2 _ (by decide), d2 _ (by decide), d2 _ (by decide), d2 _ (by decide)⟩, fun j _ => by rw [d1]⟩
    have J2 : jJ Z (dayN (t0 I) Ar (min b (400 - t))).1 (dayN (t0 I) Ar (min b (400 - t))).2 T A Lg := jJ.day (t := t) (J.c0 (k := 0)) e1 (by omega)
    exact opW.ret (P := P) (r := _) (mcc := 0) (msc := 0) (F := fun r => r.toInt64) D S (hP _) rfl (Nat.zero_le _) (Nat.zero_le _) (Nat.le_of_ble_eq_true rfl) (fun hM hp => w_days (px0 := fun _ _ => True) _ o (nI b) S.hx (Nat.le_of_ble_eq_true rfl) hM hp) (Ct.kh S.1 (fun h0 => c_X6_days S.1.1 V t ht e1 J.h12 b hb)) (Ct.mh (fun h0 => c_X7_days D J.hC J.hT J.h12 b t hb ht e1)) (hE_of g J2 (dayN_offI (by decide)))
/-- the call that answers nothing -/
def opV (G : gG) (l : Launch) (x m o : Nat) (ad : Nat → Nat) (ML : gM) (hh : List (Nat × Nat × Nat × Nat)) (av : List Value) (M7 : gM) (am : List Value) (h : hW) : Prop :=
  ∃ (k : Int32) (mcc msc lvm : Nat) (P1 : hW → Prop), mcc ≤ 21 ∧ msc ≤ 2280 ∧ lvm ≤ 10 ∧ CtH G l 12 mcc msc ML hh av h (fun r h1 => r = some (.int k) ∧ P1 h1) ∧
    ∀ h1, P1 h1 → (∃ fs, h1 m = some (ob 7 fs)) ∧ Ct G l lvm 0 0 M7 (.ref m :: am) h1 (fun r h2 => r = none ∧ jNk G x m o ad h2 k)
theorem opV.of {k : Int32} {mcc msc lvm : Nat} {ML M7 : gM} {hh : List (Nat × Nat × Nat × Nat)} {av am : List Value} (D : md ix m ad) (S : jS2 G x m o ad Z I Ar T A Lg I Ar fo h) (h21 : mcc ≤ 21) (h22 : msc ≤ 2280) (h10 : lvm ≤ 10)
    (h6 : CtH G l 12 mcc msc ML hh av h (fun r h1 => r = some (.int k) ∧ dP G Z h (dW Z I1 Ar1 T A Lg) h1))
    (h7 : ∀ h0, Ct G l lvm 0 0 M7 (.ref m :: am) (mH G ix ad I Ar h0) (rX none (mH G ix ad I' Ar' h0)))
    (g : jG I1 Ar1 I' Ar') (J : jJ Z I' Ar' T A Lg) (hk : I' 0 = k) : opV G l x m o ad ML hh av M7 am h := by
  refine ⟨k, mcc, msc, lvm, _, h21, h22, h10, h6, fun h1 hP1 => ?_⟩
  obtain ⟨Z1, I2, Ar2, T2, A2, Lg2, S1, rfl, rfl, rfl, rfl, rfl, rfl⟩ := hP1.jP S
  refine ⟨⟨_, S1.2.1.1⟩, ?_⟩
  have e := S1.2.1.self D
  rw [e]
  refine (h7 h1).mono (fun r h2 q => ?_)
  refine ⟨q.1, _, _, _, _, _, _, fo, ?_, J, hk⟩
  rw [q.2]
  exact (S1.model D).merge g
theorem j_hours (hs : l.stackTraces = false) (D : md ix m ad) (S : jS2 G x m o ad Z I Ar T A Lg I Ar fo h) (J : jJ Z I Ar T A Lg) (p n : Int32) : opV G l x m o ad M_L_hours hh_hours [.ref x, .int p, .int n] M_X7_hours [.int p, .int n] h := by
  have hx := S.2.2.2.2
  subst hx
  have D6 := S.1.1
  have V := J.V
  have h12 := D6.c12
  have h80 := J.l80 D6
  rcases noI_or p 4 (by decide) with q | ⟨d, hd, rfl⟩
  · exact opV.of (k := 1) (mcc := 1) (msc := 6) D S (Nat.le_of_ble_eq_true rfl) (Nat.le_of_ble_eq_true rfl) (Nat.le_of_ble_eq_true rfl) ((w_hours_1 (post0 := fun _ _ => False) (px0 := fun C h' => C = "java/lang/IndexOutOfBoundsException" ∧ dP G Z h (dW Z I Ar T A Lg) h') _ p n S.hx (Nat.le_of_ble_eq_true rfl) (CtX.hh S.1 (c_X6_hours_t1 hs p n q)) (fun C h' z => z.1)).mono (fun r h1 z => ⟨z.2, z.1.2⟩)) (fun h0 => c_X7_hours_e1 D p n (nin3 q)) jG.c00 J.c00 rfl
  · by_cases q : n < 0 ∨ 20 < n
    · have hq : ¬ inR n 0 20 := fun z => q.elim z.1 z.2
      exact opV.of (k := 2) (mcc := 1) (msc := 6) D S (Nat.le_of_ble_eq_true rfl) (Nat.le_of_ble_eq_true rfl) (Nat.le_of_ble_eq_true rfl) ((w_hours_2 (post0 := fun _ _ => False) (px0 := fun C h' => C = "java/lang/IllegalArgumentException" ∧ dP G Z h (dW Z I Ar T A Lg) h') _ (nI d) n S.hx (Nat.le_of_ble_eq_true rfl) (CtX.hh S.1 (c_X6_hours_t2 hs d hd n q)) (fun C h' z => z.1)).mono (fun r h1 z => ⟨z.2, z.1.2⟩)) (fun h0 => c_X7_hours_e2 D (nI d) n (inR3 hd) hq) jG.c00 J.c00 rfl
    · obtain ⟨b, hb, rfl, hin⟩ := inR60 (n := 20) rfl (by decide) q
      have hc : cl (nI d) = d := nI_clamp (by omega)
      have J2 : jJ Z (t0 I) (va_up Ar 12 (upd (Ar 12) d (nI b))) T A Lg := by
        refine (J.c0 (k := 0)).cA (fun j _ _ a _ _ _ _ _ _ => va_up_ne _ _ a) (fun a ha p hp => V.k24 a ha p hp) (fun k hk => ?_) J.by27
        rw [va_up_self]
        by_cases z : k = d
        · rw [z, pk_us]; exact ⟨b, hb, rfl⟩
        · rw [pk_un z]; exact J.h12 k hk
      refine opV.of (I' := t0 I) (I1 := I) (Ar1 := va_up Ar 12 (upd (Ar 12) d (nI b))) (k := 0) (mcc := 0) (msc := 0) D S (Nat.zero_le _) (Nat.zero_le _) (Nat.le_of_ble_eq_true rfl) ((w_hours (px0 := fun _ _ => True) (post0 := fun v h' => v = none ∧ dP G Z h (dW Z I (va_up Ar 12 (upd (Ar 12) d (nI b))) T A Lg) h') _ (nI d) (nI b) S.hx (Nat.le_of_ble_eq_true rfl) (Ct.kh S.1 (fun h0 => c_X6_hours S.1.1 d b hd hb)) (fun v h' z => z.1)).mono ?_) (fun h0 => by have z := c_X7_hours (l := l) (G := G) (I := I) (Ar := Ar) (h0 := h0) (ix := ix) D (nI d) (nI b) (inR3 hd) hin; rw [hc] at z; exact z) jG.c0 J2 rfl
      rintro v h' ⟨h1, z1, z2, z3⟩
      exact ⟨z2, by rw [z3]; exact z1.2⟩
end Q12
