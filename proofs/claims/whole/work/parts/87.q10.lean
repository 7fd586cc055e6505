section Q10
variable {G : gG} {l : Launch} {h h0 h1 : hW} {Z : kZ} {I : Nat → Int32} {Ar : Nat → Nat → Int32} {T : Nat → Int32} {A : Nat → Nat → Int32} {Lg : Nat → Nat → Int64} {ix ad : Nat → Nat} {x m o : Nat} {fo : Nat → Int64}
variable {I1 I' : Nat → Int32} {Ar1 Ar' : Nat → Nat → Int32} {T1 : Nat → Int32} {A1 : Nat → Nat → Int32} {Lg1 : Nat → Nat → Int64}
theorem jG.c0 {k : Int32} : jG I Ar (va_up I 0 k) Ar := ⟨⟨rfl, rfl, rfl, rfl⟩, fun _ _ => rfl⟩
theorem jG.c00 {k k' : Int32} : jG I Ar (va_up (va_up I 0 k) 0 k') Ar := ⟨⟨rfl, rfl, rfl, rfl⟩, fun _ _ => rfl⟩
theorem kU1 : kU Z 1 := Or.inl ⟨Nat.le_refl _, by decide, fun q => absurd q (by decide), fun q => absurd q (by decide)⟩
theorem jS2.hx (S : jS2 G x m o ad Z I1 Ar1 T A Lg I Ar fo h) : ∃ fs, h x = some (ob 6 fs) := by
  have e := S.1.2 1 kU1
  rw [S.2.2.2.2] at e
  exact ⟨_, e⟩
theorem j_fault (D : md ix m ad) (S : jS2 G x m o ad Z I Ar T A Lg I Ar fo h) (J : jJ Z I Ar T A Lg) : opD G l x m o ad M_X6_fault [] M_X7_fault [] h := by
  have hx := S.2.2.2.2
  subst hx
  exact opD.kh (lvd := 0) (lvm := 0) D S (Nat.zero_le _) (Nat.zero_le _) (Ct.kh S.1 (fun h0 => c_X6_fault S.1.1)) (fun h0 => c_X7_fault D) jG.c0 J.c0
theorem j_end (D : md ix m ad) (S : jS2 G x m o ad Z I Ar T A Lg I Ar fo h) (J : jJ Z I Ar T A Lg) (n : Int32) : opD G l x m o ad M_X6_end [.int n] M_X7_end [.int n] h := by
  have hx := S.2.2.2.2
  subst hx
  refine opD.kh (lvd := 1) (lvm := 0) D S (Nat.le_of_ble_eq_true rfl) (Nat.zero_le _) (Ct.kh S.1 (fun h0 => c_X6_end S.1.1 n)) (fun h0 => c_X7_end D n) ?_ ?_
  · by_cases q : ¬ n < 0 ∧ ¬ I 28 < n
    · rw [if_pos q, if_pos q]; exact ⟨⟨rfl, rfl, rfl, rfl⟩, fun _ _ => rfl⟩
    · rw [if_neg q, if_neg q]; exact jG.c0
  · by_cases q : ¬ n < 0 ∧ ¬ I 28 < n
    · rw [if_pos q]
      obtain ⟨t, ht, e⟩ := J.i28
      obtain ⟨j, hj, rfl⟩ := nI_of q.1
      have hjt : j ≤ t := Nat.le_of_not_lt (fun z => q.2 (by rw [e]; exact nI_lt z hj))
      exact J.cI ⟨rfl, rfl, rfl⟩ ⟨j, by omega, rfl⟩ J.i31 J.i26
    · rw [if_neg q]; exact J.c0
theorem j_feed (D : md ix m ad) (S : jS2 G x m o ad Z I Ar T A Lg I Ar fo h) (J : jJ Z I Ar T A Lg) (a b c d e : Int32) : opD G l x m o ad M_X6_feed [.int a, .int b, .int c, .int d, .int e] M_X7_feed [.int a, .int b, .int c, .int d, .int e] h := by
  have hx := S.2.2.2.2
  subst hx
  obtain ⟨tp, h4, e28⟩ := J.i28
  by_cases q : tp + 20 ≤ 400
  · refine opD.kh (lvd := 1) (lvm := 0) D S (Nat.le_of_ble_eq_true rfl) (Nat.zero_le _) (Ct.kh S.1 (fun h0 => c_X6_feed S.1.1 (fiveF (Ar 33) a b c d e) tp q e28)) (fun h0 => c_X7_feed D a b c d e tp q e28) ⟨⟨rfl, rfl, rfl, rfl⟩, fun j hj => ?_⟩ ?_
    · by_cases hj7 : j = 27
      · subst hj7; rfl
      · have h33 : j ≠ 33 := fun z => by rw [z] at hj; revert hj; decide
        rw [va_up_ne _ _ hj7, va_up_ne _ _ h33, va_up_ne _ _ hj7]
    · have J2 : jJ Z (va_up (t0 I) 28 (nI (tp + 20))) Ar T A Lg := J.cI ⟨rfl, rfl, rfl⟩ ⟨tp + 20, q, rfl⟩ J.i31 J.i26
      refine J2.cA (fun j _ _ _ _ _ _ n7 n33 _ => by rw [va_up_ne _ _ n7, va_up_ne _ _ n33]) (fun a ha q hq => J.V.k24 a ha q hq) J.h12 ?_
      have hb : ∀ k i, vp_nar .byte (tpN (fiveF (Ar 33) a b c d e) (Ar 27) tp k i) = tpN (fiveF (Ar 33) a b c d e) (Ar 27) tp k i := by
        intro k
        induction k with
        | zero => intro i; rw [tpN_0]; exact J.by27 i
        | succ k ih =>
          intro i
          rw [tpN_s]
          by_cases hi : i = tp + k
          · rw [hi, pk_us]; unfold btF; rw [vp_nar_byte, vp_nar_byte, Int8.toInt8_toInt32, Int8.toInt8_toInt32]
          · rw [pk_un hi]; exact ih i
      exact hb 20
  · exact opD.kh (lvd := 1) (lvm := 0) D S (Nat.le_of_ble_eq_true rfl) (Nat.zero_le _) (Ct.kh S.1 (fun h0 => c_X6_feed_full S.1.1 a b c d e tp h4 (by omega) e28)) (fun h0 => c_X7_feed_full D a b c d e tp h4 e28 (by omega)) jG.c0 J.c0
theorem jJ.cl1 (J : jJ Z I Ar T A Lg) : cl (I 1) ≤ 400 := by
  obtain ⟨t, ht, e⟩ := J.i1
  rw [e, show cl (nI t) = t from nI_clamp (by omega)]; exact ht
theorem j_count (D : md ix m ad) (S : jS2 G x m o ad Z I Ar T A Lg I Ar fo h) (J : jJ Z I Ar T A Lg) (w : Int32) : opD G l x m o ad M_X6_count [.int w] M_X7_count [.int w] h := by
  have hx := S.2.2.2.2
  subst hx
  have D6 := S.1.1
  rcases noI_or w 9 (by decide) with q | ⟨a, ha, rfl⟩
  · have hw : w.toInt < 0 ∨ 8 < w.toInt := by
      rcases q with q | q
      · left; exact Int32.lt_iff_toInt_lt.mp q
      · right; rw [Int32.le_iff_toInt_le, nI_toInt (by decide)] at q; omega
    exact opD.kh (lvd := 1) (lvm := 1) D S (Nat.le_of_ble_eq_true rfl) (Nat.le_of_ble_eq_true rfl) (Ct.kh S.1 (fun h0 => c_X6_count_x w hw)) (fun h0 => c_X7_count_x D w hw) jG.c0 J.c0
  · match a, ha with
    | 0, _ => exact opD.kh (lvd := 1) (lvm := 1) D S (Nat.le_of_ble_eq_true rfl) (Nat.le_of_ble_eq_true rfl) (Ct.kh S.1 (fun h0 => c_X6_count_0 D6)) (fun h0 => c_X7_count_0 D) jG.c0 J.c0
    | 1, _ =>
      refine opD.kh (lvd := 1) (lvm := 1) D S (Nat.le_of_ble_eq_true rfl) (Nat.le_of_ble_eq_true rfl) (Ct.kh S.1 (fun h0 => c_X6_count_1 D6)) (fun h0 => ?_) (jG.c0 (k := 0)) (J.c0 (k := 0))
      have q := c_X7_count_1 D (l := l) (G := G) (I := I) (Ar := Ar) (h0 := h0) (ix := ix)
      rw [J.V.1.2.2] at q
      exact q
    | 2, _ =>
      refine opD.kh (lvd := 1) (lvm := 1) D S (Nat.le_of_ble_eq_true rfl) (Nat.le_of_ble_eq_true rfl) (Ct.kh S.1 (fun h0 => c_X6_count_2 D6)) (fun h0 => ?_) (jG.c0 (k := 0)) (J.c0 (k := 0))
      have q := c_X7_count_2 D (l := l) (G := G) (I := I) (Ar := Ar) (h0 := h0) (ix := ix)
      rw [J.V.1.2.1] at q
      exact q
    | 3, _ =>
      refine opD.kh (lvd := 5) (lvm := 1) D S (Nat.le_of_ble_eq_true rfl) (Nat.le_of_ble_eq_true rfl) (Ct.kh S.1 (fun h0 => c_X6_count_3 D6 J.V)) (fun h0 => ?_) (jG.c0 (k := 0)) (J.c0 (k := 0))
      have q := c_X7_count_3 D (J.i21 D6) J.h15 (l := l) (G := G) (I := I) (Ar := Ar) (h0 := h0) (ix := ix)
      rw [congrArg nI (cnt_3 D6 J.V)] at q
      exact q
    | 4, _ =>
      refine opD.kh (lvd := 6) (lvm := 1) D S (Nat.le_of_ble_eq_true rfl) (Nat.le_of_ble_eq_true rfl) (Ct.kh S.1 (fun h0 => c_X6_count_4 D6 J.V)) (fun h0 => ?_) (jG.c0 (k := 0)) (J.c0 (k := 0))
      have q := c_X7_count_4 D (J.i21 D6) J.h15 (l := l) (G := G) (I := I) (Ar := Ar) (h0 := h0) (ix := ix)
      rw [congrArg nI (cnt_4 D6 J.V)] at q
      exact q
    | 5, _ =>
      refine opD.kh (lvd := 6) (lvm := 1) D S (Nat.le_of_ble_eq_true rfl) (Nat.le_of_ble_eq_true rfl) (Ct.kh S.1 (fun h0 => c_X6_count_5 D6 J.V)) (fun h0 => ?_) (jG.c0 (k := 0)) (J.c0 (k := 0))
      have q := c_X7_count_5 D (J.i21 D6) J.h15 (l := l) (G := G) (I := I) (Ar := Ar) (h0 := h0) (ix := ix)
      rw [congrArg nI (cnt_eq D6 J.V J.2.1 J.cl1 (w := 5) (by decide))] at q
      exact q
    | 6, _ =>
      refine opD.kh (lvd := 6) (lvm := 1) D S (Nat.le_of_ble_eq_true rfl) (Nat.le_of_ble_eq_true rfl) (Ct.kh S.1 (fun h0 => c_X6_count_6 D6 J.V)) (fun h0 => ?_) (jG.c0 (k := 0)) (J.c0 (k := 0))
      have q := c_X7_count_6 D (J.i21 D6) J.h15 (l := l) (G := G) (I := I) (Ar := Ar) (h0 := h0) (ix := ix)
      rw [congrArg nI (cnt_eq D6 J.V J.2.1 J.cl1 (w := 6) (by decide))] at q
      exact q
    | 7, _ =>
      refine opD.kh (lvd := 6) (lvm := 1) D S (Nat.le_of_ble_eq_true rfl) (Nat.le_of_ble_eq_true rfl) (Ct.kh S.1 (fun h0 => c_X6_count_7 D6 J.V)) (fun h0 => ?_) (jG.c0 (k := 0)) (J.c0 (k := 0))
      have q := c_X7_count_7 D (J.i21 D6) J.h15 (l := l) (G := G) (I := I) (Ar := Ar) (h0 := h0) (ix := ix)
      rw [congrArg nI (cnt_eq D6 J.V J.2.1 J.cl1 (w := 7) (by decide))] at q
      exact q
    | 8, _ => exact opD.kh (lvd := 1) (lvm := 1) D S (Nat.le_of_ble_eq_true rfl) (Nat.le_of_ble_eq_true rfl) (Ct.kh S.1 (fun h0 => c_X6_count_8 D6)) (fun h0 => c_X7_count_8 D) jG.c0 J.c0
end Q10
