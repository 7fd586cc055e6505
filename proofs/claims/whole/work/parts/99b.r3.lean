section R3
variable {G : gG} {E : gE} {h h1 h2 : hW} {lv mc ms k n : Nat} {Q : State → Prop} {b Ln x m o i : Nat} {xs : Nat → Int32} {ix ad : Nat → Nat} {Z : kZ} {Ar : Nat → Nat → Int32}
/-- the reference's rows, brought to the desk's -/
theorem m0_ext {pc nL : Nat} {L : List (Nat × Value)} {st : List Value} (D : md ix m ad) (hA : m0A Ar) (K : GW G E Q nL pc L st (mH G ix ad m0I k0A h) k n) : GW G E Q nL pc L st (mH G ix ad m0I Ar h) k n := by
  have h12 : mH G ix ad m0I Ar h (ad 12) = some (aI G 4 (Ar 12)) := mLa D 12 rfl
  refine g_ext (f' := k0A 12) h12 (fun i hi => ?_) ?_
  · rw [hA.2 i hi]
    match i, hi with
    | 0, _ => rfl
    | 1, _ => rfl
    | 2, _ => rfl
    | 3, _ => rfl
    | z + 4, hz => exact absurd hz (by omega)
  · have e : hup (mH G ix ad m0I Ar h) (ad 12) (aI G 4 (k0A 12)) = mH G ix ad m0I k0A h := by
      have e0 : ∀ j, j ≠ 12 → Ar j = k0A j := fun j hj => by
        funext i
        rw [hA.1 j hj i]
        unfold k0A
        rw [if_neg hj]
      funext q
      by_cases hq : q = ad 12
      · rw [hq, hup_s]; exact (mLa D 12 rfl).symm
      · rw [hup_n hq]
        have n12 : ix q ≠ 14 := fun z => hq ((D.2 12 rfl q).mp z)
        unfold mH
        split
        · rfl
        · rfl
        · rename_i j qj
          rw [e0 j (by omega)]
    rw [e]; exact K
theorem jN0.start (D : md ix m ad) (hK : kD G Z m0I k0A (fun _ => 0) (fun _ _ => 0) (fun _ _ => 0) h1) (hx : Z.da 1 = x) (hz : Z.nC = 0 ∧ Z.nL = 0 ∧ Z.nX = 0) (hm : h1 m = none) (hi : ∀ q, q ≠ m → hup h1 m (ob 7 m00) q ≠ none → ix q = 0) (ho : mH G ix ad m0I k0A (hup h1 m (ob 7 m00)) o = none) : jN0 G x m o ad (hup (mH G ix ad m0I k0A (hup h1 m (ob 7 m00))) o (aJ G 1 (fun _ => 0))) := by
  obtain ⟨z1, z2, z3⟩ := hz
  have hmo : o ≠ m := fun z => by rw [z, mLm D] at ho; cases ho
  have hao : ∀ j, mJ j = true → o ≠ ad j := fun j hj z => by rw [z, mLa D j hj] at ho; cases ho
  have h1o : h1 o = none := by
    rw [mH_else D hmo hao, hup_n hmo] at ho; exact ho
  have ham : ∀ j, mJ j = true → ad j ≠ m := fun j hj z => by
    have a := (D.2 j hj (ad j)).mpr rfl
    rw [z, (D.1 m).mpr rfl] at a
    omega
  have h1a : ∀ j, mJ j = true → h1 (ad j) = none := fun j hj => by
    cases e : h1 (ad j) with
    | none => rfl
    | some y =>
      exfalso
      have a := (D.2 j hj (ad j)).mpr rfl
      have c := hi (ad j) (ham j hj) (by rw [hup_n (ham j hj), e]; simp)
      omega
  have hd : ∀ k, kU Z k → Z.da k ≠ m ∧ (∀ j, mJ j = true → Z.da k ≠ ad j) ∧ Z.da k ≠ o := fun k hk => by
    have e := hK.2 k hk
    refine ⟨fun z => ?_, fun j hj z => ?_, fun z => ?_⟩
    · rw [z, hm] at e; cases e
    · rw [z, h1a j hj] at e; cases e
    · rw [z, h1o] at e; cases e
  refine ⟨Z, m0I, k0A, (fun _ => 0), (fun _ _ => 0), (fun _ _ => 0), (fun _ => 0), ⟨⟨hK.1, fun k hk => ?_⟩, ⟨?_, fun j hj => ?_⟩, ⟨hup_s, hK.j0 h1o, hmo, hao⟩, ⟨hK.j0 hm, fun j hj => hK.j0 (h1a j hj)⟩, hx⟩, ?_⟩
  · obtain ⟨n1, n2, n3⟩ := hd k hk
    rw [hup_n n3, mH_else D n1 n2, hup_n n1]; exact hK.2 k hk
  · rw [hup_n hmo.symm]; exact mLm D
  · rw [hup_n (hao j hj).symm]; exact mLa D j hj
  · have v0 : ∀ j, j ≠ 12 → k0A j = fun _ => 0 := fun j hj => by unfold k0A; exact if_neg hj
    refine ⟨⟨⟨by rw [z3, z2], by rw [z2]; rfl, by rw [z1]; rfl⟩, fun a ha => ?_, fun a ha => ?_, fun a ha => ?_⟩, fun a ha => ?_, fun a ha => ?_, fun a ha => ?_, ⟨⟨0, by decide, rfl⟩, ⟨0, by decide, rfl⟩, ⟨0, rfl⟩, ⟨0, by decide, rfl⟩⟩, ⟨fun k hk => ?_, fun i => ?_, fun k hk => ?_, fun c hc => ?_⟩, ⟨fun k hk => ?_, fun c hc => ?_⟩, fun a ha => ⟨⟨?_, fun w hw => ?_⟩, ?_, ?_⟩⟩
    · rw [z3] at ha; exact absurd ha (Nat.not_lt_zero a)
    · rw [z3] at ha; exact absurd ha (Nat.not_lt_zero a)
    · rw [z1] at ha; exact absurd ha (Nat.not_lt_zero a)
    · rw [z3] at ha; exact absurd ha (Nat.not_lt_zero a)
    · rw [z1] at ha; exact absurd ha (Nat.not_lt_zero a)
    · rw [z3] at ha; exact absurd ha (Nat.not_lt_zero a)
    · match k, hk with
      | 0, _ => exact ⟨5, by decide, rfl⟩
      | 1, _ => exact ⟨5, by decide, rfl⟩
      | 2, _ => exact ⟨5, by decide, rfl⟩
      | 3, _ => exact ⟨5, by decide, rfl⟩
      | z + 4, hz => exact absurd hz (by omega)
    · rw [v0 27 (by decide)]; show vp_nar .byte 0 = 0; decide +kernel
    · rw [v0 22 (by decide)]; show (0 : Int32) < 12; decide +kernel
    · rw [v0 5 (by decide)]; exact Or.inl rfl
    · rw [v0 8 (by decide)]; exact ⟨0, by decide, rfl⟩
    · rw [v0 6 (by decide)]; exact ⟨0, by decide, rfl⟩
    · rw [v0 16 (by decide)]; exact ⟨0, by decide, rfl⟩
    · rw [v0 16 (by decide)] at hw; exact absurd hw (by rw [show cl (0 : Int32) = 0 from nI_clamp (n := 0) (by decide)]; exact Nat.not_lt_zero w)
    · rw [v0 15 (by decide)]; exact ⟨0, by decide, rfl⟩
    · rw [v0 14 (by decide)]; exact ⟨0, by decide, rfl⟩
/-- from the law's entry -/
theorem lw_begin (X : Gc G E "ComplaintDeskLaw" cL_law 7 lv mc ms) (XS : lX G E b Ln xs) (hs : E.l.stackTraces = false) (hL : Ln ≤ 3072) (hlv : 20 ≤ lv) (hmc : 600000 ≤ mc) (hms : 7000000 ≤ ms) (KE : ∀ (x m o : Nat) (h : hW) (i k n : Nat), k ≤ mc → n ≤ ms → GW G E Q 7 1105 (lL b x m o i) [] h k n) : GW G E Q 7 0 [(0, .ref b)] [] (fun _ => none) 0 0 := by
  refine g_new X ck6 cl_L_8 ins_6 ini_6 [.null, .null, .int 0, .int 0, .null, .null, .null, .null, .int 0, .null, .null] (fun j9 hj9 => by match j9, hj9 with | 0, _ => rfl | 1, _ => rfl | 2, _ => rfl | 3, _ => rfl | 4, _ => rfl | 5, _ => rfl | 6, _ => rfl | 7, _ => rfl | 8, _ => rfl | 9, _ => rfl | 10, _ => rfl | z9 + 11, hj9 => exact absurd hj9 (by omega)) dL_law_0 (by omega) (by omega) (fun x hx0 hxA => ?_)
  refine g_dup X dL_law_3 rfl ?_
  refine g_cIx X ml_L_62 rfl (c_X6_init x hup_s) (by omega) rfl rfl (Nat.le_of_ble_eq_true rfl) (by omega) (by omega) dL_law_4 (fun v h1 q => ?_)
  obtain ⟨rfl, Z, hK, hx, hz, hf⟩ := q
  refine g_astore_n X dL_law_7 (Nat.le_of_ble_eq_true rfl) [(1, _), (0, _)] rfl ?_
  refine g_new X ck7 cl_L_63 ins_7 ini_7 m00 (fun j9 hj9 => by match j9, hj9 with | 0, _ => rfl | 1, _ => rfl | 2, _ => rfl | 3, _ => rfl | 4, _ => rfl | 5, _ => rfl | 6, _ => rfl | 7, _ => rfl | 8, _ => rfl | 9, _ => rfl | 10, _ => rfl | 11, _ => rfl | 12, _ => rfl | 13, _ => rfl | 14, _ => rfl | 15, _ => rfl | 16, _ => rfl | 17, _ => rfl | 18, _ => rfl | 19, _ => rfl | 20, _ => rfl | 21, _ => rfl | 22, _ => rfl | 23, _ => rfl | 24, _ => rfl | 25, _ => rfl | 26, _ => rfl | 27, _ => rfl | 28, _ => rfl | 29, _ => rfl | 30, _ => rfl | 31, _ => rfl | 32, _ => rfl | 33, _ => rfl | 34, _ => rfl | z9 + 35, hj9 => exact absurd hj9 (by omega)) dL_law_8 (by omega) (by omega) (fun m hm0 hmA => ?_)
  refine g_dup X dL_law_11 rfl ?_
  refine g_cIx X ml_L_65 rfl (c_X7_init (h := hup h1 m (ob 7 m00)) (m := m) hup_s) (by omega) rfl rfl (Nat.le_of_ble_eq_true rfl) (by omega) (by omega) dL_law_12 (fun v h2 q => ?_)
  obtain ⟨rfl, ix, ad, Ar, D, rfl, hi, hA⟩ := q
  refine m0_ext D hA ?_
  refine g_astore_n X dL_law_15 (Nat.le_of_ble_eq_true rfl) [(2, _), (1, _), (0, _)] rfl ?_
  refine g_iconst X (v := 1) dL_law_16 ki_1 ?_
  refine g_newarr X (atype := .long) (ty := .long) rfl arc_long (t := 2) rfl (fun C qc => by cases qc) (N := 1) (1, .inr (.inl (fun _ => 0))) (fun _ => rfl) (by decide) (by decide) (by decide) (by omega) (by omega) dL_law_17 (fun o ho0 hoA => ?_)
  refine g_astore_n X dL_law_19 (Nat.le_of_ble_eq_true rfl) [(3, _), (2, _), (1, _), (0, _)] rfl ?_
  refine g_iconst X (v := 0) dL_law_20 ki_0 ?_
  refine g_istore X dL_law_21 (Nat.le_of_ble_eq_true rfl) [(4, _), (3, _), (2, _), (1, _), (0, _)] rfl ?_
  refine g_L [4, 3, 2, 1, 0] (L' := lL b x m o (6 * 0)) rfl ?_
  refine g_widen (k' := 100 + 21 * 0) (n' := 60000 + 2280 * 0) (by omega) (by omega) ?_
  exact lw_loop X XS D hs hL (by omega) (by omega) hlv (KE x m o) 513 0 _ (by omega) (by omega) (jN0.start D hK hx hz hm0 hi ho0)
end R3
