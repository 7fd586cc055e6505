section R0
variable {G : gG} {E : gE} {h : hW} {lv mc ms pc k n : Nat} {Q : State → Prop} {L : List (Nat × Value)} {st : List Value} {b Ln : Nat} {xs : Nat → Int32}
/-- the law's script: an old cell -/
def lX (G : gG) (E : gE) (b Ln : Nat) (xs : Nat → Int32) : Prop := va_X b Ln xs E.s E.s.heap ∧ b < E.s.heap.size ∧ ¬ gA G b
theorem g_rd (X : Gc G E "ComplaintDeskLaw" cL_law 7 lv mc ms) (XS : lX G E b Ln xs) {i : Int32} (hin : vp_in i Ln) (d : decode cL_law pc = .ok (.iaload, 1)) (K : GW G E Q 7 (pc + 1) L (.int (xs i.toNatClampNeg) :: st) h k n) : GW G E Q 7 pc L (.int i :: .ref b :: st) h k n :=
  fun H locs ls w b c => va_sld X.1 X.2.1 XS.1 XS.2.1 XS.2.2 b hin d (K H locs ls w b c)
theorem g_ln (X : Gc G E "ComplaintDeskLaw" cL_law 7 lv mc ms) (XS : lX G E b Ln xs) (d : decode cL_law pc = .ok (.arraylength, 1)) (K : GW G E Q 7 (pc + 1) L (.int (nI Ln) :: st) h k n) : GW G E Q 7 pc L (.ref b :: st) h k n :=
  fun H locs ls w b c => va_slen X.1 X.2.1 XS.1 XS.2.1 XS.2.2 b d (K H locs ls w b c)
/-- script[i + j] -/
theorem g_rd5 (X : Gc G E "ComplaintDeskLaw" cL_law 7 lv mc ms) (XS : lX G E b Ln xs) {i j : Nat} {z : Int} (hz : Int32.ofInt z = nI j) (hij : i + j < Ln) (hL : Ln ≤ 3072) (h0 : L[0]? = some (0, .ref b)) (h4 : L[4]? = some (4, .int (nI i))) (d0 : decode cL_law pc = .ok (.aload_n 0, 1)) (d1 : decode cL_law (pc + 1) = .ok (.iload 4, 2)) (d3 : decode cL_law (pc + 1 + 2) = .ok (.iconst z, 1)) (d4 : decode cL_law (pc + 1 + 2 + 1) = .ok (.iadd, 1)) (d5 : decode cL_law (pc + 1 + 2 + 1 + 1) = .ok (.iaload, 1)) (K : GW G E Q 7 (pc + 1 + 2 + 1 + 1 + 1) L (.int (xs (i + j)) :: st) h k n) : GW G E Q 7 pc L st h k n := by
  refine g_aload_n X d0 0 h0 ?_
  refine g_iload X d1 4 h4 ?_
  refine g_iconst X d3 hz ?_
  refine g_iadd X d4 ?_
  refine g_eqi (nI_add i j) ?_
  refine g_rd X XS (nI_in hij (by omega)) d5 ?_
  rw [show (nI (i + j)).toNatClampNeg = i + j from nI_clamp (by omega)]
  exact K
/-- a truth value made of a number -/
theorem g_nz (X : Gc G E "ComplaintDeskLaw" cL_law 7 lv mc ms) {z : Int32} (d0 : decode cL_law pc = .ok (.ifCond .eq 7, 3)) (d3 : decode cL_law (pc + 3) = .ok (.iconst 1, 1)) (d4 : decode cL_law (pc + 3 + 1) = .ok (.goto 4, 3)) (d7 : decode cL_law (pc + 7) = .ok (.iconst 0, 1)) (K : GW G E Q 7 (pc + 8) L (.int (if z = 0 then 0 else 1) :: st) h k n) : GW G E Q 7 pc L (.int z :: st) h k n := by
  refine g_if_eq X (pc + 7) d0 (by omega) (fun c0 => ?_) (fun c0 => ?_)
  · rw [if_pos c0] at K
    exact g_iconst X (v := 0) d7 ki_0 K
  · rw [if_neg c0] at K
    refine g_iconst X (v := 1) d3 ki_1 ?_
    exact g_goto X (pc + 8) d4 (by omega) K
/-- the end of a call that may have thrown: the codes first -/
theorem g_code (X : Gc G E "ComplaintDeskLaw" cL_law 7 lv mc ms) {x m o : Nat} {ad ix : Nat → Nat} {kk v : Int32} (D : md ix m ad) (hk : k ≤ mc) (hn : n ≤ ms) (hlv : 2 ≤ lv) (hN : jN G x m o ad h kk v) (h2 : L[2]? = some (2, .ref m)) (h5 : L[5]? = some (5, .int kk)) (d0 : decode cL_law pc = .ok (.aload_n 2, 1)) (d1 : decode cL_law (pc + 1) = .ok (.invokevirtual 82, 3)) (d4 : decode cL_law (pc + 1 + 3) = .ok (.iload 5, 2)) (d6 : decode cL_law (pc + 1 + 3 + 2) = .ok (.if_icmp .eq 5, 3)) (K : GW G E Q 7 (pc + 11) L [] h k n) : GW G E Q 7 pc L [] h k n := by
  obtain ⟨Z, I, Ar, T, A, Lg, fo, S, J, e0, -⟩ := hN
  refine g_aload_n X d0 2 h2 ?_
  have e := S.2.1.self D
  have c7 : Ct G E.l 0 0 0 M_X7_thrown [.ref m] h (rX (some (.int kk)) h) := by
    have q : ∀ Y, Y = mH G ix ad I Ar h → Ct G E.l 0 0 0 M_X7_thrown [.ref m] Y (rX (some (.int kk)) Y) := fun Y hY => by
      rw [hY, ← e0]; exact c_X7_thrown D
    exact q h e
  refine g_cV X ml_L_82 c7 ⟨7, _, S.2.1.1, rfl⟩ (by omega) rfl rfl (Nat.le_of_ble_eq_true rfl) hk hn d1 ?_
  refine g_iload X d4 5 h5 ?_
  exact g_icmp_eq X (pc + 11) d6 (by omega) (fun _ => K) (fun c0 => absurd rfl c0)
theorem g_codeV (X : Gc G E "ComplaintDeskLaw" cL_law 7 lv mc ms) {x m o : Nat} {ad ix : Nat → Nat} {kk : Int32} (D : md ix m ad) (hk : k ≤ mc) (hn : n ≤ ms) (hlv : 2 ≤ lv) (hN : jNk G x m o ad h kk) (h2 : L[2]? = some (2, .ref m)) (h5 : L[5]? = some (5, .int kk)) (d0 : decode cL_law pc = .ok (.aload_n 2, 1)) (d1 : decode cL_law (pc + 1) = .ok (.invokevirtual 82, 3)) (d4 : decode cL_law (pc + 1 + 3) = .ok (.iload 5, 2)) (d6 : decode cL_law (pc + 1 + 3 + 2) = .ok (.if_icmp .eq 5, 3)) (K : GW G E Q 7 (pc + 11) L [] h k n) : GW G E Q 7 pc L [] h k n := by
  obtain ⟨Z, I, Ar, T, A, Lg, fo, S, J, e0⟩ := hN
  refine g_aload_n X d0 2 h2 ?_
  have e := S.2.1.self D
  have c7 : Ct G E.l 0 0 0 M_X7_thrown [.ref m] h (rX (some (.int kk)) h) := by
    have q : ∀ Y, Y = mH G ix ad I Ar h → Ct G E.l 0 0 0 M_X7_thrown [.ref m] Y (rX (some (.int kk)) Y) := fun Y hY => by
      rw [hY, ← e0]; exact c_X7_thrown D
    exact q h e
  refine g_cV X ml_L_82 c7 ⟨7, _, S.2.1.1, rfl⟩ (by omega) rfl rfl (Nat.le_of_ble_eq_true rfl) hk hn d1 ?_
  refine g_iload X d4 5 h5 ?_
  exact g_icmp_eq X (pc + 11) d6 (by omega) (fun _ => K) (fun c0 => absurd rfl c0)
/-- then the answers -/
theorem g_ans (X : Gc G E "ComplaintDeskLaw" cL_law 7 lv mc ms) {x m o : Nat} {ad : Nat → Nat} {kk v : Int32} (hN : jN G x m o ad h kk v) (h3 : L[3]? = some (3, .ref o)) (h5 : L[5]? = some (5, .int kk)) (h6 : L[6]? = some (6, .int v)) (d0 : decode cL_law pc = .ok (.iload 5, 2)) (d2 : decode cL_law (pc + 2) = .ok (.ifCond .ne 15, 3)) (d5 : decode cL_law (pc + 2 + 3) = .ok (.aload_n 3, 1)) (d6 : decode cL_law (pc + 2 + 3 + 1) = .ok (.iconst 0, 1)) (d7 : decode cL_law (pc + 2 + 3 + 1 + 1) = .ok (.laload, 1)) (d8 : decode cL_law (pc + 2 + 3 + 1 + 1 + 1) = .ok (.iload 6, 2)) (d10 : decode cL_law (pc + 2 + 3 + 1 + 1 + 1 + 2) = .ok (.i2l, 1)) (d11 : decode cL_law (pc + 2 + 3 + 1 + 1 + 1 + 2 + 1) = .ok (.lcmp, 1)) (d12 : decode cL_law (pc + 2 + 3 + 1 + 1 + 1 + 2 + 1 + 1) = .ok (.ifCond .eq 5, 3)) (K : GW G E Q 7 (pc + 17) L [] h k n) : GW G E Q 7 pc L [] h k n := by
  obtain ⟨Z, I, Ar, T, A, Lg, fo, S, J, e0, hv⟩ := hN
  refine g_iload X d0 5 h5 ?_
  refine g_if_ne X (pc + 17) d2 (by omega) (fun _ => K) (fun c0 => ?_)
  have ek : kk = 0 := by first | exact c0 | exact Decidable.not_not.mp c0
  refine g_aload_n X d5 3 h3 ?_
  refine g_iconst X (v := 0) d6 ki_0 ?_
  refine g_laload X d7 S.2.2.1.1 (nI_in (c := 0) (N := 1) (by decide) (by decide)) ?_
  refine g_iload X d8 6 h6 ?_
  refine g_i2l X d10 ?_
  refine g_lcmp X d11 ?_
  refine g_if_eq X (pc + 17) d12 (by omega) (fun _ => K) (fun c1 => absurd ((lg_cmp_eq _ _).mpr ?_) c1)
  exact hv ek
/-- the answers of a call that says yes or no -/
theorem g_ansZ (X : Gc G E "ComplaintDeskLaw" cL_law 7 lv mc ms) {x m o : Nat} {ad : Nat → Nat} {kk v : Int32} (hN : jN G x m o ad h kk v) (hv1 : v = 0 ∨ v = 1) (h3 : L[3]? = some (3, .ref o)) (h5 : L[5]? = some (5, .int kk)) (h6 : L[6]? = some (6, .int v)) (d0 : decode cL_law pc = .ok (.iload 5, 2)) (d2 : decode cL_law (pc + 2) = .ok (.ifCond .ne 22, 3)) (d5 : decode cL_law (pc + 2 + 3) = .ok (.aload_n 3, 1)) (d6 : decode cL_law (pc + 2 + 3 + 1) = .ok (.iconst 0, 1)) (d7 : decode cL_law (pc + 2 + 3 + 1 + 1) = .ok (.laload, 1)) (d8 : decode cL_law (pc + 2 + 3 + 1 + 1 + 1) = .ok (.iload 6, 2)) (d10 : decode cL_law (pc + 2 + 3 + 1 + 1 + 1 + 2) = .ok (.ifCond .eq 7, 3)) (d13 : decode cL_law (pc + 2 + 3 + 1 + 1 + 1 + 2 + 3) = .ok (.lconst 1, 1)) (d14 : decode cL_law (pc + 2 + 3 + 1 + 1 + 1 + 2 + 3 + 1) = .ok (.goto 4, 3)) (d17 : decode cL_law (pc + 17) = .ok (.lconst 0, 1)) (d18 : decode cL_law (pc + 18) = .ok (.lcmp, 1)) (d19 : decode cL_law (pc + 18 + 1) = .ok (.ifCond .eq 5, 3)) (K : GW G E Q 7 (pc + 24) L [] h k n) : GW G E Q 7 pc L [] h k n := by
  obtain ⟨Z, I, Ar, T, A, Lg, fo, S, J, e0, hv⟩ := hN
  refine g_iload X d0 5 h5 ?_
  refine g_if_ne X (pc + 24) d2 (by omega) (fun _ => K) (fun c0 => ?_)
  have ek : kk = 0 := by first | exact c0 | exact Decidable.not_not.mp c0
  have ef := hv ek
  refine g_aload_n X d5 3 h3 ?_
  refine g_iconst X (v := 0) d6 ki_0 ?_
  refine g_laload X d7 S.2.2.1.1 (nI_in (c := 0) (N := 1) (by decide) (by decide)) ?_
  refine g_iload X d8 6 h6 ?_
  refine g_if_eq X (pc + 17) d10 (by omega) (fun c1 => ?_) (fun c1 => ?_)
  · refine g_lconst X (v := 0) d17 rfl ?_
    refine g_lcmp X d18 ?_
    refine g_if_eq X (pc + 24) d19 (by omega) (fun _ => K) (fun c2 => absurd ((lg_cmp_eq _ _).mpr ?_) c2)
    show fo 0 = 0
    rw [ef, c1]; decide +kernel
  · refine g_lconst X (v := 1) d13 rfl ?_
    refine g_goto X (pc + 18) d14 (by omega) ?_
    refine g_lcmp X d18 ?_
    refine g_if_eq X (pc + 24) d19 (by omega) (fun _ => K) (fun c2 => absurd ((lg_cmp_eq _ _).mpr ?_) c2)
    show fo 0 = 1
    rw [ef, hv1.resolve_left c1]; decide +kernel
end R0
