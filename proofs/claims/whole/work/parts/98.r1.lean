section R1
variable {G : gG} {E : gE} {h : hW} {lv mc ms k n : Nat} {Q : State → Prop} {b Ln x m o i : Nat} {xs : Nat → Int32} {ix ad : Nat → Nat}
abbrev lL (b x m o i : Nat) : List (Nat × Value) := [(0, .ref b), (1, .ref x), (2, .ref m), (3, .ref o), (4, .int (nI i))]
theorem lw_feed (X : Gc G E "ComplaintDeskLaw" cL_law 7 lv mc ms) (XS : lX G E b Ln xs) (D : md ix m ad) (hs : E.l.stackTraces = false) (hL : Ln ≤ 3072) (hi : i + 5 < Ln) (hk : k + 21 ≤ mc) (hn : n + 2280 ≤ ms) (hlv : 20 ≤ lv) (hJ : jN0 G x m o ad h) (K : ∀ h', jN0 G x m o ad h' → GW G E Q 7 1099 (lL b x m o i) [] h' (k + 21) (n + 2280)) : GW G E Q 7 124 (lL b x m o i) [] h k n := by
  obtain ⟨Z, I, Ar, T, A, Lg, fo, S, J⟩ := hJ
  obtain ⟨fs6, hx⟩ := S.hx
  obtain ⟨v, lvd, lvm, P1, q9, q10, c6, c7⟩ := j_feed (l := E.l) D S J (xs (i + 1)) (xs (i + 2)) (xs (i + 3)) (xs (i + 4)) (xs (i + 5))
  refine g_aload_n X dL_law_124 1 rfl ?_
  refine g_rd5 X XS (j := 1) ki_1 (by omega) hL rfl rfl dL_law_125 dL_law_126 dL_law_128 dL_law_129 dL_law_130 ?_
  refine g_rd5 X XS (j := 2) ki_2 (by omega) hL rfl rfl dL_law_131 dL_law_132 dL_law_134 dL_law_135 dL_law_136 ?_
  refine g_rd5 X XS (j := 3) ki_3 (by omega) hL rfl rfl dL_law_137 dL_law_138 dL_law_140 dL_law_141 dL_law_142 ?_
  refine g_rd5 X XS (j := 4) ki_4 (by omega) hL rfl rfl dL_law_143 dL_law_144 dL_law_146 dL_law_147 dL_law_148 ?_
  refine g_rd5 X XS (j := 5) ki_5 (by omega) hL rfl rfl dL_law_149 dL_law_150 dL_law_152 dL_law_153 dL_law_154 ?_
  refine g_cVx X ml_L_66 c6 ⟨6, fs6, hx, rfl⟩ (by omega) rfl rfl (Nat.le_of_ble_eq_true rfl) (by omega) (by omega) dL_law_155 (fun r h1 q => ?_)
  obtain ⟨rfl, hP⟩ := q
  obtain ⟨⟨fs7, hm⟩, c7b⟩ := c7 _ hP
  refine g_aload_n X dL_law_158 2 rfl ?_
  refine g_rd5 X XS (j := 1) ki_1 (by omega) hL rfl rfl dL_law_159 dL_law_160 dL_law_162 dL_law_163 dL_law_164 ?_
  refine g_rd5 X XS (j := 2) ki_2 (by omega) hL rfl rfl dL_law_165 dL_law_166 dL_law_168 dL_law_169 dL_law_170 ?_
  refine g_rd5 X XS (j := 3) ki_3 (by omega) hL rfl rfl dL_law_171 dL_law_172 dL_law_174 dL_law_175 dL_law_176 ?_
  refine g_rd5 X XS (j := 4) ki_4 (by omega) hL rfl rfl dL_law_177 dL_law_178 dL_law_180 dL_law_181 dL_law_182 ?_
  refine g_rd5 X XS (j := 5) ki_5 (by omega) hL rfl rfl dL_law_183 dL_law_184 dL_law_186 dL_law_187 dL_law_188 ?_
  refine g_cVx X ml_L_70 c7b ⟨7, fs7, hm, rfl⟩ (by omega) rfl rfl (Nat.le_of_ble_eq_true rfl) (by omega) (by omega) dL_law_189 (fun r h2 q => ?_)
  obtain ⟨rfl, hN⟩ := q
  refine g_icmp_eq X 1099 dL_law_192 (by decide) (fun _ => ?_) (fun z => absurd rfl z)
  exact g_widen (by omega) (by omega) (K _ hN)
theorem lw_end (X : Gc G E "ComplaintDeskLaw" cL_law 7 lv mc ms) (XS : lX G E b Ln xs) (D : md ix m ad) (hs : E.l.stackTraces = false) (hL : Ln ≤ 3072) (hi : i + 5 < Ln) (hk : k + 21 ≤ mc) (hn : n + 2280 ≤ ms) (hlv : 20 ≤ lv) (hJ : jN0 G x m o ad h) (K : ∀ h', jN0 G x m o ad h' → GW G E Q 7 1099 (lL b x m o i) [] h' (k + 21) (n + 2280)) : GW G E Q 7 197 (lL b x m o i) [] h k n := by
  obtain ⟨Z, I, Ar, T, A, Lg, fo, S, J⟩ := hJ
  obtain ⟨fs6, hx⟩ := S.hx
  obtain ⟨v, lvd, lvm, P1, q9, q10, c6, c7⟩ := j_end (l := E.l) D S J (xs (i + 1))
  refine g_aload_n X dL_law_197 1 rfl ?_
  refine g_rd5 X XS (j := 1) ki_1 (by omega) hL rfl rfl dL_law_198 dL_law_199 dL_law_201 dL_law_202 dL_law_203 ?_
  refine g_cVx X ml_L_71 c6 ⟨6, fs6, hx, rfl⟩ (by omega) rfl rfl (Nat.le_of_ble_eq_true rfl) (by omega) (by omega) dL_law_204 (fun r h1 q => ?_)
  obtain ⟨rfl, hP⟩ := q
  obtain ⟨⟨fs7, hm⟩, c7b⟩ := c7 _ hP
  refine g_aload_n X dL_law_207 2 rfl ?_
  refine g_rd5 X XS (j := 1) ki_1 (by omega) hL rfl rfl dL_law_208 dL_law_209 dL_law_211 dL_law_212 dL_law_213 ?_
  refine g_cVx X ml_L_75 c7b ⟨7, fs7, hm, rfl⟩ (by omega) rfl rfl (Nat.le_of_ble_eq_true rfl) (by omega) (by omega) dL_law_214 (fun r h2 q => ?_)
  obtain ⟨rfl, hN⟩ := q
  refine g_icmp_eq X 1099 dL_law_217 (by decide) (fun _ => ?_) (fun z => absurd rfl z)
  exact g_widen (by omega) (by omega) (K _ hN)
theorem lw_cause (X : Gc G E "ComplaintDeskLaw" cL_law 7 lv mc ms) (XS : lX G E b Ln xs) (D : md ix m ad) (hs : E.l.stackTraces = false) (hL : Ln ≤ 3072) (hi : i + 5 < Ln) (hk : k + 21 ≤ mc) (hn : n + 2280 ≤ ms) (hlv : 20 ≤ lv) (hJ : jN0 G x m o ad h) (K : ∀ h', jN0 G x m o ad h' → GW G E Q 7 1099 (lL b x m o i) [] h' (k + 21) (n + 2280)) : GW G E Q 7 222 (lL b x m o i) [] h k n := by
  obtain ⟨Z, I, Ar, T, A, Lg, fo, S, J⟩ := hJ
  obtain ⟨fs6, hx⟩ := S.hx
  have hth : (if xs (i + 4) = 0 then (0 : Int32) else 1) = 0 ∨ (if xs (i + 4) = 0 then (0 : Int32) else 1) = 1 := by
    by_cases q : xs (i + 4) = 0
    · rw [if_pos q]; exact Or.inl rfl
    · rw [if_neg q]; exact Or.inr rfl
  obtain ⟨kk, v, mcc, msc, lvm, P1, -, q21, q22, q10, c6, c7⟩ := j_cause (P := fun _ => True) hs (fun _ => trivial) D S J (xs (i + 1)) (xs (i + 2)) (xs (i + 3)) (if xs (i + 4) = 0 then 0 else 1) hth
  refine g_aload_n X dL_law_222 1 rfl ?_
  refine g_rd5 X XS (j := 1) ki_1 (by omega) hL rfl rfl dL_law_223 dL_law_224 dL_law_226 dL_law_227 dL_law_228 ?_
  refine g_rd5 X XS (j := 2) ki_2 (by omega) hL rfl rfl dL_law_229 dL_law_230 dL_law_232 dL_law_233 dL_law_234 ?_
  refine g_rd5 X XS (j := 3) ki_3 (by omega) hL rfl rfl dL_law_235 dL_law_236 dL_law_238 dL_law_239 dL_law_240 ?_
  refine g_rd5 X XS (j := 4) ki_4 (by omega) hL rfl rfl dL_law_241 dL_law_242 dL_law_244 dL_law_245 dL_law_246 ?_
  refine g_nz X dL_law_247 dL_law_250 dL_law_251 dL_law_254 ?_
  refine g_aload_n X dL_law_255 3 rfl ?_
  refine mlh_cause X c6 (by omega) rfl rfl (Nat.le_of_ble_eq_true rfl) (by omega) (by omega) dL_law_256 (fun r h1 q => ?_)
  obtain ⟨rfl, hP⟩ := q
  obtain ⟨⟨fs7, hm⟩, c7b⟩ := c7 _ hP
  refine g_istore X dL_law_259 (Nat.le_of_ble_eq_true rfl) [(5, _), (0, _), (1, _), (2, _), (3, _), (4, _)] rfl ?_
  refine g_L [1, 2, 3, 4, 5, 0] (L' := [(0, _), (1, _), (2, _), (3, _), (4, _), (5, _)]) rfl ?_
  refine g_aload_n X dL_law_261 2 rfl ?_
  refine g_rd5 X XS (j := 1) ki_1 (by omega) hL rfl rfl dL_law_262 dL_law_263 dL_law_265 dL_law_266 dL_law_267 ?_
  refine g_rd5 X XS (j := 2) ki_2 (by omega) hL rfl rfl dL_law_268 dL_law_269 dL_law_271 dL_law_272 dL_law_273 ?_
  refine g_rd5 X XS (j := 3) ki_3 (by omega) hL rfl rfl dL_law_274 dL_law_275 dL_law_277 dL_law_278 dL_law_279 ?_
  refine g_rd5 X XS (j := 4) ki_4 (by omega) hL rfl rfl dL_law_280 dL_law_281 dL_law_283 dL_law_284 dL_law_285 ?_
  refine g_nz X dL_law_286 dL_law_289 dL_law_290 dL_law_293 ?_
  refine g_cVx X ml_L_81 c7b ⟨7, fs7, hm, rfl⟩ (by omega) rfl rfl (Nat.le_of_ble_eq_true rfl) (by omega) (by omega) dL_law_294 (fun r h2 q => ?_)
  obtain ⟨rfl, hN⟩ := q
  refine g_istore X dL_law_297 (Nat.le_of_ble_eq_true rfl) [(6, _), (0, _), (1, _), (2, _), (3, _), (4, _), (5, _)] rfl ?_
  refine g_L [1, 2, 3, 4, 5, 6, 0] (L' := [(0, _), (1, _), (2, _), (3, _), (4, _), (5, _), (6, _)]) rfl ?_
  refine g_code X D (by omega) (by omega) (by omega) hN rfl rfl dL_law_299 dL_law_300 dL_law_303 dL_law_305 ?_
  refine g_ans X hN rfl rfl rfl dL_law_310 dL_law_312 dL_law_315 dL_law_316 dL_law_317 dL_law_318 dL_law_320 dL_law_321 dL_law_322 ?_
  refine g_goto X 1099 dL_law_327 (by decide) ?_
  refine g_L [0, 1, 2, 3, 4] (L' := lL b x m o i) rfl ?_
  exact g_widen (by omega) (by omega) (K _ hN.j0)
theorem lw_pattern (X : Gc G E "ComplaintDeskLaw" cL_law 7 lv mc ms) (XS : lX G E b Ln xs) (D : md ix m ad) (hs : E.l.stackTraces = false) (hL : Ln ≤ 3072) (hi : i + 5 < Ln) (hk : k + 21 ≤ mc) (hn : n + 2280 ≤ ms) (hlv : 20 ≤ lv) (hJ : jN0 G x m o ad h) (K : ∀ h', jN0 G x m o ad h' → GW G E Q 7 1099 (lL b x m o i) [] h' (k + 21) (n + 2280)) : GW G E Q 7 330 (lL b x m o i) [] h k n := by
  obtain ⟨Z, I, Ar, T, A, Lg, fo, S, J⟩ := hJ
  obtain ⟨fs6, hx⟩ := S.hx
  obtain ⟨kk, v, mcc, msc, lvm, P1, -, q21, q22, q10, c6, c7⟩ := j_pattern (P := fun _ => True) hs (fun _ => trivial) D S J (xs (i + 1))
  refine g_aload_n X dL_law_330 1 rfl ?_
  refine g_rd5 X XS (j := 1) ki_1 (by omega) hL rfl rfl dL_law_331 dL_law_332 dL_law_334 dL_law_335 dL_law_336 ?_
  refine g_aload_n X dL_law_337 3 rfl ?_
  refine mlh_pattern X c6 (by omega) rfl rfl (Nat.le_of_ble_eq_true rfl) (by omega) (by omega) dL_law_338 (fun r h1 q => ?_)
  obtain ⟨rfl, hP⟩ := q
  obtain ⟨⟨fs7, hm⟩, c7b⟩ := c7 _ hP
  refine g_istore X dL_law_341 (Nat.le_of_ble_eq_true rfl) [(5, _), (0, _), (1, _), (2, _), (3, _), (4, _)] rfl ?_
  refine g_L [1, 2, 3, 4, 5, 0] (L' := [(0, _), (1, _), (2, _), (3, _), (4, _), (5, _)]) rfl ?_
  refine g_aload_n X dL_law_343 2 rfl ?_
  refine g_rd5 X XS (j := 1) ki_1 (by omega) hL rfl rfl dL_law_344 dL_law_345 dL_law_347 dL_law_348 dL_law_349 ?_
  refine g_cVx X ml_L_89 c7b ⟨7, fs7, hm, rfl⟩ (by omega) rfl rfl (Nat.le_of_ble_eq_true rfl) (by omega) (by omega) dL_law_350 (fun r h2 q => ?_)
  obtain ⟨rfl, hN⟩ := q
  refine g_istore X dL_law_353 (Nat.le_of_ble_eq_true rfl) [(6, _), (0, _), (1, _), (2, _), (3, _), (4, _), (5, _)] rfl ?_
  refine g_L [1, 2, 3, 4, 5, 6, 0] (L' := [(0, _), (1, _), (2, _), (3, _), (4, _), (5, _), (6, _)]) rfl ?_
  refine g_code X D (by omega) (by omega) (by omega) hN rfl rfl dL_law_355 dL_law_356 dL_law_359 dL_law_361 ?_
  refine g_ans X hN rfl rfl rfl dL_law_366 dL_law_368 dL_law_371 dL_law_372 dL_law_373 dL_law_374 dL_law_376 dL_law_377 dL_law_378 ?_
  refine g_goto X 1099 dL_law_383 (by decide) ?_
  refine g_L [0, 1, 2, 3, 4] (L' := lL b x m o i) rfl ?_
  exact g_widen (by omega) (by omega) (K _ hN.j0)
theorem lw_letter (X : Gc G E "ComplaintDeskLaw" cL_law 7 lv mc ms) (XS : lX G E b Ln xs) (D : md ix m ad) (hs : E.l.stackTraces = false) (hL : Ln ≤ 3072) (hi : i + 5 < Ln) (hk : k + 21 ≤ mc) (hn : n + 2280 ≤ ms) (hlv : 20 ≤ lv) (hJ : jN0 G x m o ad h) (K : ∀ h', jN0 G x m o ad h' → GW G E Q 7 1099 (lL b x m o i) [] h' (k + 21) (n + 2280)) : GW G E Q 7 386 (lL b x m o i) [] h k n := by
  obtain ⟨Z, I, Ar, T, A, Lg, fo, S, J⟩ := hJ
  obtain ⟨fs6, hx⟩ := S.hx
  obtain ⟨kk, v, mcc, msc, lvm, P1, -, q21, q22, q10, c6, c7⟩ := j_letter (P := fun _ => True) hs (fun _ => trivial) D S J (xs (i + 1))
  refine g_aload_n X dL_law_386 1 rfl ?_
  refine g_rd5 X XS (j := 1) ki_1 (by omega) hL rfl rfl dL_law_387 dL_law_388 dL_law_390 dL_law_391 dL_law_392 ?_
  refine g_aload_n X dL_law_393 3 rfl ?_
  refine mlh_letter X c6 (by omega) rfl rfl (Nat.le_of_ble_eq_true rfl) (by omega) (by omega) dL_law_394 (fun r h1 q => ?_)
  obtain ⟨rfl, hP⟩ := q
  obtain ⟨⟨fs7, hm⟩, c7b⟩ := c7 _ hP
  refine g_istore X dL_law_397 (Nat.le_of_ble_eq_true rfl) [(5, _), (0, _), (1, _), (2, _), (3, _), (4, _)] rfl ?_
  refine g_L [1, 2, 3, 4, 5, 0] (L' := [(0, _), (1, _), (2, _), (3, _), (4, _), (5, _)]) rfl ?_
  refine g_aload_n X dL_law_399 2 rfl ?_
  refine g_rd5 X XS (j := 1) ki_1 (by omega) hL rfl rfl dL_law_400 dL_law_401 dL_law_403 dL_law_404 dL_law_405 ?_
  refine g_cVx X ml_L_92 c7b ⟨7, fs7, hm, rfl⟩ (by omega) rfl rfl (Nat.le_of_ble_eq_true rfl) (by omega) (by omega) dL_law_406 (fun r h2 q => ?_)
  obtain ⟨rfl, hN⟩ := q
  refine g_istore X dL_law_409 (Nat.le_of_ble_eq_true rfl) [(6, _), (0, _), (1, _), (2, _), (3, _), (4, _), (5, _)] rfl ?_
  refine g_L [1, 2, 3, 4, 5, 6, 0] (L' := [(0, _), (1, _), (2, _), (3, _), (4, _), (5, _), (6, _)]) rfl ?_
  refine g_code X D (by omega) (by omega) (by omega) hN rfl rfl dL_law_411 dL_law_412 dL_law_415 dL_law_417 ?_
  refine g_ans X hN rfl rfl rfl dL_law_422 dL_law_424 dL_law_427 dL_law_428 dL_law_429 dL_law_430 dL_law_432 dL_law_433 dL_law_434 ?_
  refine g_goto X 1099 dL_law_439 (by decide) ?_
  refine g_L [0, 1, 2, 3, 4] (L' := lL b x m o i) rfl ?_
  exact g_widen (by omega) (by omega) (K _ hN.j0)
theorem lw_fault (X : Gc G E "ComplaintDeskLaw" cL_law 7 lv mc ms) (XS : lX G E b Ln xs) (D : md ix m ad) (hs : E.l.stackTraces = false) (hL : Ln ≤ 3072) (hi : i + 5 < Ln) (hk : k + 21 ≤ mc) (hn : n + 2280 ≤ ms) (hlv : 20 ≤ lv) (hJ : jN0 G x m o ad h) (K : ∀ h', jN0 G x m o ad h' → GW G E Q 7 1099 (lL b x m o i) [] h' (k + 21) (n + 2280)) : GW G E Q 7 442 (lL b x m o i) [] h k n := by
  obtain ⟨Z, I, Ar, T, A, Lg, fo, S, J⟩ := hJ
  obtain ⟨fs6, hx⟩ := S.hx
  obtain ⟨v, lvd, lvm, P1, q9, q10, c6, c7⟩ := j_fault (l := E.l) D S J 
  refine g_aload_n X dL_law_442 1 rfl ?_
  refine g_cVx X ml_L_93 c6 ⟨6, fs6, hx, rfl⟩ (by omega) rfl rfl (Nat.le_of_ble_eq_true rfl) (by omega) (by omega) dL_law_443 (fun r h1 q => ?_)
  obtain ⟨rfl, hP⟩ := q
  obtain ⟨⟨fs7, hm⟩, c7b⟩ := c7 _ hP
  refine g_aload_n X dL_law_446 2 rfl ?_
  refine g_cVx X ml_L_96 c7b ⟨7, fs7, hm, rfl⟩ (by omega) rfl rfl (Nat.le_of_ble_eq_true rfl) (by omega) (by omega) dL_law_447 (fun r h2 q => ?_)
  obtain ⟨rfl, hN⟩ := q
  refine g_icmp_eq X 1099 dL_law_450 (by decide) (fun _ => ?_) (fun z => absurd rfl z)
  exact g_widen (by omega) (by omega) (K _ hN)
theorem lw_hours (X : Gc G E "ComplaintDeskLaw" cL_law 7 lv mc ms) (XS : lX G E b Ln xs) (D : md ix m ad) (hs : E.l.stackTraces = false) (hL : Ln ≤ 3072) (hi : i + 5 < Ln) (hk : k + 21 ≤ mc) (hn : n + 2280 ≤ ms) (hlv : 20 ≤ lv) (hJ : jN0 G x m o ad h) (K : ∀ h', jN0 G x m o ad h' → GW G E Q 7 1099 (lL b x m o i) [] h' (k + 21) (n + 2280)) : GW G E Q 7 455 (lL b x m o i) [] h k n := by
  obtain ⟨Z, I, Ar, T, A, Lg, fo, S, J⟩ := hJ
  obtain ⟨fs6, hx⟩ := S.hx
  obtain ⟨kk, mcc, msc, lvm, P1, q21, q22, q10, c6, c7⟩ := j_hours hs D S J (xs (i + 1)) (xs (i + 2))
  refine g_aload_n X dL_law_455 1 rfl ?_
  refine g_rd5 X XS (j := 1) ki_1 (by omega) hL rfl rfl dL_law_456 dL_law_457 dL_law_459 dL_law_460 dL_law_461 ?_
  refine g_rd5 X XS (j := 2) ki_2 (by omega) hL rfl rfl dL_law_462 dL_law_463 dL_law_465 dL_law_466 dL_law_467 ?_
  refine mlh_hours X c6 (by omega) rfl rfl (Nat.le_of_ble_eq_true rfl) (by omega) (by omega) dL_law_468 (fun r h1 q => ?_)
  obtain ⟨rfl, hP⟩ := q
  obtain ⟨⟨fs7, hm⟩, c7b⟩ := c7 _ hP
  refine g_istore X dL_law_471 (Nat.le_of_ble_eq_true rfl) [(5, _), (0, _), (1, _), (2, _), (3, _), (4, _)] rfl ?_
  refine g_L [1, 2, 3, 4, 5, 0] (L' := [(0, _), (1, _), (2, _), (3, _), (4, _), (5, _)]) rfl ?_
  refine g_aload_n X dL_law_473 2 rfl ?_
  refine g_rd5 X XS (j := 1) ki_1 (by omega) hL rfl rfl dL_law_474 dL_law_475 dL_law_477 dL_law_478 dL_law_479 ?_
  refine g_rd5 X XS (j := 2) ki_2 (by omega) hL rfl rfl dL_law_480 dL_law_481 dL_law_483 dL_law_484 dL_law_485 ?_
  refine g_cVx X ml_L_100 c7b ⟨7, fs7, hm, rfl⟩ (by omega) rfl rfl (Nat.le_of_ble_eq_true rfl) (by omega) (by omega) dL_law_486 (fun r h2 q => ?_)
  obtain ⟨rfl, hN⟩ := q
  refine g_codeV X D (by omega) (by omega) (by omega) hN rfl rfl dL_law_489 dL_law_490 dL_law_493 dL_law_495 ?_
  refine g_goto X 1099 dL_law_500 (by decide) ?_
  refine g_L [0, 1, 2, 3, 4] (L' := lL b x m o i) rfl ?_
  exact g_widen (by omega) (by omega) (K _ (by obtain ⟨Z, I, Ar, T, A, Lg, fo, S, J, -⟩ := hN; exact ⟨Z, I, Ar, T, A, Lg, fo, S, J⟩))
theorem lw_days (X : Gc G E "ComplaintDeskLaw" cL_law 7 lv mc ms) (XS : lX G E b Ln xs) (D : md ix m ad) (hs : E.l.stackTraces = false) (hL : Ln ≤ 3072) (hi : i + 5 < Ln) (hk : k + 21 ≤ mc) (hn : n + 2280 ≤ ms) (hlv : 20 ≤ lv) (hJ : jN0 G x m o ad h) (K : ∀ h', jN0 G x m o ad h' → GW G E Q 7 1099 (lL b x m o i) [] h' (k + 21) (n + 2280)) : GW G E Q 7 503 (lL b x m o i) [] h k n := by
  obtain ⟨Z, I, Ar, T, A, Lg, fo, S, J⟩ := hJ
  obtain ⟨fs6, hx⟩ := S.hx
  obtain ⟨kk, v, mcc, msc, lvm, P1, -, q21, q22, q10, c6, c7⟩ := j_days (P := fun _ => True) hs (fun _ => trivial) D S J (xs (i + 1))
  refine g_aload_n X dL_law_503 1 rfl ?_
  refine g_rd5 X XS (j := 1) ki_1 (by omega) hL rfl rfl dL_law_504 dL_law_505 dL_law_507 dL_law_508 dL_law_509 ?_
  refine g_aload_n X dL_law_510 3 rfl ?_
  refine mlh_days X c6 (by omega) rfl rfl (Nat.le_of_ble_eq_true rfl) (by omega) (by omega) dL_law_511 (fun r h1 q => ?_)
  obtain ⟨rfl, hP⟩ := q
  obtain ⟨⟨fs7, hm⟩, c7b⟩ := c7 _ hP
  refine g_istore X dL_law_514 (Nat.le_of_ble_eq_true rfl) [(5, _), (0, _), (1, _), (2, _), (3, _), (4, _)] rfl ?_
  refine g_L [1, 2, 3, 4, 5, 0] (L' := [(0, _), (1, _), (2, _), (3, _), (4, _), (5, _)]) rfl ?_
  refine g_aload_n X dL_law_516 2 rfl ?_
  refine g_rd5 X XS (j := 1) ki_1 (by omega) hL rfl rfl dL_law_517 dL_law_518 dL_law_520 dL_law_521 dL_law_522 ?_
  refine g_cVx X ml_L_103 c7b ⟨7, fs7, hm, rfl⟩ (by omega) rfl rfl (Nat.le_of_ble_eq_true rfl) (by omega) (by omega) dL_law_523 (fun r h2 q => ?_)
  obtain ⟨rfl, hN⟩ := q
  refine g_istore X dL_law_526 (Nat.le_of_ble_eq_true rfl) [(6, _), (0, _), (1, _), (2, _), (3, _), (4, _), (5, _)] rfl ?_
  refine g_L [1, 2, 3, 4, 5, 6, 0] (L' := [(0, _), (1, _), (2, _), (3, _), (4, _), (5, _), (6, _)]) rfl ?_
  refine g_code X D (by omega) (by omega) (by omega) hN rfl rfl dL_law_528 dL_law_529 dL_law_532 dL_law_534 ?_
  refine g_ans X hN rfl rfl rfl dL_law_539 dL_law_541 dL_law_544 dL_law_545 dL_law_546 dL_law_547 dL_law_549 dL_law_550 dL_law_551 ?_
  refine g_goto X 1099 dL_law_556 (by decide) ?_
  refine g_L [0, 1, 2, 3, 4] (L' := lL b x m o i) rfl ?_
  exact g_widen (by omega) (by omega) (K _ hN.j0)
theorem lw_answer (X : Gc G E "ComplaintDeskLaw" cL_law 7 lv mc ms) (XS : lX G E b Ln xs) (D : md ix m ad) (hs : E.l.stackTraces = false) (hL : Ln ≤ 3072) (hi : i + 5 < Ln) (hk : k + 21 ≤ mc) (hn : n + 2280 ≤ ms) (hlv : 20 ≤ lv) (hJ : jN0 G x m o ad h) (K : ∀ h', jN0 G x m o ad h' → GW G E Q 7 1099 (lL b x m o i) [] h' (k + 21) (n + 2280)) : GW G E Q 7 559 (lL b x m o i) [] h k n := by
  obtain ⟨Z, I, Ar, T, A, Lg, fo, S, J⟩ := hJ
  obtain ⟨fs6, hx⟩ := S.hx
  obtain ⟨kk, v, mcc, msc, lvm, P1, hPv, q21, q22, q10, c6, c7⟩ := j_answer hs D S J (xs (i + 1)) (xs (i + 2))
  refine g_aload_n X dL_law_559 1 rfl ?_
  refine g_rd5 X XS (j := 1) ki_1 (by omega) hL rfl rfl dL_law_560 dL_law_561 dL_law_563 dL_law_564 dL_law_565 ?_
  refine g_rd5 X XS (j := 2) ki_2 (by omega) hL rfl rfl dL_law_566 dL_law_567 dL_law_569 dL_law_570 dL_law_571 ?_
  refine g_aload_n X dL_law_572 3 rfl ?_
  refine mlh_answer X c6 (by omega) rfl rfl (Nat.le_of_ble_eq_true rfl) (by omega) (by omega) dL_law_573 (fun r h1 q => ?_)
  obtain ⟨rfl, hP⟩ := q
  obtain ⟨⟨fs7, hm⟩, c7b⟩ := c7 _ hP
  refine g_istore X dL_law_576 (Nat.le_of_ble_eq_true rfl) [(5, _), (0, _), (1, _), (2, _), (3, _), (4, _)] rfl ?_
  refine g_L [1, 2, 3, 4, 5, 0] (L' := [(0, _), (1, _), (2, _), (3, _), (4, _), (5, _)]) rfl ?_
  refine g_aload_n X dL_law_578 2 rfl ?_
  refine g_rd5 X XS (j := 1) ki_1 (by omega) hL rfl rfl dL_law_579 dL_law_580 dL_law_582 dL_law_583 dL_law_584 ?_
  refine g_rd5 X XS (j := 2) ki_2 (by omega) hL rfl rfl dL_law_585 dL_law_586 dL_law_588 dL_law_589 dL_law_590 ?_
  refine g_cVx X ml_L_107 c7b ⟨7, fs7, hm, rfl⟩ (by omega) rfl rfl (Nat.le_of_ble_eq_true rfl) (by omega) (by omega) dL_law_591 (fun r h2 q => ?_)
  obtain ⟨rfl, hN⟩ := q
  refine g_istore X dL_law_594 (Nat.le_of_ble_eq_true rfl) [(6, _), (0, _), (1, _), (2, _), (3, _), (4, _), (5, _)] rfl ?_
  refine g_L [1, 2, 3, 4, 5, 6, 0] (L' := [(0, _), (1, _), (2, _), (3, _), (4, _), (5, _), (6, _)]) rfl ?_
  refine g_code X D (by omega) (by omega) (by omega) hN rfl rfl dL_law_596 dL_law_597 dL_law_600 dL_law_602 ?_
  refine g_ansZ X hN hPv rfl rfl rfl dL_law_607 dL_law_609 dL_law_612 dL_law_613 dL_law_614 dL_law_615 dL_law_617 dL_law_620 dL_law_621 dL_law_624 dL_law_625 dL_law_626 ?_
  refine g_goto X 1099 dL_law_631 (by decide) ?_
  refine g_L [0, 1, 2, 3, 4] (L' := lL b x m o i) rfl ?_
  exact g_widen (by omega) (by omega) (K _ hN.j0)
theorem lw_point (X : Gc G E "ComplaintDeskLaw" cL_law 7 lv mc ms) (XS : lX G E b Ln xs) (D : md ix m ad) (hs : E.l.stackTraces = false) (hL : Ln ≤ 3072) (hi : i + 5 < Ln) (hk : k + 21 ≤ mc) (hn : n + 2280 ≤ ms) (hlv : 20 ≤ lv) (hJ : jN0 G x m o ad h) (K : ∀ h', jN0 G x m o ad h' → GW G E Q 7 1099 (lL b x m o i) [] h' (k + 21) (n + 2280)) : GW G E Q 7 634 (lL b x m o i) [] h k n := by
  obtain ⟨Z, I, Ar, T, A, Lg, fo, S, J⟩ := hJ
  obtain ⟨fs6, hx⟩ := S.hx
  obtain ⟨kk, v, mcc, msc, lvm, P1, -, q21, q22, q10, c6, c7⟩ := j_point (P := fun _ => True) hs (fun _ => trivial) D S J (xs (i + 1)) (xs (i + 2)) (xs (i + 3))
  refine g_aload_n X dL_law_634 1 rfl ?_
  refine g_rd5 X XS (j := 1) ki_1 (by omega) hL rfl rfl dL_law_635 dL_law_636 dL_law_638 dL_law_639 dL_law_640 ?_
  refine g_rd5 X XS (j := 2) ki_2 (by omega) hL rfl rfl dL_law_641 dL_law_642 dL_law_644 dL_law_645 dL_law_646 ?_
  refine g_rd5 X XS (j := 3) ki_3 (by omega) hL rfl rfl dL_law_647 dL_law_648 dL_law_650 dL_law_651 dL_law_652 ?_
  refine g_aload_n X dL_law_653 3 rfl ?_
  refine mlh_point X c6 (by omega) rfl rfl (Nat.le_of_ble_eq_true rfl) (by omega) (by omega) dL_law_654 (fun r h1 q => ?_)
  obtain ⟨rfl, hP⟩ := q
  obtain ⟨⟨fs7, hm⟩, c7b⟩ := c7 _ hP
  refine g_istore X dL_law_657 (Nat.le_of_ble_eq_true rfl) [(5, _), (0, _), (1, _), (2, _), (3, _), (4, _)] rfl ?_
  refine g_L [1, 2, 3, 4, 5, 0] (L' := [(0, _), (1, _), (2, _), (3, _), (4, _), (5, _)]) rfl ?_
  refine g_aload_n X dL_law_659 2 rfl ?_
  refine g_rd5 X XS (j := 1) ki_1 (by omega) hL rfl rfl dL_law_660 dL_law_661 dL_law_663 dL_law_664 dL_law_665 ?_
  refine g_rd5 X XS (j := 2) ki_2 (by omega) hL rfl rfl dL_law_666 dL_law_667 dL_law_669 dL_law_670 dL_law_671 ?_
  refine g_rd5 X XS (j := 3) ki_3 (by omega) hL rfl rfl dL_law_672 dL_law_673 dL_law_675 dL_law_676 dL_law_677 ?_
  refine g_cVx X ml_L_111 c7b ⟨7, fs7, hm, rfl⟩ (by omega) rfl rfl (Nat.le_of_ble_eq_true rfl) (by omega) (by omega) dL_law_678 (fun r h2 q => ?_)
  obtain ⟨rfl, hN⟩ := q
  refine g_istore X dL_law_681 (Nat.le_of_ble_eq_true rfl) [(6, _), (0, _), (1, _), (2, _), (3, _), (4, _), (5, _)] rfl ?_
  refine g_L [1, 2, 3, 4, 5, 6, 0] (L' := [(0, _), (1, _), (2, _), (3, _), (4, _), (5, _), (6, _)]) rfl ?_
  refine g_code X D (by omega) (by omega) (by omega) hN rfl rfl dL_law_683 dL_law_684 dL_law_687 dL_law_689 ?_
  refine g_ans X hN rfl rfl rfl dL_law_694 dL_law_696 dL_law_699 dL_law_700 dL_law_701 dL_law_702 dL_law_704 dL_law_705 dL_law_706 ?_
  refine g_goto X 1099 dL_law_711 (by decide) ?_
  refine g_L [0, 1, 2, 3, 4] (L' := lL b x m o i) rfl ?_
  exact g_widen (by omega) (by omega) (K _ hN.j0)
theorem lw_look (X : Gc G E "ComplaintDeskLaw" cL_law 7 lv mc ms) (XS : lX G E b Ln xs) (D : md ix m ad) (hs : E.l.stackTraces = false) (hL : Ln ≤ 3072) (hi : i + 5 < Ln) (hk : k + 21 ≤ mc) (hn : n + 2280 ≤ ms) (hlv : 20 ≤ lv) (hJ : jN0 G x m o ad h) (K : ∀ h', jN0 G x m o ad h' → GW G E Q 7 1099 (lL b x m o i) [] h' (k + 21) (n + 2280)) : GW G E Q 7 714 (lL b x m o i) [] h k n := by
  obtain ⟨Z, I, Ar, T, A, Lg, fo, S, J⟩ := hJ
  obtain ⟨fs6, hx⟩ := S.hx
  obtain ⟨kk, v, mcc, msc, lvm, P1, -, q21, q22, q10, c6, c7⟩ := j_look (P := fun _ => True) hs (fun _ => trivial) D S J (xs (i + 1)) (xs (i + 2))
  refine g_aload_n X dL_law_714 1 rfl ?_
  refine g_rd5 X XS (j := 1) ki_1 (by omega) hL rfl rfl dL_law_715 dL_law_716 dL_law_718 dL_law_719 dL_law_720 ?_
  refine g_rd5 X XS (j := 2) ki_2 (by omega) hL rfl rfl dL_law_721 dL_law_722 dL_law_724 dL_law_725 dL_law_726 ?_
  refine g_aload_n X dL_law_727 3 rfl ?_
  refine mlh_look X c6 (by omega) rfl rfl (Nat.le_of_ble_eq_true rfl) (by omega) (by omega) dL_law_728 (fun r h1 q => ?_)
  obtain ⟨rfl, hP⟩ := q
  obtain ⟨⟨fs7, hm⟩, c7b⟩ := c7 _ hP
  refine g_istore X dL_law_731 (Nat.le_of_ble_eq_true rfl) [(5, _), (0, _), (1, _), (2, _), (3, _), (4, _)] rfl ?_
  refine g_L [1, 2, 3, 4, 5, 0] (L' := [(0, _), (1, _), (2, _), (3, _), (4, _), (5, _)]) rfl ?_
  refine g_aload_n X dL_law_733 2 rfl ?_
  refine g_rd5 X XS (j := 1) ki_1 (by omega) hL rfl rfl dL_law_734 dL_law_735 dL_law_737 dL_law_738 dL_law_739 ?_
  refine g_rd5 X XS (j := 2) ki_2 (by omega) hL rfl rfl dL_law_740 dL_law_741 dL_law_743 dL_law_744 dL_law_745 ?_
  refine g_cVx X ml_L_114 c7b ⟨7, fs7, hm, rfl⟩ (by omega) rfl rfl (Nat.le_of_ble_eq_true rfl) (by omega) (by omega) dL_law_746 (fun r h2 q => ?_)
  obtain ⟨rfl, hN⟩ := q
  refine g_istore X dL_law_749 (Nat.le_of_ble_eq_true rfl) [(6, _), (0, _), (1, _), (2, _), (3, _), (4, _), (5, _)] rfl ?_
  refine g_L [1, 2, 3, 4, 5, 6, 0] (L' := [(0, _), (1, _), (2, _), (3, _), (4, _), (5, _), (6, _)]) rfl ?_
  refine g_code X D (by omega) (by omega) (by omega) hN rfl rfl dL_law_751 dL_law_752 dL_law_755 dL_law_757 ?_
  refine g_ans X hN rfl rfl rfl dL_law_762 dL_law_764 dL_law_767 dL_law_768 dL_law_769 dL_law_770 dL_law_772 dL_law_773 dL_law_774 ?_
  refine g_goto X 1099 dL_law_779 (by decide) ?_
  refine g_L [0, 1, 2, 3, 4] (L' := lL b x m o i) rfl ?_
  exact g_widen (by omega) (by omega) (K _ hN.j0)
theorem lw_late (X : Gc G E "ComplaintDeskLaw" cL_law 7 lv mc ms) (XS : lX G E b Ln xs) (D : md ix m ad) (hs : E.l.stackTraces = false) (hL : Ln ≤ 3072) (hi : i + 5 < Ln) (hk : k + 21 ≤ mc) (hn : n + 2280 ≤ ms) (hlv : 20 ≤ lv) (hJ : jN0 G x m o ad h) (K : ∀ h', jN0 G x m o ad h' → GW G E Q 7 1099 (lL b x m o i) [] h' (k + 21) (n + 2280)) : GW G E Q 7 782 (lL b x m o i) [] h k n := by
  obtain ⟨Z, I, Ar, T, A, Lg, fo, S, J⟩ := hJ
  obtain ⟨fs6, hx⟩ := S.hx
  obtain ⟨kk, v, mcc, msc, lvm, P1, -, q21, q22, q10, c6, c7⟩ := j_late (P := fun _ => True) hs (fun _ => trivial) D S J (xs (i + 1))
  refine g_aload_n X dL_law_782 1 rfl ?_
  refine g_rd5 X XS (j := 1) ki_1 (by omega) hL rfl rfl dL_law_783 dL_law_784 dL_law_786 dL_law_787 dL_law_788 ?_
  refine g_aload_n X dL_law_789 3 rfl ?_
  refine mlh_late X c6 (by omega) rfl rfl (Nat.le_of_ble_eq_true rfl) (by omega) (by omega) dL_law_790 (fun r h1 q => ?_)
  obtain ⟨rfl, hP⟩ := q
  obtain ⟨⟨fs7, hm⟩, c7b⟩ := c7 _ hP
  refine g_istore X dL_law_793 (Nat.le_of_ble_eq_true rfl) [(5, _), (0, _), (1, _), (2, _), (3, _), (4, _)] rfl ?_
  refine g_L [1, 2, 3, 4, 5, 0] (L' := [(0, _), (1, _), (2, _), (3, _), (4, _), (5, _)]) rfl ?_
  refine g_aload_n X dL_law_795 2 rfl ?_
  refine g_rd5 X XS (j := 1) ki_1 (by omega) hL rfl rfl dL_law_796 dL_law_797 dL_law_799 dL_law_800 dL_law_801 ?_
  refine g_cVx X ml_L_117 c7b ⟨7, fs7, hm, rfl⟩ (by omega) rfl rfl (Nat.le_of_ble_eq_true rfl) (by omega) (by omega) dL_law_802 (fun r h2 q => ?_)
  obtain ⟨rfl, hN⟩ := q
  refine g_istore X dL_law_805 (Nat.le_of_ble_eq_true rfl) [(6, _), (0, _), (1, _), (2, _), (3, _), (4, _), (5, _)] rfl ?_
  refine g_L [1, 2, 3, 4, 5, 6, 0] (L' := [(0, _), (1, _), (2, _), (3, _), (4, _), (5, _), (6, _)]) rfl ?_
  refine g_code X D (by omega) (by omega) (by omega) hN rfl rfl dL_law_807 dL_law_808 dL_law_811 dL_law_813 ?_
  refine g_ans X hN rfl rfl rfl dL_law_818 dL_law_820 dL_law_823 dL_law_824 dL_law_825 dL_law_826 dL_law_828 dL_law_829 dL_law_830 ?_
  refine g_goto X 1099 dL_law_835 (by decide) ?_
  refine g_L [0, 1, 2, 3, 4] (L' := lL b x m o i) rfl ?_
  exact g_widen (by omega) (by omega) (K _ hN.j0)
theorem lw_waits (X : Gc G E "ComplaintDeskLaw" cL_law 7 lv mc ms) (XS : lX G E b Ln xs) (D : md ix m ad) (hs : E.l.stackTraces = false) (hL : Ln ≤ 3072) (hi : i + 5 < Ln) (hk : k + 21 ≤ mc) (hn : n + 2280 ≤ ms) (hlv : 20 ≤ lv) (hJ : jN0 G x m o ad h) (K : ∀ h', jN0 G x m o ad h' → GW G E Q 7 1099 (lL b x m o i) [] h' (k + 21) (n + 2280)) : GW G E Q 7 838 (lL b x m o i) [] h k n := by
  obtain ⟨Z, I, Ar, T, A, Lg, fo, S, J⟩ := hJ
  obtain ⟨fs6, hx⟩ := S.hx
  obtain ⟨kk, v, mcc, msc, lvm, P1, -, q21, q22, q10, c6, c7⟩ := j_waits (P := fun _ => True) hs (fun _ => trivial) D S J (xs (i + 1))
  refine g_aload_n X dL_law_838 1 rfl ?_
  refine g_rd5 X XS (j := 1) ki_1 (by omega) hL rfl rfl dL_law_839 dL_law_840 dL_law_842 dL_law_843 dL_law_844 ?_
  refine g_aload_n X dL_law_845 3 rfl ?_
  refine mlh_waits X c6 (by omega) rfl rfl (Nat.le_of_ble_eq_true rfl) (by omega) (by omega) dL_law_846 (fun r h1 q => ?_)
  obtain ⟨rfl, hP⟩ := q
  obtain ⟨⟨fs7, hm⟩, c7b⟩ := c7 _ hP
  refine g_istore X dL_law_849 (Nat.le_of_ble_eq_true rfl) [(5, _), (0, _), (1, _), (2, _), (3, _), (4, _)] rfl ?_
  refine g_L [1, 2, 3, 4, 5, 0] (L' := [(0, _), (1, _), (2, _), (3, _), (4, _), (5, _)]) rfl ?_
  refine g_aload_n X dL_law_851 2 rfl ?_
  refine g_rd5 X XS (j := 1) ki_1 (by omega) hL rfl rfl dL_law_852 dL_law_853 dL_law_855 dL_law_856 dL_law_857 ?_
  refine g_cVx X ml_L_120 c7b ⟨7, fs7, hm, rfl⟩ (by omega) rfl rfl (Nat.le_of_ble_eq_true rfl) (by omega) (by omega) dL_law_858 (fun r h2 q => ?_)
  obtain ⟨rfl, hN⟩ := q
  refine g_istore X dL_law_861 (Nat.le_of_ble_eq_true rfl) [(6, _), (0, _), (1, _), (2, _), (3, _), (4, _), (5, _)] rfl ?_
  refine g_L [1, 2, 3, 4, 5, 6, 0] (L' := [(0, _), (1, _), (2, _), (3, _), (4, _), (5, _), (6, _)]) rfl ?_
  refine g_code X D (by omega) (by omega) (by omega) hN rfl rfl dL_law_863 dL_law_864 dL_law_867 dL_law_869 ?_
  refine g_ans X hN rfl rfl rfl dL_law_874 dL_law_876 dL_law_879 dL_law_880 dL_law_881 dL_law_882 dL_law_884 dL_law_885 dL_law_886 ?_
  refine g_goto X 1099 dL_law_891 (by decide) ?_
  refine g_L [0, 1, 2, 3, 4] (L' := lL b x m o i) rfl ?_
  exact g_widen (by omega) (by omega) (K _ hN.j0)
theorem lw_template (X : Gc G E "ComplaintDeskLaw" cL_law 7 lv mc ms) (XS : lX G E b Ln xs) (D : md ix m ad) (hs : E.l.stackTraces = false) (hL : Ln ≤ 3072) (hi : i + 5 < Ln) (hk : k + 21 ≤ mc) (hn : n + 2280 ≤ ms) (hlv : 20 ≤ lv) (hJ : jN0 G x m o ad h) (K : ∀ h', jN0 G x m o ad h' → GW G E Q 7 1099 (lL b x m o i) [] h' (k + 21) (n + 2280)) : GW G E Q 7 894 (lL b x m o i) [] h k n := by
  obtain ⟨Z, I, Ar, T, A, Lg, fo, S, J⟩ := hJ
  obtain ⟨fs6, hx⟩ := S.hx
  obtain ⟨kk, v, mcc, msc, lvm, P1, -, q21, q22, q10, c6, c7⟩ := j_template (P := fun _ => True) hs (fun _ => trivial) D S J (xs (i + 1))
  refine g_aload_n X dL_law_894 1 rfl ?_
  refine g_rd5 X XS (j := 1) ki_1 (by omega) hL rfl rfl dL_law_895 dL_law_896 dL_law_898 dL_law_899 dL_law_900 ?_
  refine g_aload_n X dL_law_901 3 rfl ?_
  refine mlh_template X c6 (by omega) rfl rfl (Nat.le_of_ble_eq_true rfl) (by omega) (by omega) dL_law_902 (fun r h1 q => ?_)
  obtain ⟨rfl, hP⟩ := q
  obtain ⟨⟨fs7, hm⟩, c7b⟩ := c7 _ hP
  refine g_istore X dL_law_905 (Nat.le_of_ble_eq_true rfl) [(5, _), (0, _), (1, _), (2, _), (3, _), (4, _)] rfl ?_
  refine g_L [1, 2, 3, 4, 5, 0] (L' := [(0, _), (1, _), (2, _), (3, _), (4, _), (5, _)]) rfl ?_
  refine g_aload_n X dL_law_907 2 rfl ?_
  refine g_rd5 X XS (j := 1) ki_1 (by omega) hL rfl rfl dL_law_908 dL_law_909 dL_law_911 dL_law_912 dL_law_913 ?_
  refine g_cVx X ml_L_123 c7b ⟨7, fs7, hm, rfl⟩ (by omega) rfl rfl (Nat.le_of_ble_eq_true rfl) (by omega) (by omega) dL_law_914 (fun r h2 q => ?_)
  obtain ⟨rfl, hN⟩ := q
  refine g_istore X dL_law_917 (Nat.le_of_ble_eq_true rfl) [(6, _), (0, _), (1, _), (2, _), (3, _), (4, _), (5, _)] rfl ?_
  refine g_L [1, 2, 3, 4, 5, 6, 0] (L' := [(0, _), (1, _), (2, _), (3, _), (4, _), (5, _), (6, _)]) rfl ?_
  refine g_code X D (by omega) (by omega) (by omega) hN rfl rfl dL_law_919 dL_law_920 dL_law_923 dL_law_925 ?_
  refine g_ans X hN rfl rfl rfl dL_law_930 dL_law_932 dL_law_935 dL_law_936 dL_law_937 dL_law_938 dL_law_940 dL_law_941 dL_law_942 ?_
  refine g_goto X 1099 dL_law_947 (by decide) ?_
  refine g_L [0, 1, 2, 3, 4] (L' := lL b x m o i) rfl ?_
  exact g_widen (by omega) (by omega) (K _ hN.j0)
theorem lw_counts (X : Gc G E "ComplaintDeskLaw" cL_law 7 lv mc ms) (XS : lX G E b Ln xs) (D : md ix m ad) (hs : E.l.stackTraces = false) (hL : Ln ≤ 3072) (hi : i + 5 < Ln) (hk : k + 21 ≤ mc) (hn : n + 2280 ≤ ms) (hlv : 20 ≤ lv) (hJ : jN0 G x m o ad h) (K : ∀ h', jN0 G x m o ad h' → GW G E Q 7 1099 (lL b x m o i) [] h' (k + 21) (n + 2280)) : GW G E Q 7 950 (lL b x m o i) [] h k n := by
  obtain ⟨Z, I, Ar, T, A, Lg, fo, S, J⟩ := hJ
  obtain ⟨fs6, hx⟩ := S.hx
  obtain ⟨kk, v, mcc, msc, lvm, P1, -, q21, q22, q10, c6, c7⟩ := j_counts (P := fun _ => True) hs (fun _ => trivial) D S J (xs (i + 1)) (xs (i + 2))
  refine g_aload_n X dL_law_950 1 rfl ?_
  refine g_rd5 X XS (j := 1) ki_1 (by omega) hL rfl rfl dL_law_951 dL_law_952 dL_law_954 dL_law_955 dL_law_956 ?_
  refine g_rd5 X XS (j := 2) ki_2 (by omega) hL rfl rfl dL_law_957 dL_law_958 dL_law_960 dL_law_961 dL_law_962 ?_
  refine g_aload_n X dL_law_963 3 rfl ?_
  refine mlh_counts X c6 (by omega) rfl rfl (Nat.le_of_ble_eq_true rfl) (by omega) (by omega) dL_law_964 (fun r h1 q => ?_)
  obtain ⟨rfl, hP⟩ := q
  obtain ⟨⟨fs7, hm⟩, c7b⟩ := c7 _ hP
  refine g_istore X dL_law_967 (Nat.le_of_ble_eq_true rfl) [(5, _), (0, _), (1, _), (2, _), (3, _), (4, _)] rfl ?_
  refine g_L [1, 2, 3, 4, 5, 0] (L' := [(0, _), (1, _), (2, _), (3, _), (4, _), (5, _)]) rfl ?_
  refine g_aload_n X dL_law_969 2 rfl ?_
  refine g_rd5 X XS (j := 1) ki_1 (by omega) hL rfl rfl dL_law_970 dL_law_971 dL_law_973 dL_law_974 dL_law_975 ?_
  refine g_rd5 X XS (j := 2) ki_2 (by omega) hL rfl rfl dL_law_976 dL_law_977 dL_law_979 dL_law_980 dL_law_981 ?_
  refine g_cVx X ml_L_126 c7b ⟨7, fs7, hm, rfl⟩ (by omega) rfl rfl (Nat.le_of_ble_eq_true rfl) (by omega) (by omega) dL_law_982 (fun r h2 q => ?_)
  obtain ⟨rfl, hN⟩ := q
  refine g_istore X dL_law_985 (Nat.le_of_ble_eq_true rfl) [(6, _), (0, _), (1, _), (2, _), (3, _), (4, _), (5, _)] rfl ?_
  refine g_L [1, 2, 3, 4, 5, 6, 0] (L' := [(0, _), (1, _), (2, _), (3, _), (4, _), (5, _), (6, _)]) rfl ?_
  refine g_code X D (by omega) (by omega) (by omega) hN rfl rfl dL_law_987 dL_law_988 dL_law_991 dL_law_993 ?_
  refine g_ans X hN rfl rfl rfl dL_law_998 dL_law_1000 dL_law_1003 dL_law_1004 dL_law_1005 dL_law_1006 dL_law_1008 dL_law_1009 dL_law_1010 ?_
  refine g_goto X 1099 dL_law_1015 (by decide) ?_
  refine g_L [0, 1, 2, 3, 4] (L' := lL b x m o i) rfl ?_
  exact g_widen (by omega) (by omega) (K _ hN.j0)
theorem lw_wave (X : Gc G E "ComplaintDeskLaw" cL_law 7 lv mc ms) (XS : lX G E b Ln xs) (D : md ix m ad) (hs : E.l.stackTraces = false) (hL : Ln ≤ 3072) (hi : i + 5 < Ln) (hk : k + 21 ≤ mc) (hn : n + 2280 ≤ ms) (hlv : 20 ≤ lv) (hJ : jN0 G x m o ad h) (K : ∀ h', jN0 G x m o ad h' → GW G E Q 7 1099 (lL b x m o i) [] h' (k + 21) (n + 2280)) : GW G E Q 7 1018 (lL b x m o i) [] h k n := by
  obtain ⟨Z, I, Ar, T, A, Lg, fo, S, J⟩ := hJ
  obtain ⟨fs6, hx⟩ := S.hx
  obtain ⟨kk, v, mcc, msc, lvm, P1, -, q21, q22, q10, c6, c7⟩ := j_wave (P := fun _ => True) hs (fun _ => trivial) D S J (xs (i + 1))
  refine g_aload_n X dL_law_1018 1 rfl ?_
  refine g_rd5 X XS (j := 1) ki_1 (by omega) hL rfl rfl dL_law_1019 dL_law_1020 dL_law_1022 dL_law_1023 dL_law_1024 ?_
  refine g_aload_n X dL_law_1025 3 rfl ?_
  refine mlh_wave X c6 (by omega) rfl rfl (Nat.le_of_ble_eq_true rfl) (by omega) (by omega) dL_law_1026 (fun r h1 q => ?_)
  obtain ⟨rfl, hP⟩ := q
  obtain ⟨⟨fs7, hm⟩, c7b⟩ := c7 _ hP
  refine g_istore X dL_law_1029 (Nat.le_of_ble_eq_true rfl) [(5, _), (0, _), (1, _), (2, _), (3, _), (4, _)] rfl ?_
  refine g_L [1, 2, 3, 4, 5, 0] (L' := [(0, _), (1, _), (2, _), (3, _), (4, _), (5, _)]) rfl ?_
  refine g_aload_n X dL_law_1031 2 rfl ?_
  refine g_rd5 X XS (j := 1) ki_1 (by omega) hL rfl rfl dL_law_1032 dL_law_1033 dL_law_1035 dL_law_1036 dL_law_1037 ?_
  refine g_cVx X ml_L_129 c7b ⟨7, fs7, hm, rfl⟩ (by omega) rfl rfl (Nat.le_of_ble_eq_true rfl) (by omega) (by omega) dL_law_1038 (fun r h2 q => ?_)
  obtain ⟨rfl, hN⟩ := q
  refine g_istore X dL_law_1041 (Nat.le_of_ble_eq_true rfl) [(6, _), (0, _), (1, _), (2, _), (3, _), (4, _), (5, _)] rfl ?_
  refine g_L [1, 2, 3, 4, 5, 6, 0] (L' := [(0, _), (1, _), (2, _), (3, _), (4, _), (5, _), (6, _)]) rfl ?_
  refine g_code X D (by omega) (by omega) (by omega) hN rfl rfl dL_law_1043 dL_law_1044 dL_law_1047 dL_law_1049 ?_
  refine g_ans X hN rfl rfl rfl dL_law_1054 dL_law_1056 dL_law_1059 dL_law_1060 dL_law_1061 dL_law_1062 dL_law_1064 dL_law_1065 dL_law_1066 ?_
  refine g_goto X 1099 dL_law_1071 (by decide) ?_
  refine g_L [0, 1, 2, 3, 4] (L' := lL b x m o i) rfl ?_
  exact g_widen (by omega) (by omega) (K _ hN.j0)
theorem lw_count (X : Gc G E "ComplaintDeskLaw" cL_law 7 lv mc ms) (XS : lX G E b Ln xs) (D : md ix m ad) (hs : E.l.stackTraces = false) (hL : Ln ≤ 3072) (hi : i + 5 < Ln) (hk : k + 21 ≤ mc) (hn : n + 2280 ≤ ms) (hlv : 20 ≤ lv) (hJ : jN0 G x m o ad h) (K : ∀ h', jN0 G x m o ad h' → GW G E Q 7 1099 (lL b x m o i) [] h' (k + 21) (n + 2280)) : GW G E Q 7 1074 (lL b x m o i) [] h k n := by
  obtain ⟨Z, I, Ar, T, A, Lg, fo, S, J⟩ := hJ
  obtain ⟨fs6, hx⟩ := S.hx
  obtain ⟨v, lvd, lvm, P1, q9, q10, c6, c7⟩ := j_count (l := E.l) D S J (xs (i + 1))
  refine g_aload_n X dL_law_1074 1 rfl ?_
  refine g_rd5 X XS (j := 1) ki_1 (by omega) hL rfl rfl dL_law_1075 dL_law_1076 dL_law_1078 dL_law_1079 dL_law_1080 ?_
  refine g_cVx X ml_L_130 c6 ⟨6, fs6, hx, rfl⟩ (by omega) rfl rfl (Nat.le_of_ble_eq_true rfl) (by omega) (by omega) dL_law_1081 (fun r h1 q => ?_)
  obtain ⟨rfl, hP⟩ := q
  obtain ⟨⟨fs7, hm⟩, c7b⟩ := c7 _ hP
  refine g_aload_n X dL_law_1084 2 rfl ?_
  refine g_rd5 X XS (j := 1) ki_1 (by omega) hL rfl rfl dL_law_1085 dL_law_1086 dL_law_1088 dL_law_1089 dL_law_1090 ?_
  refine g_cVx X ml_L_133 c7b ⟨7, fs7, hm, rfl⟩ (by omega) rfl rfl (Nat.le_of_ble_eq_true rfl) (by omega) (by omega) dL_law_1091 (fun r h2 q => ?_)
  obtain ⟨rfl, hN⟩ := q
  refine g_icmp_eq X 1099 dL_law_1094 (by decide) (fun _ => ?_) (fun z => absurd rfl z)
  exact g_widen (by omega) (by omega) (K _ hN)
end R1
