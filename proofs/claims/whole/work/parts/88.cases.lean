/-! the cases of the law -/
abbrev lvB (a r o d : Nat → Nat) (b : Nat) (x5 : Int) : List (Nat × Value) := [(5, .int (iI x5)), (4, .ref (d 0)), (3, .ref (o 0)), (2, .ref (r 0)), (1, .ref (a 0)), (0, .ref b)]
theorem zif_r (z : Int) : zR (zif (z = 0) 0 1) := el1 (Q := zR) (fun _ => ⟨by decide, by decide⟩) (fun _ => ⟨by decide, by decide⟩)
theorem lv_drop {ls : Array Slot} {n : Nat} {q : Nat × Value} {lv : List (Nat × Value)} (h : lv_has ls n (q :: lv)) : lv_has ls n lv := ⟨h.1, h.2.1, fun q hq => h.2.2 q (List.mem_cons_of_mem _ hq)⟩
theorem wLaw_J {k : Nat → ClassId} {a r o d : Nat → Nat} {F P T B N Hs : Nat → Nat → Int} {G : Nat → Nat → Nat → Int} {I L R J : Nat → Nat → Int} {X : Nat → UInt64} : (wLaw k a r o d F P T B N Hs G I L R J X)[195]? = some (o 0, .inl (k 4, 1, .inr (.inl (fun j => (iI (J 0 j)).toInt64)))) := rfl
theorem wLaw_D {k : Nat → ClassId} {a r o d : Nat → Nat} {F P T B N Hs : Nat → Nat → Int} {G : Nat → Nat → Nat → Int} {I L R J : Nat → Nat → Int} {X : Nat → UInt64} : (wLaw k a r o d F P T B N Hs G I L R J X)[196]? = some (d 0, .inl (k 5, 1, .inr (.inr (.inr (.inl X))))) := rfl
/-- what follows a case -/
def lwK (p : Program) (l : Launch) (e : Env) (R : Room) (s : State) (m : MethodId) (args : Array Value) (below : List Frame) (meth : Method) (c : Code) (D : va_G) (k : Nat → ClassId) (A : Nat → Prop) (a r o d : Nat → Nat) (b : Nat) (x5 K : Int) (cells slots : Nat) (Q : State → Prop) : Prop :=
  ∀ (F P T B N Hs : Nat → Nat → Int) (G : Nat → Nat → Nat → Int) (I L RR J : Nat → Nat → Int) (X : Nat → UInt64) (H : Heap) (locs : List Loc) (ls : Array Slot) (c1 s1 : Nat), Iv (K + 620) F P T B N Hs G I L RR → va_P D vwCl (wLaw k a r o d F P T B N Hs G I L RR J X) H → va_D A (wLaw k a r o d F P T B N Hs G I L RR J X) → va_S A s.heap H locs → lv_has ls 9 (lvB a r o d b x5) → c1 ≤ cells + 1 → s1 ≤ slots + 6 → W p l e R s m args below meth c H locs c1 s1 Q (F0 m 2206 ls [])
section LCA
variable {p : Program} {l : Launch} {e : Env} {R : Room} {s : State} {m : MethodId} {args : Array Value} {below : List Frame} {meth : Method} {c : Code} {H : Heap} {locs : List Loc} {cells slots : Nat} {Q : State → Prop}
variable {ls : Array Slot} {D : va_G} {A : Nat → Prop} {k : Nat → ClassId} {a r o d : Nat → Nat} {K : Int} {F P T B N Hs : Nat → Nat → Int} {Gs : Nat → Nat → Nat → Int} {I L RR J : Nat → Nat → Int} {X : Nat → UInt64} {b Ln : Nat} {xs : Nat → Int32} {x5 : Int}
theorem la_char {pc : Nat} {rest : List Value} {z : Int} (hF : lwF p s m args c R D k A) (d0 : decode cL_law pc = .ok (.i2c, 1)) (kk : W p l e R s m args below meth c H locs cells slots Q (F0 m (pc + 1) ls (.int (iI (((iI z).toBitVec.toNat % 65536 : Nat) : Int)) :: rest))) : W p l e R s m args below meth c H locs cells slots Q (F0 m pc ls (.int (iI z) :: rest)) := by
  obtain ⟨hx, hb, hml, hown, hts, hK, hG, hE, hA, hR1, hR2⟩ := hF
  exact lv_i2c (v := iI (((iI z).toBitVec.toNat % 65536 : Nat) : Int)) hx hb d0 ((pk_char (iI z)).trans (iI_nI _).symm) kk
set_option maxHeartbeats 4000000 in
set_option maxRecDepth 100000 in
theorem lc_0 (hF : lwF p s m args c R D k A) (hst : l.stackTraces = false) (hX : va_X b Ln xs s s.heap) (hbl : b < s.heap.size) (hbA : ¬ A b) (hLn : Ln ≤ 2048) (x0 : 0 ≤ x5) (hx5 : x5 + 4 ≤ Ln) (h : Iv K F P T B N Hs Gs I L RR) (hK : K + 620 ≤ 320000) (hP : va_P D vwCl (wLaw k a r o d F P T B N Hs Gs I L RR J X) H) (hD : va_D A (wLaw k a r o d F P T B N Hs Gs I L RR J X)) (hS : va_S A s.heap H locs) (hl : lv_has ls 9 (lvB a r o d b x5)) (hcl : cells + 1 ≤ R.cells ∧ slots + 6 ≤ R.slots) (kk : lwK p l e R s m args below meth c D k A a r o d b x5 K cells slots Q) : W p l e R s m args below meth c H locs cells slots Q (F0 m 212 ls []) := by
  obtain ⟨hx, hb, hml, hown, hts, hK0, hG, hE, hA, hR1, hR2⟩ := id hF
  refine lv_aload_n hx hb dL_law_212 rfl (lv_at hl 4 rfl) ?_
  refine la_arg (xs := xs) (j := 1) (q := 1) hF hX hbl hbA hS (lv_at hl 5 rfl) (lv_at hl 0 rfl) hLn x0 (by decide) (by omega) dL_law_213 dL_law_214 dL_law_216 rfl dL_law_217 dL_law_218 ?_
  refine la_arg (xs := xs) (j := 2) (q := 2) hF hX hbl hbA hS (lv_at hl 5 rfl) (lv_at hl 0 rfl) hLn x0 (by decide) (by omega) dL_law_219 dL_law_220 dL_law_222 rfl dL_law_223 dL_law_224 ?_
  refine la_arg (xs := xs) (j := 3) (q := 3) hF hX hbl hbA hS (lv_at hl 5 rfl) (lv_at hl 0 rfl) hLn x0 (by decide) (by omega) dL_law_225 dL_law_226 dL_law_228 rfl dL_law_229 dL_law_230 ?_
  refine lv_aload_n hx hb dL_law_231 rfl (lv_at hl 2 rfl) ?_
  obtain ⟨F1, P1, T1, B1, N1, H1, G1, I1, L1, R1, J1, kx, bx, hL, hC, e8, hk, hJ, hZ, hI⟩ := st_make (D := D) (k := k) (a := a) (r := r) (o := o) (d := d) (J := J) (X := X) hst h hK (p1 := (pJ xs (x5 + 1))) (p2 := (pJ xs (x5 + 2))) (p3 := (pJ xs (x5 + 3))) (pJ_r xs _) (pJ_r xs _) (pJ_r xs _)
  refine la_L (As := [.ref (a 0), .int (iI (pJ xs (x5 + 1))), .int (iI (pJ xs (x5 + 2))), .int (iI (pJ xs (x5 + 3))), .ref (o 0)]) (rest := []) (idx := 130) (n := 5) hF hP hD hS hl.1 hL gL_law_L_make rfl (by decide +kernel) rfl (Nat.le_of_ble_eq_true rfl) (Nat.le_of_ble_eq_true rfl) dL_law_232 hcl (fun H locs hP hD hS => ?_)
  refine lv_istore (lv' := (6, .int (iI kx)) :: lvB a r o d b x5) hx hb dL_law_235 hl (by decide) rfl (fun ls hl => ?_)
  refine lv_aload_n hx hb dL_law_237 rfl (lv_at hl 4 rfl) ?_
  refine la_arg (xs := xs) (j := 1) (q := 1) hF hX hbl hbA hS (lv_at hl 6 rfl) (lv_at hl 1 rfl) hLn x0 (by decide) (by omega) dL_law_238 dL_law_239 dL_law_241 rfl dL_law_242 dL_law_243 ?_
  refine la_arg (xs := xs) (j := 2) (q := 2) hF hX hbl hbA hS (lv_at hl 6 rfl) (lv_at hl 1 rfl) hLn x0 (by decide) (by omega) dL_law_244 dL_law_245 dL_law_247 rfl dL_law_248 dL_law_249 ?_
  refine la_arg (xs := xs) (j := 3) (q := 3) hF hX hbl hbA hS (lv_at hl 6 rfl) (lv_at hl 1 rfl) hLn x0 (by decide) (by omega) dL_law_250 dL_law_251 dL_law_253 rfl dL_law_254 dL_law_255 ?_
  refine la_V (As := [.int (iI (pJ xs (x5 + 1))), .int (iI (pJ xs (x5 + 2))), .int (iI (pJ xs (x5 + 3)))]) (rest := []) (idx := 135) (n := 3) (ci := 10) hF hP hD hS hl.1 hC rfl gL_law_X8_make rfl (by decide +kernel) rfl (Nat.le_of_ble_eq_true rfl) (Nat.le_of_ble_eq_true rfl) dL_law_256 ⟨hcl.1, hcl.2⟩ (fun H locs hP hD hS => ?_)
  refine lv_istore (lv' := (7, .int (iI bx)) :: (6, .int (iI kx)) :: lvB a r o d b x5) hx hb dL_law_259 hl (by decide) rfl (fun ls hl => ?_)
  have hT : zXc l yX8_thrown wsX8_thrown D k (r 0) 10 [] (wLaw k a r o d F1 P1 T1 B1 N1 H1 G1 I1 L1 R1 J1 X) kx (wLaw k a r o d F1 P1 T1 B1 N1 H1 G1 I1 L1 R1 J1 X) := by
    rw [← e8]
    exact xc_of (c_X8_thrown l D k r R1) (rm_i rfl rfl rfl rfl) sel_r rfl
  exact la_tail (q := 261) (off := 1917) (fJ := J1 0) (kk0 := 195) (kx := kx) (bx := bx) hF hP hD hS hl.1 hT wLaw_J hk hJ (lv_at hl 5 rfl) (lv_at hl 4 rfl) (lv_at hl 1 rfl) (lv_at hl 0 rfl) hcl dL_law_261 dL_law_262 dL_law_265 dL_law_267 dL_law_272 dL_law_274 dL_law_277 dL_law_278 dL_law_279 dL_law_280 dL_law_282 dL_law_283 dL_law_284 dL_law_289 (by decide) (fun H1 locs1 hP hD hS => kk _ _ _ _ _ _ _ _ _ _ _ _ _ _ _ _ _ hI hP hD hS (lv_drop (lv_drop hl)) (Nat.le_refl _) (Nat.le_refl _))
set_option maxHeartbeats 4000000 in
set_option maxRecDepth 100000 in
theorem lc_1 (hF : lwF p s m args c R D k A) (hst : l.stackTraces = false) (hX : va_X b Ln xs s s.heap) (hbl : b < s.heap.size) (hbA : ¬ A b) (hLn : Ln ≤ 2048) (x0 : 0 ≤ x5) (hx5 : x5 + 4 ≤ Ln) (h : Iv K F P T B N Hs Gs I L RR) (hK : K + 620 ≤ 320000) (hP : va_P D vwCl (wLaw k a r o d F P T B N Hs Gs I L RR J X) H) (hD : va_D A (wLaw k a r o d F P T B N Hs Gs I L RR J X)) (hS : va_S A s.heap H locs) (hl : lv_has ls 9 (lvB a r o d b x5)) (hcl : cells + 1 ≤ R.cells ∧ slots + 6 ≤ R.slots) (kk : lwK p l e R s m args below meth c D k A a r o d b x5 K cells slots Q) : W p l e R s m args below meth c H locs cells slots Q (F0 m 292 ls []) := by
  obtain ⟨hx, hb, hml, hown, hts, hK0, hG, hE, hA, hR1, hR2⟩ := id hF
  refine lv_aload_n hx hb dL_law_292 rfl (lv_at hl 4 rfl) ?_
  refine la_arg (xs := xs) (j := 1) (q := 1) hF hX hbl hbA hS (lv_at hl 5 rfl) (lv_at hl 0 rfl) hLn x0 (by decide) (by omega) dL_law_293 dL_law_294 dL_law_296 rfl dL_law_297 dL_law_298 ?_
  refine lv_aload_n hx hb dL_law_299 rfl (lv_at hl 2 rfl) ?_
  obtain ⟨F1, P1, T1, B1, N1, H1, G1, I1, L1, R1, J1, kx, bx, hL, hC, e8, hk, hJ, hZ, hI⟩ := st_blank (D := D) (k := k) (a := a) (r := r) (o := o) (d := d) (J := J) (X := X) hst h hK (p1 := (pJ xs (x5 + 1))) (pJ_r xs _)
  refine la_L (As := [.ref (a 0), .int (iI (pJ xs (x5 + 1))), .ref (o 0)]) (rest := []) (idx := 139) (n := 3) hF hP hD hS hl.1 hL gL_law_L_blank rfl (by decide +kernel) rfl (Nat.le_of_ble_eq_true rfl) (Nat.le_of_ble_eq_true rfl) dL_law_300 hcl (fun H locs hP hD hS => ?_)
  refine lv_istore (lv' := (6, .int (iI kx)) :: lvB a r o d b x5) hx hb dL_law_303 hl (by decide) rfl (fun ls hl => ?_)
  refine lv_aload_n hx hb dL_law_305 rfl (lv_at hl 4 rfl) ?_
  refine la_arg (xs := xs) (j := 1) (q := 1) hF hX hbl hbA hS (lv_at hl 6 rfl) (lv_at hl 1 rfl) hLn x0 (by decide) (by omega) dL_law_306 dL_law_307 dL_law_309 rfl dL_law_310 dL_law_311 ?_
  refine la_V (As := [.int (iI (pJ xs (x5 + 1)))]) (rest := []) (idx := 142) (n := 1) (ci := 10) hF hP hD hS hl.1 hC rfl gL_law_X8_blank rfl (by decide +kernel) rfl (Nat.le_of_ble_eq_true rfl) (Nat.le_of_ble_eq_true rfl) dL_law_312 ⟨hcl.1, hcl.2⟩ (fun H locs hP hD hS => ?_)
  refine lv_istore (lv' := (7, .int (iI bx)) :: (6, .int (iI kx)) :: lvB a r o d b x5) hx hb dL_law_315 hl (by decide) rfl (fun ls hl => ?_)
  have hT : zXc l yX8_thrown wsX8_thrown D k (r 0) 10 [] (wLaw k a r o d F1 P1 T1 B1 N1 H1 G1 I1 L1 R1 J1 X) kx (wLaw k a r o d F1 P1 T1 B1 N1 H1 G1 I1 L1 R1 J1 X) := by
    rw [← e8]
    exact xc_of (c_X8_thrown l D k r R1) (rm_i rfl rfl rfl rfl) sel_r rfl
  exact la_tail (q := 317) (off := 1861) (fJ := J1 0) (kk0 := 195) (kx := kx) (bx := bx) hF hP hD hS hl.1 hT wLaw_J hk hJ (lv_at hl 5 rfl) (lv_at hl 4 rfl) (lv_at hl 1 rfl) (lv_at hl 0 rfl) hcl dL_law_317 dL_law_318 dL_law_321 dL_law_323 dL_law_328 dL_law_330 dL_law_333 dL_law_334 dL_law_335 dL_law_336 dL_law_338 dL_law_339 dL_law_340 dL_law_345 (by decide) (fun H1 locs1 hP hD hS => kk _ _ _ _ _ _ _ _ _ _ _ _ _ _ _ _ _ hI hP hD hS (lv_drop (lv_drop hl)) (Nat.le_refl _) (Nat.le_refl _))
set_option maxHeartbeats 4000000 in
set_option maxRecDepth 100000 in
theorem lc_2 (hF : lwF p s m args c R D k A) (hst : l.stackTraces = false) (hX : va_X b Ln xs s s.heap) (hbl : b < s.heap.size) (hbA : ¬ A b) (hLn : Ln ≤ 2048) (x0 : 0 ≤ x5) (hx5 : x5 + 4 ≤ Ln) (h : Iv K F P T B N Hs Gs I L RR) (hK : K + 620 ≤ 320000) (hP : va_P D vwCl (wLaw k a r o d F P T B N Hs Gs I L RR J X) H) (hD : va_D A (wLaw k a r o d F P T B N Hs Gs I L RR J X)) (hS : va_S A s.heap H locs) (hl : lv_has ls 9 (lvB a r o d b x5)) (hcl : cells + 1 ≤ R.cells ∧ slots + 6 ≤ R.slots) (kk : lwK p l e R s m args below meth c D k A a r o d b x5 K cells slots Q) : W p l e R s m args below meth c H locs cells slots Q (F0 m 348 ls []) := by
  obtain ⟨hx, hb, hml, hown, hts, hK0, hG, hE, hA, hR1, hR2⟩ := id hF
  refine lv_aload_n hx hb dL_law_348 rfl (lv_at hl 4 rfl) ?_
  refine la_arg (xs := xs) (j := 1) (q := 1) hF hX hbl hbA hS (lv_at hl 5 rfl) (lv_at hl 0 rfl) hLn x0 (by decide) (by omega) dL_law_349 dL_law_350 dL_law_352 rfl dL_law_353 dL_law_354 ?_
  refine la_arg (xs := xs) (j := 2) (q := 2) hF hX hbl hbA hS (lv_at hl 5 rfl) (lv_at hl 0 rfl) hLn x0 (by decide) (by omega) dL_law_355 dL_law_356 dL_law_358 rfl dL_law_359 dL_law_360 ?_
  refine la_arg (xs := xs) (j := 3) (q := 3) hF hX hbl hbA hS (lv_at hl 5 rfl) (lv_at hl 0 rfl) hLn x0 (by decide) (by omega) dL_law_361 dL_law_362 dL_law_364 rfl dL_law_365 dL_law_366 ?_
  refine lv_aload_n hx hb dL_law_367 rfl (lv_at hl 2 rfl) ?_
  obtain ⟨F1, P1, T1, B1, N1, H1, G1, I1, L1, R1, J1, kx, bx, hL, hC, e8, hk, hJ, hZ, hI⟩ := st_tell (D := D) (k := k) (a := a) (r := r) (o := o) (d := d) (J := J) (X := X) hst h hK (p1 := (pJ xs (x5 + 1))) (p2 := (pJ xs (x5 + 2))) (p3 := (pJ xs (x5 + 3))) (pJ_r xs _) (pJ_r xs _) (pJ_r xs _)
  refine la_L (As := [.ref (a 0), .int (iI (pJ xs (x5 + 1))), .int (iI (pJ xs (x5 + 2))), .int (iI (pJ xs (x5 + 3))), .ref (o 0)]) (rest := []) (idx := 143) (n := 5) hF hP hD hS hl.1 hL gL_law_L_tell rfl (by decide +kernel) rfl (Nat.le_of_ble_eq_true rfl) (Nat.le_of_ble_eq_true rfl) dL_law_368 hcl (fun H locs hP hD hS => ?_)
  refine lv_istore (lv' := (6, .int (iI kx)) :: lvB a r o d b x5) hx hb dL_law_371 hl (by decide) rfl (fun ls hl => ?_)
  refine lv_aload_n hx hb dL_law_373 rfl (lv_at hl 4 rfl) ?_
  refine la_arg (xs := xs) (j := 1) (q := 1) hF hX hbl hbA hS (lv_at hl 6 rfl) (lv_at hl 1 rfl) hLn x0 (by decide) (by omega) dL_law_374 dL_law_375 dL_law_377 rfl dL_law_378 dL_law_379 ?_
  refine la_arg (xs := xs) (j := 2) (q := 2) hF hX hbl hbA hS (lv_at hl 6 rfl) (lv_at hl 1 rfl) hLn x0 (by decide) (by omega) dL_law_380 dL_law_381 dL_law_383 rfl dL_law_384 dL_law_385 ?_
  refine la_arg (xs := xs) (j := 3) (q := 3) hF hX hbl hbA hS (lv_at hl 6 rfl) (lv_at hl 1 rfl) hLn x0 (by decide) (by omega) dL_law_386 dL_law_387 dL_law_389 rfl dL_law_390 dL_law_391 ?_
  refine la_V (As := [.int (iI (pJ xs (x5 + 1))), .int (iI (pJ xs (x5 + 2))), .int (iI (pJ xs (x5 + 3)))]) (rest := []) (idx := 145) (n := 3) (ci := 10) hF hP hD hS hl.1 hC rfl gL_law_X8_tell rfl (by decide +kernel) rfl (Nat.le_of_ble_eq_true rfl) (Nat.le_of_ble_eq_true rfl) dL_law_392 ⟨hcl.1, hcl.2⟩ (fun H locs hP hD hS => ?_)
  refine lv_istore (lv' := (7, .int (iI bx)) :: (6, .int (iI kx)) :: lvB a r o d b x5) hx hb dL_law_395 hl (by decide) rfl (fun ls hl => ?_)
  have hT : zXc l yX8_thrown wsX8_thrown D k (r 0) 10 [] (wLaw k a r o d F1 P1 T1 B1 N1 H1 G1 I1 L1 R1 J1 X) kx (wLaw k a r o d F1 P1 T1 B1 N1 H1 G1 I1 L1 R1 J1 X) := by
    rw [← e8]
    exact xc_of (c_X8_thrown l D k r R1) (rm_i rfl rfl rfl rfl) sel_r rfl
  exact la_tail (q := 397) (off := 1781) (fJ := J1 0) (kk0 := 195) (kx := kx) (bx := bx) hF hP hD hS hl.1 hT wLaw_J hk hJ (lv_at hl 5 rfl) (lv_at hl 4 rfl) (lv_at hl 1 rfl) (lv_at hl 0 rfl) hcl dL_law_397 dL_law_398 dL_law_401 dL_law_403 dL_law_408 dL_law_410 dL_law_413 dL_law_414 dL_law_415 dL_law_416 dL_law_418 dL_law_419 dL_law_420 dL_law_425 (by decide) (fun H1 locs1 hP hD hS => kk _ _ _ _ _ _ _ _ _ _ _ _ _ _ _ _ _ hI hP hD hS (lv_drop (lv_drop hl)) (Nat.le_refl _) (Nat.le_refl _))
set_option maxHeartbeats 4000000 in
set_option maxRecDepth 100000 in
theorem lc_3 (hF : lwF p s m args c R D k A) (hst : l.stackTraces = false) (hX : va_X b Ln xs s s.heap) (hbl : b < s.heap.size) (hbA : ¬ A b) (hLn : Ln ≤ 2048) (x0 : 0 ≤ x5) (hx5 : x5 + 4 ≤ Ln) (h : Iv K F P T B N Hs Gs I L RR) (hK : K + 620 ≤ 320000) (hP : va_P D vwCl (wLaw k a r o d F P T B N Hs Gs I L RR J X) H) (hD : va_D A (wLaw k a r o d F P T B N Hs Gs I L RR J X)) (hS : va_S A s.heap H locs) (hl : lv_has ls 9 (lvB a r o d b x5)) (hcl : cells + 1 ≤ R.cells ∧ slots + 6 ≤ R.slots) (kk : lwK p l e R s m args below meth c D k A a r o d b x5 K cells slots Q) : W p l e R s m args below meth c H locs cells slots Q (F0 m 428 ls []) := by
  obtain ⟨hx, hb, hml, hown, hts, hK0, hG, hE, hA, hR1, hR2⟩ := id hF
  refine lv_aload_n hx hb dL_law_428 rfl (lv_at hl 4 rfl) ?_
  refine la_arg (xs := xs) (j := 1) (q := 1) hF hX hbl hbA hS (lv_at hl 5 rfl) (lv_at hl 0 rfl) hLn x0 (by decide) (by omega) dL_law_429 dL_law_430 dL_law_432 rfl dL_law_433 dL_law_434 ?_
  refine lv_aload_n hx hb dL_law_435 rfl (lv_at hl 2 rfl) ?_
  obtain ⟨F1, P1, T1, B1, N1, H1, G1, I1, L1, R1, J1, kx, bx, hL, hC, e8, hk, hJ, hZ, hI⟩ := st_inspect (D := D) (k := k) (a := a) (r := r) (o := o) (d := d) (J := J) (X := X) hst h hK (p1 := (pJ xs (x5 + 1))) (pJ_r xs _)
  refine la_L (As := [.ref (a 0), .int (iI (pJ xs (x5 + 1))), .ref (o 0)]) (rest := []) (idx := 146) (n := 3) hF hP hD hS hl.1 hL gL_law_L_inspect rfl (by decide +kernel) rfl (Nat.le_of_ble_eq_true rfl) (Nat.le_of_ble_eq_true rfl) dL_law_436 hcl (fun H locs hP hD hS => ?_)
  refine lv_istore (lv' := (6, .int (iI kx)) :: lvB a r o d b x5) hx hb dL_law_439 hl (by decide) rfl (fun ls hl => ?_)
  refine lv_aload_n hx hb dL_law_441 rfl (lv_at hl 4 rfl) ?_
  refine la_arg (xs := xs) (j := 1) (q := 1) hF hX hbl hbA hS (lv_at hl 6 rfl) (lv_at hl 1 rfl) hLn x0 (by decide) (by omega) dL_law_442 dL_law_443 dL_law_445 rfl dL_law_446 dL_law_447 ?_
  refine la_V (As := [.int (iI (pJ xs (x5 + 1)))]) (rest := []) (idx := 148) (n := 1) (ci := 10) hF hP hD hS hl.1 hC rfl gL_law_X8_inspect rfl (by decide +kernel) rfl (Nat.le_of_ble_eq_true rfl) (Nat.le_of_ble_eq_true rfl) dL_law_448 ⟨hcl.1, hcl.2⟩ (fun H locs hP hD hS => ?_)
  refine lv_istore (lv' := (7, .int (iI bx)) :: (6, .int (iI kx)) :: lvB a r o d b x5) hx hb dL_law_451 hl (by decide) rfl (fun ls hl => ?_)
  have hT : zXc l yX8_thrown wsX8_thrown D k (r 0) 10 [] (wLaw k a r o d F1 P1 T1 B1 N1 H1 G1 I1 L1 R1 J1 X) kx (wLaw k a r o d F1 P1 T1 B1 N1 H1 G1 I1 L1 R1 J1 X) := by
    rw [← e8]
    exact xc_of (c_X8_thrown l D k r R1) (rm_i rfl rfl rfl rfl) sel_r rfl
  exact la_tail (q := 453) (off := 1725) (fJ := J1 0) (kk0 := 195) (kx := kx) (bx := bx) hF hP hD hS hl.1 hT wLaw_J hk hJ (lv_at hl 5 rfl) (lv_at hl 4 rfl) (lv_at hl 1 rfl) (lv_at hl 0 rfl) hcl dL_law_453 dL_law_454 dL_law_457 dL_law_459 dL_law_464 dL_law_466 dL_law_469 dL_law_470 dL_law_471 dL_law_472 dL_law_474 dL_law_475 dL_law_476 dL_law_481 (by decide) (fun H1 locs1 hP hD hS => kk _ _ _ _ _ _ _ _ _ _ _ _ _ _ _ _ _ hI hP hD hS (lv_drop (lv_drop hl)) (Nat.le_refl _) (Nat.le_refl _))
set_option maxHeartbeats 4000000 in
set_option maxRecDepth 100000 in
theorem lc_4 (hF : lwF p s m args c R D k A) (hst : l.stackTraces = false) (hX : va_X b Ln xs s s.heap) (hbl : b < s.heap.size) (hbA : ¬ A b) (hLn : Ln ≤ 2048) (x0 : 0 ≤ x5) (hx5 : x5 + 4 ≤ Ln) (h : Iv K F P T B N Hs Gs I L RR) (hK : K + 620 ≤ 320000) (hP : va_P D vwCl (wLaw k a r o d F P T B N Hs Gs I L RR J X) H) (hD : va_D A (wLaw k a r o d F P T B N Hs Gs I L RR J X)) (hS : va_S A s.heap H locs) (hl : lv_has ls 9 (lvB a r o d b x5)) (hcl : cells + 1 ≤ R.cells ∧ slots + 6 ≤ R.slots) (kk : lwK p l e R s m args below meth c D k A a r o d b x5 K cells slots Q) : W p l e R s m args below meth c H locs cells slots Q (F0 m 484 ls []) := by
  obtain ⟨hx, hb, hml, hown, hts, hK0, hG, hE, hA, hR1, hR2⟩ := id hF
  refine lv_aload_n hx hb dL_law_484 rfl (lv_at hl 4 rfl) ?_
  refine lv_aload_n hx hb dL_law_485 rfl (lv_at hl 2 rfl) ?_
  obtain ⟨F1, P1, T1, B1, N1, H1, G1, I1, L1, R1, J1, kx, bx, hL, hC, e8, hk, hJ, hZ, hI⟩ := st_hire (D := D) (k := k) (a := a) (r := r) (o := o) (d := d) (J := J) (X := X) hst h hK  
  refine la_L (As := [.ref (a 0), .ref (o 0)]) (rest := []) (idx := 149) (n := 2) hF hP hD hS hl.1 hL gL_law_L_hire rfl (by decide +kernel) rfl (Nat.le_of_ble_eq_true rfl) (Nat.le_of_ble_eq_true rfl) dL_law_486 hcl (fun H locs hP hD hS => ?_)
  refine lv_istore (lv' := (6, .int (iI kx)) :: lvB a r o d b x5) hx hb dL_law_489 hl (by decide) rfl (fun ls hl => ?_)
  refine lv_aload_n hx hb dL_law_491 rfl (lv_at hl 4 rfl) ?_
  refine la_V (As := []) (rest := []) (idx := 152) (n := 0) (ci := 10) hF hP hD hS hl.1 hC rfl gL_law_X8_hire rfl (by decide +kernel) rfl (Nat.le_of_ble_eq_true rfl) (Nat.le_of_ble_eq_true rfl) dL_law_492 ⟨hcl.1, hcl.2⟩ (fun H locs hP hD hS => ?_)
  refine lv_istore (lv' := (7, .int (iI bx)) :: (6, .int (iI kx)) :: lvB a r o d b x5) hx hb dL_law_495 hl (by decide) rfl (fun ls hl => ?_)
  have hT : zXc l yX8_thrown wsX8_thrown D k (r 0) 10 [] (wLaw k a r o d F1 P1 T1 B1 N1 H1 G1 I1 L1 R1 J1 X) kx (wLaw k a r o d F1 P1 T1 B1 N1 H1 G1 I1 L1 R1 J1 X) := by
    rw [← e8]
    exact xc_of (c_X8_thrown l D k r R1) (rm_i rfl rfl rfl rfl) sel_r rfl
  exact la_tail (q := 497) (off := 1681) (fJ := J1 0) (kk0 := 195) (kx := kx) (bx := bx) hF hP hD hS hl.1 hT wLaw_J hk hJ (lv_at hl 5 rfl) (lv_at hl 4 rfl) (lv_at hl 1 rfl) (lv_at hl 0 rfl) hcl dL_law_497 dL_law_498 dL_law_501 dL_law_503 dL_law_508 dL_law_510 dL_law_513 dL_law_514 dL_law_515 dL_law_516 dL_law_518 dL_law_519 dL_law_520 dL_law_525 (by decide) (fun H1 locs1 hP hD hS => kk _ _ _ _ _ _ _ _ _ _ _ _ _ _ _ _ _ hI hP hD hS (lv_drop (lv_drop hl)) (Nat.le_refl _) (Nat.le_refl _))
set_option maxHeartbeats 4000000 in
set_option maxRecDepth 100000 in
theorem lc_5 (hF : lwF p s m args c R D k A) (hst : l.stackTraces = false) (hX : va_X b Ln xs s s.heap) (hbl : b < s.heap.size) (hbA : ¬ A b) (hLn : Ln ≤ 2048) (x0 : 0 ≤ x5) (hx5 : x5 + 4 ≤ Ln) (h : Iv K F P T B N Hs Gs I L RR) (hK : K + 620 ≤ 320000) (hP : va_P D vwCl (wLaw k a r o d F P T B N Hs Gs I L RR J X) H) (hD : va_D A (wLaw k a r o d F P T B N Hs Gs I L RR J X)) (hS : va_S A s.heap H locs) (hl : lv_has ls 9 (lvB a r o d b x5)) (hcl : cells + 1 ≤ R.cells ∧ slots + 6 ≤ R.slots) (kk : lwK p l e R s m args below meth c D k A a r o d b x5 K cells slots Q) : W p l e R s m args below meth c H locs cells slots Q (F0 m 528 ls []) := by
  obtain ⟨hx, hb, hml, hown, hts, hK0, hG, hE, hA, hR1, hR2⟩ := id hF
  refine lv_aload_n hx hb dL_law_528 rfl (lv_at hl 4 rfl) ?_
  refine la_arg (xs := xs) (j := 1) (q := 1) hF hX hbl hbA hS (lv_at hl 5 rfl) (lv_at hl 0 rfl) hLn x0 (by decide) (by omega) dL_law_529 dL_law_530 dL_law_532 rfl dL_law_533 dL_law_534 ?_
  refine lv_aload_n hx hb dL_law_535 rfl (lv_at hl 2 rfl) ?_
  obtain ⟨F1, P1, T1, B1, N1, H1, G1, I1, L1, R1, J1, kx, bx, hL, hC, e8, hk, hJ, hZ, hI⟩ := st_leave (D := D) (k := k) (a := a) (r := r) (o := o) (d := d) (J := J) (X := X) hst h hK (p1 := (pJ xs (x5 + 1))) (pJ_r xs _)
  refine la_L (As := [.ref (a 0), .int (iI (pJ xs (x5 + 1))), .ref (o 0)]) (rest := []) (idx := 153) (n := 3) hF hP hD hS hl.1 hL gL_law_L_leave rfl (by decide +kernel) rfl (Nat.le_of_ble_eq_true rfl) (Nat.le_of_ble_eq_true rfl) dL_law_536 hcl (fun H locs hP hD hS => ?_)
  refine lv_istore (lv' := (6, .int (iI kx)) :: lvB a r o d b x5) hx hb dL_law_539 hl (by decide) rfl (fun ls hl => ?_)
  refine lv_aload_n hx hb dL_law_541 rfl (lv_at hl 4 rfl) ?_
  refine la_arg (xs := xs) (j := 1) (q := 1) hF hX hbl hbA hS (lv_at hl 6 rfl) (lv_at hl 1 rfl) hLn x0 (by decide) (by omega) dL_law_542 dL_law_543 dL_law_545 rfl dL_law_546 dL_law_547 ?_
  refine la_V (As := [.int (iI (pJ xs (x5 + 1)))]) (rest := []) (idx := 155) (n := 1) (ci := 10) hF hP hD hS hl.1 hC rfl gL_law_X8_leave rfl (by decide +kernel) rfl (Nat.le_of_ble_eq_true rfl) (Nat.le_of_ble_eq_true rfl) dL_law_548 ⟨hcl.1, hcl.2⟩ (fun H locs hP hD hS => ?_)
  refine lv_istore (lv' := (7, .int (iI bx)) :: (6, .int (iI kx)) :: lvB a r o d b x5) hx hb dL_law_551 hl (by decide) rfl (fun ls hl => ?_)
  have hT : zXc l yX8_thrown wsX8_thrown D k (r 0) 10 [] (wLaw k a r o d F1 P1 T1 B1 N1 H1 G1 I1 L1 R1 J1 X) kx (wLaw k a r o d F1 P1 T1 B1 N1 H1 G1 I1 L1 R1 J1 X) := by
    rw [← e8]
    exact xc_of (c_X8_thrown l D k r R1) (rm_i rfl rfl rfl rfl) sel_r rfl
  exact la_tail (q := 553) (off := 1625) (fJ := J1 0) (kk0 := 195) (kx := kx) (bx := bx) hF hP hD hS hl.1 hT wLaw_J hk hJ (lv_at hl 5 rfl) (lv_at hl 4 rfl) (lv_at hl 1 rfl) (lv_at hl 0 rfl) hcl dL_law_553 dL_law_554 dL_law_557 dL_law_559 dL_law_564 dL_law_566 dL_law_569 dL_law_570 dL_law_571 dL_law_572 dL_law_574 dL_law_575 dL_law_576 dL_law_581 (by decide) (fun H1 locs1 hP hD hS => kk _ _ _ _ _ _ _ _ _ _ _ _ _ _ _ _ _ hI hP hD hS (lv_drop (lv_drop hl)) (Nat.le_refl _) (Nat.le_refl _))
set_option maxHeartbeats 4000000 in
set_option maxRecDepth 100000 in
theorem lc_6 (hF : lwF p s m args c R D k A) (hst : l.stackTraces = false) (hX : va_X b Ln xs s s.heap) (hbl : b < s.heap.size) (hbA : ¬ A b) (hLn : Ln ≤ 2048) (x0 : 0 ≤ x5) (hx5 : x5 + 4 ≤ Ln) (h : Iv K F P T B N Hs Gs I L RR) (hK : K + 620 ≤ 320000) (hP : va_P D vwCl (wLaw k a r o d F P T B N Hs Gs I L RR J X) H) (hD : va_D A (wLaw k a r o d F P T B N Hs Gs I L RR J X)) (hS : va_S A s.heap H locs) (hl : lv_has ls 9 (lvB a r o d b x5)) (hcl : cells + 1 ≤ R.cells ∧ slots + 6 ≤ R.slots) (kk : lwK p l e R s m args below meth c D k A a r o d b x5 K cells slots Q) : W p l e R s m args below meth c H locs cells slots Q (F0 m 584 ls []) := by
  obtain ⟨hx, hb, hml, hown, hts, hK0, hG, hE, hA, hR1, hR2⟩ := id hF
  refine lv_aload_n hx hb dL_law_584 rfl (lv_at hl 4 rfl) ?_
  refine la_arg (xs := xs) (j := 1) (q := 1) hF hX hbl hbA hS (lv_at hl 5 rfl) (lv_at hl 0 rfl) hLn x0 (by decide) (by omega) dL_law_585 dL_law_586 dL_law_588 rfl dL_law_589 dL_law_590 ?_
  refine lv_aload_n hx hb dL_law_591 rfl (lv_at hl 2 rfl) ?_
  obtain ⟨F1, P1, T1, B1, N1, H1, G1, I1, L1, R1, J1, kx, bx, hL, hC, e8, hk, hJ, hZ, hI⟩ := st_sell (D := D) (k := k) (a := a) (r := r) (o := o) (d := d) (J := J) (X := X) hst h hK (p1 := (pJ xs (x5 + 1))) (pJ_r xs _)
  refine la_L (As := [.ref (a 0), .int (iI (pJ xs (x5 + 1))), .ref (o 0)]) (rest := []) (idx := 156) (n := 3) hF hP hD hS hl.1 hL gL_law_L_sell rfl (by decide +kernel) rfl (Nat.le_of_ble_eq_true rfl) (Nat.le_of_ble_eq_true rfl) dL_law_592 hcl (fun H locs hP hD hS => ?_)
  refine lv_istore (lv' := (6, .int (iI kx)) :: lvB a r o d b x5) hx hb dL_law_595 hl (by decide) rfl (fun ls hl => ?_)
  refine lv_aload_n hx hb dL_law_597 rfl (lv_at hl 4 rfl) ?_
  refine la_arg (xs := xs) (j := 1) (q := 1) hF hX hbl hbA hS (lv_at hl 6 rfl) (lv_at hl 1 rfl) hLn x0 (by decide) (by omega) dL_law_598 dL_law_599 dL_law_601 rfl dL_law_602 dL_law_603 ?_
  refine la_V (As := [.int (iI (pJ xs (x5 + 1)))]) (rest := []) (idx := 158) (n := 1) (ci := 10) hF hP hD hS hl.1 hC rfl gL_law_X8_sell rfl (by decide +kernel) rfl (Nat.le_of_ble_eq_true rfl) (Nat.le_of_ble_eq_true rfl) dL_law_604 ⟨hcl.1, hcl.2⟩ (fun H locs hP hD hS => ?_)
  refine lv_istore (lv' := (7, .int (iI bx)) :: (6, .int (iI kx)) :: lvB a r o d b x5) hx hb dL_law_607 hl (by decide) rfl (fun ls hl => ?_)
  have hT : zXc l yX8_thrown wsX8_thrown D k (r 0) 10 [] (wLaw k a r o d F1 P1 T1 B1 N1 H1 G1 I1 L1 R1 J1 X) kx (wLaw k a r o d F1 P1 T1 B1 N1 H1 G1 I1 L1 R1 J1 X) := by
    rw [← e8]
    exact xc_of (c_X8_thrown l D k r R1) (rm_i rfl rfl rfl rfl) sel_r rfl
  exact la_tail (q := 609) (off := 1569) (fJ := J1 0) (kk0 := 195) (kx := kx) (bx := bx) hF hP hD hS hl.1 hT wLaw_J hk hJ (lv_at hl 5 rfl) (lv_at hl 4 rfl) (lv_at hl 1 rfl) (lv_at hl 0 rfl) hcl dL_law_609 dL_law_610 dL_law_613 dL_law_615 dL_law_620 dL_law_622 dL_law_625 dL_law_626 dL_law_627 dL_law_628 dL_law_630 dL_law_631 dL_law_632 dL_law_637 (by decide) (fun H1 locs1 hP hD hS => kk _ _ _ _ _ _ _ _ _ _ _ _ _ _ _ _ _ hI hP hD hS (lv_drop (lv_drop hl)) (Nat.le_refl _) (Nat.le_refl _))
set_option maxHeartbeats 4000000 in
set_option maxRecDepth 100000 in
theorem lc_7 (hF : lwF p s m args c R D k A) (hst : l.stackTraces = false) (hX : va_X b Ln xs s s.heap) (hbl : b < s.heap.size) (hbA : ¬ A b) (hLn : Ln ≤ 2048) (x0 : 0 ≤ x5) (hx5 : x5 + 4 ≤ Ln) (h : Iv K F P T B N Hs Gs I L RR) (hK : K + 620 ≤ 320000) (hP : va_P D vwCl (wLaw k a r o d F P T B N Hs Gs I L RR J X) H) (hD : va_D A (wLaw k a r o d F P T B N Hs Gs I L RR J X)) (hS : va_S A s.heap H locs) (hl : lv_has ls 9 (lvB a r o d b x5)) (hcl : cells + 1 ≤ R.cells ∧ slots + 6 ≤ R.slots) (kk : lwK p l e R s m args below meth c D k A a r o d b x5 K cells slots Q) : W p l e R s m args below meth c H locs cells slots Q (F0 m 640 ls []) := by
  obtain ⟨hx, hb, hml, hown, hts, hK0, hG, hE, hA, hR1, hR2⟩ := id hF
  refine lv_aload_n hx hb dL_law_640 rfl (lv_at hl 4 rfl) ?_
  refine la_arg (xs := xs) (j := 1) (q := 1) hF hX hbl hbA hS (lv_at hl 5 rfl) (lv_at hl 0 rfl) hLn x0 (by decide) (by omega) dL_law_641 dL_law_642 dL_law_644 rfl dL_law_645 dL_law_646 ?_
  refine lv_aload_n hx hb dL_law_647 rfl (lv_at hl 2 rfl) ?_
  obtain ⟨F1, P1, T1, B1, N1, H1, G1, I1, L1, R1, J1, kx, bx, hL, hC, e8, hk, hJ, hZ, hI⟩ := st_repair (D := D) (k := k) (a := a) (r := r) (o := o) (d := d) (J := J) (X := X) hst h hK (p1 := (pJ xs (x5 + 1))) (pJ_r xs _)
  refine la_L (As := [.ref (a 0), .int (iI (pJ xs (x5 + 1))), .ref (o 0)]) (rest := []) (idx := 159) (n := 3) hF hP hD hS hl.1 hL gL_law_L_repair rfl (by decide +kernel) rfl (Nat.le_of_ble_eq_true rfl) (Nat.le_of_ble_eq_true rfl) dL_law_648 hcl (fun H locs hP hD hS => ?_)
  refine lv_istore (lv' := (6, .int (iI kx)) :: lvB a r o d b x5) hx hb dL_law_651 hl (by decide) rfl (fun ls hl => ?_)
  refine lv_aload_n hx hb dL_law_653 rfl (lv_at hl 4 rfl) ?_
  refine la_arg (xs := xs) (j := 1) (q := 1) hF hX hbl hbA hS (lv_at hl 6 rfl) (lv_at hl 1 rfl) hLn x0 (by decide) (by omega) dL_law_654 dL_law_655 dL_law_657 rfl dL_law_658 dL_law_659 ?_
  refine la_V (As := [.int (iI (pJ xs (x5 + 1)))]) (rest := []) (idx := 161) (n := 1) (ci := 10) hF hP hD hS hl.1 hC rfl gL_law_X8_repair rfl (by decide +kernel) rfl (Nat.le_of_ble_eq_true rfl) (Nat.le_of_ble_eq_true rfl) dL_law_660 ⟨hcl.1, hcl.2⟩ (fun H locs hP hD hS => ?_)
  refine lv_istore (lv' := (7, .int (iI bx)) :: (6, .int (iI kx)) :: lvB a r o d b x5) hx hb dL_law_663 hl (by decide) rfl (fun ls hl => ?_)
  have hT : zXc l yX8_thrown wsX8_thrown D k (r 0) 10 [] (wLaw k a r o d F1 P1 T1 B1 N1 H1 G1 I1 L1 R1 J1 X) kx (wLaw k a r o d F1 P1 T1 B1 N1 H1 G1 I1 L1 R1 J1 X) := by
    rw [← e8]
    exact xc_of (c_X8_thrown l D k r R1) (rm_i rfl rfl rfl rfl) sel_r rfl
  exact la_tail (q := 665) (off := 1513) (fJ := J1 0) (kk0 := 195) (kx := kx) (bx := bx) hF hP hD hS hl.1 hT wLaw_J hk hJ (lv_at hl 5 rfl) (lv_at hl 4 rfl) (lv_at hl 1 rfl) (lv_at hl 0 rfl) hcl dL_law_665 dL_law_666 dL_law_669 dL_law_671 dL_law_676 dL_law_678 dL_law_681 dL_law_682 dL_law_683 dL_law_684 dL_law_686 dL_law_687 dL_law_688 dL_law_693 (by decide) (fun H1 locs1 hP hD hS => kk _ _ _ _ _ _ _ _ _ _ _ _ _ _ _ _ _ hI hP hD hS (lv_drop (lv_drop hl)) (Nat.le_refl _) (Nat.le_refl _))
set_option maxHeartbeats 4000000 in
set_option maxRecDepth 100000 in
theorem lc_8 (hF : lwF p s m args c R D k A) (hst : l.stackTraces = false) (hX : va_X b Ln xs s s.heap) (hbl : b < s.heap.size) (hbA : ¬ A b) (hLn : Ln ≤ 2048) (x0 : 0 ≤ x5) (hx5 : x5 + 4 ≤ Ln) (h : Iv K F P T B N Hs Gs I L RR) (hK : K + 620 ≤ 320000) (hP : va_P D vwCl (wLaw k a r o d F P T B N Hs Gs I L RR J X) H) (hD : va_D A (wLaw k a r o d F P T B N Hs Gs I L RR J X)) (hS : va_S A s.heap H locs) (hl : lv_has ls 9 (lvB a r o d b x5)) (hcl : cells + 1 ≤ R.cells ∧ slots + 6 ≤ R.slots) (kk : lwK p l e R s m args below meth c D k A a r o d b x5 K cells slots Q) : W p l e R s m args below meth c H locs cells slots Q (F0 m 696 ls []) := by
  obtain ⟨hx, hb, hml, hown, hts, hK0, hG, hE, hA, hR1, hR2⟩ := id hF
  refine lv_aload_n hx hb dL_law_696 rfl (lv_at hl 4 rfl) ?_
  obtain ⟨F1, P1, T1, B1, N1, H1, G1, I1, L1, R1, v, hL, hC, hI⟩ := st_week (D := D) (k := k) (a := a) (r := r) (o := o) (d := d) (J := J) (X := X) hst h hK  
  refine la_V (As := []) (rest := []) (idx := 162) (n := 0) (ci := 9) hF hP hD hS hl.1 hL rfl gL_law_X7_week rfl (by decide +kernel) rfl (Nat.le_of_ble_eq_true rfl) (Nat.le_of_ble_eq_true rfl) dL_law_697 ⟨by omega, by omega⟩ (fun H locs hP hD hS => ?_)
  refine lv_aload_n hx hb dL_law_700 rfl (lv_at hl 3 rfl) ?_
  refine la_V (As := []) (rest := [.int (iI v)]) (idx := 165) (n := 0) (ci := 10) hF hP hD hS hl.1 hC rfl gL_law_X8_week rfl (by decide +kernel) rfl (Nat.le_of_ble_eq_true rfl) (Nat.le_of_ble_eq_true rfl) dL_law_701 ⟨by omega, by omega⟩ (fun H locs hP hD hS => ?_)
  refine lv_icmp_eq (tgt := 2206) hx hb dL_law_704 (by decide) (fun _ => ?_) (fun w => absurd rfl w)
  exact kk _ _ _ _ _ _ _ _ _ _ _ _ _ _ _ _ _ hI hP hD hS hl (by omega) (by omega)
set_option maxHeartbeats 4000000 in
set_option maxRecDepth 100000 in
theorem lc_9 (hF : lwF p s m args c R D k A) (hst : l.stackTraces = false) (hX : va_X b Ln xs s s.heap) (hbl : b < s.heap.size) (hbA : ¬ A b) (hLn : Ln ≤ 2048) (x0 : 0 ≤ x5) (hx5 : x5 + 4 ≤ Ln) (h : Iv K F P T B N Hs Gs I L RR) (hK : K + 620 ≤ 320000) (hP : va_P D vwCl (wLaw k a r o d F P T B N Hs Gs I L RR J X) H) (hD : va_D A (wLaw k a r o d F P T B N Hs Gs I L RR J X)) (hS : va_S A s.heap H locs) (hl : lv_has ls 9 (lvB a r o d b x5)) (hcl : cells + 1 ≤ R.cells ∧ slots + 6 ≤ R.slots) (kk : lwK p l e R s m args below meth c D k A a r o d b x5 K cells slots Q) : W p l e R s m args below meth c H locs cells slots Q (F0 m 709 ls []) := by
  obtain ⟨hx, hb, hml, hown, hts, hK0, hG, hE, hA, hR1, hR2⟩ := id hF
  refine lv_aload_n hx hb dL_law_709 rfl (lv_at hl 4 rfl) ?_
  refine la_arg (xs := xs) (j := 1) (q := 1) hF hX hbl hbA hS (lv_at hl 5 rfl) (lv_at hl 0 rfl) hLn x0 (by decide) (by omega) dL_law_710 dL_law_711 dL_law_713 rfl dL_law_714 dL_law_715 ?_
  refine la_arg (xs := xs) (j := 2) (q := 2) hF hX hbl hbA hS (lv_at hl 5 rfl) (lv_at hl 0 rfl) hLn x0 (by decide) (by omega) dL_law_716 dL_law_717 dL_law_719 rfl dL_law_720 dL_law_721 ?_
  refine lv_aload_n hx hb dL_law_722 rfl (lv_at hl 2 rfl) ?_
  obtain ⟨F1, P1, T1, B1, N1, H1, G1, I1, L1, R1, J1, kx, bx, hL, hC, e8, hk, hJ, hZ, hI⟩ := st_beltOf (D := D) (k := k) (a := a) (r := r) (o := o) (d := d) (J := J) (X := X) hst h hK (p1 := (pJ xs (x5 + 1))) (p2 := (pJ xs (x5 + 2))) (pJ_r xs _) (pJ_r xs _)
  refine la_L (As := [.ref (a 0), .int (iI (pJ xs (x5 + 1))), .int (iI (pJ xs (x5 + 2))), .ref (o 0)]) (rest := []) (idx := 166) (n := 4) hF hP hD hS hl.1 hL gL_law_L_beltOf rfl (by decide +kernel) rfl (Nat.le_of_ble_eq_true rfl) (Nat.le_of_ble_eq_true rfl) dL_law_723 hcl (fun H locs hP hD hS => ?_)
  refine lv_istore (lv' := (6, .int (iI kx)) :: lvB a r o d b x5) hx hb dL_law_726 hl (by decide) rfl (fun ls hl => ?_)
  refine lv_aload_n hx hb dL_law_728 rfl (lv_at hl 4 rfl) ?_
  refine la_arg (xs := xs) (j := 1) (q := 1) hF hX hbl hbA hS (lv_at hl 6 rfl) (lv_at hl 1 rfl) hLn x0 (by decide) (by omega) dL_law_729 dL_law_730 dL_law_732 rfl dL_law_733 dL_law_734 ?_
  refine la_arg (xs := xs) (j := 2) (q := 2) hF hX hbl hbA hS (lv_at hl 6 rfl) (lv_at hl 1 rfl) hLn x0 (by decide) (by omega) dL_law_735 dL_law_736 dL_law_738 rfl dL_law_739 dL_law_740 ?_
  refine la_V (As := [.int (iI (pJ xs (x5 + 1))), .int (iI (pJ xs (x5 + 2)))]) (rest := []) (idx := 169) (n := 2) (ci := 10) hF hP hD hS hl.1 hC rfl gL_law_X8_beltOf rfl (by decide +kernel) rfl (Nat.le_of_ble_eq_true rfl) (Nat.le_of_ble_eq_true rfl) dL_law_741 ⟨hcl.1, hcl.2⟩ (fun H locs hP hD hS => ?_)
  refine lv_istore (lv' := (7, .int (iI bx)) :: (6, .int (iI kx)) :: lvB a r o d b x5) hx hb dL_law_744 hl (by decide) rfl (fun ls hl => ?_)
  have hT : zXc l yX8_thrown wsX8_thrown D k (r 0) 10 [] (wLaw k a r o d F1 P1 T1 B1 N1 H1 G1 I1 L1 R1 J1 X) kx (wLaw k a r o d F1 P1 T1 B1 N1 H1 G1 I1 L1 R1 J1 X) := by
    rw [← e8]
    exact xc_of (c_X8_thrown l D k r R1) (rm_i rfl rfl rfl rfl) sel_r rfl
  exact la_tail (q := 746) (off := 1432) (fJ := J1 0) (kk0 := 195) (kx := kx) (bx := bx) hF hP hD hS hl.1 hT wLaw_J hk hJ (lv_at hl 5 rfl) (lv_at hl 4 rfl) (lv_at hl 1 rfl) (lv_at hl 0 rfl) hcl dL_law_746 dL_law_747 dL_law_750 dL_law_752 dL_law_757 dL_law_759 dL_law_762 dL_law_763 dL_law_764 dL_law_765 dL_law_767 dL_law_768 dL_law_769 dL_law_774 (by decide) (fun H1 locs1 hP hD hS => kk _ _ _ _ _ _ _ _ _ _ _ _ _ _ _ _ _ hI hP hD hS (lv_drop (lv_drop hl)) (Nat.le_refl _) (Nat.le_refl _))
set_option maxHeartbeats 4000000 in
set_option maxRecDepth 100000 in
theorem lc_10 (hF : lwF p s m args c R D k A) (hst : l.stackTraces = false) (hX : va_X b Ln xs s s.heap) (hbl : b < s.heap.size) (hbA : ¬ A b) (hLn : Ln ≤ 2048) (x0 : 0 ≤ x5) (hx5 : x5 + 4 ≤ Ln) (h : Iv K F P T B N Hs Gs I L RR) (hK : K + 620 ≤ 320000) (hP : va_P D vwCl (wLaw k a r o d F P T B N Hs Gs I L RR J X) H) (hD : va_D A (wLaw k a r o d F P T B N Hs Gs I L RR J X)) (hS : va_S A s.heap H locs) (hl : lv_has ls 9 (lvB a r o d b x5)) (hcl : cells + 1 ≤ R.cells ∧ slots + 6 ≤ R.slots) (kk : lwK p l e R s m args below meth c D k A a r o d b x5 K cells slots Q) : W p l e R s m args below meth c H locs cells slots Q (F0 m 777 ls []) := by
  obtain ⟨hx, hb, hml, hown, hts, hK0, hG, hE, hA, hR1, hR2⟩ := id hF
  refine lv_aload_n hx hb dL_law_777 rfl (lv_at hl 4 rfl) ?_
  refine la_arg (xs := xs) (j := 1) (q := 1) hF hX hbl hbA hS (lv_at hl 5 rfl) (lv_at hl 0 rfl) hLn x0 (by decide) (by omega) dL_law_778 dL_law_779 dL_law_781 rfl dL_law_782 dL_law_783 ?_
  refine la_arg (xs := xs) (j := 2) (q := 2) hF hX hbl hbA hS (lv_at hl 5 rfl) (lv_at hl 0 rfl) hLn x0 (by decide) (by omega) dL_law_784 dL_law_785 dL_law_787 rfl dL_law_788 dL_law_789 ?_
  refine la_arg (xs := xs) (j := 3) (q := 3) hF hX hbl hbA hS (lv_at hl 5 rfl) (lv_at hl 0 rfl) hLn x0 (by decide) (by omega) dL_law_790 dL_law_791 dL_law_793 rfl dL_law_794 dL_law_795 ?_
  refine lv_aload_n hx hb dL_law_796 rfl (lv_at hl 2 rfl) ?_
  obtain ⟨F1, P1, T1, B1, N1, H1, G1, I1, L1, R1, J1, kx, bx, hL, hC, e8, hk, hJ, hZ, hI⟩ := st_carrier (D := D) (k := k) (a := a) (r := r) (o := o) (d := d) (J := J) (X := X) hst h hK (p1 := (pJ xs (x5 + 1))) (p2 := (pJ xs (x5 + 2))) (p3 := (pJ xs (x5 + 3))) (pJ_r xs _) (pJ_r xs _) (pJ_r xs _)
  refine la_L (As := [.ref (a 0), .int (iI (pJ xs (x5 + 1))), .int (iI (pJ xs (x5 + 2))), .int (iI (pJ xs (x5 + 3))), .ref (o 0)]) (rest := []) (idx := 170) (n := 5) hF hP hD hS hl.1 hL gL_law_L_carrier rfl (by decide +kernel) rfl (Nat.le_of_ble_eq_true rfl) (Nat.le_of_ble_eq_true rfl) dL_law_797 hcl (fun H locs hP hD hS => ?_)
  refine lv_istore (lv' := (6, .int (iI kx)) :: lvB a r o d b x5) hx hb dL_law_800 hl (by decide) rfl (fun ls hl => ?_)
  refine lv_aload_n hx hb dL_law_802 rfl (lv_at hl 4 rfl) ?_
  refine la_arg (xs := xs) (j := 1) (q := 1) hF hX hbl hbA hS (lv_at hl 6 rfl) (lv_at hl 1 rfl) hLn x0 (by decide) (by omega) dL_law_803 dL_law_804 dL_law_806 rfl dL_law_807 dL_law_808 ?_
  refine la_arg (xs := xs) (j := 2) (q := 2) hF hX hbl hbA hS (lv_at hl 6 rfl) (lv_at hl 1 rfl) hLn x0 (by decide) (by omega) dL_law_809 dL_law_810 dL_law_812 rfl dL_law_813 dL_law_814 ?_
  refine la_arg (xs := xs) (j := 3) (q := 3) hF hX hbl hbA hS (lv_at hl 6 rfl) (lv_at hl 1 rfl) hLn x0 (by decide) (by omega) dL_law_815 dL_law_816 dL_law_818 rfl dL_law_819 dL_law_820 ?_
  refine la_V (As := [.int (iI (pJ xs (x5 + 1))), .int (iI (pJ xs (x5 + 2))), .int (iI (pJ xs (x5 + 3)))]) (rest := []) (idx := 172) (n := 3) (ci := 10) hF hP hD hS hl.1 hC rfl gL_law_X8_carrier rfl (by decide +kernel) rfl (Nat.le_of_ble_eq_true rfl) (Nat.le_of_ble_eq_true rfl) dL_law_821 ⟨hcl.1, hcl.2⟩ (fun H locs hP hD hS => ?_)
  refine lv_istore (lv' := (7, .int (iI bx)) :: (6, .int (iI kx)) :: lvB a r o d b x5) hx hb dL_law_824 hl (by decide) rfl (fun ls hl => ?_)
  have hT : zXc l yX8_thrown wsX8_thrown D k (r 0) 10 [] (wLaw k a r o d F1 P1 T1 B1 N1 H1 G1 I1 L1 R1 J1 X) kx (wLaw k a r o d F1 P1 T1 B1 N1 H1 G1 I1 L1 R1 J1 X) := by
    rw [← e8]
    exact xc_of (c_X8_thrown l D k r R1) (rm_i rfl rfl rfl rfl) sel_r rfl
  exact la_tail (q := 826) (off := 1352) (fJ := J1 0) (kk0 := 195) (kx := kx) (bx := bx) hF hP hD hS hl.1 hT wLaw_J hk hJ (lv_at hl 5 rfl) (lv_at hl 4 rfl) (lv_at hl 1 rfl) (lv_at hl 0 rfl) hcl dL_law_826 dL_law_827 dL_law_830 dL_law_832 dL_law_837 dL_law_839 dL_law_842 dL_law_843 dL_law_844 dL_law_845 dL_law_847 dL_law_848 dL_law_849 dL_law_854 (by decide) (fun H1 locs1 hP hD hS => kk _ _ _ _ _ _ _ _ _ _ _ _ _ _ _ _ _ hI hP hD hS (lv_drop (lv_drop hl)) (Nat.le_refl _) (Nat.le_refl _))
set_option maxHeartbeats 4000000 in
set_option maxRecDepth 100000 in
theorem lc_11 (hF : lwF p s m args c R D k A) (hst : l.stackTraces = false) (hX : va_X b Ln xs s s.heap) (hbl : b < s.heap.size) (hbA : ¬ A b) (hLn : Ln ≤ 2048) (x0 : 0 ≤ x5) (hx5 : x5 + 4 ≤ Ln) (h : Iv K F P T B N Hs Gs I L RR) (hK : K + 620 ≤ 320000) (hP : va_P D vwCl (wLaw k a r o d F P T B N Hs Gs I L RR J X) H) (hD : va_D A (wLaw k a r o d F P T B N Hs Gs I L RR J X)) (hS : va_S A s.heap H locs) (hl : lv_has ls 9 (lvB a r o d b x5)) (hcl : cells + 1 ≤ R.cells ∧ slots + 6 ≤ R.slots) (kk : lwK p l e R s m args below meth c D k A a r o d b x5 K cells slots Q) : W p l e R s m args below meth c H locs cells slots Q (F0 m 857 ls []) := by
  obtain ⟨hx, hb, hml, hown, hts, hK0, hG, hE, hA, hR1, hR2⟩ := id hF
  refine lv_aload_n hx hb dL_law_857 rfl (lv_at hl 4 rfl) ?_
  refine la_arg (xs := xs) (j := 1) (q := 1) hF hX hbl hbA hS (lv_at hl 5 rfl) (lv_at hl 0 rfl) hLn x0 (by decide) (by omega) dL_law_858 dL_law_859 dL_law_861 rfl dL_law_862 dL_law_863 ?_
  refine lv_aload_n hx hb dL_law_864 rfl (lv_at hl 2 rfl) ?_
  obtain ⟨F1, P1, T1, B1, N1, H1, G1, I1, L1, R1, J1, kx, bx, hL, hC, e8, hk, hJ, hZ, hI⟩ := st_yawns (D := D) (k := k) (a := a) (r := r) (o := o) (d := d) (J := J) (X := X) hst h hK (p1 := (pJ xs (x5 + 1))) (pJ_r xs _)
  refine la_L (As := [.ref (a 0), .int (iI (pJ xs (x5 + 1))), .ref (o 0)]) (rest := []) (idx := 173) (n := 3) hF hP hD hS hl.1 hL gL_law_L_yawns rfl (by decide +kernel) rfl (Nat.le_of_ble_eq_true rfl) (Nat.le_of_ble_eq_true rfl) dL_law_865 hcl (fun H locs hP hD hS => ?_)
  refine lv_istore (lv' := (6, .int (iI kx)) :: lvB a r o d b x5) hx hb dL_law_868 hl (by decide) rfl (fun ls hl => ?_)
  refine lv_aload_n hx hb dL_law_870 rfl (lv_at hl 4 rfl) ?_
  refine la_arg (xs := xs) (j := 1) (q := 1) hF hX hbl hbA hS (lv_at hl 6 rfl) (lv_at hl 1 rfl) hLn x0 (by decide) (by omega) dL_law_871 dL_law_872 dL_law_874 rfl dL_law_875 dL_law_876 ?_
  refine la_V (As := [.int (iI (pJ xs (x5 + 1)))]) (rest := []) (idx := 175) (n := 1) (ci := 10) hF hP hD hS hl.1 hC rfl gL_law_X8_yawns rfl (by decide +kernel) rfl (Nat.le_of_ble_eq_true rfl) (Nat.le_of_ble_eq_true rfl) dL_law_877 ⟨hcl.1, hcl.2⟩ (fun H locs hP hD hS => ?_)
  refine lv_istore (lv' := (7, .int (iI bx)) :: (6, .int (iI kx)) :: lvB a r o d b x5) hx hb dL_law_880 hl (by decide) rfl (fun ls hl => ?_)
  have hT : zXc l yX8_thrown wsX8_thrown D k (r 0) 10 [] (wLaw k a r o d F1 P1 T1 B1 N1 H1 G1 I1 L1 R1 J1 X) kx (wLaw k a r o d F1 P1 T1 B1 N1 H1 G1 I1 L1 R1 J1 X) := by
    rw [← e8]
    exact xc_of (c_X8_thrown l D k r R1) (rm_i rfl rfl rfl rfl) sel_r rfl
  exact la_tail (q := 882) (off := 1296) (fJ := J1 0) (kk0 := 195) (kx := kx) (bx := bx) hF hP hD hS hl.1 hT wLaw_J hk hJ (lv_at hl 5 rfl) (lv_at hl 4 rfl) (lv_at hl 1 rfl) (lv_at hl 0 rfl) hcl dL_law_882 dL_law_883 dL_law_886 dL_law_888 dL_law_893 dL_law_895 dL_law_898 dL_law_899 dL_law_900 dL_law_901 dL_law_903 dL_law_904 dL_law_905 dL_law_910 (by decide) (fun H1 locs1 hP hD hS => kk _ _ _ _ _ _ _ _ _ _ _ _ _ _ _ _ _ hI hP hD hS (lv_drop (lv_drop hl)) (Nat.le_refl _) (Nat.le_refl _))
set_option maxHeartbeats 4000000 in
set_option maxRecDepth 100000 in
theorem lc_12 (hF : lwF p s m args c R D k A) (hst : l.stackTraces = false) (hX : va_X b Ln xs s s.heap) (hbl : b < s.heap.size) (hbA : ¬ A b) (hLn : Ln ≤ 2048) (x0 : 0 ≤ x5) (hx5 : x5 + 4 ≤ Ln) (h : Iv K F P T B N Hs Gs I L RR) (hK : K + 620 ≤ 320000) (hP : va_P D vwCl (wLaw k a r o d F P T B N Hs Gs I L RR J X) H) (hD : va_D A (wLaw k a r o d F P T B N Hs Gs I L RR J X)) (hS : va_S A s.heap H locs) (hl : lv_has ls 9 (lvB a r o d b x5)) (hcl : cells + 1 ≤ R.cells ∧ slots + 6 ≤ R.slots) (kk : lwK p l e R s m args below meth c D k A a r o d b x5 K cells slots Q) : W p l e R s m args below meth c H locs cells slots Q (F0 m 913 ls []) := by
  obtain ⟨hx, hb, hml, hown, hts, hK0, hG, hE, hA, hR1, hR2⟩ := id hF
  refine lv_aload_n hx hb dL_law_913 rfl (lv_at hl 4 rfl) ?_
  refine la_arg (xs := xs) (j := 1) (q := 1) hF hX hbl hbA hS (lv_at hl 5 rfl) (lv_at hl 0 rfl) hLn x0 (by decide) (by omega) dL_law_914 dL_law_915 dL_law_917 rfl dL_law_918 dL_law_919 ?_
  refine la_arg (xs := xs) (j := 2) (q := 2) hF hX hbl hbA hS (lv_at hl 5 rfl) (lv_at hl 0 rfl) hLn x0 (by decide) (by omega) dL_law_920 dL_law_921 dL_law_923 rfl dL_law_924 dL_law_925 ?_
  refine la_arg (xs := xs) (j := 3) (q := 3) hF hX hbl hbA hS (lv_at hl 5 rfl) (lv_at hl 0 rfl) hLn x0 (by decide) (by omega) dL_law_926 dL_law_927 dL_law_929 rfl dL_law_930 dL_law_931 ?_
  refine lv_aload_n hx hb dL_law_932 rfl (lv_at hl 2 rfl) ?_
  obtain ⟨F1, P1, T1, B1, N1, H1, G1, I1, L1, R1, J1, kx, bx, hL, hC, e8, hk, hJ, hZ, hI⟩ := st_passes (D := D) (k := k) (a := a) (r := r) (o := o) (d := d) (J := J) (X := X) hst h hK (p1 := (pJ xs (x5 + 1))) (p2 := (pJ xs (x5 + 2))) (p3 := (pJ xs (x5 + 3))) (pJ_r xs _) (pJ_r xs _) (pJ_r xs _)
  refine la_L (As := [.ref (a 0), .int (iI (pJ xs (x5 + 1))), .int (iI (pJ xs (x5 + 2))), .int (iI (pJ xs (x5 + 3))), .ref (o 0)]) (rest := []) (idx := 176) (n := 5) hF hP hD hS hl.1 hL gL_law_L_passes rfl (by decide +kernel) rfl (Nat.le_of_ble_eq_true rfl) (Nat.le_of_ble_eq_true rfl) dL_law_933 hcl (fun H locs hP hD hS => ?_)
  refine lv_istore (lv' := (6, .int (iI kx)) :: lvB a r o d b x5) hx hb dL_law_936 hl (by decide) rfl (fun ls hl => ?_)
  refine lv_aload_n hx hb dL_law_938 rfl (lv_at hl 4 rfl) ?_
  refine la_arg (xs := xs) (j := 1) (q := 1) hF hX hbl hbA hS (lv_at hl 6 rfl) (lv_at hl 1 rfl) hLn x0 (by decide) (by omega) dL_law_939 dL_law_940 dL_law_942 rfl dL_law_943 dL_law_944 ?_
  refine la_arg (xs := xs) (j := 2) (q := 2) hF hX hbl hbA hS (lv_at hl 6 rfl) (lv_at hl 1 rfl) hLn x0 (by decide) (by omega) dL_law_945 dL_law_946 dL_law_948 rfl dL_law_949 dL_law_950 ?_
  refine la_arg (xs := xs) (j := 3) (q := 3) hF hX hbl hbA hS (lv_at hl 6 rfl) (lv_at hl 1 rfl) hLn x0 (by decide) (by omega) dL_law_951 dL_law_952 dL_law_954 rfl dL_law_955 dL_law_956 ?_
  refine la_V (As := [.int (iI (pJ xs (x5 + 1))), .int (iI (pJ xs (x5 + 2))), .int (iI (pJ xs (x5 + 3)))]) (rest := []) (idx := 178) (n := 3) (ci := 10) hF hP hD hS hl.1 hC rfl gL_law_X8_passes rfl (by decide +kernel) rfl (Nat.le_of_ble_eq_true rfl) (Nat.le_of_ble_eq_true rfl) dL_law_957 ⟨hcl.1, hcl.2⟩ (fun H locs hP hD hS => ?_)
  refine lv_istore (lv' := (7, .int (iI bx)) :: (6, .int (iI kx)) :: lvB a r o d b x5) hx hb dL_law_960 hl (by decide) rfl (fun ls hl => ?_)
  have hT : zXc l yX8_thrown wsX8_thrown D k (r 0) 10 [] (wLaw k a r o d F1 P1 T1 B1 N1 H1 G1 I1 L1 R1 J1 X) kx (wLaw k a r o d F1 P1 T1 B1 N1 H1 G1 I1 L1 R1 J1 X) := by
    rw [← e8]
    exact xc_of (c_X8_thrown l D k r R1) (rm_i rfl rfl rfl rfl) sel_r rfl
  exact la_tailb (q := 962) (off := 1209) (fJ := J1 0) (kk0 := 195) (kx := kx) (bx := bx) hF hP hD hS hl.1 hT wLaw_J hk hZ hJ (lv_at hl 5 rfl) (lv_at hl 4 rfl) (lv_at hl 1 rfl) (lv_at hl 0 rfl) hcl dL_law_962 dL_law_963 dL_law_966 dL_law_968 dL_law_973 dL_law_975 dL_law_978 dL_law_979 dL_law_980 dL_law_981 dL_law_983 dL_law_986 dL_law_987 dL_law_990 dL_law_991 dL_law_992 dL_law_997 (by decide) (fun H1 locs1 hP hD hS => kk _ _ _ _ _ _ _ _ _ _ _ _ _ _ _ _ _ hI hP hD hS (lv_drop (lv_drop hl)) (Nat.le_refl _) (Nat.le_refl _))
set_option maxHeartbeats 4000000 in
set_option maxRecDepth 100000 in
theorem lc_13 (hF : lwF p s m args c R D k A) (hst : l.stackTraces = false) (hX : va_X b Ln xs s s.heap) (hbl : b < s.heap.size) (hbA : ¬ A b) (hLn : Ln ≤ 2048) (x0 : 0 ≤ x5) (hx5 : x5 + 4 ≤ Ln) (h : Iv K F P T B N Hs Gs I L RR) (hK : K + 620 ≤ 320000) (hP : va_P D vwCl (wLaw k a r o d F P T B N Hs Gs I L RR J X) H) (hD : va_D A (wLaw k a r o d F P T B N Hs Gs I L RR J X)) (hS : va_S A s.heap H locs) (hl : lv_has ls 9 (lvB a r o d b x5)) (hcl : cells + 1 ≤ R.cells ∧ slots + 6 ≤ R.slots) (kk : lwK p l e R s m args below meth c D k A a r o d b x5 K cells slots Q) : W p l e R s m args below meth c H locs cells slots Q (F0 m 1000 ls []) := by
  obtain ⟨hx, hb, hml, hown, hts, hK0, hG, hE, hA, hR1, hR2⟩ := id hF
  refine lv_aload_n hx hb dL_law_1000 rfl (lv_at hl 4 rfl) ?_
  refine la_arg (xs := xs) (j := 1) (q := 1) hF hX hbl hbA hS (lv_at hl 5 rfl) (lv_at hl 0 rfl) hLn x0 (by decide) (by omega) dL_law_1001 dL_law_1002 dL_law_1004 rfl dL_law_1005 dL_law_1006 ?_
  refine la_arg (xs := xs) (j := 2) (q := 2) hF hX hbl hbA hS (lv_at hl 5 rfl) (lv_at hl 0 rfl) hLn x0 (by decide) (by omega) dL_law_1007 dL_law_1008 dL_law_1010 rfl dL_law_1011 dL_law_1012 ?_
  refine la_arg (xs := xs) (j := 3) (q := 3) hF hX hbl hbA hS (lv_at hl 5 rfl) (lv_at hl 0 rfl) hLn x0 (by decide) (by omega) dL_law_1013 dL_law_1014 dL_law_1016 rfl dL_law_1017 dL_law_1018 ?_
  refine la_bool (z := pJ xs (x5 + 3)) hF (pJ_r xs _) dL_law_1019 dL_law_1022 dL_law_1023 dL_law_1026 ?_
  refine lv_aload_n hx hb dL_law_1027 rfl (lv_at hl 2 rfl) ?_
  obtain ⟨F1, P1, T1, B1, N1, H1, G1, I1, L1, R1, J1, kx, bx, hL, hC, e8, hk, hJ, hZ, hI⟩ := st_wouldFail (D := D) (k := k) (a := a) (r := r) (o := o) (d := d) (J := J) (X := X) hst h hK (p1 := (pJ xs (x5 + 1))) (p2 := (pJ xs (x5 + 2))) (p3 := (zif ((pJ xs (x5 + 3)) = 0) 0 1)) (pJ_r xs _) (pJ_r xs _) (zif_r _)
  refine la_L (As := [.ref (a 0), .int (iI (pJ xs (x5 + 1))), .int (iI (pJ xs (x5 + 2))), .int (iI (zif ((pJ xs (x5 + 3)) = 0) 0 1)), .ref (o 0)]) (rest := []) (idx := 179) (n := 5) hF hP hD hS hl.1 hL gL_law_L_wouldFail rfl (by decide +kernel) rfl (Nat.le_of_ble_eq_true rfl) (Nat.le_of_ble_eq_true rfl) dL_law_1028 hcl (fun H locs hP hD hS => ?_)
  refine lv_istore (lv' := (6, .int (iI kx)) :: lvB a r o d b x5) hx hb dL_law_1031 hl (by decide) rfl (fun ls hl => ?_)
  refine lv_aload_n hx hb dL_law_1033 rfl (lv_at hl 4 rfl) ?_
  refine la_arg (xs := xs) (j := 1) (q := 1) hF hX hbl hbA hS (lv_at hl 6 rfl) (lv_at hl 1 rfl) hLn x0 (by decide) (by omega) dL_law_1034 dL_law_1035 dL_law_1037 rfl dL_law_1038 dL_law_1039 ?_
  refine la_arg (xs := xs) (j := 2) (q := 2) hF hX hbl hbA hS (lv_at hl 6 rfl) (lv_at hl 1 rfl) hLn x0 (by decide) (by omega) dL_law_1040 dL_law_1041 dL_law_1043 rfl dL_law_1044 dL_law_1045 ?_
  refine la_arg (xs := xs) (j := 3) (q := 3) hF hX hbl hbA hS (lv_at hl 6 rfl) (lv_at hl 1 rfl) hLn x0 (by decide) (by omega) dL_law_1046 dL_law_1047 dL_law_1049 rfl dL_law_1050 dL_law_1051 ?_
  refine la_bool (z := pJ xs (x5 + 3)) hF (pJ_r xs _) dL_law_1052 dL_law_1055 dL_law_1056 dL_law_1059 ?_
  refine la_V (As := [.int (iI (pJ xs (x5 + 1))), .int (iI (pJ xs (x5 + 2))), .int (iI (zif ((pJ xs (x5 + 3)) = 0) 0 1))]) (rest := []) (idx := 182) (n := 3) (ci := 10) hF hP hD hS hl.1 hC rfl gL_law_X8_wouldFail rfl (by decide +kernel) rfl (Nat.le_of_ble_eq_true rfl) (Nat.le_of_ble_eq_true rfl) dL_law_1060 ⟨hcl.1, hcl.2⟩ (fun H locs hP hD hS => ?_)
  refine lv_istore (lv' := (7, .int (iI bx)) :: (6, .int (iI kx)) :: lvB a r o d b x5) hx hb dL_law_1063 hl (by decide) rfl (fun ls hl => ?_)
  have hT : zXc l yX8_thrown wsX8_thrown D k (r 0) 10 [] (wLaw k a r o d F1 P1 T1 B1 N1 H1 G1 I1 L1 R1 J1 X) kx (wLaw k a r o d F1 P1 T1 B1 N1 H1 G1 I1 L1 R1 J1 X) := by
    rw [← e8]
    exact xc_of (c_X8_thrown l D k r R1) (rm_i rfl rfl rfl rfl) sel_r rfl
  exact la_tail (q := 1065) (off := 1113) (fJ := J1 0) (kk0 := 195) (kx := kx) (bx := bx) hF hP hD hS hl.1 hT wLaw_J hk hJ (lv_at hl 5 rfl) (lv_at hl 4 rfl) (lv_at hl 1 rfl) (lv_at hl 0 rfl) hcl dL_law_1065 dL_law_1066 dL_law_1069 dL_law_1071 dL_law_1076 dL_law_1078 dL_law_1081 dL_law_1082 dL_law_1083 dL_law_1084 dL_law_1086 dL_law_1087 dL_law_1088 dL_law_1093 (by decide) (fun H1 locs1 hP hD hS => kk _ _ _ _ _ _ _ _ _ _ _ _ _ _ _ _ _ hI hP hD hS (lv_drop (lv_drop hl)) (Nat.le_refl _) (Nat.le_refl _))
set_option maxHeartbeats 4000000 in
set_option maxRecDepth 100000 in
theorem lc_14 (hF : lwF p s m args c R D k A) (hst : l.stackTraces = false) (hX : va_X b Ln xs s s.heap) (hbl : b < s.heap.size) (hbA : ¬ A b) (hLn : Ln ≤ 2048) (x0 : 0 ≤ x5) (hx5 : x5 + 4 ≤ Ln) (h : Iv K F P T B N Hs Gs I L RR) (hK : K + 620 ≤ 320000) (hP : va_P D vwCl (wLaw k a r o d F P T B N Hs Gs I L RR J X) H) (hD : va_D A (wLaw k a r o d F P T B N Hs Gs I L RR J X)) (hS : va_S A s.heap H locs) (hl : lv_has ls 9 (lvB a r o d b x5)) (hcl : cells + 1 ≤ R.cells ∧ slots + 6 ≤ R.slots) (kk : lwK p l e R s m args below meth c D k A a r o d b x5 K cells slots Q) : W p l e R s m args below meth c H locs cells slots Q (F0 m 1096 ls []) := by
  obtain ⟨hx, hb, hml, hown, hts, hK0, hG, hE, hA, hR1, hR2⟩ := id hF
  refine lv_aload_n hx hb dL_law_1096 rfl (lv_at hl 4 rfl) ?_
  refine la_arg (xs := xs) (j := 1) (q := 1) hF hX hbl hbA hS (lv_at hl 5 rfl) (lv_at hl 0 rfl) hLn x0 (by decide) (by omega) dL_law_1097 dL_law_1098 dL_law_1100 rfl dL_law_1101 dL_law_1102 ?_
  refine lv_aload_n hx hb dL_law_1103 rfl (lv_at hl 2 rfl) ?_
  obtain ⟨F1, P1, T1, B1, N1, H1, G1, I1, L1, R1, J1, kx, bx, hL, hC, e8, hk, hJ, hZ, hI⟩ := st_wouldStamp (D := D) (k := k) (a := a) (r := r) (o := o) (d := d) (J := J) (X := X) hst h hK (p1 := (pJ xs (x5 + 1))) (pJ_r xs _)
  refine la_L (As := [.ref (a 0), .int (iI (pJ xs (x5 + 1))), .ref (o 0)]) (rest := []) (idx := 183) (n := 3) hF hP hD hS hl.1 hL gL_law_L_wouldStamp rfl (by decide +kernel) rfl (Nat.le_of_ble_eq_true rfl) (Nat.le_of_ble_eq_true rfl) dL_law_1104 hcl (fun H locs hP hD hS => ?_)
  refine lv_istore (lv' := (6, .int (iI kx)) :: lvB a r o d b x5) hx hb dL_law_1107 hl (by decide) rfl (fun ls hl => ?_)
  refine lv_aload_n hx hb dL_law_1109 rfl (lv_at hl 4 rfl) ?_
  refine la_arg (xs := xs) (j := 1) (q := 1) hF hX hbl hbA hS (lv_at hl 6 rfl) (lv_at hl 1 rfl) hLn x0 (by decide) (by omega) dL_law_1110 dL_law_1111 dL_law_1113 rfl dL_law_1114 dL_law_1115 ?_
  refine la_V (As := [.int (iI (pJ xs (x5 + 1)))]) (rest := []) (idx := 185) (n := 1) (ci := 10) hF hP hD hS hl.1 hC rfl gL_law_X8_wouldStamp rfl (by decide +kernel) rfl (Nat.le_of_ble_eq_true rfl) (Nat.le_of_ble_eq_true rfl) dL_law_1116 ⟨hcl.1, hcl.2⟩ (fun H locs hP hD hS => ?_)
  refine lv_istore (lv' := (7, .int (iI bx)) :: (6, .int (iI kx)) :: lvB a r o d b x5) hx hb dL_law_1119 hl (by decide) rfl (fun ls hl => ?_)
  have hT : zXc l yX8_thrown wsX8_thrown D k (r 0) 10 [] (wLaw k a r o d F1 P1 T1 B1 N1 H1 G1 I1 L1 R1 J1 X) kx (wLaw k a r o d F1 P1 T1 B1 N1 H1 G1 I1 L1 R1 J1 X) := by
    rw [← e8]
    exact xc_of (c_X8_thrown l D k r R1) (rm_i rfl rfl rfl rfl) sel_r rfl
  exact la_tail (q := 1121) (off := 1057) (fJ := J1 0) (kk0 := 195) (kx := kx) (bx := bx) hF hP hD hS hl.1 hT wLaw_J hk hJ (lv_at hl 5 rfl) (lv_at hl 4 rfl) (lv_at hl 1 rfl) (lv_at hl 0 rfl) hcl dL_law_1121 dL_law_1122 dL_law_1125 dL_law_1127 dL_law_1132 dL_law_1134 dL_law_1137 dL_law_1138 dL_law_1139 dL_law_1140 dL_law_1142 dL_law_1143 dL_law_1144 dL_law_1149 (by decide) (fun H1 locs1 hP hD hS => kk _ _ _ _ _ _ _ _ _ _ _ _ _ _ _ _ _ hI hP hD hS (lv_drop (lv_drop hl)) (Nat.le_refl _) (Nat.le_refl _))
set_option maxHeartbeats 4000000 in
set_option maxRecDepth 100000 in
theorem lc_15 (hF : lwF p s m args c R D k A) (hst : l.stackTraces = false) (hX : va_X b Ln xs s s.heap) (hbl : b < s.heap.size) (hbA : ¬ A b) (hLn : Ln ≤ 2048) (x0 : 0 ≤ x5) (hx5 : x5 + 4 ≤ Ln) (h : Iv K F P T B N Hs Gs I L RR) (hK : K + 620 ≤ 320000) (hP : va_P D vwCl (wLaw k a r o d F P T B N Hs Gs I L RR J X) H) (hD : va_D A (wLaw k a r o d F P T B N Hs Gs I L RR J X)) (hS : va_S A s.heap H locs) (hl : lv_has ls 9 (lvB a r o d b x5)) (hcl : cells + 1 ≤ R.cells ∧ slots + 6 ≤ R.slots) (kk : lwK p l e R s m args below meth c D k A a r o d b x5 K cells slots Q) : W p l e R s m args below meth c H locs cells slots Q (F0 m 1152 ls []) := by
  obtain ⟨hx, hb, hml, hown, hts, hK0, hG, hE, hA, hR1, hR2⟩ := id hF
  refine lv_aload_n hx hb dL_law_1152 rfl (lv_at hl 4 rfl) ?_
  refine lv_aload_n hx hb dL_law_1153 rfl (lv_at hl 2 rfl) ?_
  obtain ⟨F1, P1, T1, B1, N1, H1, G1, I1, L1, R1, J1, kx, bx, hL, hC, e8, hk, hJ, hZ, hI⟩ := st_next (D := D) (k := k) (a := a) (r := r) (o := o) (d := d) (J := J) (X := X) hst h hK  
  refine la_L (As := [.ref (a 0), .ref (o 0)]) (rest := []) (idx := 186) (n := 2) hF hP hD hS hl.1 hL gL_law_L_next rfl (by decide +kernel) rfl (Nat.le_of_ble_eq_true rfl) (Nat.le_of_ble_eq_true rfl) dL_law_1154 hcl (fun H locs hP hD hS => ?_)
  refine lv_istore (lv' := (6, .int (iI kx)) :: lvB a r o d b x5) hx hb dL_law_1157 hl (by decide) rfl (fun ls hl => ?_)
  refine lv_aload_n hx hb dL_law_1159 rfl (lv_at hl 4 rfl) ?_
  refine la_V (As := []) (rest := []) (idx := 188) (n := 0) (ci := 10) hF hP hD hS hl.1 hC rfl gL_law_X8_next rfl (by decide +kernel) rfl (Nat.le_of_ble_eq_true rfl) (Nat.le_of_ble_eq_true rfl) dL_law_1160 ⟨hcl.1, hcl.2⟩ (fun H locs hP hD hS => ?_)
  refine lv_istore (lv' := (7, .int (iI bx)) :: (6, .int (iI kx)) :: lvB a r o d b x5) hx hb dL_law_1163 hl (by decide) rfl (fun ls hl => ?_)
  have hT : zXc l yX8_thrown wsX8_thrown D k (r 0) 10 [] (wLaw k a r o d F1 P1 T1 B1 N1 H1 G1 I1 L1 R1 J1 X) kx (wLaw k a r o d F1 P1 T1 B1 N1 H1 G1 I1 L1 R1 J1 X) := by
    rw [← e8]
    exact xc_of (c_X8_thrown l D k r R1) (rm_i rfl rfl rfl rfl) sel_r rfl
  exact la_tail (q := 1165) (off := 1013) (fJ := J1 0) (kk0 := 195) (kx := kx) (bx := bx) hF hP hD hS hl.1 hT wLaw_J hk hJ (lv_at hl 5 rfl) (lv_at hl 4 rfl) (lv_at hl 1 rfl) (lv_at hl 0 rfl) hcl dL_law_1165 dL_law_1166 dL_law_1169 dL_law_1171 dL_law_1176 dL_law_1178 dL_law_1181 dL_law_1182 dL_law_1183 dL_law_1184 dL_law_1186 dL_law_1187 dL_law_1188 dL_law_1193 (by decide) (fun H1 locs1 hP hD hS => kk _ _ _ _ _ _ _ _ _ _ _ _ _ _ _ _ _ hI hP hD hS (lv_drop (lv_drop hl)) (Nat.le_refl _) (Nat.le_refl _))
set_option maxHeartbeats 4000000 in
set_option maxRecDepth 100000 in
theorem lc_16 (hF : lwF p s m args c R D k A) (hst : l.stackTraces = false) (hX : va_X b Ln xs s s.heap) (hbl : b < s.heap.size) (hbA : ¬ A b) (hLn : Ln ≤ 2048) (x0 : 0 ≤ x5) (hx5 : x5 + 4 ≤ Ln) (h : Iv K F P T B N Hs Gs I L RR) (hK : K + 620 ≤ 320000) (hP : va_P D vwCl (wLaw k a r o d F P T B N Hs Gs I L RR J X) H) (hD : va_D A (wLaw k a r o d F P T B N Hs Gs I L RR J X)) (hS : va_S A s.heap H locs) (hl : lv_has ls 9 (lvB a r o d b x5)) (hcl : cells + 1 ≤ R.cells ∧ slots + 6 ≤ R.slots) (kk : lwK p l e R s m args below meth c D k A a r o d b x5 K cells slots Q) : W p l e R s m args below meth c H locs cells slots Q (F0 m 1196 ls []) := by
  obtain ⟨hx, hb, hml, hown, hts, hK0, hG, hE, hA, hR1, hR2⟩ := id hF
  refine lv_aload_n hx hb dL_law_1196 rfl (lv_at hl 4 rfl) ?_
  refine la_arg (xs := xs) (j := 1) (q := 1) hF hX hbl hbA hS (lv_at hl 5 rfl) (lv_at hl 0 rfl) hLn x0 (by decide) (by omega) dL_law_1197 dL_law_1198 dL_law_1200 rfl dL_law_1201 dL_law_1202 ?_
  refine lv_aload_n hx hb dL_law_1203 rfl (lv_at hl 2 rfl) ?_
  obtain ⟨F1, P1, T1, B1, N1, H1, G1, I1, L1, R1, J1, kx, bx, hL, hC, e8, hk, hJ, hZ, hI⟩ := st_leastGrey (D := D) (k := k) (a := a) (r := r) (o := o) (d := d) (J := J) (X := X) hst h hK (p1 := (pJ xs (x5 + 1))) (pJ_r xs _)
  refine la_L (As := [.ref (a 0), .int (iI (pJ xs (x5 + 1))), .ref (o 0)]) (rest := []) (idx := 189) (n := 3) hF hP hD hS hl.1 hL gL_law_L_leastGrey rfl (by decide +kernel) rfl (Nat.le_of_ble_eq_true rfl) (Nat.le_of_ble_eq_true rfl) dL_law_1204 hcl (fun H locs hP hD hS => ?_)
  refine lv_istore (lv' := (6, .int (iI kx)) :: lvB a r o d b x5) hx hb dL_law_1207 hl (by decide) rfl (fun ls hl => ?_)
  refine lv_aload_n hx hb dL_law_1209 rfl (lv_at hl 4 rfl) ?_
  refine la_arg (xs := xs) (j := 1) (q := 1) hF hX hbl hbA hS (lv_at hl 6 rfl) (lv_at hl 1 rfl) hLn x0 (by decide) (by omega) dL_law_1210 dL_law_1211 dL_law_1213 rfl dL_law_1214 dL_law_1215 ?_
  refine la_V (As := [.int (iI (pJ xs (x5 + 1)))]) (rest := []) (idx := 191) (n := 1) (ci := 10) hF hP hD hS hl.1 hC rfl gL_law_X8_leastGrey rfl (by decide +kernel) rfl (Nat.le_of_ble_eq_true rfl) (Nat.le_of_ble_eq_true rfl) dL_law_1216 ⟨hcl.1, hcl.2⟩ (fun H locs hP hD hS => ?_)
  refine lv_istore (lv' := (7, .int (iI bx)) :: (6, .int (iI kx)) :: lvB a r o d b x5) hx hb dL_law_1219 hl (by decide) rfl (fun ls hl => ?_)
  have hT : zXc l yX8_thrown wsX8_thrown D k (r 0) 10 [] (wLaw k a r o d F1 P1 T1 B1 N1 H1 G1 I1 L1 R1 J1 X) kx (wLaw k a r o d F1 P1 T1 B1 N1 H1 G1 I1 L1 R1 J1 X) := by
    rw [← e8]
    exact xc_of (c_X8_thrown l D k r R1) (rm_i rfl rfl rfl rfl) sel_r rfl
  exact la_tail (q := 1221) (off := 957) (fJ := J1 0) (kk0 := 195) (kx := kx) (bx := bx) hF hP hD hS hl.1 hT wLaw_J hk hJ (lv_at hl 5 rfl) (lv_at hl 4 rfl) (lv_at hl 1 rfl) (lv_at hl 0 rfl) hcl dL_law_1221 dL_law_1222 dL_law_1225 dL_law_1227 dL_law_1232 dL_law_1234 dL_law_1237 dL_law_1238 dL_law_1239 dL_law_1240 dL_law_1242 dL_law_1243 dL_law_1244 dL_law_1249 (by decide) (fun H1 locs1 hP hD hS => kk _ _ _ _ _ _ _ _ _ _ _ _ _ _ _ _ _ hI hP hD hS (lv_drop (lv_drop hl)) (Nat.le_refl _) (Nat.le_refl _))
set_option maxHeartbeats 4000000 in
set_option maxRecDepth 100000 in
theorem lc_17 (hF : lwF p s m args c R D k A) (hst : l.stackTraces = false) (hX : va_X b Ln xs s s.heap) (hbl : b < s.heap.size) (hbA : ¬ A b) (hLn : Ln ≤ 2048) (x0 : 0 ≤ x5) (hx5 : x5 + 4 ≤ Ln) (h : Iv K F P T B N Hs Gs I L RR) (hK : K + 620 ≤ 320000) (hP : va_P D vwCl (wLaw k a r o d F P T B N Hs Gs I L RR J X) H) (hD : va_D A (wLaw k a r o d F P T B N Hs Gs I L RR J X)) (hS : va_S A s.heap H locs) (hl : lv_has ls 9 (lvB a r o d b x5)) (hcl : cells + 1 ≤ R.cells ∧ slots + 6 ≤ R.slots) (kk : lwK p l e R s m args below meth c D k A a r o d b x5 K cells slots Q) : W p l e R s m args below meth c H locs cells slots Q (F0 m 1252 ls []) := by
  obtain ⟨hx, hb, hml, hown, hts, hK0, hG, hE, hA, hR1, hR2⟩ := id hF
  refine lv_aload_n hx hb dL_law_1252 rfl (lv_at hl 4 rfl) ?_
  refine la_arg (xs := xs) (j := 1) (q := 1) hF hX hbl hbA hS (lv_at hl 5 rfl) (lv_at hl 0 rfl) hLn x0 (by decide) (by omega) dL_law_1253 dL_law_1254 dL_law_1256 rfl dL_law_1257 dL_law_1258 ?_
  refine la_arg (xs := xs) (j := 2) (q := 2) hF hX hbl hbA hS (lv_at hl 5 rfl) (lv_at hl 0 rfl) hLn x0 (by decide) (by omega) dL_law_1259 dL_law_1260 dL_law_1262 rfl dL_law_1263 dL_law_1264 ?_
  refine lv_aload_n hx hb dL_law_1265 rfl (lv_at hl 2 rfl) ?_
  obtain ⟨F1, P1, T1, B1, N1, H1, G1, I1, L1, R1, J1, kx, bx, hL, hC, e8, hk, hJ, hZ, hI⟩ := st_rejectOf (D := D) (k := k) (a := a) (r := r) (o := o) (d := d) (J := J) (X := X) hst h hK (p1 := (pJ xs (x5 + 1))) (p2 := (pJ xs (x5 + 2))) (pJ_r xs _) (pJ_r xs _)
  refine la_L (As := [.ref (a 0), .int (iI (pJ xs (x5 + 1))), .int (iI (pJ xs (x5 + 2))), .ref (o 0)]) (rest := []) (idx := 192) (n := 4) hF hP hD hS hl.1 hL gL_law_L_rejectOf rfl (by decide +kernel) rfl (Nat.le_of_ble_eq_true rfl) (Nat.le_of_ble_eq_true rfl) dL_law_1266 hcl (fun H locs hP hD hS => ?_)
  refine lv_istore (lv' := (6, .int (iI kx)) :: lvB a r o d b x5) hx hb dL_law_1269 hl (by decide) rfl (fun ls hl => ?_)
  refine lv_aload_n hx hb dL_law_1271 rfl (lv_at hl 4 rfl) ?_
  refine la_arg (xs := xs) (j := 1) (q := 1) hF hX hbl hbA hS (lv_at hl 6 rfl) (lv_at hl 1 rfl) hLn x0 (by decide) (by omega) dL_law_1272 dL_law_1273 dL_law_1275 rfl dL_law_1276 dL_law_1277 ?_
  refine la_arg (xs := xs) (j := 2) (q := 2) hF hX hbl hbA hS (lv_at hl 6 rfl) (lv_at hl 1 rfl) hLn x0 (by decide) (by omega) dL_law_1278 dL_law_1279 dL_law_1281 rfl dL_law_1282 dL_law_1283 ?_
  refine la_V (As := [.int (iI (pJ xs (x5 + 1))), .int (iI (pJ xs (x5 + 2)))]) (rest := []) (idx := 194) (n := 2) (ci := 10) hF hP hD hS hl.1 hC rfl gL_law_X8_rejectOf rfl (by decide +kernel) rfl (Nat.le_of_ble_eq_true rfl) (Nat.le_of_ble_eq_true rfl) dL_law_1284 ⟨hcl.1, hcl.2⟩ (fun H locs hP hD hS => ?_)
  refine lv_istore (lv' := (7, .int (iI bx)) :: (6, .int (iI kx)) :: lvB a r o d b x5) hx hb dL_law_1287 hl (by decide) rfl (fun ls hl => ?_)
  have hT : zXc l yX8_thrown wsX8_thrown D k (r 0) 10 [] (wLaw k a r o d F1 P1 T1 B1 N1 H1 G1 I1 L1 R1 J1 X) kx (wLaw k a r o d F1 P1 T1 B1 N1 H1 G1 I1 L1 R1 J1 X) := by
    rw [← e8]
    exact xc_of (c_X8_thrown l D k r R1) (rm_i rfl rfl rfl rfl) sel_r rfl
  exact la_tail (q := 1289) (off := 889) (fJ := J1 0) (kk0 := 195) (kx := kx) (bx := bx) hF hP hD hS hl.1 hT wLaw_J hk hJ (lv_at hl 5 rfl) (lv_at hl 4 rfl) (lv_at hl 1 rfl) (lv_at hl 0 rfl) hcl dL_law_1289 dL_law_1290 dL_law_1293 dL_law_1295 dL_law_1300 dL_law_1302 dL_law_1305 dL_law_1306 dL_law_1307 dL_law_1308 dL_law_1310 dL_law_1311 dL_law_1312 dL_law_1317 (by decide) (fun H1 locs1 hP hD hS => kk _ _ _ _ _ _ _ _ _ _ _ _ _ _ _ _ _ hI hP hD hS (lv_drop (lv_drop hl)) (Nat.le_refl _) (Nat.le_refl _))
set_option maxHeartbeats 4000000 in
set_option maxRecDepth 100000 in
theorem lc_18 (hF : lwF p s m args c R D k A) (hst : l.stackTraces = false) (hX : va_X b Ln xs s s.heap) (hbl : b < s.heap.size) (hbA : ¬ A b) (hLn : Ln ≤ 2048) (x0 : 0 ≤ x5) (hx5 : x5 + 4 ≤ Ln) (h : Iv K F P T B N Hs Gs I L RR) (hK : K + 620 ≤ 320000) (hP : va_P D vwCl (wLaw k a r o d F P T B N Hs Gs I L RR J X) H) (hD : va_D A (wLaw k a r o d F P T B N Hs Gs I L RR J X)) (hS : va_S A s.heap H locs) (hl : lv_has ls 9 (lvB a r o d b x5)) (hcl : cells + 1 ≤ R.cells ∧ slots + 6 ≤ R.slots) (kk : lwK p l e R s m args below meth c D k A a r o d b x5 K cells slots Q) : W p l e R s m args below meth c H locs cells slots Q (F0 m 1320 ls []) := by
  obtain ⟨hx, hb, hml, hown, hts, hK0, hG, hE, hA, hR1, hR2⟩ := id hF
  refine lv_aload_n hx hb dL_law_1320 rfl (lv_at hl 4 rfl) ?_
  refine lv_aload_n hx hb dL_law_1321 rfl (lv_at hl 2 rfl) ?_
  obtain ⟨F1, P1, T1, B1, N1, H1, G1, I1, L1, R1, J1, kx, bx, hL, hC, e8, hk, hJ, hZ, hI⟩ := st_best (D := D) (k := k) (a := a) (r := r) (o := o) (d := d) (J := J) (X := X) hst h hK  
  refine la_L (As := [.ref (a 0), .ref (o 0)]) (rest := []) (idx := 195) (n := 2) hF hP hD hS hl.1 hL gL_law_L_best rfl (by decide +kernel) rfl (Nat.le_of_ble_eq_true rfl) (Nat.le_of_ble_eq_true rfl) dL_law_1322 hcl (fun H locs hP hD hS => ?_)
  refine lv_istore (lv' := (6, .int (iI kx)) :: lvB a r o d b x5) hx hb dL_law_1325 hl (by decide) rfl (fun ls hl => ?_)
  refine lv_aload_n hx hb dL_law_1327 rfl (lv_at hl 4 rfl) ?_
  refine la_V (As := []) (rest := []) (idx := 197) (n := 0) (ci := 10) hF hP hD hS hl.1 hC rfl gL_law_X8_best rfl (by decide +kernel) rfl (Nat.le_of_ble_eq_true rfl) (Nat.le_of_ble_eq_true rfl) dL_law_1328 ⟨hcl.1, hcl.2⟩ (fun H locs hP hD hS => ?_)
  refine lv_istore (lv' := (7, .int (iI bx)) :: (6, .int (iI kx)) :: lvB a r o d b x5) hx hb dL_law_1331 hl (by decide) rfl (fun ls hl => ?_)
  have hT : zXc l yX8_thrown wsX8_thrown D k (r 0) 10 [] (wLaw k a r o d F1 P1 T1 B1 N1 H1 G1 I1 L1 R1 J1 X) kx (wLaw k a r o d F1 P1 T1 B1 N1 H1 G1 I1 L1 R1 J1 X) := by
    rw [← e8]
    exact xc_of (c_X8_thrown l D k r R1) (rm_i rfl rfl rfl rfl) sel_r rfl
  exact la_tail (q := 1333) (off := 845) (fJ := J1 0) (kk0 := 195) (kx := kx) (bx := bx) hF hP hD hS hl.1 hT wLaw_J hk hJ (lv_at hl 5 rfl) (lv_at hl 4 rfl) (lv_at hl 1 rfl) (lv_at hl 0 rfl) hcl dL_law_1333 dL_law_1334 dL_law_1337 dL_law_1339 dL_law_1344 dL_law_1346 dL_law_1349 dL_law_1350 dL_law_1351 dL_law_1352 dL_law_1354 dL_law_1355 dL_law_1356 dL_law_1361 (by decide) (fun H1 locs1 hP hD hS => kk _ _ _ _ _ _ _ _ _ _ _ _ _ _ _ _ _ hI hP hD hS (lv_drop (lv_drop hl)) (Nat.le_refl _) (Nat.le_refl _))
set_option maxHeartbeats 4000000 in
set_option maxRecDepth 100000 in
theorem lc_19 (hF : lwF p s m args c R D k A) (hst : l.stackTraces = false) (hX : va_X b Ln xs s s.heap) (hbl : b < s.heap.size) (hbA : ¬ A b) (hLn : Ln ≤ 2048) (x0 : 0 ≤ x5) (hx5 : x5 + 4 ≤ Ln) (h : Iv K F P T B N Hs Gs I L RR) (hK : K + 620 ≤ 320000) (hP : va_P D vwCl (wLaw k a r o d F P T B N Hs Gs I L RR J X) H) (hD : va_D A (wLaw k a r o d F P T B N Hs Gs I L RR J X)) (hS : va_S A s.heap H locs) (hl : lv_has ls 9 (lvB a r o d b x5)) (hcl : cells + 1 ≤ R.cells ∧ slots + 6 ≤ R.slots) (kk : lwK p l e R s m args below meth c D k A a r o d b x5 K cells slots Q) : W p l e R s m args below meth c H locs cells slots Q (F0 m 1364 ls []) := by
  obtain ⟨hx, hb, hml, hown, hts, hK0, hG, hE, hA, hR1, hR2⟩ := id hF
  refine lv_aload_n hx hb dL_law_1364 rfl (lv_at hl 4 rfl) ?_
  refine la_arg (xs := xs) (j := 1) (q := 1) hF hX hbl hbA hS (lv_at hl 5 rfl) (lv_at hl 0 rfl) hLn x0 (by decide) (by omega) dL_law_1365 dL_law_1366 dL_law_1368 rfl dL_law_1369 dL_law_1370 ?_
  refine la_bool (z := pJ xs (x5 + 1)) hF (pJ_r xs _) dL_law_1371 dL_law_1374 dL_law_1375 dL_law_1378 ?_
  obtain ⟨F1, P1, T1, B1, N1, H1, G1, I1, L1, R1, v, hL, hC, hI⟩ := st_allPrices (D := D) (k := k) (a := a) (r := r) (o := o) (d := d) (J := J) (X := X) hst h hK (p1 := (zif ((pJ xs (x5 + 1)) = 0) 0 1)) (zif_r _)
  refine la_V (As := [.int (iI (zif ((pJ xs (x5 + 1)) = 0) 0 1))]) (rest := []) (idx := 198) (n := 1) (ci := 9) hF hP hD hS hl.1 hL rfl gL_law_X7_allPrices rfl (by decide +kernel) rfl (Nat.le_of_ble_eq_true rfl) (Nat.le_of_ble_eq_true rfl) dL_law_1379 ⟨by omega, by omega⟩ (fun H locs hP hD hS => ?_)
  refine lv_aload_n hx hb dL_law_1382 rfl (lv_at hl 3 rfl) ?_
  refine la_arg (xs := xs) (j := 1) (q := 1) hF hX hbl hbA hS (lv_at hl 5 rfl) (lv_at hl 0 rfl) hLn x0 (by decide) (by omega) dL_law_1383 dL_law_1384 dL_law_1386 rfl dL_law_1387 dL_law_1388 ?_
  refine la_bool (z := pJ xs (x5 + 1)) hF (pJ_r xs _) dL_law_1389 dL_law_1392 dL_law_1393 dL_law_1396 ?_
  refine la_V (As := [.int (iI (zif ((pJ xs (x5 + 1)) = 0) 0 1))]) (rest := [.int (iI v)]) (idx := 201) (n := 1) (ci := 10) hF hP hD hS hl.1 hC rfl gL_law_X8_allPrices rfl (by decide +kernel) rfl (Nat.le_of_ble_eq_true rfl) (Nat.le_of_ble_eq_true rfl) dL_law_1397 ⟨by omega, by omega⟩ (fun H locs hP hD hS => ?_)
  refine lv_icmp_eq (tgt := 2206) hx hb dL_law_1400 (by decide) (fun _ => ?_) (fun w => absurd rfl w)
  exact kk _ _ _ _ _ _ _ _ _ _ _ _ _ _ _ _ _ hI hP hD hS hl (by omega) (by omega)
set_option maxHeartbeats 4000000 in
set_option maxRecDepth 100000 in
theorem lc_20 (hF : lwF p s m args c R D k A) (hst : l.stackTraces = false) (hX : va_X b Ln xs s s.heap) (hbl : b < s.heap.size) (hbA : ¬ A b) (hLn : Ln ≤ 2048) (x0 : 0 ≤ x5) (hx5 : x5 + 4 ≤ Ln) (h : Iv K F P T B N Hs Gs I L RR) (hK : K + 620 ≤ 320000) (hP : va_P D vwCl (wLaw k a r o d F P T B N Hs Gs I L RR J X) H) (hD : va_D A (wLaw k a r o d F P T B N Hs Gs I L RR J X)) (hS : va_S A s.heap H locs) (hl : lv_has ls 9 (lvB a r o d b x5)) (hcl : cells + 1 ≤ R.cells ∧ slots + 6 ≤ R.slots) (kk : lwK p l e R s m args below meth c D k A a r o d b x5 K cells slots Q) : W p l e R s m args below meth c H locs cells slots Q (F0 m 1405 ls []) := by
  obtain ⟨hx, hb, hml, hown, hts, hK0, hG, hE, hA, hR1, hR2⟩ := id hF
  refine lv_aload_n hx hb dL_law_1405 rfl (lv_at hl 4 rfl) ?_
  obtain ⟨F1, P1, T1, B1, N1, H1, G1, I1, L1, R1, v, hL, hC, hI⟩ := st_bestOrder (D := D) (k := k) (a := a) (r := r) (o := o) (d := d) (J := J) (X := X) hst h hK  
  refine la_V (As := []) (rest := []) (idx := 202) (n := 0) (ci := 9) hF hP hD hS hl.1 hL rfl gL_law_X7_bestOrder rfl (by decide +kernel) rfl (Nat.le_of_ble_eq_true rfl) (Nat.le_of_ble_eq_true rfl) dL_law_1406 ⟨by omega, by omega⟩ (fun H locs hP hD hS => ?_)
  refine lv_aload_n hx hb dL_law_1409 rfl (lv_at hl 3 rfl) ?_
  refine la_V (As := []) (rest := [.int (iI v)]) (idx := 205) (n := 0) (ci := 10) hF hP hD hS hl.1 hC rfl gL_law_X8_bestOrder rfl (by decide +kernel) rfl (Nat.le_of_ble_eq_true rfl) (Nat.le_of_ble_eq_true rfl) dL_law_1410 ⟨by omega, by omega⟩ (fun H locs hP hD hS => ?_)
  refine lv_icmp_eq (tgt := 2206) hx hb dL_law_1413 (by decide) (fun _ => ?_) (fun w => absurd rfl w)
  exact kk _ _ _ _ _ _ _ _ _ _ _ _ _ _ _ _ _ hI hP hD hS hl (by omega) (by omega)
set_option maxHeartbeats 4000000 in
set_option maxRecDepth 100000 in
theorem lc_21 (hF : lwF p s m args c R D k A) (hst : l.stackTraces = false) (hX : va_X b Ln xs s s.heap) (hbl : b < s.heap.size) (hbA : ¬ A b) (hLn : Ln ≤ 2048) (x0 : 0 ≤ x5) (hx5 : x5 + 4 ≤ Ln) (h : Iv K F P T B N Hs Gs I L RR) (hK : K + 620 ≤ 320000) (hP : va_P D vwCl (wLaw k a r o d F P T B N Hs Gs I L RR J X) H) (hD : va_D A (wLaw k a r o d F P T B N Hs Gs I L RR J X)) (hS : va_S A s.heap H locs) (hl : lv_has ls 9 (lvB a r o d b x5)) (hcl : cells + 1 ≤ R.cells ∧ slots + 6 ≤ R.slots) (kk : lwK p l e R s m args below meth c D k A a r o d b x5 K cells slots Q) : W p l e R s m args below meth c H locs cells slots Q (F0 m 1418 ls []) := by
  obtain ⟨hx, hb, hml, hown, hts, hK0, hG, hE, hA, hR1, hR2⟩ := id hF
  refine lv_aload_n hx hb dL_law_1418 rfl (lv_at hl 4 rfl) ?_
  refine la_arg (xs := xs) (j := 1) (q := 1) hF hX hbl hbA hS (lv_at hl 5 rfl) (lv_at hl 0 rfl) hLn x0 (by decide) (by omega) dL_law_1419 dL_law_1420 dL_law_1422 rfl dL_law_1423 dL_law_1424 ?_
  refine lv_aload_n hx hb dL_law_1425 rfl (lv_at hl 2 rfl) ?_
  obtain ⟨F1, P1, T1, B1, N1, H1, G1, I1, L1, R1, J1, kx, bx, hL, hC, e8, hk, hJ, hZ, hI⟩ := st_wouldMend (D := D) (k := k) (a := a) (r := r) (o := o) (d := d) (J := J) (X := X) hst h hK (p1 := (pJ xs (x5 + 1))) (pJ_r xs _)
  refine la_L (As := [.ref (a 0), .int (iI (pJ xs (x5 + 1))), .ref (o 0)]) (rest := []) (idx := 206) (n := 3) hF hP hD hS hl.1 hL gL_law_L_wouldMend rfl (by decide +kernel) rfl (Nat.le_of_ble_eq_true rfl) (Nat.le_of_ble_eq_true rfl) dL_law_1426 hcl (fun H locs hP hD hS => ?_)
  refine lv_istore (lv' := (6, .int (iI kx)) :: lvB a r o d b x5) hx hb dL_law_1429 hl (by decide) rfl (fun ls hl => ?_)
  refine lv_aload_n hx hb dL_law_1431 rfl (lv_at hl 4 rfl) ?_
  refine la_arg (xs := xs) (j := 1) (q := 1) hF hX hbl hbA hS (lv_at hl 6 rfl) (lv_at hl 1 rfl) hLn x0 (by decide) (by omega) dL_law_1432 dL_law_1433 dL_law_1435 rfl dL_law_1436 dL_law_1437 ?_
  refine la_V (As := [.int (iI (pJ xs (x5 + 1)))]) (rest := []) (idx := 208) (n := 1) (ci := 10) hF hP hD hS hl.1 hC rfl gL_law_X8_wouldMend rfl (by decide +kernel) rfl (Nat.le_of_ble_eq_true rfl) (Nat.le_of_ble_eq_true rfl) dL_law_1438 ⟨hcl.1, hcl.2⟩ (fun H locs hP hD hS => ?_)
  refine lv_istore (lv' := (7, .int (iI bx)) :: (6, .int (iI kx)) :: lvB a r o d b x5) hx hb dL_law_1441 hl (by decide) rfl (fun ls hl => ?_)
  have hT : zXc l yX8_thrown wsX8_thrown D k (r 0) 10 [] (wLaw k a r o d F1 P1 T1 B1 N1 H1 G1 I1 L1 R1 J1 X) kx (wLaw k a r o d F1 P1 T1 B1 N1 H1 G1 I1 L1 R1 J1 X) := by
    rw [← e8]
    exact xc_of (c_X8_thrown l D k r R1) (rm_i rfl rfl rfl rfl) sel_r rfl
  exact la_tailb (q := 1443) (off := 728) (fJ := J1 0) (kk0 := 195) (kx := kx) (bx := bx) hF hP hD hS hl.1 hT wLaw_J hk hZ hJ (lv_at hl 5 rfl) (lv_at hl 4 rfl) (lv_at hl 1 rfl) (lv_at hl 0 rfl) hcl dL_law_1443 dL_law_1444 dL_law_1447 dL_law_1449 dL_law_1454 dL_law_1456 dL_law_1459 dL_law_1460 dL_law_1461 dL_law_1462 dL_law_1464 dL_law_1467 dL_law_1468 dL_law_1471 dL_law_1472 dL_law_1473 dL_law_1478 (by decide) (fun H1 locs1 hP hD hS => kk _ _ _ _ _ _ _ _ _ _ _ _ _ _ _ _ _ hI hP hD hS (lv_drop (lv_drop hl)) (Nat.le_refl _) (Nat.le_refl _))
set_option maxHeartbeats 4000000 in
set_option maxRecDepth 100000 in
theorem lc_22 (hF : lwF p s m args c R D k A) (hst : l.stackTraces = false) (hX : va_X b Ln xs s s.heap) (hbl : b < s.heap.size) (hbA : ¬ A b) (hLn : Ln ≤ 2048) (x0 : 0 ≤ x5) (hx5 : x5 + 4 ≤ Ln) (h : Iv K F P T B N Hs Gs I L RR) (hK : K + 620 ≤ 320000) (hP : va_P D vwCl (wLaw k a r o d F P T B N Hs Gs I L RR J X) H) (hD : va_D A (wLaw k a r o d F P T B N Hs Gs I L RR J X)) (hS : va_S A s.heap H locs) (hl : lv_has ls 9 (lvB a r o d b x5)) (hcl : cells + 1 ≤ R.cells ∧ slots + 6 ≤ R.slots) (kk : lwK p l e R s m args below meth c D k A a r o d b x5 K cells slots Q) : W p l e R s m args below meth c H locs cells slots Q (F0 m 1481 ls []) := by
  obtain ⟨hx, hb, hml, hown, hts, hK0, hG, hE, hA, hR1, hR2⟩ := id hF
  refine lv_aload_n hx hb dL_law_1481 rfl (lv_at hl 4 rfl) ?_
  refine la_arg (xs := xs) (j := 1) (q := 1) hF hX hbl hbA hS (lv_at hl 5 rfl) (lv_at hl 0 rfl) hLn x0 (by decide) (by omega) dL_law_1482 dL_law_1483 dL_law_1485 rfl dL_law_1486 dL_law_1487 ?_
  refine lv_aload_n hx hb dL_law_1488 rfl (lv_at hl 2 rfl) ?_
  obtain ⟨F1, P1, T1, B1, N1, H1, G1, I1, L1, R1, J1, kx, bx, hL, hC, e8, hk, hJ, hZ, hI⟩ := st_fresh (D := D) (k := k) (a := a) (r := r) (o := o) (d := d) (J := J) (X := X) hst h hK (p1 := (pJ xs (x5 + 1))) (pJ_r xs _)
  refine la_L (As := [.ref (a 0), .int (iI (pJ xs (x5 + 1))), .ref (o 0)]) (rest := []) (idx := 209) (n := 3) hF hP hD hS hl.1 hL gL_law_L_fresh rfl (by decide +kernel) rfl (Nat.le_of_ble_eq_true rfl) (Nat.le_of_ble_eq_true rfl) dL_law_1489 hcl (fun H locs hP hD hS => ?_)
  refine lv_istore (lv' := (6, .int (iI kx)) :: lvB a r o d b x5) hx hb dL_law_1492 hl (by decide) rfl (fun ls hl => ?_)
  refine lv_aload_n hx hb dL_law_1494 rfl (lv_at hl 4 rfl) ?_
  refine la_arg (xs := xs) (j := 1) (q := 1) hF hX hbl hbA hS (lv_at hl 6 rfl) (lv_at hl 1 rfl) hLn x0 (by decide) (by omega) dL_law_1495 dL_law_1496 dL_law_1498 rfl dL_law_1499 dL_law_1500 ?_
  refine la_V (As := [.int (iI (pJ xs (x5 + 1)))]) (rest := []) (idx := 211) (n := 1) (ci := 10) hF hP hD hS hl.1 hC rfl gL_law_X8_fresh rfl (by decide +kernel) rfl (Nat.le_of_ble_eq_true rfl) (Nat.le_of_ble_eq_true rfl) dL_law_1501 ⟨hcl.1, hcl.2⟩ (fun H locs hP hD hS => ?_)
  refine lv_istore (lv' := (7, .int (iI bx)) :: (6, .int (iI kx)) :: lvB a r o d b x5) hx hb dL_law_1504 hl (by decide) rfl (fun ls hl => ?_)
  have hT : zXc l yX8_thrown wsX8_thrown D k (r 0) 10 [] (wLaw k a r o d F1 P1 T1 B1 N1 H1 G1 I1 L1 R1 J1 X) kx (wLaw k a r o d F1 P1 T1 B1 N1 H1 G1 I1 L1 R1 J1 X) := by
    rw [← e8]
    exact xc_of (c_X8_thrown l D k r R1) (rm_i rfl rfl rfl rfl) sel_r rfl
  exact la_tail (q := 1506) (off := 672) (fJ := J1 0) (kk0 := 195) (kx := kx) (bx := bx) hF hP hD hS hl.1 hT wLaw_J hk hJ (lv_at hl 5 rfl) (lv_at hl 4 rfl) (lv_at hl 1 rfl) (lv_at hl 0 rfl) hcl dL_law_1506 dL_law_1507 dL_law_1510 dL_law_1512 dL_law_1517 dL_law_1519 dL_law_1522 dL_law_1523 dL_law_1524 dL_law_1525 dL_law_1527 dL_law_1528 dL_law_1529 dL_law_1534 (by decide) (fun H1 locs1 hP hD hS => kk _ _ _ _ _ _ _ _ _ _ _ _ _ _ _ _ _ hI hP hD hS (lv_drop (lv_drop hl)) (Nat.le_refl _) (Nat.le_refl _))
set_option maxHeartbeats 4000000 in
set_option maxRecDepth 100000 in
theorem lc_23 (hF : lwF p s m args c R D k A) (hst : l.stackTraces = false) (hX : va_X b Ln xs s s.heap) (hbl : b < s.heap.size) (hbA : ¬ A b) (hLn : Ln ≤ 2048) (x0 : 0 ≤ x5) (hx5 : x5 + 4 ≤ Ln) (h : Iv K F P T B N Hs Gs I L RR) (hK : K + 620 ≤ 320000) (hP : va_P D vwCl (wLaw k a r o d F P T B N Hs Gs I L RR J X) H) (hD : va_D A (wLaw k a r o d F P T B N Hs Gs I L RR J X)) (hS : va_S A s.heap H locs) (hl : lv_has ls 9 (lvB a r o d b x5)) (hcl : cells + 1 ≤ R.cells ∧ slots + 6 ≤ R.slots) (kk : lwK p l e R s m args below meth c D k A a r o d b x5 K cells slots Q) : W p l e R s m args below meth c H locs cells slots Q (F0 m 1537 ls []) := by
  obtain ⟨hx, hb, hml, hown, hts, hK0, hG, hE, hA, hR1, hR2⟩ := id hF
  refine lv_aload_n hx hb dL_law_1537 rfl (lv_at hl 4 rfl) ?_
  refine la_arg (xs := xs) (j := 1) (q := 1) hF hX hbl hbA hS (lv_at hl 5 rfl) (lv_at hl 0 rfl) hLn x0 (by decide) (by omega) dL_law_1538 dL_law_1539 dL_law_1541 rfl dL_law_1542 dL_law_1543 ?_
  refine lv_aload_n hx hb dL_law_1544 rfl (lv_at hl 2 rfl) ?_
  obtain ⟨F1, P1, T1, B1, N1, H1, G1, I1, L1, R1, J1, kx, bx, hL, hC, e8, hk, hJ, hZ, hI⟩ := st_greyest (D := D) (k := k) (a := a) (r := r) (o := o) (d := d) (J := J) (X := X) hst h hK (p1 := (pJ xs (x5 + 1))) (pJ_r xs _)
  refine la_L (As := [.ref (a 0), .int (iI (pJ xs (x5 + 1))), .ref (o 0)]) (rest := []) (idx := 212) (n := 3) hF hP hD hS hl.1 hL gL_law_L_greyest rfl (by decide +kernel) rfl (Nat.le_of_ble_eq_true rfl) (Nat.le_of_ble_eq_true rfl) dL_law_1545 hcl (fun H locs hP hD hS => ?_)
  refine lv_istore (lv' := (6, .int (iI kx)) :: lvB a r o d b x5) hx hb dL_law_1548 hl (by decide) rfl (fun ls hl => ?_)
  refine lv_aload_n hx hb dL_law_1550 rfl (lv_at hl 4 rfl) ?_
  refine la_arg (xs := xs) (j := 1) (q := 1) hF hX hbl hbA hS (lv_at hl 6 rfl) (lv_at hl 1 rfl) hLn x0 (by decide) (by omega) dL_law_1551 dL_law_1552 dL_law_1554 rfl dL_law_1555 dL_law_1556 ?_
  refine la_V (As := [.int (iI (pJ xs (x5 + 1)))]) (rest := []) (idx := 214) (n := 1) (ci := 10) hF hP hD hS hl.1 hC rfl gL_law_X8_greyest rfl (by decide +kernel) rfl (Nat.le_of_ble_eq_true rfl) (Nat.le_of_ble_eq_true rfl) dL_law_1557 ⟨hcl.1, hcl.2⟩ (fun H locs hP hD hS => ?_)
  refine lv_istore (lv' := (7, .int (iI bx)) :: (6, .int (iI kx)) :: lvB a r o d b x5) hx hb dL_law_1560 hl (by decide) rfl (fun ls hl => ?_)
  have hT : zXc l yX8_thrown wsX8_thrown D k (r 0) 10 [] (wLaw k a r o d F1 P1 T1 B1 N1 H1 G1 I1 L1 R1 J1 X) kx (wLaw k a r o d F1 P1 T1 B1 N1 H1 G1 I1 L1 R1 J1 X) := by
    rw [← e8]
    exact xc_of (c_X8_thrown l D k r R1) (rm_i rfl rfl rfl rfl) sel_r rfl
  exact la_tail (q := 1562) (off := 616) (fJ := J1 0) (kk0 := 195) (kx := kx) (bx := bx) hF hP hD hS hl.1 hT wLaw_J hk hJ (lv_at hl 5 rfl) (lv_at hl 4 rfl) (lv_at hl 1 rfl) (lv_at hl 0 rfl) hcl dL_law_1562 dL_law_1563 dL_law_1566 dL_law_1568 dL_law_1573 dL_law_1575 dL_law_1578 dL_law_1579 dL_law_1580 dL_law_1581 dL_law_1583 dL_law_1584 dL_law_1585 dL_law_1590 (by decide) (fun H1 locs1 hP hD hS => kk _ _ _ _ _ _ _ _ _ _ _ _ _ _ _ _ _ hI hP hD hS (lv_drop (lv_drop hl)) (Nat.le_refl _) (Nat.le_refl _))
set_option maxHeartbeats 4000000 in
set_option maxRecDepth 100000 in
theorem lc_24 (hF : lwF p s m args c R D k A) (hst : l.stackTraces = false) (hX : va_X b Ln xs s s.heap) (hbl : b < s.heap.size) (hbA : ¬ A b) (hLn : Ln ≤ 2048) (x0 : 0 ≤ x5) (hx5 : x5 + 4 ≤ Ln) (h : Iv K F P T B N Hs Gs I L RR) (hK : K + 620 ≤ 320000) (hP : va_P D vwCl (wLaw k a r o d F P T B N Hs Gs I L RR J X) H) (hD : va_D A (wLaw k a r o d F P T B N Hs Gs I L RR J X)) (hS : va_S A s.heap H locs) (hl : lv_has ls 9 (lvB a r o d b x5)) (hcl : cells + 1 ≤ R.cells ∧ slots + 6 ≤ R.slots) (kk : lwK p l e R s m args below meth c D k A a r o d b x5 K cells slots Q) : W p l e R s m args below meth c H locs cells slots Q (F0 m 1593 ls []) := by
  obtain ⟨hx, hb, hml, hown, hts, hK0, hG, hE, hA, hR1, hR2⟩ := id hF
  refine lv_aload_n hx hb dL_law_1593 rfl (lv_at hl 4 rfl) ?_
  refine la_arg (xs := xs) (j := 1) (q := 1) hF hX hbl hbA hS (lv_at hl 5 rfl) (lv_at hl 0 rfl) hLn x0 (by decide) (by omega) dL_law_1594 dL_law_1595 dL_law_1597 rfl dL_law_1598 dL_law_1599 ?_
  refine lv_aload_n hx hb dL_law_1600 rfl (lv_at hl 2 rfl) ?_
  obtain ⟨F1, P1, T1, B1, N1, H1, G1, I1, L1, R1, J1, kx, bx, hL, hC, e8, hk, hJ, hZ, hI⟩ := st_line (D := D) (k := k) (a := a) (r := r) (o := o) (d := d) (J := J) (X := X) hst h hK (p1 := (pJ xs (x5 + 1))) (pJ_r xs _)
  refine la_L (As := [.ref (a 0), .int (iI (pJ xs (x5 + 1))), .ref (o 0)]) (rest := []) (idx := 215) (n := 3) hF hP hD hS hl.1 hL gL_law_L_line rfl (by decide +kernel) rfl (Nat.le_of_ble_eq_true rfl) (Nat.le_of_ble_eq_true rfl) dL_law_1601 hcl (fun H locs hP hD hS => ?_)
  refine lv_istore (lv' := (6, .int (iI kx)) :: lvB a r o d b x5) hx hb dL_law_1604 hl (by decide) rfl (fun ls hl => ?_)
  refine lv_aload_n hx hb dL_law_1606 rfl (lv_at hl 4 rfl) ?_
  refine la_arg (xs := xs) (j := 1) (q := 1) hF hX hbl hbA hS (lv_at hl 6 rfl) (lv_at hl 1 rfl) hLn x0 (by decide) (by omega) dL_law_1607 dL_law_1608 dL_law_1610 rfl dL_law_1611 dL_law_1612 ?_
  refine la_V (As := [.int (iI (pJ xs (x5 + 1)))]) (rest := []) (idx := 217) (n := 1) (ci := 10) hF hP hD hS hl.1 hC rfl gL_law_X8_line rfl (by decide +kernel) rfl (Nat.le_of_ble_eq_true rfl) (Nat.le_of_ble_eq_true rfl) dL_law_1613 ⟨hcl.1, hcl.2⟩ (fun H locs hP hD hS => ?_)
  refine lv_istore (lv' := (7, .int (iI bx)) :: (6, .int (iI kx)) :: lvB a r o d b x5) hx hb dL_law_1616 hl (by decide) rfl (fun ls hl => ?_)
  have hT : zXc l yX8_thrown wsX8_thrown D k (r 0) 10 [] (wLaw k a r o d F1 P1 T1 B1 N1 H1 G1 I1 L1 R1 J1 X) kx (wLaw k a r o d F1 P1 T1 B1 N1 H1 G1 I1 L1 R1 J1 X) := by
    rw [← e8]
    exact xc_of (c_X8_thrown l D k r R1) (rm_i rfl rfl rfl rfl) sel_r rfl
  exact la_tail (q := 1618) (off := 560) (fJ := J1 0) (kk0 := 195) (kx := kx) (bx := bx) hF hP hD hS hl.1 hT wLaw_J hk hJ (lv_at hl 5 rfl) (lv_at hl 4 rfl) (lv_at hl 1 rfl) (lv_at hl 0 rfl) hcl dL_law_1618 dL_law_1619 dL_law_1622 dL_law_1624 dL_law_1629 dL_law_1631 dL_law_1634 dL_law_1635 dL_law_1636 dL_law_1637 dL_law_1639 dL_law_1640 dL_law_1641 dL_law_1646 (by decide) (fun H1 locs1 hP hD hS => kk _ _ _ _ _ _ _ _ _ _ _ _ _ _ _ _ _ hI hP hD hS (lv_drop (lv_drop hl)) (Nat.le_refl _) (Nat.le_refl _))
set_option maxHeartbeats 4000000 in
set_option maxRecDepth 100000 in
theorem lc_25 (hF : lwF p s m args c R D k A) (hst : l.stackTraces = false) (hX : va_X b Ln xs s s.heap) (hbl : b < s.heap.size) (hbA : ¬ A b) (hLn : Ln ≤ 2048) (x0 : 0 ≤ x5) (hx5 : x5 + 4 ≤ Ln) (h : Iv K F P T B N Hs Gs I L RR) (hK : K + 620 ≤ 320000) (hP : va_P D vwCl (wLaw k a r o d F P T B N Hs Gs I L RR J X) H) (hD : va_D A (wLaw k a r o d F P T B N Hs Gs I L RR J X)) (hS : va_S A s.heap H locs) (hl : lv_has ls 9 (lvB a r o d b x5)) (hcl : cells + 1 ≤ R.cells ∧ slots + 6 ≤ R.slots) (kk : lwK p l e R s m args below meth c D k A a r o d b x5 K cells slots Q) : W p l e R s m args below meth c H locs cells slots Q (F0 m 1649 ls []) := by
  obtain ⟨hx, hb, hml, hown, hts, hK0, hG, hE, hA, hR1, hR2⟩ := id hF
  refine lv_aload_n hx hb dL_law_1649 rfl (lv_at hl 4 rfl) ?_
  obtain ⟨F1, P1, T1, B1, N1, H1, G1, I1, L1, R1, v, hL, hC, hI⟩ := st_shelfLine (D := D) (k := k) (a := a) (r := r) (o := o) (d := d) (J := J) (X := X) hst h hK  
  refine la_V (As := []) (rest := []) (idx := 218) (n := 0) (ci := 9) hF hP hD hS hl.1 hL rfl gL_law_X7_shelfLine rfl (by decide +kernel) rfl (Nat.le_of_ble_eq_true rfl) (Nat.le_of_ble_eq_true rfl) dL_law_1650 ⟨by omega, by omega⟩ (fun H locs hP hD hS => ?_)
  refine lv_aload_n hx hb dL_law_1653 rfl (lv_at hl 3 rfl) ?_
  refine la_V (As := []) (rest := [.int (iI v)]) (idx := 221) (n := 0) (ci := 10) hF hP hD hS hl.1 hC rfl gL_law_X8_shelfLine rfl (by decide +kernel) rfl (Nat.le_of_ble_eq_true rfl) (Nat.le_of_ble_eq_true rfl) dL_law_1654 ⟨by omega, by omega⟩ (fun H locs hP hD hS => ?_)
  refine lv_icmp_eq (tgt := 2206) hx hb dL_law_1657 (by decide) (fun _ => ?_) (fun w => absurd rfl w)
  exact kk _ _ _ _ _ _ _ _ _ _ _ _ _ _ _ _ _ hI hP hD hS hl (by omega) (by omega)
set_option maxHeartbeats 4000000 in
set_option maxRecDepth 100000 in
theorem lc_26 (hF : lwF p s m args c R D k A) (hst : l.stackTraces = false) (hX : va_X b Ln xs s s.heap) (hbl : b < s.heap.size) (hbA : ¬ A b) (hLn : Ln ≤ 2048) (x0 : 0 ≤ x5) (hx5 : x5 + 4 ≤ Ln) (h : Iv K F P T B N Hs Gs I L RR) (hK : K + 620 ≤ 320000) (hP : va_P D vwCl (wLaw k a r o d F P T B N Hs Gs I L RR J X) H) (hD : va_D A (wLaw k a r o d F P T B N Hs Gs I L RR J X)) (hS : va_S A s.heap H locs) (hl : lv_has ls 9 (lvB a r o d b x5)) (hcl : cells + 1 ≤ R.cells ∧ slots + 6 ≤ R.slots) (kk : lwK p l e R s m args below meth c D k A a r o d b x5 K cells slots Q) : W p l e R s m args below meth c H locs cells slots Q (F0 m 1662 ls []) := by
  obtain ⟨hx, hb, hml, hown, hts, hK0, hG, hE, hA, hR1, hR2⟩ := id hF
  refine lv_aload_n hx hb dL_law_1662 rfl (lv_at hl 4 rfl) ?_
  refine la_arg (xs := xs) (j := 1) (q := 1) hF hX hbl hbA hS (lv_at hl 5 rfl) (lv_at hl 0 rfl) hLn x0 (by decide) (by omega) dL_law_1663 dL_law_1664 dL_law_1666 rfl dL_law_1667 dL_law_1668 ?_
  refine lv_aload_n hx hb dL_law_1669 rfl (lv_at hl 2 rfl) ?_
  obtain ⟨F1, P1, T1, B1, N1, H1, G1, I1, L1, R1, J1, kx, bx, hL, hC, e8, hk, hJ, hZ, hI⟩ := st_character (D := D) (k := k) (a := a) (r := r) (o := o) (d := d) (J := J) (X := X) hst h hK (p1 := (pJ xs (x5 + 1))) (pJ_r xs _)
  refine la_L (As := [.ref (a 0), .int (iI (pJ xs (x5 + 1))), .ref (o 0)]) (rest := []) (idx := 222) (n := 3) hF hP hD hS hl.1 hL gL_law_L_character rfl (by decide +kernel) rfl (Nat.le_of_ble_eq_true rfl) (Nat.le_of_ble_eq_true rfl) dL_law_1670 hcl (fun H locs hP hD hS => ?_)
  refine lv_istore (lv' := (6, .int (iI kx)) :: lvB a r o d b x5) hx hb dL_law_1673 hl (by decide) rfl (fun ls hl => ?_)
  refine lv_aload_n hx hb dL_law_1675 rfl (lv_at hl 4 rfl) ?_
  refine la_arg (xs := xs) (j := 1) (q := 1) hF hX hbl hbA hS (lv_at hl 6 rfl) (lv_at hl 1 rfl) hLn x0 (by decide) (by omega) dL_law_1676 dL_law_1677 dL_law_1679 rfl dL_law_1680 dL_law_1681 ?_
  refine la_V (As := [.int (iI (pJ xs (x5 + 1)))]) (rest := []) (idx := 224) (n := 1) (ci := 10) hF hP hD hS hl.1 hC rfl gL_law_X8_character rfl (by decide +kernel) rfl (Nat.le_of_ble_eq_true rfl) (Nat.le_of_ble_eq_true rfl) dL_law_1682 ⟨hcl.1, hcl.2⟩ (fun H locs hP hD hS => ?_)
  refine lv_istore (lv' := (7, .int (iI bx)) :: (6, .int (iI kx)) :: lvB a r o d b x5) hx hb dL_law_1685 hl (by decide) rfl (fun ls hl => ?_)
  have hT : zXc l yX8_thrown wsX8_thrown D k (r 0) 10 [] (wLaw k a r o d F1 P1 T1 B1 N1 H1 G1 I1 L1 R1 J1 X) kx (wLaw k a r o d F1 P1 T1 B1 N1 H1 G1 I1 L1 R1 J1 X) := by
    rw [← e8]
    exact xc_of (c_X8_thrown l D k r R1) (rm_i rfl rfl rfl rfl) sel_r rfl
  exact la_tail (q := 1687) (off := 491) (fJ := J1 0) (kk0 := 195) (kx := kx) (bx := bx) hF hP hD hS hl.1 hT wLaw_J hk hJ (lv_at hl 5 rfl) (lv_at hl 4 rfl) (lv_at hl 1 rfl) (lv_at hl 0 rfl) hcl dL_law_1687 dL_law_1688 dL_law_1691 dL_law_1693 dL_law_1698 dL_law_1700 dL_law_1703 dL_law_1704 dL_law_1705 dL_law_1706 dL_law_1708 dL_law_1709 dL_law_1710 dL_law_1715 (by decide) (fun H1 locs1 hP hD hS => kk _ _ _ _ _ _ _ _ _ _ _ _ _ _ _ _ _ hI hP hD hS (lv_drop (lv_drop hl)) (Nat.le_refl _) (Nat.le_refl _))
set_option maxHeartbeats 4000000 in
set_option maxRecDepth 100000 in
theorem lc_27 (hF : lwF p s m args c R D k A) (hst : l.stackTraces = false) (hX : va_X b Ln xs s s.heap) (hbl : b < s.heap.size) (hbA : ¬ A b) (hLn : Ln ≤ 2048) (x0 : 0 ≤ x5) (hx5 : x5 + 4 ≤ Ln) (h : Iv K F P T B N Hs Gs I L RR) (hK : K + 620 ≤ 320000) (hP : va_P D vwCl (wLaw k a r o d F P T B N Hs Gs I L RR J X) H) (hD : va_D A (wLaw k a r o d F P T B N Hs Gs I L RR J X)) (hS : va_S A s.heap H locs) (hl : lv_has ls 9 (lvB a r o d b x5)) (hcl : cells + 1 ≤ R.cells ∧ slots + 6 ≤ R.slots) (kk : lwK p l e R s m args below meth c D k A a r o d b x5 K cells slots Q) : W p l e R s m args below meth c H locs cells slots Q (F0 m 1718 ls []) := by
  obtain ⟨hx, hb, hml, hown, hts, hK0, hG, hE, hA, hR1, hR2⟩ := id hF
  refine lv_aload_n hx hb dL_law_1718 rfl (lv_at hl 4 rfl) ?_
  refine la_arg (xs := xs) (j := 1) (q := 1) hF hX hbl hbA hS (lv_at hl 5 rfl) (lv_at hl 0 rfl) hLn x0 (by decide) (by omega) dL_law_1719 dL_law_1720 dL_law_1722 rfl dL_law_1723 dL_law_1724 ?_
  refine la_char (z := pJ xs (x5 + 1)) hF dL_law_1725 ?_
  refine lv_aload_n hx hb dL_law_1726 rfl (lv_at hl 2 rfl) ?_
  obtain ⟨F1, P1, T1, B1, N1, H1, G1, I1, L1, R1, J1, kx, bx, hL, hC, e8, hk, hJ, hZ, hI⟩ := st_append (D := D) (k := k) (a := a) (r := r) (o := o) (d := d) (J := J) (X := X) hst h hK (p1 := (((iI (pJ xs (x5 + 1))).toBitVec.toNat % 65536 : Nat) : Int)) ⟨by omega, by have := Nat.mod_lt ((iI (pJ xs (x5 + 1))).toBitVec.toNat) (show 0 < 65536 by decide); omega⟩
  refine la_L (As := [.ref (a 0), .int (iI (((iI (pJ xs (x5 + 1))).toBitVec.toNat % 65536 : Nat) : Int)), .ref (o 0)]) (rest := []) (idx := 225) (n := 3) hF hP hD hS hl.1 hL gL_law_L_append rfl (by decide +kernel) rfl (Nat.le_of_ble_eq_true rfl) (Nat.le_of_ble_eq_true rfl) dL_law_1727 hcl (fun H locs hP hD hS => ?_)
  refine lv_istore (lv' := (6, .int (iI kx)) :: lvB a r o d b x5) hx hb dL_law_1730 hl (by decide) rfl (fun ls hl => ?_)
  refine lv_aload_n hx hb dL_law_1732 rfl (lv_at hl 4 rfl) ?_
  refine la_arg (xs := xs) (j := 1) (q := 1) hF hX hbl hbA hS (lv_at hl 6 rfl) (lv_at hl 1 rfl) hLn x0 (by decide) (by omega) dL_law_1733 dL_law_1734 dL_law_1736 rfl dL_law_1737 dL_law_1738 ?_
  refine la_char (z := pJ xs (x5 + 1)) hF dL_law_1739 ?_
  refine la_V (As := [.int (iI (((iI (pJ xs (x5 + 1))).toBitVec.toNat % 65536 : Nat) : Int))]) (rest := []) (idx := 228) (n := 1) (ci := 10) hF hP hD hS hl.1 hC rfl gL_law_X8_append rfl (by decide +kernel) rfl (Nat.le_of_ble_eq_true rfl) (Nat.le_of_ble_eq_true rfl) dL_law_1740 ⟨hcl.1, hcl.2⟩ (fun H locs hP hD hS => ?_)
  refine lv_istore (lv' := (7, .int (iI bx)) :: (6, .int (iI kx)) :: lvB a r o d b x5) hx hb dL_law_1743 hl (by decide) rfl (fun ls hl => ?_)
  have hT : zXc l yX8_thrown wsX8_thrown D k (r 0) 10 [] (wLaw k a r o d F1 P1 T1 B1 N1 H1 G1 I1 L1 R1 J1 X) kx (wLaw k a r o d F1 P1 T1 B1 N1 H1 G1 I1 L1 R1 J1 X) := by
    rw [← e8]
    exact xc_of (c_X8_thrown l D k r R1) (rm_i rfl rfl rfl rfl) sel_r rfl
  exact la_tail (q := 1745) (off := 433) (fJ := J1 0) (kk0 := 195) (kx := kx) (bx := bx) hF hP hD hS hl.1 hT wLaw_J hk hJ (lv_at hl 5 rfl) (lv_at hl 4 rfl) (lv_at hl 1 rfl) (lv_at hl 0 rfl) hcl dL_law_1745 dL_law_1746 dL_law_1749 dL_law_1751 dL_law_1756 dL_law_1758 dL_law_1761 dL_law_1762 dL_law_1763 dL_law_1764 dL_law_1766 dL_law_1767 dL_law_1768 dL_law_1773 (by decide) (fun H1 locs1 hP hD hS => kk _ _ _ _ _ _ _ _ _ _ _ _ _ _ _ _ _ hI hP hD hS (lv_drop (lv_drop hl)) (Nat.le_refl _) (Nat.le_refl _))
set_option maxHeartbeats 4000000 in
set_option maxRecDepth 100000 in
theorem lc_28 (hF : lwF p s m args c R D k A) (hst : l.stackTraces = false) (hX : va_X b Ln xs s s.heap) (hbl : b < s.heap.size) (hbA : ¬ A b) (hLn : Ln ≤ 2048) (x0 : 0 ≤ x5) (hx5 : x5 + 4 ≤ Ln) (h : Iv K F P T B N Hs Gs I L RR) (hK : K + 620 ≤ 320000) (hP : va_P D vwCl (wLaw k a r o d F P T B N Hs Gs I L RR J X) H) (hD : va_D A (wLaw k a r o d F P T B N Hs Gs I L RR J X)) (hS : va_S A s.heap H locs) (hl : lv_has ls 9 (lvB a r o d b x5)) (hcl : cells + 1 ≤ R.cells ∧ slots + 6 ≤ R.slots) (kk : lwK p l e R s m args below meth c D k A a r o d b x5 K cells slots Q) : W p l e R s m args below meth c H locs cells slots Q (F0 m 1776 ls []) := by
  obtain ⟨hx, hb, hml, hown, hts, hK0, hG, hE, hA, hR1, hR2⟩ := id hF
  refine lv_aload_n hx hb dL_law_1776 rfl (lv_at hl 4 rfl) ?_
  refine lv_aload_n hx hb dL_law_1777 rfl (lv_at hl 2 rfl) ?_
  obtain ⟨F1, P1, T1, B1, N1, H1, G1, I1, L1, R1, J1, kx, bx, hL, hC, e8, hk, hJ, hZ, hI⟩ := st_run (D := D) (k := k) (a := a) (r := r) (o := o) (d := d) (J := J) (X := X) hst h hK  
  refine la_L (As := [.ref (a 0), .ref (o 0)]) (rest := []) (idx := 229) (n := 2) hF hP hD hS hl.1 hL gL_law_L_run rfl (by decide +kernel) rfl (Nat.le_of_ble_eq_true rfl) (Nat.le_of_ble_eq_true rfl) dL_law_1778 hcl (fun H locs hP hD hS => ?_)
  refine lv_istore (lv' := (6, .int (iI kx)) :: lvB a r o d b x5) hx hb dL_law_1781 hl (by decide) rfl (fun ls hl => ?_)
  refine lv_aload_n hx hb dL_law_1783 rfl (lv_at hl 4 rfl) ?_
  refine la_V (As := []) (rest := []) (idx := 231) (n := 0) (ci := 10) hF hP hD hS hl.1 hC rfl gL_law_X8_run rfl (by decide +kernel) rfl (Nat.le_of_ble_eq_true rfl) (Nat.le_of_ble_eq_true rfl) dL_law_1784 ⟨hcl.1, hcl.2⟩ (fun H locs hP hD hS => ?_)
  refine lv_istore (lv' := (7, .int (iI bx)) :: (6, .int (iI kx)) :: lvB a r o d b x5) hx hb dL_law_1787 hl (by decide) rfl (fun ls hl => ?_)
  have hT : zXc l yX8_thrown wsX8_thrown D k (r 0) 10 [] (wLaw k a r o d F1 P1 T1 B1 N1 H1 G1 I1 L1 R1 J1 X) kx (wLaw k a r o d F1 P1 T1 B1 N1 H1 G1 I1 L1 R1 J1 X) := by
    rw [← e8]
    exact xc_of (c_X8_thrown l D k r R1) (rm_i rfl rfl rfl rfl) sel_r rfl
  exact la_tail (q := 1789) (off := 389) (fJ := J1 0) (kk0 := 195) (kx := kx) (bx := bx) hF hP hD hS hl.1 hT wLaw_J hk hJ (lv_at hl 5 rfl) (lv_at hl 4 rfl) (lv_at hl 1 rfl) (lv_at hl 0 rfl) hcl dL_law_1789 dL_law_1790 dL_law_1793 dL_law_1795 dL_law_1800 dL_law_1802 dL_law_1805 dL_law_1806 dL_law_1807 dL_law_1808 dL_law_1810 dL_law_1811 dL_law_1812 dL_law_1817 (by decide) (fun H1 locs1 hP hD hS => kk _ _ _ _ _ _ _ _ _ _ _ _ _ _ _ _ _ hI hP hD hS (lv_drop (lv_drop hl)) (Nat.le_refl _) (Nat.le_refl _))
set_option maxHeartbeats 4000000 in
set_option maxRecDepth 100000 in
theorem lc_29 (hF : lwF p s m args c R D k A) (hst : l.stackTraces = false) (hX : va_X b Ln xs s s.heap) (hbl : b < s.heap.size) (hbA : ¬ A b) (hLn : Ln ≤ 2048) (x0 : 0 ≤ x5) (hx5 : x5 + 4 ≤ Ln) (h : Iv K F P T B N Hs Gs I L RR) (hK : K + 620 ≤ 320000) (hP : va_P D vwCl (wLaw k a r o d F P T B N Hs Gs I L RR J X) H) (hD : va_D A (wLaw k a r o d F P T B N Hs Gs I L RR J X)) (hS : va_S A s.heap H locs) (hl : lv_has ls 9 (lvB a r o d b x5)) (hcl : cells + 1 ≤ R.cells ∧ slots + 6 ≤ R.slots) (kk : lwK p l e R s m args below meth c D k A a r o d b x5 K cells slots Q) : W p l e R s m args below meth c H locs cells slots Q (F0 m 1820 ls []) := by
  obtain ⟨hx, hb, hml, hown, hts, hK0, hG, hE, hA, hR1, hR2⟩ := id hF
  refine lv_aload_n hx hb dL_law_1820 rfl (lv_at hl 4 rfl) ?_
  obtain ⟨F1, P1, T1, B1, N1, H1, G1, I1, L1, R1, v, hL, hC, hI⟩ := st_errorPosition (D := D) (k := k) (a := a) (r := r) (o := o) (d := d) (J := J) (X := X) hst h hK  
  refine la_V (As := []) (rest := []) (idx := 232) (n := 0) (ci := 9) hF hP hD hS hl.1 hL rfl gL_law_X7_errorPosition rfl (by decide +kernel) rfl (Nat.le_of_ble_eq_true rfl) (Nat.le_of_ble_eq_true rfl) dL_law_1821 ⟨by omega, by omega⟩ (fun H locs hP hD hS => ?_)
  refine lv_aload_n hx hb dL_law_1824 rfl (lv_at hl 3 rfl) ?_
  refine la_V (As := []) (rest := [.int (iI v)]) (idx := 235) (n := 0) (ci := 10) hF hP hD hS hl.1 hC rfl gL_law_X8_errorPosition rfl (by decide +kernel) rfl (Nat.le_of_ble_eq_true rfl) (Nat.le_of_ble_eq_true rfl) dL_law_1825 ⟨by omega, by omega⟩ (fun H locs hP hD hS => ?_)
  refine lv_icmp_eq (tgt := 2206) hx hb dL_law_1828 (by decide) (fun _ => ?_) (fun w => absurd rfl w)
  exact kk _ _ _ _ _ _ _ _ _ _ _ _ _ _ _ _ _ hI hP hD hS hl (by omega) (by omega)
set_option maxHeartbeats 4000000 in
set_option maxRecDepth 100000 in
theorem lc_30 (hF : lwF p s m args c R D k A) (hst : l.stackTraces = false) (hX : va_X b Ln xs s s.heap) (hbl : b < s.heap.size) (hbA : ¬ A b) (hLn : Ln ≤ 2048) (x0 : 0 ≤ x5) (hx5 : x5 + 4 ≤ Ln) (h : Iv K F P T B N Hs Gs I L RR) (hK : K + 620 ≤ 320000) (hP : va_P D vwCl (wLaw k a r o d F P T B N Hs Gs I L RR J X) H) (hD : va_D A (wLaw k a r o d F P T B N Hs Gs I L RR J X)) (hS : va_S A s.heap H locs) (hl : lv_has ls 9 (lvB a r o d b x5)) (hcl : cells + 1 ≤ R.cells ∧ slots + 6 ≤ R.slots) (kk : lwK p l e R s m args below meth c D k A a r o d b x5 K cells slots Q) : W p l e R s m args below meth c H locs cells slots Q (F0 m 1833 ls []) := by
  obtain ⟨hx, hb, hml, hown, hts, hK0, hG, hE, hA, hR1, hR2⟩ := id hF
  refine lv_aload_n hx hb dL_law_1833 rfl (lv_at hl 4 rfl) ?_
  refine la_arg (xs := xs) (j := 1) (q := 1) hF hX hbl hbA hS (lv_at hl 5 rfl) (lv_at hl 0 rfl) hLn x0 (by decide) (by omega) dL_law_1834 dL_law_1835 dL_law_1837 rfl dL_law_1838 dL_law_1839 ?_
  refine la_bool (z := pJ xs (x5 + 1)) hF (pJ_r xs _) dL_law_1840 dL_law_1843 dL_law_1844 dL_law_1847 ?_
  refine lv_aload_n hx hb dL_law_1848 rfl (lv_at hl 2 rfl) ?_
  obtain ⟨F1, P1, T1, B1, N1, H1, G1, I1, L1, R1, J1, kx, bx, hL, hC, e8, hk, hJ, hZ, hI⟩ := st_refusal (D := D) (k := k) (a := a) (r := r) (o := o) (d := d) (J := J) (X := X) hst h hK (p1 := (zif ((pJ xs (x5 + 1)) = 0) 0 1)) (zif_r _)
  refine la_L (As := [.ref (a 0), .int (iI (zif ((pJ xs (x5 + 1)) = 0) 0 1)), .ref (o 0)]) (rest := []) (idx := 236) (n := 3) hF hP hD hS hl.1 hL gL_law_L_refusal rfl (by decide +kernel) rfl (Nat.le_of_ble_eq_true rfl) (Nat.le_of_ble_eq_true rfl) dL_law_1849 hcl (fun H locs hP hD hS => ?_)
  refine lv_istore (lv' := (6, .int (iI kx)) :: lvB a r o d b x5) hx hb dL_law_1852 hl (by decide) rfl (fun ls hl => ?_)
  refine lv_aload_n hx hb dL_law_1854 rfl (lv_at hl 4 rfl) ?_
  refine la_arg (xs := xs) (j := 1) (q := 1) hF hX hbl hbA hS (lv_at hl 6 rfl) (lv_at hl 1 rfl) hLn x0 (by decide) (by omega) dL_law_1855 dL_law_1856 dL_law_1858 rfl dL_law_1859 dL_law_1860 ?_
  refine la_bool (z := pJ xs (x5 + 1)) hF (pJ_r xs _) dL_law_1861 dL_law_1864 dL_law_1865 dL_law_1868 ?_
  refine la_V (As := [.int (iI (zif ((pJ xs (x5 + 1)) = 0) 0 1))]) (rest := []) (idx := 239) (n := 1) (ci := 10) hF hP hD hS hl.1 hC rfl gL_law_X8_refusal rfl (by decide +kernel) rfl (Nat.le_of_ble_eq_true rfl) (Nat.le_of_ble_eq_true rfl) dL_law_1869 ⟨hcl.1, hcl.2⟩ (fun H locs hP hD hS => ?_)
  refine lv_istore (lv' := (7, .int (iI bx)) :: (6, .int (iI kx)) :: lvB a r o d b x5) hx hb dL_law_1872 hl (by decide) rfl (fun ls hl => ?_)
  have hT : zXc l yX8_thrown wsX8_thrown D k (r 0) 10 [] (wLaw k a r o d F1 P1 T1 B1 N1 H1 G1 I1 L1 R1 J1 X) kx (wLaw k a r o d F1 P1 T1 B1 N1 H1 G1 I1 L1 R1 J1 X) := by
    rw [← e8]
    exact xc_of (c_X8_thrown l D k r R1) (rm_i rfl rfl rfl rfl) sel_r rfl
  exact la_tail (q := 1874) (off := 304) (fJ := J1 0) (kk0 := 195) (kx := kx) (bx := bx) hF hP hD hS hl.1 hT wLaw_J hk hJ (lv_at hl 5 rfl) (lv_at hl 4 rfl) (lv_at hl 1 rfl) (lv_at hl 0 rfl) hcl dL_law_1874 dL_law_1875 dL_law_1878 dL_law_1880 dL_law_1885 dL_law_1887 dL_law_1890 dL_law_1891 dL_law_1892 dL_law_1893 dL_law_1895 dL_law_1896 dL_law_1897 dL_law_1902 (by decide) (fun H1 locs1 hP hD hS => kk _ _ _ _ _ _ _ _ _ _ _ _ _ _ _ _ _ hI hP hD hS (lv_drop (lv_drop hl)) (Nat.le_refl _) (Nat.le_refl _))
set_option maxHeartbeats 4000000 in
set_option maxRecDepth 100000 in
theorem lc_31 (hF : lwF p s m args c R D k A) (hst : l.stackTraces = false) (hX : va_X b Ln xs s s.heap) (hbl : b < s.heap.size) (hbA : ¬ A b) (hLn : Ln ≤ 2048) (x0 : 0 ≤ x5) (hx5 : x5 + 4 ≤ Ln) (h : Iv K F P T B N Hs Gs I L RR) (hK : K + 620 ≤ 320000) (hP : va_P D vwCl (wLaw k a r o d F P T B N Hs Gs I L RR J X) H) (hD : va_D A (wLaw k a r o d F P T B N Hs Gs I L RR J X)) (hS : va_S A s.heap H locs) (hl : lv_has ls 9 (lvB a r o d b x5)) (hcl : cells + 1 ≤ R.cells ∧ slots + 6 ≤ R.slots) (kk : lwK p l e R s m args below meth c D k A a r o d b x5 K cells slots Q) : W p l e R s m args below meth c H locs cells slots Q (F0 m 1905 ls []) := by
  obtain ⟨hx, hb, hml, hown, hts, hK0, hG, hE, hA, hR1, hR2⟩ := id hF
  refine lv_aload_n hx hb dL_law_1905 rfl (lv_at hl 4 rfl) ?_
  refine la_arg (xs := xs) (j := 1) (q := 1) hF hX hbl hbA hS (lv_at hl 5 rfl) (lv_at hl 0 rfl) hLn x0 (by decide) (by omega) dL_law_1906 dL_law_1907 dL_law_1909 rfl dL_law_1910 dL_law_1911 ?_
  refine lv_aload_n hx hb dL_law_1912 rfl (lv_at hl 2 rfl) ?_
  obtain ⟨F1, P1, T1, B1, N1, H1, G1, I1, L1, R1, J1, kx, bx, hL, hC, e8, hk, hJ, hZ, hI⟩ := st_account (D := D) (k := k) (a := a) (r := r) (o := o) (d := d) (J := J) (X := X) hst h hK (p1 := (pJ xs (x5 + 1))) (pJ_r xs _)
  refine la_L (As := [.ref (a 0), .int (iI (pJ xs (x5 + 1))), .ref (o 0)]) (rest := []) (idx := 240) (n := 3) hF hP hD hS hl.1 hL gL_law_L_account rfl (by decide +kernel) rfl (Nat.le_of_ble_eq_true rfl) (Nat.le_of_ble_eq_true rfl) dL_law_1913 hcl (fun H locs hP hD hS => ?_)
  refine lv_istore (lv' := (6, .int (iI kx)) :: lvB a r o d b x5) hx hb dL_law_1916 hl (by decide) rfl (fun ls hl => ?_)
  refine lv_aload_n hx hb dL_law_1918 rfl (lv_at hl 4 rfl) ?_
  refine la_arg (xs := xs) (j := 1) (q := 1) hF hX hbl hbA hS (lv_at hl 6 rfl) (lv_at hl 1 rfl) hLn x0 (by decide) (by omega) dL_law_1919 dL_law_1920 dL_law_1922 rfl dL_law_1923 dL_law_1924 ?_
  refine la_V (As := [.int (iI (pJ xs (x5 + 1)))]) (rest := []) (idx := 242) (n := 1) (ci := 10) hF hP hD hS hl.1 hC rfl gL_law_X8_account rfl (by decide +kernel) rfl (Nat.le_of_ble_eq_true rfl) (Nat.le_of_ble_eq_true rfl) dL_law_1925 ⟨hcl.1, hcl.2⟩ (fun H locs hP hD hS => ?_)
  refine lv_istore (lv' := (7, .int (iI bx)) :: (6, .int (iI kx)) :: lvB a r o d b x5) hx hb dL_law_1928 hl (by decide) rfl (fun ls hl => ?_)
  have hT : zXc l yX8_thrown wsX8_thrown D k (r 0) 10 [] (wLaw k a r o d F1 P1 T1 B1 N1 H1 G1 I1 L1 R1 J1 X) kx (wLaw k a r o d F1 P1 T1 B1 N1 H1 G1 I1 L1 R1 J1 X) := by
    rw [← e8]
    exact xc_of (c_X8_thrown l D k r R1) (rm_i rfl rfl rfl rfl) sel_r rfl
  exact la_tail (q := 1930) (off := 248) (fJ := J1 0) (kk0 := 195) (kx := kx) (bx := bx) hF hP hD hS hl.1 hT wLaw_J hk hJ (lv_at hl 5 rfl) (lv_at hl 4 rfl) (lv_at hl 1 rfl) (lv_at hl 0 rfl) hcl dL_law_1930 dL_law_1931 dL_law_1934 dL_law_1936 dL_law_1941 dL_law_1943 dL_law_1946 dL_law_1947 dL_law_1948 dL_law_1949 dL_law_1951 dL_law_1952 dL_law_1953 dL_law_1958 (by decide) (fun H1 locs1 hP hD hS => kk _ _ _ _ _ _ _ _ _ _ _ _ _ _ _ _ _ hI hP hD hS (lv_drop (lv_drop hl)) (Nat.le_refl _) (Nat.le_refl _))
set_option maxHeartbeats 4000000 in
set_option maxRecDepth 100000 in
theorem lc_32 (hF : lwF p s m args c R D k A) (hst : l.stackTraces = false) (hX : va_X b Ln xs s s.heap) (hbl : b < s.heap.size) (hbA : ¬ A b) (hLn : Ln ≤ 2048) (x0 : 0 ≤ x5) (hx5 : x5 + 4 ≤ Ln) (h : Iv K F P T B N Hs Gs I L RR) (hK : K + 620 ≤ 320000) (hP : va_P D vwCl (wLaw k a r o d F P T B N Hs Gs I L RR J X) H) (hD : va_D A (wLaw k a r o d F P T B N Hs Gs I L RR J X)) (hS : va_S A s.heap H locs) (hl : lv_has ls 9 (lvB a r o d b x5)) (hcl : cells + 1 ≤ R.cells ∧ slots + 6 ≤ R.slots) (kk : lwK p l e R s m args below meth c D k A a r o d b x5 K cells slots Q) : W p l e R s m args below meth c H locs cells slots Q (F0 m 1961 ls []) := by
  obtain ⟨hx, hb, hml, hown, hts, hK0, hG, hE, hA, hR1, hR2⟩ := id hF
  refine lv_aload_n hx hb dL_law_1961 rfl (lv_at hl 4 rfl) ?_
  obtain ⟨F1, P1, T1, B1, N1, H1, G1, I1, L1, R1, v, hL, hC, hI⟩ := st_isWell (D := D) (k := k) (a := a) (r := r) (o := o) (d := d) (J := J) (X := X) hst h hK  
  refine la_V (As := []) (rest := []) (idx := 243) (n := 0) (ci := 9) hF hP hD hS hl.1 hL rfl gL_law_X7_isWell rfl (by decide +kernel) rfl (Nat.le_of_ble_eq_true rfl) (Nat.le_of_ble_eq_true rfl) dL_law_1962 ⟨by omega, by omega⟩ (fun H locs hP hD hS => ?_)
  refine lv_aload_n hx hb dL_law_1965 rfl (lv_at hl 3 rfl) ?_
  refine la_V (As := []) (rest := [.int (iI v)]) (idx := 247) (n := 0) (ci := 10) hF hP hD hS hl.1 hC rfl gL_law_X8_isWell rfl (by decide +kernel) rfl (Nat.le_of_ble_eq_true rfl) (Nat.le_of_ble_eq_true rfl) dL_law_1966 ⟨by omega, by omega⟩ (fun H locs hP hD hS => ?_)
  refine lv_icmp_eq (tgt := 2206) hx hb dL_law_1969 (by decide) (fun _ => ?_) (fun w => absurd rfl w)
  exact kk _ _ _ _ _ _ _ _ _ _ _ _ _ _ _ _ _ hI hP hD hS hl (by omega) (by omega)
set_option maxHeartbeats 4000000 in
set_option maxRecDepth 100000 in
theorem lc_35 (hF : lwF p s m args c R D k A) (hst : l.stackTraces = false) (hX : va_X b Ln xs s s.heap) (hbl : b < s.heap.size) (hbA : ¬ A b) (hLn : Ln ≤ 2048) (x0 : 0 ≤ x5) (hx5 : x5 + 4 ≤ Ln) (h : Iv K F P T B N Hs Gs I L RR) (hK : K + 620 ≤ 320000) (hP : va_P D vwCl (wLaw k a r o d F P T B N Hs Gs I L RR J X) H) (hD : va_D A (wLaw k a r o d F P T B N Hs Gs I L RR J X)) (hS : va_S A s.heap H locs) (hl : lv_has ls 9 (lvB a r o d b x5)) (hcl : cells + 1 ≤ R.cells ∧ slots + 6 ≤ R.slots) (kk : lwK p l e R s m args below meth c D k A a r o d b x5 K cells slots Q) : W p l e R s m args below meth c H locs cells slots Q (F0 m 2105 ls []) := by
  obtain ⟨hx, hb, hml, hown, hts, hK0, hG, hE, hA, hR1, hR2⟩ := id hF
  refine lv_aload_n hx hb dL_law_2105 rfl (lv_at hl 4 rfl) ?_
  refine lv_aload_n hx hb dL_law_2106 rfl (lv_at hl 2 rfl) ?_
  obtain ⟨F1, P1, T1, B1, N1, H1, G1, I1, L1, R1, J1, kx, bx, hL, hC, e8, hk, hJ, hZ, hI⟩ := st_undo (D := D) (k := k) (a := a) (r := r) (o := o) (d := d) (J := J) (X := X) hst h hK  
  refine la_L (As := [.ref (a 0), .ref (o 0)]) (rest := []) (idx := 255) (n := 2) hF hP hD hS hl.1 hL gL_law_L_undo rfl (by decide +kernel) rfl (Nat.le_of_ble_eq_true rfl) (Nat.le_of_ble_eq_true rfl) dL_law_2107 hcl (fun H locs hP hD hS => ?_)
  refine lv_istore (lv' := (6, .int (iI kx)) :: lvB a r o d b x5) hx hb dL_law_2110 hl (by decide) rfl (fun ls hl => ?_)
  refine lv_aload_n hx hb dL_law_2112 rfl (lv_at hl 4 rfl) ?_
  refine la_V (As := []) (rest := []) (idx := 257) (n := 0) (ci := 10) hF hP hD hS hl.1 hC rfl gL_law_X8_undo rfl (by decide +kernel) rfl (Nat.le_of_ble_eq_true rfl) (Nat.le_of_ble_eq_true rfl) dL_law_2113 ⟨hcl.1, hcl.2⟩ (fun H locs hP hD hS => ?_)
  refine lv_istore (lv' := (7, .int (iI bx)) :: (6, .int (iI kx)) :: lvB a r o d b x5) hx hb dL_law_2116 hl (by decide) rfl (fun ls hl => ?_)
  have hT : zXc l yX8_thrown wsX8_thrown D k (r 0) 10 [] (wLaw k a r o d F1 P1 T1 B1 N1 H1 G1 I1 L1 R1 J1 X) kx (wLaw k a r o d F1 P1 T1 B1 N1 H1 G1 I1 L1 R1 J1 X) := by
    rw [← e8]
    exact xc_of (c_X8_thrown l D k r R1) (rm_i rfl rfl rfl rfl) sel_r rfl
  exact la_tail (q := 2118) (off := 60) (fJ := J1 0) (kk0 := 195) (kx := kx) (bx := bx) hF hP hD hS hl.1 hT wLaw_J hk hJ (lv_at hl 5 rfl) (lv_at hl 4 rfl) (lv_at hl 1 rfl) (lv_at hl 0 rfl) hcl dL_law_2118 dL_law_2119 dL_law_2122 dL_law_2124 dL_law_2129 dL_law_2131 dL_law_2134 dL_law_2135 dL_law_2136 dL_law_2137 dL_law_2139 dL_law_2140 dL_law_2141 dL_law_2146 (by decide) (fun H1 locs1 hP hD hS => kk _ _ _ _ _ _ _ _ _ _ _ _ _ _ _ _ _ hI hP hD hS (lv_drop (lv_drop hl)) (Nat.le_refl _) (Nat.le_refl _))
set_option maxHeartbeats 4000000 in
set_option maxRecDepth 100000 in
theorem lc_36 (hF : lwF p s m args c R D k A) (hst : l.stackTraces = false) (hX : va_X b Ln xs s s.heap) (hbl : b < s.heap.size) (hbA : ¬ A b) (hLn : Ln ≤ 2048) (x0 : 0 ≤ x5) (hx5 : x5 + 4 ≤ Ln) (h : Iv K F P T B N Hs Gs I L RR) (hK : K + 620 ≤ 320000) (hP : va_P D vwCl (wLaw k a r o d F P T B N Hs Gs I L RR J X) H) (hD : va_D A (wLaw k a r o d F P T B N Hs Gs I L RR J X)) (hS : va_S A s.heap H locs) (hl : lv_has ls 9 (lvB a r o d b x5)) (hcl : cells + 1 ≤ R.cells ∧ slots + 6 ≤ R.slots) (kk : lwK p l e R s m args below meth c D k A a r o d b x5 K cells slots Q) : W p l e R s m args below meth c H locs cells slots Q (F0 m 2149 ls []) := by
  obtain ⟨hx, hb, hml, hown, hts, hK0, hG, hE, hA, hR1, hR2⟩ := id hF
  refine lv_aload_n hx hb dL_law_2149 rfl (lv_at hl 4 rfl) ?_
  obtain ⟨F1, P1, T1, B1, N1, H1, G1, I1, L1, R1, v, hL, hC, hI⟩ := st_save (D := D) (k := k) (a := a) (r := r) (o := o) (d := d) (J := J) (X := X) hst h hK  
  refine la_V (As := []) (rest := []) (idx := 258) (n := 0) (ci := 9) hF hP hD hS hl.1 hL rfl gL_law_X7_save rfl (by decide +kernel) rfl (Nat.le_of_ble_eq_true rfl) (Nat.le_of_ble_eq_true rfl) dL_law_2150 ⟨by omega, by omega⟩ (fun H locs hP hD hS => ?_)
  refine lv_aload_n hx hb dL_law_2153 rfl (lv_at hl 3 rfl) ?_
  refine la_V (As := []) (rest := [.int (iI v)]) (idx := 261) (n := 0) (ci := 10) hF hP hD hS hl.1 hC rfl gL_law_X8_save rfl (by decide +kernel) rfl (Nat.le_of_ble_eq_true rfl) (Nat.le_of_ble_eq_true rfl) dL_law_2154 ⟨by omega, by omega⟩ (fun H locs hP hD hS => ?_)
  refine lv_icmp_eq (tgt := 2206) hx hb dL_law_2157 (by decide) (fun _ => ?_) (fun w => absurd rfl w)
  exact kk _ _ _ _ _ _ _ _ _ _ _ _ _ _ _ _ _ hI hP hD hS hl (by omega) (by omega)
set_option maxHeartbeats 4000000 in
set_option maxRecDepth 100000 in
theorem lc_37 (hF : lwF p s m args c R D k A) (hst : l.stackTraces = false) (hX : va_X b Ln xs s s.heap) (hbl : b < s.heap.size) (hbA : ¬ A b) (hLn : Ln ≤ 2048) (x0 : 0 ≤ x5) (hx5 : x5 + 4 ≤ Ln) (h : Iv K F P T B N Hs Gs I L RR) (hK : K + 620 ≤ 320000) (hP : va_P D vwCl (wLaw k a r o d F P T B N Hs Gs I L RR J X) H) (hD : va_D A (wLaw k a r o d F P T B N Hs Gs I L RR J X)) (hS : va_S A s.heap H locs) (hl : lv_has ls 9 (lvB a r o d b x5)) (hcl : cells + 1 ≤ R.cells ∧ slots + 6 ≤ R.slots) (kk : lwK p l e R s m args below meth c D k A a r o d b x5 K cells slots Q) : W p l e R s m args below meth c H locs cells slots Q (F0 m 2162 ls []) := by
  obtain ⟨hx, hb, hml, hown, hts, hK0, hG, hE, hA, hR1, hR2⟩ := id hF
  refine lv_aload_n hx hb dL_law_2162 rfl (lv_at hl 4 rfl) ?_
  refine lv_aload_n hx hb dL_law_2163 rfl (lv_at hl 2 rfl) ?_
  obtain ⟨F1, P1, T1, B1, N1, H1, G1, I1, L1, R1, J1, kx, bx, hL, hC, e8, hk, hJ, hZ, hI⟩ := st_restore (D := D) (k := k) (a := a) (r := r) (o := o) (d := d) (J := J) (X := X) hst h hK  
  refine la_L (As := [.ref (a 0), .ref (o 0)]) (rest := []) (idx := 262) (n := 2) hF hP hD hS hl.1 hL gL_law_L_restore rfl (by decide +kernel) rfl (Nat.le_of_ble_eq_true rfl) (Nat.le_of_ble_eq_true rfl) dL_law_2164 hcl (fun H locs hP hD hS => ?_)
  refine lv_istore (lv' := (6, .int (iI kx)) :: lvB a r o d b x5) hx hb dL_law_2167 hl (by decide) rfl (fun ls hl => ?_)
  refine lv_aload_n hx hb dL_law_2169 rfl (lv_at hl 4 rfl) ?_
  refine la_V (As := []) (rest := []) (idx := 264) (n := 0) (ci := 10) hF hP hD hS hl.1 hC rfl gL_law_X8_restore rfl (by decide +kernel) rfl (Nat.le_of_ble_eq_true rfl) (Nat.le_of_ble_eq_true rfl) dL_law_2170 ⟨hcl.1, hcl.2⟩ (fun H locs hP hD hS => ?_)
  refine lv_istore (lv' := (7, .int (iI bx)) :: (6, .int (iI kx)) :: lvB a r o d b x5) hx hb dL_law_2173 hl (by decide) rfl (fun ls hl => ?_)
  have hT : zXc l yX8_thrown wsX8_thrown D k (r 0) 10 [] (wLaw k a r o d F1 P1 T1 B1 N1 H1 G1 I1 L1 R1 J1 X) kx (wLaw k a r o d F1 P1 T1 B1 N1 H1 G1 I1 L1 R1 J1 X) := by
    rw [← e8]
    exact xc_of (c_X8_thrown l D k r R1) (rm_i rfl rfl rfl rfl) sel_r rfl
  exact la_tail (q := 2175) (off := 3) (fJ := J1 0) (kk0 := 195) (kx := kx) (bx := bx) hF hP hD hS hl.1 hT wLaw_J hk hJ (lv_at hl 5 rfl) (lv_at hl 4 rfl) (lv_at hl 1 rfl) (lv_at hl 0 rfl) hcl dL_law_2175 dL_law_2176 dL_law_2179 dL_law_2181 dL_law_2186 dL_law_2188 dL_law_2191 dL_law_2192 dL_law_2193 dL_law_2194 dL_law_2196 dL_law_2197 dL_law_2198 dL_law_2203 (by decide) (fun H1 locs1 hP hD hS => kk _ _ _ _ _ _ _ _ _ _ _ _ _ _ _ _ _ hI hP hD hS (lv_drop (lv_drop hl)) (Nat.le_refl _) (Nat.le_refl _))
end LCA
