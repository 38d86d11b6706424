/-! the cases of the law -/
abbrev lvB (a r o d : Nat → Nat) (b : Nat) (x5 : Int) : List (Nat × Value) := [(5, .int (iI x5)), (4, .ref (d 0)), (3, .ref (o 0)), (2, .ref (r 0)), (1, .ref (a 0)), (0, .ref b)]
theorem zif_r (z : Int) : zR (zif (z = 0) 0 1) := el1 (Q := zR) (fun _ => ⟨by decide, by decide⟩) (fun _ => ⟨by decide, by decide⟩)
theorem lv_drop {ls : Array Slot} {n : Nat} {q : Nat × Value} {lv : List (Nat × Value)} (h : lv_has ls n (q :: lv)) : lv_has ls n lv := ⟨h.1, h.2.1, fun q hq => h.2.2 q (List.mem_cons_of_mem _ hq)⟩
theorem wLaw_J {k : Nat → ClassId} {a r o d : Nat → Nat} {F P T B N Hs : Nat → Nat → Int} {G : Nat → Nat → Nat → Int} {I L R J : Nat → Nat → Int} {X : Nat → UInt64} : (wLaw k a r o d F P T B N Hs G I L R J X)[195]? = some (o 0, .inl (k 4, 1, .inr (.inl (fun j => (iI (J 0 j)).toInt64)))) := rfl
theorem wLaw_D {k : Nat → ClassId} {a r o d : Nat → Nat} {F P T B N Hs : Nat → Nat → Int} {G : Nat → Nat → Nat → Int} {I L R J : Nat → Nat → Int} {X : Nat → UInt64} : (wLaw k a r o d F P T B N Hs G I L R J X)[196]? = some (d 0, .inl (k 5, 1, .inr (.inr (.inr (.inl X))))) := rfl
/-- what follows a case -/
def lwK (p : Program) (l : Launch) (e : Env) (R : Room) (s : State) (m : MethodId) (args : Array Value) (below : List Frame) (meth : Method) (c : Code) (D : va_G) (k : Nat → ClassId) (A : Nat → Prop) (a r o d : Nat → Nat) (b : Nat) (x5 K : Int) (cells slots : Nat) (Q : State → Prop) : Prop :=
  ∀ (F P T B N Hs : Nat → Nat → Int) (G : Nat → Nat → Nat → Int) (I L RR J : Nat → Nat → Int) (X : Nat → UInt64) (H : Heap) (locs : List Loc) (ls : Array Slot) (c1 s1 : Nat), Iv (K + 620) F P T B N Hs G I L RR → va_P D vwCl (wLaw k a r o d F P T B N Hs G I L RR J X) H → va_D A (wLaw k a r o d F P T B N Hs G I L RR J X) → va_S A s.heap H locs → lv_has ls 9 (lvB a r o d b x5) → c1 ≤ cells + 1 → s1 ≤ slots + 6 → W p l e R s m args below meth c H locs c1 s1 Q (F0 m 2206 ls [])
section LCA
variable {p : Program} {l : Launch} {e : Env} {R : Room} {s : State} {m : MethodId} {args : Array Value} {below : List Frame} {meth : Method} {c : Code} {H : Heap} {locs : List Loc} {cells slots : Nat} {Q : State → Prop}
variable {ls : Array Slot} {D : va_G} {A : Nat → Prop} {k : Nat → ClassId} {a r o d : Nat → Nat} {K : Int} {F P T B N Hs : Nat → Nat → Int} {Gs : Nat → Nat → Nat → Int} {I L RR J : Nat → Nat → Int} {X : Nat → UInt64} {b Ln : Nat} {xs : Nat → Int32} {x5 : Int}
theorem la_char {pc : Nat} {rest : List Value} {z : Int} (hF : lwF p s m args c R D k A) (d0 : decode cL_law pc = .ok (.i2c, 1)) (kk : W p l e R s m args below meth c H locs cells slots Q (F0 m (pc + 1) ls (.int (iI (((iI z).toBitVec.toNat % 65536 : Nat) : Int)) :: rest))) : W p l e R s m args below meth c H locs cells slots Q (F0 m pc ls (.int (iI z) :: rest)) := by
  obtain ⟨hx, hb, hml, hown, hts, hK, hG, hE, hA, hR1, hR2⟩ := hF
  exact lv_i2c (v := iI (((iI z).toBitVec.toNat % 65536 : Nat) : Int)) hx hb d0 ((pk_char (iI z)).trans (iI_nI _).symm) kk
set_option maxHeartbeats 4000000 in
set_option maxRecDepth 100000 in
theorem lc_0 (hF : lwF p s m args c R D k A) (hst : l.stackTraces = false) (hX : va_X b Ln xs s s.heap) (hbl : b < s.heap.size) (hbA : ¬ A b) (hLn : Ln ≤ 2048) (x0 : 0 ≤ x5) (hx5 : x5 + 4 ≤ Ln) (h : Iv K F P T B N Hs Gs I L RR) (hK : K + 620 ≤ 320000) (hP : va_P D vwCl (wLaw k a r o d F P T B N Hs Gs I L RR J X) H) (hD : va_D A (wLaw k a r o d F P T B N Hs Gs I L RR J X)) (hS : va_S A s.heap H locs) (hl : lv_has ls 9 (lvB a r o d b x5)) (hcl : cells + 1 ≤ R.cells ∧ slots + 6 ≤ R.slots) (kk : lwK p l e R s m args below meth c D k A a r o d b x5 K cells slots Q) : W p l e R s m args below meth c H locs cells slots Q (F0 m 212 ls []) := by
  obtain ⟨hx, hb, hml, hown, hts, hK0, hG, hE, hA, hR1, hR2⟩ := id hF
  refine lv_aload_n hx hb dL_law_212 rfl (lv_at hl 4 rfl) ?_
  refine la_arg (xs := xs) (j := 1) (q := 1) hF hX hbl hbA hS (lv_at hl 5 rfl) (lv_at hl 0 rfl) hLn x0 (by decide) (by omega) dL_law_213 dL_law_214 dL_law_216 rfl dL_law_217 dL_law_218 ?_
  refine la_arg (xs := xs) (j := 2) (q := 2) hF hX hbl hbA hS (lv_at hl 5 rfl) (lv_at hl 0 rfl) hLn x0 (by decide) (by omega) dL_law_219 dL_law_220 dL_law_222 rfl dL_law_223 dL_law_224 ?_
  refine la_arg (xs := xs) (j := 3) (q := 3) hF hX hbl hbA hS (lv_at hl 5 rfl) (lv_at hl 0 rfl) hLn x0 (by decide) (by omega) dL_law_225 dL_law_226 dL_law_228 rfl dL_law_229 dL_law_230 ?_
  refine lv_aload_n hx hb dL_law_231 rfl (lv_at hl 2 rfl) ?_
  obtain ⟨F1, P1, T1, B1, N1, H1, G1, I1, L1, R1, J1, kx, bx, hL, hC, e8, hk, hJ, hZ, hI⟩ := st_make (D := D) (k := k) (a := a) (r := r) (o := o) (d := d) (J := J) (X := X) hst h hK (p1 := (pJ xs (x5 + 1))) (p2 := (pJ xs (x5 + 2))) (p3 := (pJ xs (x5 + 3))) (pJ_r xs _) (pJ_r xs _) (pJ_r xs _)
  refine la_L (As := [.ref (a 0), .int (iI (pJ xs (x5 + 1))), .int (iI (pJ xs (x5 + 2))), .int (iI (pJ xs (x5 + 3))), .ref (o 0)]) (rest := []) (idx := 130) (n := 5) hF hP hD hS hl.1 hL gL_law_L_make rfl (by decide +kernel) rfl (Nat.le_of_ble_eq_true rfl) (Nat.le_of_ble_eq_true rfl) dL_law_232 hcl (fun H locs hP hD hS => ?_)
  refine lv_istore (lv' := (6, .int (iI kx)) :: lvB a r o d b x5) hx hb dL_law_235 hl (by decide) rfl (fun ls hl => ?_)
  refine lv_aload_n hx hb dL_law_237 rfl (lv_at hl 4 rfl) ?_
  refine la_arg (xs := xs) (j := 1) (q := 1) hF hX hbl hbA hS (lv_at hl 6 rfl) (lv_at hl 1 rfl) hLn x0 (by decide) (by omega) dL_law_238 dL_law_239 dL_law_241 rfl dL_law_242 dL_law_243 ?_
  refine la_arg (xs := xs) (j := 2) (q := 2) hF hX hbl hbA hS (lv_at hl 6 rfl) (lv_at hl 1 rfl) hLn x0 (by decide) (by omega) dL_law_244 dL_law_245 dL_law_247 rfl dL_law_248 dL_law_249 ?_
  refine la_arg (xs := xs) (j := 3) (q := 3) hF hX hbl hbA hS (lv_at hl 6 rfl) (lv_at hl 1 rfl) hLn x0 (by decide) (by omega) dL_law_250 dL_law_251 dL_law_253 rfl dL_law_254 dL_law_255 ?_
  refine la_V (As := [.int (iI (pJ xs (x5 + 1))), .int (iI (pJ xs (x5 + 2))), .int (iI (pJ xs (x5 + 3)))]) (rest := []) (idx := 135) (n := 3) (ci := 10) hF hP hD hS hl.1 hC rfl gL_law_X8_make rfl (by decide +kernel) rfl (Nat.le_of_ble_eq_true rfl) (Nat.le_of_ble_eq_true rfl) dL_law_256 ⟨hcl.1, hcl.2⟩ (fun H locs hP hD hS => ?_)
  refine lv_istore (lv' := (7, .int (iI bx)) :: (6, .int (iI kx)) :: lvB a r o d b x5) hx hb dL_law_259 hl (by decide) rfl (fun ls hl => ?_)
  have hT : zXc l yX8_thrown wsX8_thrown D k (r 0) 10 [] (wLaw k a r o d F1 P1 T1 B1 N1 H1 G1 I1 L1 R1 J1 X) kx (wLaw k a r o d F1 P1 T1 B1 N1 H1 G1 I1 L1 R1 J1 X) := by
    rw [← e8]
    exact xc_of (c_X8_thrown l D k r R1) (rm_i rfl rfl rfl rfl) sel_r rfl
  exact la_tail (q := 261) (off := 1917) (fJ := J1 0) (kk0 := 195) (kx := kx) (bx := bx) hF hP hD hS hl.1 hT wLaw_J hk hJ (lv_at hl 5 rfl) (lv_at hl 4 rfl) (lv_at hl 1 rfl) (lv_at hl 0 rfl) hcl dL_law_261 dL_law_262 dL_law_265 dL_law_267 dL_law_272 dL_law_274 dL_law_277 dL_law_278 dL_law_279 dL_law_280 dL_law_282 dL_law_283 dL_law_284 dL_law_289 (by decide) (fun H1 locs1 hP hD hS => kk _ _ _ _ _ _ _ _ _ _ _ _ _ _ _ _ _ hI hP hD hS (lv_drop (lv_drop hl)) (Nat.le_refl _) (Nat.le_refl _))
end LCA
