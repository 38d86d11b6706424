/-! the law's rows -/
def rmOk (rm : Room) (mc ms : Nat) : Prop := rm.frames ≤ 10 ∧ rm.locals ≤ 400 ∧ rm.cells = mc ∧ rm.slots = ms
/-- a call of a method with handlers over the whole world -/
def zLC (l : Launch) (y : MethodName) (ws : List Cond) (D : va_G) (k : Nat → ClassId) (av : List Value) (W1 : va_W) (v : Int) (W2 : va_W) : Prop := ∃ (rm : Room) (wc wc' : va_W), rmOk rm 1 6 ∧ zML l y ws rm D k av wc v wc' 1 6 ∧ zSel W1 wc W2 wc'
/-- a call of a plain method of b, an object of the class ci -/
def zXc (l : Launch) (y : MethodName) (ws : List Cond) (D : va_G) (k : Nat → ClassId) (b ci : Nat) (As : List Value) (W1 : va_W) (v : Int) (W2 : va_W) : Prop := ∃ (rm : Room) (wc wc' : va_W) (fs : List Value), rmOk rm 0 0 ∧ zMi l y ws rm D k (.ref b :: As) wc v wc' 0 0 ∧ zSel W1 wc W2 wc' ∧ wc[0]? = some (b, .inr (ci, fs))
def zXd (l : Launch) (y : MethodName) (ws : List Cond) (D : va_G) (k : Nat → ClassId) (b ci : Nat) (As : List Value) (W1 : va_W) (v : UInt64) (W2 : va_W) : Prop := ∃ (rm : Room) (wc wc' : va_W) (fs : List Value), rmOk rm 0 0 ∧ zMd l y ws rm D k (.ref b :: As) wc v wc' 0 0 ∧ zSel W1 wc W2 wc' ∧ wc[0]? = some (b, .inr (ci, fs))
def zXf (l : Launch) (y : MethodName) (ws : List Cond) (D : va_G) (k : Nat → ClassId) (b ci : Nat) (As : List Value) (W1 : va_W) (v : UInt32) (W2 : va_W) : Prop := ∃ (rm : Room) (wc wc' : va_W) (fs : List Value), rmOk rm 0 0 ∧ zMf l y ws rm D k (.ref b :: As) wc v wc' 0 0 ∧ zSel W1 wc W2 wc' ∧ wc[0]? = some (b, .inr (ci, fs))
theorem xc_of {l : Launch} {y : MethodName} {ws : List Cond} {rm : Room} {D : va_G} {k : Nat → ClassId} {b ci : Nat} {As : List Value} {W1 W2 wc wc' : va_W} {v : Int} {fs : List Value} (hM : zMi l y ws rm D k (.ref b :: As) wc v wc' 0 0) (hr : rmOk rm 0 0) (hs : zSel W1 wc W2 wc') (h0 : wc[0]? = some (b, .inr (ci, fs))) : zXc l y ws D k b ci As W1 v W2 := ⟨rm, wc, wc', fs, hr, hM, hs, h0⟩
theorem lc_of {l : Launch} {y : MethodName} {ws : List Cond} {rm : Room} {D : va_G} {k : Nat → ClassId} {av : List Value} {W1 W2 wc wc' : va_W} {v : Int} (hM : zML l y ws rm D k av wc v wc' 1 6) (hr : rmOk rm 1 6) (hs : zSel W1 wc W2 wc') : zLC l y ws D k av W1 v W2 := ⟨rm, wc, wc', hr, hM, hs⟩
section LAW
variable {p : Program} {l : Launch} {e : Env} {R : Room} {s : State} {m : MethodId} {args : Array Value} {below : List Frame} {meth : Method} {c : Code} {H : Heap} {locs : List Loc} {cells slots : Nat} {Q : State → Prop}
variable {pc : Nat} {ls : Array Slot} {rest : List Value} {D : va_G} {A : Nat → Prop} {k : Nat → ClassId} {W1 W2 : va_W} {b : Nat} {As : List Value} {ws ws' : List Cond} {y : MethodName} {bytes : ByteArray} {maxL idx n : Nat} {ret : Option FieldType} {hh : List (Nat × Nat × Nat × Nat)}
theorem vx_toRun {g : JFrame} {mc ms : Nat} {Qa : State → Outcome → State → Prop} {free : Addr → Prop} (hr : vx_Run p l e R s m args below meth c H locs cells slots mc ms g rest Qa (fun _ _ _ => False) free) : va_Run p l e R s m args below meth c H locs cells slots mc ms g rest Qa free := by
  intro T hT X
  rcases hr T hT X with h | ⟨q, st₀, t, T', L, E, ce, h0, X', hL, e1, e2, hF, st⟩
  · exact h
  · exact absurd hF id
/-- what the law's frame stands on -/
def lwF (p : Program) (s : State) (m : MethodId) (args : Array Value) (c : Code) (R : Room) (D : va_G) (k : Nat → ClassId) (A : Nat → Prop) : Prop :=
  p.tables.exec = Jvm.exec ∧ c.code = cL_law ∧ c.maxLocals = 9 ∧ s.vm.findClass RL = some m.cls ∧ (∀ w ∈ wsL_law, w.before args s = true) ∧ va_K D vwCl (zT k) s ∧ zG A s ∧ zE s ∧ (∀ q : Nat, s.heap.size ≤ q → A q) ∧ (R.frames = 19 ∧ R.locals = 10796)
theorem la_L {v : Int} (hF : lwF p s m args c R D k A) (hP : va_P D vwCl W1 H) (hD : va_D A W1) (hS : va_S A s.heap H locs) (hls : ls.size = 9)
    (hC : zLC l y ws D k As W1 v W2) (gw : GoodIn wsL_law (va_wsS RL idx y ws)) (hw : ws = Cond.codeWith y bytes maxL ret hh :: ws') (hd : y.cls ≠ "java/lang/invoke/MethodHandle" ∧ y.cls ≠ "java/lang/invoke/VarHandle" ∧ (parseMethodDescriptor y.desc).map (fun d => d.parameters.length) = some n) (hn : As.length = n) (hmx : maxL ≤ 50)
    (hrm : (rest.map fun v => v.category).sum ≤ 8) (hdg : decode cL_law pc = .ok (.invokestatic idx, 3)) (hcl : cells + 1 ≤ R.cells ∧ slots + 6 ≤ R.slots)
    (kk : ∀ (H1 : Heap) (locs1 : List Loc), va_P D vwCl W2 H1 → va_D A W2 → va_S A s.heap H1 locs1 → W p l e R s m args below meth c H1 locs1 (cells + 1) (slots + 6) Q (F0 m (pc + 3) ls (.int (iI v) :: rest))) : W p l e R s m args below meth c H locs cells slots Q (F0 m pc ls (As.reverse ++ rest)) := by
  obtain ⟨hx, hb, hml, hown, hts, hK, hG, hE, hA, hR1, hR2⟩ := hF
  obtain ⟨rm, wc, wc', ⟨r1, r2, r3, r4⟩, hM, is, s1, s2, s3, s4⟩ := hC
  refine z_ai (vx_toRun (vx_runSX (As := As) (rest := rest) ⟨hx, hb, hml, hown, hts⟩ (hM _) (vx_cwSW n hts gw hw r3 r4 hd ⟨by omega, by omega⟩) (z_preSx hK hG hE hA hP hD hS is s1 s2) rfl hn hls rfl (lv_room hrm) hdg hcl)) hA hP hD hS is s1 s3 (fun H1 locs1 hP1 hD1 hS1 => ?_)
  exact kk H1 locs1 (z_to s4 hP1) (z_to2 s4 hD1) hS1
theorem la_V {v : Int} {ci : Nat} {q : vw_C} (hF : lwF p s m args c R D k A) (hP : va_P D vwCl W1 H) (hD : va_D A W1) (hS : va_S A s.heap H locs) (hls : ls.size = 9)
    (hC : zXc l y ws D k b ci As W1 v W2) (hq : vwCl[ci]? = some q) (gw : GoodIn wsL_law (wsV RL idx q.1 y ws)) (hw : ws = Cond.code y bytes maxL ret :: ws') (hd : y.cls = q.1 ∧ y.cls ≠ "java/lang/invoke/MethodHandle" ∧ y.cls ≠ "java/lang/invoke/VarHandle" ∧ (parseMethodDescriptor y.desc).map (fun d => d.parameters.length) = some n) (hn : As.length = n) (hmx : maxL ≤ 50)
    (hrm : (rest.map fun v => v.category).sum ≤ 8) (hdg : decode cL_law pc = .ok (.invokevirtual idx, 3)) (hcl : cells ≤ R.cells ∧ slots ≤ R.slots)
    (kk : ∀ (H1 : Heap) (locs1 : List Loc), va_P D vwCl W2 H1 → va_D A W2 → va_S A s.heap H1 locs1 → W p l e R s m args below meth c H1 locs1 cells slots Q (F0 m (pc + 3) ls (.int (iI v) :: rest))) : W p l e R s m args below meth c H locs cells slots Q (F0 m pc ls (As.reverse ++ .ref b :: rest)) := by
  obtain ⟨hx, hb, hml, hown, hts, hK, hG, hE, hA, hR1, hR2⟩ := hF
  obtain ⟨rm, wc, wc', fs, ⟨r1, r2, r3, r4⟩, hM, ⟨is, s1, s2, s3, s4⟩, h0⟩ := hC
  refine z_ai (va_runV (As := As) (rest := rest) ⟨hx, hb, hml, hown, hts⟩ (hM _) (cwV n hts gw hw r3 r4 hd ⟨by omega, by omega⟩) (z_preV hK hG hA hP hD hS is s1 s2 ci hq h0) rfl hn hls rfl (lv_room hrm) hdg hcl) hA hP hD hS is s1 s3 (fun H1 locs1 hP1 hD1 hS1 => ?_)
  exact kk H1 locs1 (z_to s4 hP1) (z_to2 s4 hD1) hS1
theorem la_VD {v : UInt64} {ci : Nat} {q : vw_C} (hF : lwF p s m args c R D k A) (hP : va_P D vwCl W1 H) (hD : va_D A W1) (hS : va_S A s.heap H locs) (hls : ls.size = 9)
    (hC : zXd l y ws D k b ci As W1 v W2) (hq : vwCl[ci]? = some q) (gw : GoodIn wsL_law (wsV RL idx q.1 y ws)) (hw : ws = Cond.code y bytes maxL ret :: ws') (hd : y.cls = q.1 ∧ y.cls ≠ "java/lang/invoke/MethodHandle" ∧ y.cls ≠ "java/lang/invoke/VarHandle" ∧ (parseMethodDescriptor y.desc).map (fun d => d.parameters.length) = some n) (hn : As.length = n) (hmx : maxL ≤ 50)
    (hrm : (rest.map fun v => v.category).sum ≤ 8) (hdg : decode cL_law pc = .ok (.invokevirtual idx, 3)) (hcl : cells ≤ R.cells ∧ slots ≤ R.slots)
    (kk : ∀ (H1 : Heap) (locs1 : List Loc), va_P D vwCl W2 H1 → va_D A W2 → va_S A s.heap H1 locs1 → W p l e R s m args below meth c H1 locs1 cells slots Q (F0 m (pc + 3) ls (.double v :: rest))) : W p l e R s m args below meth c H locs cells slots Q (F0 m pc ls (As.reverse ++ .ref b :: rest)) := by
  obtain ⟨hx, hb, hml, hown, hts, hK, hG, hE, hA, hR1, hR2⟩ := hF
  obtain ⟨rm, wc, wc', fs, ⟨r1, r2, r3, r4⟩, hM, ⟨is, s1, s2, s3, s4⟩, h0⟩ := hC
  refine z_ad (va_runV (As := As) (rest := rest) ⟨hx, hb, hml, hown, hts⟩ (hM _) (cwV n hts gw hw r3 r4 hd ⟨by omega, by omega⟩) (z_preV hK hG hA hP hD hS is s1 s2 ci hq h0) rfl hn hls rfl (lv_room hrm) hdg hcl) hA hP hD hS is s1 s3 (fun H1 locs1 hP1 hD1 hS1 => ?_)
  exact kk H1 locs1 (z_to s4 hP1) (z_to2 s4 hD1) hS1
theorem la_VF {v : UInt32} {ci : Nat} {q : vw_C} (hF : lwF p s m args c R D k A) (hP : va_P D vwCl W1 H) (hD : va_D A W1) (hS : va_S A s.heap H locs) (hls : ls.size = 9)
    (hC : zXf l y ws D k b ci As W1 v W2) (hq : vwCl[ci]? = some q) (gw : GoodIn wsL_law (wsV RL idx q.1 y ws)) (hw : ws = Cond.code y bytes maxL ret :: ws') (hd : y.cls = q.1 ∧ y.cls ≠ "java/lang/invoke/MethodHandle" ∧ y.cls ≠ "java/lang/invoke/VarHandle" ∧ (parseMethodDescriptor y.desc).map (fun d => d.parameters.length) = some n) (hn : As.length = n) (hmx : maxL ≤ 50)
    (hrm : (rest.map fun v => v.category).sum ≤ 8) (hdg : decode cL_law pc = .ok (.invokevirtual idx, 3)) (hcl : cells ≤ R.cells ∧ slots ≤ R.slots)
    (kk : ∀ (H1 : Heap) (locs1 : List Loc), va_P D vwCl W2 H1 → va_D A W2 → va_S A s.heap H1 locs1 → W p l e R s m args below meth c H1 locs1 cells slots Q (F0 m (pc + 3) ls (.float v :: rest))) : W p l e R s m args below meth c H locs cells slots Q (F0 m pc ls (As.reverse ++ .ref b :: rest)) := by
  obtain ⟨hx, hb, hml, hown, hts, hK, hG, hE, hA, hR1, hR2⟩ := hF
  obtain ⟨rm, wc, wc', fs, ⟨r1, r2, r3, r4⟩, hM, ⟨is, s1, s2, s3, s4⟩, h0⟩ := hC
  refine z_af (va_runV (As := As) (rest := rest) ⟨hx, hb, hml, hown, hts⟩ (hM _) (cwV n hts gw hw r3 r4 hd ⟨by omega, by omega⟩) (z_preV hK hG hA hP hD hS is s1 s2 ci hq h0) rfl hn hls rfl (lv_room hrm) hdg hcl) hA hP hD hS is s1 s3 (fun H1 locs1 hP1 hD1 hS1 => ?_)
  exact kk H1 locs1 (z_to s4 hP1) (z_to2 s4 hD1) hS1
/-- what the script holds at a place -/
def pJ (xs : Nat → Int32) (i : Int) : Int := (xs i.toNat).toInt
theorem pJ_r (xs : Nat → Int32) (i : Int) : -2147483648 ≤ pJ xs i ∧ pJ xs i < 2147483648 := iI_range _
theorem pJ_i {xs : Nat → Int32} {i : Int} (h0 : 0 ≤ i) (h1 : i < 100000) : xs (iI i).toNatClampNeg = iI (pJ xs i) := by
  rw [iI_cl ⟨by omega, by omega⟩]
  exact (iI_self _).symm
/-- script[i + j] -/
theorem la_arg {L : Nat} {xs : Nat → Int32} {x5 j : Int} {q : Int} (hF : lwF p s m args c R D k A) (hX : va_X b L xs s s.heap) (hbl : b < s.heap.size) (hbA : ¬ A b) (hS : va_S A s.heap H locs) (hl0 : ls[0]? = some (.val (.ref b))) (hl5 : ls[5]? = some (.val (.int (iI x5)))) (hL : L ≤ 2048) (h0 : 0 ≤ x5) (j0 : 0 ≤ j) (hj : x5 + j < L)
    (d0 : decode cL_law pc = .ok (.aload_n 0, 1)) (d1 : decode cL_law (pc + 1) = .ok (.iload 5, 2)) (d2 : decode cL_law (pc + 3) = .ok (.iconst q, 1)) (hq : Int32.ofInt q = iI j) (d3 : decode cL_law (pc + 4) = .ok (.iadd, 1)) (d4 : decode cL_law (pc + 5) = .ok (.iaload, 1))
    (kk : W p l e R s m args below meth c H locs cells slots Q (F0 m (pc + 6) ls (.int (iI (pJ xs (x5 + j))) :: rest))) : W p l e R s m args below meth c H locs cells slots Q (F0 m pc ls rest) := by
  obtain ⟨hx, hb, hml, hown, hts, hK, hG, hE, hA, hR1, hR2⟩ := hF
  refine lv_aload_n hx hb d0 rfl hl0 ?_
  refine lv_iload hx hb d1 hl5 ?_
  refine lv_iconst (v := iI j) hx hb d2 hq ?_
  refine zi_add hx hb d3 ?_
  refine va_sld hx hb hX hbl hbA hS (z_in (by omega) hj (by omega)) d4 ?_
  rw [pJ_i (xs := xs) (i := x5 + j) (by omega) (by omega)]
  exact kk
/-- a boolean of it -/
theorem la_bool {z : Int} (hF : lwF p s m args c R D k A) (zr : -2147483648 ≤ z ∧ z < 2147483648) (d0 : decode cL_law pc = .ok (.ifCond .eq 7, 3)) (d1 : decode cL_law (pc + 3) = .ok (.iconst 1, 1)) (d2 : decode cL_law (pc + 4) = .ok (.goto 4, 3)) (d3 : decode cL_law (pc + 7) = .ok (.iconst 0, 1))
    (kk : W p l e R s m args below meth c H locs cells slots Q (F0 m (pc + 8) ls (.int (iI (zif (z = 0) 0 1)) :: rest))) : W p l e R s m args below meth c H locs cells slots Q (F0 m pc ls (.int (iI z) :: rest)) := by
  obtain ⟨hx, hb, hml, hown, hts, hK, hG, hE, hA, hR1, hR2⟩ := hF
  refine zi_if_eq (tgt := pc + 7) hx hb d0 (by omega) ⟨zr.1, zr.2⟩ (fun h => ?_) (fun h => ?_)
  · refine lv_iconst (v := iI 0) hx hb d3 rfl ?_
    rw [zif_pos h] at kk
    exact kk
  · refine lv_iconst (v := iI 1) hx hb d1 rfl ?_
    refine lv_goto (tgt := pc + 8) hx hb d2 (by omega) ?_
    rw [zif_neg h] at kk
    exact kk
/-- the comparison behind a call: what was thrown, and the answers -/
theorem la_tail {q : Nat} {off : Int} {W1 : va_W} {r0 o0 kk0 : Nat} {kx bx : Int} {fJ : Nat → Int} (hF : lwF p s m args c R D k A) (hP : va_P D vwCl W1 H) (hD : va_D A W1) (hS : va_S A s.heap H locs) (hls : ls.size = 9)
    (hT : zXc l yX8_thrown wsX8_thrown D k r0 10 [] W1 kx W1) (hJ : W1[kk0]? = some (o0, .inl (k 4, 1, .inr (.inl (fun j => (iI (fJ j)).toInt64))))) (hk : 0 ≤ kx ∧ kx ≤ 3) (hv : kx = 0 → fJ 0 = bx)
    (hl2 : ls[2]? = some (.val (.ref r0))) (hl3 : ls[3]? = some (.val (.ref o0))) (hl6 : ls[6]? = some (.val (.int (iI kx)))) (hl7 : ls[7]? = some (.val (.int (iI bx)))) (hcl : cells ≤ R.cells ∧ slots ≤ R.slots)
    (d0 : decode cL_law q = .ok (.aload_n 2, 1)) (d1 : decode cL_law (q + 1) = .ok (.invokevirtual 136, 3)) (d2 : decode cL_law (q + 4) = .ok (.iload 6, 2)) (d3 : decode cL_law (q + 6) = .ok (.if_icmp .eq 5, 3)) (d4 : decode cL_law (q + 11) = .ok (.iload 6, 2)) (d5 : decode cL_law (q + 13) = .ok (.ifCond .ne 15, 3)) (d6 : decode cL_law (q + 16) = .ok (.aload_n 3, 1)) (d7 : decode cL_law (q + 17) = .ok (.iconst 0, 1)) (d8 : decode cL_law (q + 18) = .ok (.laload, 1)) (d9 : decode cL_law (q + 19) = .ok (.iload 7, 2)) (d10 : decode cL_law (q + 21) = .ok (.i2l, 1)) (d11 : decode cL_law (q + 22) = .ok (.lcmp, 1)) (d12 : decode cL_law (q + 23) = .ok (.ifCond .eq 5, 3)) (d13 : decode cL_law (q + 28) = .ok (.goto off, 3)) (ht : ((q + 28 : Nat) : Int) + off = ((2206 : Nat) : Int))
    (kk : ∀ (H1 : Heap) (locs1 : List Loc), va_P D vwCl W1 H1 → va_D A W1 → va_S A s.heap H1 locs1 → W p l e R s m args below meth c H1 locs1 cells slots Q (F0 m 2206 ls [])) : W p l e R s m args below meth c H locs cells slots Q (F0 m q ls []) := by
  obtain ⟨hx, hb, hml, hown, hts, hK, hG, hE, hA, hR1, hR2⟩ := id hF
  refine lv_aload_n hx hb d0 rfl hl2 ?_
  refine la_V (As := []) (rest := []) (idx := 136) (n := 0) hF hP hD hS hls hT rfl gL_law_X8_thrown rfl (by decide +kernel) rfl (Nat.le_of_ble_eq_true rfl) (Nat.le_of_ble_eq_true rfl) d1 hcl (fun H locs hP hD hS => ?_)
  refine lv_iload hx hb d2 hl6 ?_
  have zk : zR kx := ⟨by omega, by omega⟩
  refine zi_icmp_eq (tgt := q + 11) hx hb d3 (by omega) zk zk (fun _ => ?_) (fun h => absurd rfl h)
  refine lv_iload hx hb d4 hl6 ?_
  refine zi_if_ne (tgt := q + 28) hx hb d5 (by omega) zk (fun _ => ?_) (fun h0 => ?_)
  · refine lv_goto (tgt := 2206) hx hb d13 ht ?_
    exact kk H locs hP hD hS
  · refine lv_aload_n hx hb d6 rfl hl3 ?_
    refine lv_iconst (v := iI 0) hx hb d7 rfl ?_
    refine va_lald hx hb hK hP kk0 4 hJ rfl (i := iI 0) (z_in (by omega) (by omega) (by decide)) d8 ?_
    refine lv_iload hx hb d9 hl7 ?_
    refine lv_i2l (v := (iI bx).toInt64) hx hb d10 rfl ?_
    refine W.lcmp hx hb d11 ?_
    have e : lg_cmp ((iI (fJ (iI 0).toNatClampNeg)).toInt64) ((iI bx).toInt64) = iI 0 := by
      show lg_cmp ((iI (fJ 0)).toInt64) ((iI bx).toInt64) = 0
      rw [hv h0]
      exact (lg_cmp_eq _ _).mpr rfl
    rw [e]
    refine zi_if_eq (tgt := q + 28) hx hb d12 (by omega) ⟨by decide, by decide⟩ (fun _ => ?_) (fun h => absurd rfl h)
    refine lv_goto (tgt := 2206) hx hb d13 ht ?_
    exact kk H locs hP hD hS
/-- the same of a boolean -/
theorem la_tailb {q : Nat} {off : Int} {W1 : va_W} {r0 o0 kk0 : Nat} {kx bx : Int} {fJ : Nat → Int} (hF : lwF p s m args c R D k A) (hP : va_P D vwCl W1 H) (hD : va_D A W1) (hS : va_S A s.heap H locs) (hls : ls.size = 9)
    (hT : zXc l yX8_thrown wsX8_thrown D k r0 10 [] W1 kx W1) (hJ : W1[kk0]? = some (o0, .inl (k 4, 1, .inr (.inl (fun j => (iI (fJ j)).toInt64))))) (hk : 0 ≤ kx ∧ kx ≤ 3) (zb : kx = 0 → bx = 0 ∨ bx = 1) (hv : kx = 0 → fJ 0 = bx)
    (hl2 : ls[2]? = some (.val (.ref r0))) (hl3 : ls[3]? = some (.val (.ref o0))) (hl6 : ls[6]? = some (.val (.int (iI kx)))) (hl7 : ls[7]? = some (.val (.int (iI bx)))) (hcl : cells ≤ R.cells ∧ slots ≤ R.slots)
    (d0 : decode cL_law q = .ok (.aload_n 2, 1)) (d1 : decode cL_law (q + 1) = .ok (.invokevirtual 136, 3)) (d2 : decode cL_law (q + 4) = .ok (.iload 6, 2)) (d3 : decode cL_law (q + 6) = .ok (.if_icmp .eq 5, 3)) (d4 : decode cL_law (q + 11) = .ok (.iload 6, 2)) (d5 : decode cL_law (q + 13) = .ok (.ifCond .ne 22, 3)) (d6 : decode cL_law (q + 16) = .ok (.aload_n 3, 1)) (d7 : decode cL_law (q + 17) = .ok (.iconst 0, 1)) (d8 : decode cL_law (q + 18) = .ok (.laload, 1)) (d9 : decode cL_law (q + 19) = .ok (.iload 7, 2)) (e1 : decode cL_law (q + 21) = .ok (.ifCond .eq 7, 3)) (e2 : decode cL_law (q + 24) = .ok (.lconst 1, 1)) (e3 : decode cL_law (q + 25) = .ok (.goto 4, 3)) (e4 : decode cL_law (q + 28) = .ok (.lconst 0, 1)) (d11 : decode cL_law (q + 29) = .ok (.lcmp, 1)) (d12 : decode cL_law (q + 30) = .ok (.ifCond .eq 5, 3)) (d13 : decode cL_law (q + 35) = .ok (.goto off, 3)) (ht : ((q + 35 : Nat) : Int) + off = ((2206 : Nat) : Int))
    (kk : ∀ (H1 : Heap) (locs1 : List Loc), va_P D vwCl W1 H1 → va_D A W1 → va_S A s.heap H1 locs1 → W p l e R s m args below meth c H1 locs1 cells slots Q (F0 m 2206 ls [])) : W p l e R s m args below meth c H locs cells slots Q (F0 m q ls []) := by
  obtain ⟨hx, hb, hml, hown, hts, hK, hG, hE, hA, hR1, hR2⟩ := id hF
  refine lv_aload_n hx hb d0 rfl hl2 ?_
  refine la_V (As := []) (rest := []) (idx := 136) (n := 0) hF hP hD hS hls hT rfl gL_law_X8_thrown rfl (by decide +kernel) rfl (Nat.le_of_ble_eq_true rfl) (Nat.le_of_ble_eq_true rfl) d1 hcl (fun H locs hP hD hS => ?_)
  refine lv_iload hx hb d2 hl6 ?_
  have zk : zR kx := ⟨by omega, by omega⟩
  refine zi_icmp_eq (tgt := q + 11) hx hb d3 (by omega) zk zk (fun _ => ?_) (fun h => absurd rfl h)
  refine lv_iload hx hb d4 hl6 ?_
  refine zi_if_ne (tgt := q + 35) hx hb d5 (by omega) zk (fun _ => ?_) (fun h0 => ?_)
  · refine lv_goto (tgt := 2206) hx hb d13 ht ?_
    exact kk H locs hP hD hS
  · have zb := zb h0
    refine lv_aload_n hx hb d6 rfl hl3 ?_
    refine lv_iconst (v := iI 0) hx hb d7 rfl ?_
    refine va_lald hx hb hK hP kk0 4 hJ rfl (i := iI 0) (z_in (by omega) (by omega) (by decide)) d8 ?_
    refine lv_iload hx hb d9 hl7 ?_
    have fin : ∀ w : Int64, w = (iI bx).toInt64 → W p l e R s m args below meth c H locs cells slots Q (F0 m (q + 29) ls [.long w, .long ((iI (fJ (iI 0).toNatClampNeg)).toInt64)]) := by
      intro w hw
      refine W.lcmp hx hb d11 ?_
      have e : lg_cmp ((iI (fJ (iI 0).toNatClampNeg)).toInt64) w = iI 0 := by
        show lg_cmp ((iI (fJ 0)).toInt64) w = 0
        rw [hv h0, hw]
        exact (lg_cmp_eq _ _).mpr rfl
      rw [e]
      refine zi_if_eq (tgt := q + 35) hx hb d12 (by omega) ⟨by decide, by decide⟩ (fun _ => ?_) (fun h => absurd rfl h)
      refine lv_goto (tgt := 2206) hx hb d13 ht ?_
      exact kk H locs hP hD hS
    refine zi_if_eq (tgt := q + 28) hx hb e1 (by omega) ⟨by omega, by omega⟩ (fun h => ?_) (fun h => ?_)
    · refine lv_lconst (v := 0) hx hb e4 rfl ?_
      exact fin 0 (by rw [h]; rfl)
    · refine lv_lconst (v := 1) hx hb e2 rfl ?_
      refine lv_goto (tgt := q + 29) hx hb e3 (by omega) ?_
      exact fin 1 (by rw [show bx = 1 by omega]; rfl)
end LAW
