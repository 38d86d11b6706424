/-! throws: what they need of the tables; contracts that surely throw -/
abbrev zEc : List String := ["java/lang/IndexOutOfBoundsException", "java/lang/IllegalArgumentException", "java/lang/UnsupportedOperationException", "java/util/NoSuchElementException", "java/lang/IllegalStateException", "java/lang/ArithmeticException"]
abbrev zEd : List String := ["java/lang/RuntimeException", "java/lang/Exception", Bundle.tN]
abbrev zEn : List (String × String) := [("java/lang/IllegalArgumentException", "java/lang/IndexOutOfBoundsException"), ("java/lang/UnsupportedOperationException", "java/lang/IndexOutOfBoundsException"), ("java/lang/UnsupportedOperationException", "java/lang/IllegalArgumentException"), ("java/util/NoSuchElementException", "java/lang/IndexOutOfBoundsException")]
abbrev zNm : List String := ["java/lang/RuntimeException", "java/lang/Exception"]
abbrev zBn (cls : String) : List Cond := [.castable cls cls, .declares (Bundle.initS "java/lang/RuntimeException"), .declares (Bundle.initS "java/lang/Exception"), .declares (Bundle.initS Bundle.tN)]
def zE (U : State) : Prop := (∀ q ∈ zEc, va_Nw (.castable q q) U) ∧ (∀ q ∈ zEd, va_Nw (.declares (Bundle.initS q)) U) ∧ ∀ q ∈ zEn, va_Nc q.1 q.2 U
theorem zE.blind {U : State} (h : zE U) (g : JFrame) (mk : MethodId) (a : Array Value) : zE (U.calling g mk a) := ⟨fun q hq => va_Nw.same (u := U) (U := U.calling g mk a) rfl rfl (h.1 q hq), fun q hq => va_Nw.same (u := U) (U := U.calling g mk a) rfl rfl (h.2.1 q hq), fun q hq => va_Nc.moved (u := U) (U := U.calling g mk a) (Vm.Alike.refl U.vm) (h.2.2 q hq)⟩
theorem zE.warm {s U : State} (h : zE s) (hW : s.WarmedH U.vm) : zE U := ⟨fun q hq => va_Nw.warmC hW (h.1 q hq), fun q hq => va_Nw.warmD hW (h.2.1 q hq), fun q hq => va_Nc.moved hW.alike (h.2.2 q hq)⟩
def zPx (D : va_G) (k : Nat → ClassId) (av : List Value) (w : va_W) (sz : Nat) : Array Value → State → Prop := fun a U => zPc D k av w sz a U ∧ zE U
theorem zPx.blind (D : va_G) (k : Nat → ClassId) (av : List Value) (w : va_W) (sz : Nat) : FrameBlind (zPx D k av w sz) := by
  rintro a U g mk ⟨h1, h2⟩
  exact ⟨zPc.blind D k av w sz _ _ _ _ h1, h2.blind g mk a⟩
abbrev zNo : Array Value → State → Outcome → State → Prop := fun _ _ _ _ => False
abbrev zXC (D : va_G) (A : Nat → Prop) (E : String) (w' : va_W) : String → State → State → Prop := vx_X (fun (_ : Unit) => True) (fun E' _ t => E' = E ∧ va_P D vwCl w' t.heap) A
/-- the method throws an E, and the world is w' -/
def zMx (l : Launch) (y : MethodName) (ws : List Cond) (rm : Room) (D : va_G) (k : Nat → ClassId) (av : List Value) (w : va_W) (E : String) (w' : va_W) (mc ms : Nat) : Prop := ∀ sz : Nat, vx_Met l y ws rm (zPx D k av w sz) zNo (zXC D (va_A w sz) E w') mc ms (va_A w sz)
theorem zMx_of {l : Launch} {y : MethodName} {ws ws' : List Cond} {rm : Room} {D : va_G} {k : Nat → ClassId} {av : List Value} {w w' : va_W} {E : String} {mc ms : Nat} {cc : ByteArray} {maxL : Nat} {ret : Option FieldType} (hy : plainName y.cls = true) (hw : ws = Cond.code y cc maxL ret :: ws') (hn : (lg_sl av).length ≤ maxL)
    (body : ∀ (p : Program) (e : Env) (s : State) (m : MethodId) (args : Array Value) (below : List Frame) (meth : Method) (c : Code) (A : Nat → Prop) (ls : Array Slot), p.tables.exec = Jvm.exec → c.code = cc → meth.sig.returnType = ret → c.maxLocals = maxL → s.vm.findClass y.cls = some m.cls → (∀ w ∈ ws, w.before args s = true) → meth.locks = false → va_K D vwCl (zT k) s → va_P D vwCl w s.heap → va_D A w → zG A s → zE s → (∀ x ∈ c.exceptionTable.toList, False) → (∀ q : Nat, s.heap.size ≤ q → A q) → va_S A s.heap s.heap [] → lv_has ls maxL (lv_args 0 av) →
      W p l e rm s m args below meth c s.heap [] 0 0 (vx_MQ below zNo (zXC D A E w') args s mc ms A) (F0 m 0 ls [])) : zMx l y ws rm D k av w E w' mc ms := by
  intro sz
  refine vx_ofW (cc := cc) (maxL := maxL) (ret := ret) hy hw ?_
  intro p e s m args below meth c s₁ B hml ht hv
  obtain ⟨⟨rfl, hsz, hP, hK, hD0, hG⟩, hE⟩ := hv
  have hl := lv_entry av (n := maxL) hn
  rw [lg_entry_eq]
  subst hsz
  exact body p e s m _ below meth c _ _ B.exec B.bytes B.returns hml (findClass_of_methodNamed B.named) (atoms_spec (ws := ws) B.pre) B.notSynchronized hK hP hD0.self hG hE ht (fun q h => Or.inr h) va_S.rf hl
theorem zNm_fit : ∀ n ∈ zNm, Bundle.fit n = true := by decide +kernel
theorem zXm_ioob : "java/lang/IndexOutOfBoundsException" ∈ zEc := by decide +kernel
theorem zXf_ioob : Bundle.fit "java/lang/IndexOutOfBoundsException" = true := by decide +kernel
theorem zXn_ioob : ∀ w ∈ (vx_atS RX7 130 "java/lang/IndexOutOfBoundsException" zNm).filter (fun w => !goodWord w), w ∈ zBn "java/lang/IndexOutOfBoundsException" := by decide +kernel
theorem zXg_ioob : ∀ w ∈ Cond.classLink RX7 126 "java/lang/IndexOutOfBoundsException" :: Cond.initialized "java/lang/IndexOutOfBoundsException" :: vx_atS RX7 130 "java/lang/IndexOutOfBoundsException" zNm, vx_ot w = true := by decide +kernel
theorem zXm_iarg : "java/lang/IllegalArgumentException" ∈ zEc := by decide +kernel
theorem zXf_iarg : Bundle.fit "java/lang/IllegalArgumentException" = true := by decide +kernel
theorem zXn_iarg : ∀ w ∈ (vx_atS RX7 141 "java/lang/IllegalArgumentException" zNm).filter (fun w => !goodWord w), w ∈ zBn "java/lang/IllegalArgumentException" := by decide +kernel
theorem zXg_iarg : ∀ w ∈ Cond.classLink RX7 137 "java/lang/IllegalArgumentException" :: Cond.initialized "java/lang/IllegalArgumentException" :: vx_atS RX7 141 "java/lang/IllegalArgumentException" zNm, vx_ot w = true := by decide +kernel
theorem zXm_unsu : "java/lang/UnsupportedOperationException" ∈ zEc := by decide +kernel
theorem zXf_unsu : Bundle.fit "java/lang/UnsupportedOperationException" = true := by decide +kernel
theorem zXn_unsu : ∀ w ∈ (vx_atS RX7 258 "java/lang/UnsupportedOperationException" zNm).filter (fun w => !goodWord w), w ∈ zBn "java/lang/UnsupportedOperationException" := by decide +kernel
theorem zXg_unsu : ∀ w ∈ Cond.classLink RX7 254 "java/lang/UnsupportedOperationException" :: Cond.initialized "java/lang/UnsupportedOperationException" :: vx_atS RX7 258 "java/lang/UnsupportedOperationException" zNm, vx_ot w = true := by decide +kernel
theorem zXm_nose : "java/util/NoSuchElementException" ∈ zEc := by decide +kernel
theorem zXf_nose : Bundle.fit "java/util/NoSuchElementException" = true := by decide +kernel
theorem zXn_nose : ∀ w ∈ (nx_atS RX7 192 "java/util/NoSuchElementException" 13 prog_24_method_4_code "java/lang/RuntimeException" ["java/lang/Exception"]).filter (fun w => !goodWord w), w ∈ zBn "java/util/NoSuchElementException" := by decide +kernel
theorem zXg_nose : ∀ w ∈ Cond.classLink RX7 188 "java/util/NoSuchElementException" :: Cond.initialized "java/util/NoSuchElementException" :: nx_atS RX7 192 "java/util/NoSuchElementException" 13 prog_24_method_4_code "java/lang/RuntimeException" ["java/lang/Exception"], vx_ot w = true := by decide +kernel
theorem zXm_ista : "java/lang/IllegalStateException" ∈ zEc := by decide +kernel
theorem zXf_ista : Bundle.fit "java/lang/IllegalStateException" = true := by decide +kernel
theorem zXn_ista : ∀ w ∈ (vx_atS RX7 239 "java/lang/IllegalStateException" zNm).filter (fun w => !goodWord w), w ∈ zBn "java/lang/IllegalStateException" := by decide +kernel
theorem zXg_ista : ∀ w ∈ Cond.classLink RX7 235 "java/lang/IllegalStateException" :: Cond.initialized "java/lang/IllegalStateException" :: vx_atS RX7 239 "java/lang/IllegalStateException" zNm, vx_ot w = true := by decide +kernel
theorem zXm_arit : "java/lang/ArithmeticException" ∈ zEc := by decide +kernel
theorem zXf_arit : Bundle.fit "java/lang/ArithmeticException" = true := by decide +kernel
theorem zXn_arit : ∀ w ∈ (vx_atS RX7 293 "java/lang/ArithmeticException" zNm).filter (fun w => !goodWord w), w ∈ zBn "java/lang/ArithmeticException" := by decide +kernel
theorem zXg_arit : ∀ w ∈ Cond.classLink RX7 289 "java/lang/ArithmeticException" :: Cond.initialized "java/lang/ArithmeticException" :: vx_atS RX7 293 "java/lang/ArithmeticException" zNm, vx_ot w = true := by decide +kernel
section ZX
variable {p : Program} {l : Launch} {e : Env} {R : Room} {s : State} {m : MethodId} {args : Array Value} {below : List Frame} {meth : Method} {c : Code} {H : Heap} {locs : List Loc} {cells slots : Nat} {Q : State → Prop}
variable {cc : ByteArray} {pc : Nat} {ls : Array Slot} {rest : List Value} {D : va_G} {A : Nat → Prop} {mc ms : Nat} {w w' : va_W} {k : Nat → ClassId} {ws wc wc' : va_W} {b : Nat} {As : List Value}
theorem z_hat {cls : String} {ic : Nat} (hE : zE s) (hc : cls ∈ zEc) (h1 : ∀ w ∈ (vx_atS RX7 ic cls zNm).filter goodWord, w.before args s = true) (h2 : ∀ w ∈ (vx_atS RX7 ic cls zNm).filter (fun w => !goodWord w), w ∈ zBn cls) : ∀ w ∈ vx_atS RX7 ic cls zNm, w.before args s = true :=
  vx_hat h1 h2 (vx_c (va_Nw.use rfl (hE.1 cls hc)) (vx_c (va_Nw.use rfl (hE.2.1 _ List.mem_cons_self)) (vx_c (va_Nw.use rfl (hE.2.1 _ (List.mem_cons_of_mem _ List.mem_cons_self))) (vx_c (va_Nw.use rfl (hE.2.1 _ (List.mem_cons_of_mem _ (List.mem_cons_of_mem _ List.mem_cons_self)))) vx_n))))
theorem z_xend {cls : String} (hP : va_P D vwCl w' H) (hS : va_S A s.heap H locs) : ∀ t : State, s.vm.Alike t.vm → H.size ≤ t.heap.size → (∀ q : Nat, q < H.size → t.heap[q]? = H[q]?) → zXC D A cls w' cls s t :=
  fun t _ hz hk => ⟨(), trivial, ⟨rfl, fun i q hq => (hP i q hq).kept (hk q.1 (hP i q hq).lt)⟩, Nat.le_trans hS.1 hz, fun q h1 h2 => by rw [hk q (Nat.lt_of_lt_of_le h1 hS.1)]; exact hS.2.1 q h1 h2⟩
theorem z_thrS {cls text : String} {ik is ic : Nat} (hx : p.tables.exec = Jvm.exec) (hb : c.code = cc) (hst : l.stackTraces = false) (hown : s.vm.findClass RX7 = some m.cls) (hfit : Bundle.fit cls = true) (hcm : cls ∈ zEc) (hk : (Cond.classLink RX7 ik cls).before args s = true) (hini : (Cond.initialized cls).before args s = true) (htx : (is, text) ∈ zStrs) (hG : zG A s) (hE : zE s)
    (h1 : ∀ w ∈ (vx_atS RX7 ic cls zNm).filter goodWord, w.before args s = true) (h2 : ∀ w ∈ (vx_atS RX7 ic cls zNm).filter (fun w => !goodWord w), w ∈ zBn cls) (hgood : ∀ w ∈ Cond.classLink RX7 ik cls :: Cond.initialized cls :: vx_atS RX7 ic cls zNm, vx_ot w = true) (hS : va_S A s.heap H locs) (hsize : ls.size = c.maxLocals)
    (d0 : decode cc pc = .ok (.new ik, 3)) (d3 : decode cc (pc + 3) = .ok (.dup, 1)) (d4 : decode cc (pc + 4) = .ok (.ldc is, 2)) (d5 : decode cc (pc + 6) = .ok (.invokespecial ic, 3)) (d6 : decode cc (pc + 9) = .ok (.athrow, 1)) (ht : ∀ x ∈ c.exceptionTable.toList, False)
    (hRf : 5 < R.frames) (hRl : (rest.map fun v => v.category).sum + 82 ≤ R.locals) (hRc : cells + 1 ≤ R.cells) (hRs : slots + 6 ≤ R.slots) (hlocks : meth.locks = false) (hP : va_P D vwCl w' H) (hc : cells + 1 ≤ mc) (hs : slots + 6 ≤ ms) :
    W p l e R s m args below meth c H locs cells slots (vx_MQ below zNo (zXC D A cls w') args s mc ms A) (F0 m pc ls rest) := by
  obtain ⟨sa, hstr⟩ := hG.2.2.2 (is, text) htx
  exact vx_throwS hx hb hst hown hfit zNm_fit hk hini hstr (z_hat hE hcm h1 h2) hgood hG.1 hG.2.1 hS hsize d0 d3 d4 d5 d6 (fun x hx => absurd (ht x hx) id) (by first | exact hRf | (have h9 : zNm.length = 2 := rfl; omega)) (by first | exact hRl | (have h9 : zNm.length = 2 := rfl; omega)) hRc hRs hlocks (z_xend hP hS) (fun z hz => hS.2.2 z hz) hc hs
theorem z_thrW {cls text : String} {ik is ic : Nat} (hx : p.tables.exec = Jvm.exec) (hb : c.code = cc) (hst : l.stackTraces = false) (hown : s.vm.findClass RX7 = some m.cls) (hfit : Bundle.fit cls = true) (hcm : cls ∈ zEc) (hk : (Cond.classLink RX7 ik cls).before args s = true) (hini : (Cond.initialized cls).before args s = true) (htx : (is, text) ∈ zStrs) (hG : zG A s) (hE : zE s)
    (h1 : ∀ w ∈ (vx_atS RX7 ic cls zNm).filter goodWord, w.before args s = true) (h2 : ∀ w ∈ (vx_atS RX7 ic cls zNm).filter (fun w => !goodWord w), w ∈ zBn cls) (hgood : ∀ w ∈ Cond.classLink RX7 ik cls :: Cond.initialized cls :: vx_atS RX7 ic cls zNm, vx_ot w = true) (hS : va_S A s.heap H locs) (hsize : ls.size = c.maxLocals)
    (d0 : decode cc pc = .ok (.new ik, 3)) (d3 : decode cc (pc + 3) = .ok (.dup, 1)) (d4 : decode cc (pc + 4) = .ok (.ldc_w is, 3)) (d5 : decode cc (pc + 7) = .ok (.invokespecial ic, 3)) (d6 : decode cc (pc + 10) = .ok (.athrow, 1)) (ht : ∀ x ∈ c.exceptionTable.toList, False)
    (hRf : 5 < R.frames) (hRl : (rest.map fun v => v.category).sum + 82 ≤ R.locals) (hRc : cells + 1 ≤ R.cells) (hRs : slots + 6 ≤ R.slots) (hlocks : meth.locks = false) (hP : va_P D vwCl w' H) (hc : cells + 1 ≤ mc) (hs : slots + 6 ≤ ms) :
    W p l e R s m args below meth c H locs cells slots (vx_MQ below zNo (zXC D A cls w') args s mc ms A) (F0 m pc ls rest) := by
  obtain ⟨sa, hstr⟩ := hG.2.2.2 (is, text) htx
  exact vx_throwSW hx hb hst hown hfit zNm_fit hk hini hstr (z_hat hE hcm h1 h2) hgood hG.1 hG.2.1 hS hsize d0 d3 d4 d5 d6 (fun x hx => absurd (ht x hx) id) (by first | exact hRf | (have h9 : zNm.length = 2 := rfl; omega)) (by first | exact hRl | (have h9 : zNm.length = 2 := rfl; omega)) hRc hRs hlocks (z_xend hP hS) (fun z hz => hS.2.2 z hz) hc hs
theorem nz_0 : decode prog_24_method_4_code 0 = .ok (.aload_n 0, 1) := by decide +kernel
theorem nz_1 : decode prog_24_method_4_code 1 = .ok (.aload_n 1, 1) := by decide +kernel
theorem nz_2 : decode prog_24_method_4_code 2 = .ok (.invokespecial 13, 3) := by decide +kernel
theorem nz_5 : decode prog_24_method_4_code 5 = .ok (.return_, 1) := by decide +kernel
theorem z_hatN {cls : String} {ic : Nat} (hE : zE s) (hc : cls ∈ zEc) (h1 : ∀ w ∈ (nx_atS RX7 ic cls 13 prog_24_method_4_code "java/lang/RuntimeException" ["java/lang/Exception"]).filter goodWord, w.before args s = true) (h2 : ∀ w ∈ (nx_atS RX7 ic cls 13 prog_24_method_4_code "java/lang/RuntimeException" ["java/lang/Exception"]).filter (fun w => !goodWord w), w ∈ zBn cls) : ∀ w ∈ nx_atS RX7 ic cls 13 prog_24_method_4_code "java/lang/RuntimeException" ["java/lang/Exception"], w.before args s = true :=
  vx_hat h1 h2 (vx_c (va_Nw.use rfl (hE.1 cls hc)) (vx_c (va_Nw.use rfl (hE.2.1 _ List.mem_cons_self)) (vx_c (va_Nw.use rfl (hE.2.1 _ (List.mem_cons_of_mem _ List.mem_cons_self))) (vx_c (va_Nw.use rfl (hE.2.1 _ (List.mem_cons_of_mem _ (List.mem_cons_of_mem _ List.mem_cons_self)))) vx_n))))
theorem z_thrSN {cls text : String} {ik is ic : Nat} (hx : p.tables.exec = Jvm.exec) (hb : c.code = cc) (hst : l.stackTraces = false) (hown : s.vm.findClass RX7 = some m.cls) (hfit : Bundle.fit cls = true) (hcm : cls ∈ zEc) (hk : (Cond.classLink RX7 ik cls).before args s = true) (hini : (Cond.initialized cls).before args s = true) (htx : (is, text) ∈ zStrs) (hG : zG A s) (hE : zE s)
    (h1 : ∀ w ∈ (nx_atS RX7 ic cls 13 prog_24_method_4_code "java/lang/RuntimeException" ["java/lang/Exception"]).filter goodWord, w.before args s = true) (h2 : ∀ w ∈ (nx_atS RX7 ic cls 13 prog_24_method_4_code "java/lang/RuntimeException" ["java/lang/Exception"]).filter (fun w => !goodWord w), w ∈ zBn cls) (hgood : ∀ w ∈ Cond.classLink RX7 ik cls :: Cond.initialized cls :: nx_atS RX7 ic cls 13 prog_24_method_4_code "java/lang/RuntimeException" ["java/lang/Exception"], vx_ot w = true) (hS : va_S A s.heap H locs) (hsize : ls.size = c.maxLocals)
    (d0 : decode cc pc = .ok (.new ik, 3)) (d3 : decode cc (pc + 3) = .ok (.dup, 1)) (d4 : decode cc (pc + 4) = .ok (.ldc is, 2)) (d5 : decode cc (pc + 6) = .ok (.invokespecial ic, 3)) (d6 : decode cc (pc + 9) = .ok (.athrow, 1)) (ht : ∀ x ∈ c.exceptionTable.toList, False)
    (hRf : 5 < R.frames) (hRl : (rest.map fun v => v.category).sum + 82 ≤ R.locals) (hRc : cells + 1 ≤ R.cells) (hRs : slots + 6 ≤ R.slots) (hlocks : meth.locks = false) (hP : va_P D vwCl w' H) (hc : cells + 1 ≤ mc) (hs : slots + 6 ≤ ms) :
    W p l e R s m args below meth c H locs cells slots (vx_MQ below zNo (zXC D A cls w') args s mc ms A) (F0 m pc ls rest) := by
  obtain ⟨sa, hstr⟩ := hG.2.2.2 (is, text) htx
  exact nx_throwS hx hb hst nz_0 nz_1 nz_2 nz_5 hown hfit zNm_fit hk hini hstr (z_hatN hE hcm h1 h2) hgood hG.1 hG.2.1 hS hsize d0 d3 d4 d5 d6 (fun x hx => absurd (ht x hx) id) (by first | exact hRf | (have h9 : zNm.length = 2 := rfl; omega)) (by first | exact hRl | (have h9 : zNm.length = 2 := rfl; omega)) hRc hRs hlocks (z_xend hP hS) (fun z hz => hS.2.2 z hz) hc hs
theorem z_thrWN {cls text : String} {ik is ic : Nat} (hx : p.tables.exec = Jvm.exec) (hb : c.code = cc) (hst : l.stackTraces = false) (hown : s.vm.findClass RX7 = some m.cls) (hfit : Bundle.fit cls = true) (hcm : cls ∈ zEc) (hk : (Cond.classLink RX7 ik cls).before args s = true) (hini : (Cond.initialized cls).before args s = true) (htx : (is, text) ∈ zStrs) (hG : zG A s) (hE : zE s)
    (h1 : ∀ w ∈ (nx_atS RX7 ic cls 13 prog_24_method_4_code "java/lang/RuntimeException" ["java/lang/Exception"]).filter goodWord, w.before args s = true) (h2 : ∀ w ∈ (nx_atS RX7 ic cls 13 prog_24_method_4_code "java/lang/RuntimeException" ["java/lang/Exception"]).filter (fun w => !goodWord w), w ∈ zBn cls) (hgood : ∀ w ∈ Cond.classLink RX7 ik cls :: Cond.initialized cls :: nx_atS RX7 ic cls 13 prog_24_method_4_code "java/lang/RuntimeException" ["java/lang/Exception"], vx_ot w = true) (hS : va_S A s.heap H locs) (hsize : ls.size = c.maxLocals)
    (d0 : decode cc pc = .ok (.new ik, 3)) (d3 : decode cc (pc + 3) = .ok (.dup, 1)) (d4 : decode cc (pc + 4) = .ok (.ldc_w is, 3)) (d5 : decode cc (pc + 7) = .ok (.invokespecial ic, 3)) (d6 : decode cc (pc + 10) = .ok (.athrow, 1)) (ht : ∀ x ∈ c.exceptionTable.toList, False)
    (hRf : 5 < R.frames) (hRl : (rest.map fun v => v.category).sum + 82 ≤ R.locals) (hRc : cells + 1 ≤ R.cells) (hRs : slots + 6 ≤ R.slots) (hlocks : meth.locks = false) (hP : va_P D vwCl w' H) (hc : cells + 1 ≤ mc) (hs : slots + 6 ≤ ms) :
    W p l e R s m args below meth c H locs cells slots (vx_MQ below zNo (zXC D A cls w') args s mc ms A) (F0 m pc ls rest) := by
  obtain ⟨sa, hstr⟩ := hG.2.2.2 (is, text) htx
  exact nx_throwSW hx hb hst nz_0 nz_1 nz_2 nz_5 hown hfit zNm_fit hk hini hstr (z_hatN hE hcm h1 h2) hgood hG.1 hG.2.1 hS hsize d0 d3 d4 d5 d6 (fun x hx => absurd (ht x hx) id) (by first | exact hRf | (have h9 : zNm.length = 2 := rfl; omega)) (by first | exact hRl | (have h9 : zNm.length = 2 := rfl; omega)) hRc hRs hlocks (z_xend hP hS) (fun z hz => hS.2.2 z hz) hc hs
/-- a call that throws, and so does this method -/
theorem z_axo {E : String} {st : List Value} {mc1 ms1 : Nat} (hr : vx_Run p l e R s m args below meth c H locs cells slots mc1 ms1 (F0 m pc ls st) rest (fun _ _ _ => False) (zXC D (va_A wc H.size) E wc') (va_A wc H.size)) (hA : ∀ q : Nat, s.heap.size ≤ q → A q) (hP : va_P D vwCl ws H) (hD : va_D A ws) (hS : va_S A s.heap H locs) (isC : List Nat) (hC : isC.map (fun i => ws[i]?) = wc.map some) (hf : wc'.map Prod.fst = wc.map Prod.fst)
    (ht : ∀ x ∈ c.exceptionTable.toList, False) (hlocks : meth.locks = false) (hw : w' = zset ws isC wc') (hc : cells + mc1 ≤ mc) (hs : slots + ms1 ≤ ms) : W p l e R s m args below meth c H locs cells slots (vx_MQ below zNo (zXC D A E w') args s mc ms A) (F0 m pc ls st) := by
  intro T hT X
  have hFc := va_free hD hS hA isC hC
  have hl : wc'.length = isC.length := by
    have h1 := congrArg List.length hC
    have h2 := congrArg List.length hf
    simp at h1 h2
    omega
  rcases hr T hT X with ⟨v, st₀, t, T', L, h0, X', hL, e1, e2, hQ, stp⟩ | ⟨q, st₀, t, T', L, E', ce, h0, X', hL, e1, e2, ⟨u, hp, ⟨hEE, hb⟩, hF⟩, hce, hcv, hcl, stp⟩
  · exact absurd hQ id
  · obtain ⟨k1, k2, k3⟩ := vx_keep h0 e1 hS (fun q _ h => hFc q h) hFc hL hF
    have hP1 : va_P D vwCl w' T'.heap := by rw [hw]; exact z_join hP hD isC hC hl k2 (by rw [e1]; exact hb)
    obtain ⟨t2, a1, b1⟩ := vx_out (l := l) (Qc := zNo) (XC := zXC D A E w') (args := args) (free := A) (mc := mc) (ms := ms) (pc := pc) (ls := ls) (rest := rest) (fun x hx => absurd (ht x hx) id) hlocks (by rw [e1]; exact hce) hcv hcl (fun t9 h9 _ => ⟨(), trivial, ⟨hEE, by rw [h9]; exact hP1⟩, k3.F h9⟩) k3.2.2 hc hs T' rfl X'
    exact ⟨t2, stp.trans a1, b1⟩
/-- a call that throws, behind it the handler -/
theorem z_axc {E : String} {st : List Value} {mc1 ms1 : Nat} (hr : vx_Run p l e R s m args below meth c H locs cells slots mc1 ms1 (F0 m pc ls st) rest (fun _ _ _ => False) (zXC D (va_A wc H.size) E wc') (va_A wc H.size)) (hA : ∀ q : Nat, s.heap.size ≤ q → A q) (hP : va_P D vwCl ws H) (hD : va_D A ws) (hS : va_S A s.heap H locs) (isC : List Nat) (hC : isC.map (fun i => ws[i]?) = wc.map some) (hf : wc'.map Prod.fst = wc.map Prod.fst)
    (kx : ∀ (ce : Cell) (q9 : Addr) (H1 : Heap) (locs1 : List Loc), va_P D vwCl (zset ws isC wc') H1 → va_D A (zset ws isC wc') → va_S A s.heap H1 locs1 → H1[q9]? = some ce → ce.vm = .none → s.vm.findClass E = some ce.cls → vx_W p l e R s m args below meth c H1 locs1 (cells + mc1) (slots + ms1) Q (F0 m pc ls rest) q9) : W p l e R s m args below meth c H locs cells slots Q (F0 m pc ls st) := by
  intro T hT X
  have hFc := va_free hD hS hA isC hC
  have hl : wc'.length = isC.length := by
    have h1 := congrArg List.length hC
    have h2 := congrArg List.length hf
    simp at h1 h2
    omega
  rcases hr T hT X with ⟨v, st₀, t, T', L, h0, X', hL, e1, e2, hQ, stp⟩ | ⟨q, st₀, t, T', L, E', ce, h0, X', hL, e1, e2, ⟨u, hp, ⟨hEE, hb⟩, hF⟩, hce, hcv, hcl, stp⟩
  · exact absurd hQ id
  · obtain ⟨k1, k2, k3⟩ := vx_keep h0 e1 hS (fun q _ h => hFc q h) hFc hL hF
    rw [hEE] at hcl
    obtain ⟨t2, a1, b1⟩ := kx ce q T'.heap (locs ++ L) (z_join hP hD isC hC hl k2 (by rw [e1]; exact hb)) (z_fst (zset_fst hC hf) hD) k3 (by rw [e1]; exact hce) hcv hcl T' rfl X'
    exact ⟨t2, stp.trans a1, b1⟩
theorem z_preSx (hK : va_K D vwCl (zT k) s) (hG : zG A s) (hE : zE s) (hA : ∀ q : Nat, s.heap.size ≤ q → A q) (hP : va_P D vwCl ws H) (hD : va_D A ws) (hS : va_S A s.heap H locs) (isC : List Nat) (hC : isC.map (fun i => ws[i]?) = wc.map some) (hnd : va_nd isC = true) : PreS s H (zPx D k As wc H.size) As :=
  ⟨zPx.blind _ _ _ _ _, fun U hU hW => ⟨(z_preS hK hG hA hP hD hS isC hC hnd).2 U hU hW, hE.warm hW⟩⟩
theorem z_preVx (hK : va_K D vwCl (zT k) s) (hG : zG A s) (hE : zE s) (hA : ∀ q : Nat, s.heap.size ≤ q → A q) (hP : va_P D vwCl ws H) (hD : va_D A ws) (hS : va_S A s.heap H locs) (isC : List Nat) (hC : isC.map (fun i => ws[i]?) = wc.map some) (hnd : va_nd isC = true) (ci : Nat) {q : vw_C} {fs : List Value} (hc : vwCl[ci]? = some q) (h0 : wc[0]? = some (b, .inr (ci, fs))) : PreV s H q.1 b (zPx D k (.ref b :: As) wc H.size) As :=
  ⟨zPx.blind _ _ _ _ _, va_recv hK (z_sub hP isC hC) hc h0, (z_preSx hK hG hE hA hP hD hS isC hC hnd).2⟩
theorem z_rem8 (hx : p.tables.exec = Jvm.exec) (hb : c.code = cc) {x : Int} (h0 : 0 ≤ x) (h1 : x < 1000) (hdg : decode cc pc = .ok (.irem, 1)) (kk : W p l e R s m args below meth c H locs cells slots Q (F0 m (pc + 1) ls (.int (iI (x % 8)) :: rest))) : W p l e R s m args below meth c H locs cells slots Q (F0 m pc ls (.int (iI 8) :: .int (iI x) :: rest)) := by
  refine lv_irem hx hb hdg (fun h => absurd (congrArg Int32.toInt h) (by decide)) ?_
  have e : iI x - iI x / iI 8 * iI 8 = iI (x % 8) := by
    rw [← Int32.toInt_inj, rem_toInt, iI_toInt ⟨by omega, by omega⟩, iI_toInt (z := 8) ⟨by decide, by decide⟩, iI_toInt ⟨by omega, by omega⟩, Int.tmod_eq_emod_of_nonneg h0]
  rw [e]
  exact kk
end ZX
/-- the factory's own cell: its parts lie at 1 (the plant), 16 (thought), 31 (before), 46 (the snapshot), 61 (the history), 183 (the input), 185 (the line) -/
def wFac (k : Nat → ClassId) (a : Nat → Nat) (S : Nat → Nat → Int) : va_W := [(a 0, .inr (9, [.ref (a 1), .ref (a 16), .ref (a 31), .ref (a 46), .ref (a 61), .ref (a 183), .ref (a 185), .int (iI (S 0 7)), .int (iI (S 0 8)), .int (iI (S 0 9)), .int (iI (S 0 10))]))]
/-- the history and its row of plants, which lie at 2 + 15 i -/
def wHist (k : Nat → ClassId) (a : Nat → Nat) (S : Nat → Nat → Int) : va_W := [(a 0, .inr (4, [.ref (a 1), .int (iI (S 0 1)), .int (iI (S 0 2))])), (a 1, .inl (k 3, 8, .inr (.inr (.inr (.inr (fun j => some (a (2 + 15 * j))))))))]
/-- the plant S as a copy of T -/
def wCopy (S T : Nat → Nat → Int) : Nat → Nat → Int := upA (upA (upA (upA (upA T 4 (cpyZ (T 4) (S 4) 0 0 (((T 3 1) * 4).toNat))) 7 (cpyZ (T 7) (S 7) 0 0 (((T 6 1) * 4).toNat))) 10 (cpyZ (T 10) (S 10) 0 0 (((T 9 1) * 4).toNat))) 12 (cpyZ (T 12) (S 12) 0 0 (((T 11 1) * 4).toNat))) 14 (cpyZ (T 14) (S 14) 0 0 4)
/-- arrays within bounds -/
def aOK (S : Nat → Nat → Int) : Prop := ∀ c, (c = 4 ∨ c = 7 ∨ c = 10 ∨ c = 12 ∨ c = 14) → zBk 900000 (S c)
/-- a plant within bounds -/
def pK (K : Int) (S : Nat → Nat → Int) : Prop := (∀ c, c ≤ 14 → zBk K (S c)) ∧ (0 ≤ S 3 1 ∧ S 3 1 ≤ 5) ∧ (0 ≤ S 6 1 ∧ S 6 1 ≤ 5) ∧ (0 ≤ S 9 1 ∧ S 9 1 ≤ 5) ∧ (0 ≤ S 11 1 ∧ S 11 1 ≤ 8) ∧ (0 ≤ S 13 1 ∧ S 13 1 ≤ 4)
abbrev pOK (S : Nat → Nat → Int) : Prop := pK 900000 S
theorem pK.b {K : Int} {S : Nat → Nat → Int} (h : pK K S) (hK : K ≤ 1000000000) (c : Nat) (hc : c ≤ 14) : zBf (S c) := (h.1 c hc).f hK
theorem pK.mono {K L : Int} {S : Nat → Nat → Int} (h : pK K S) (hK : K ≤ L) : pK L S := ⟨fun c hc => (h.1 c hc).mono hK, h.2⟩
theorem pOK_b {S : Nat → Nat → Int} (h : pOK S) (c : Nat) (hc : c ≤ 14) : zBf (S c) := (h.1 c hc).f (by decide)
theorem pOK_t {S : Nat → Nat → Int} (h : pOK S) (c : Nat) (hc : c ≤ 14) : zBt (S c) := (h.1 c hc).t (by decide)
theorem pOK_a {S : Nat → Nat → Int} (h : pOK S) : aOK S := fun c hc => h.1 c (by omega)
theorem wCopy_o {S T : Nat → Nat → Int} {c : Nat} (h4 : c ≠ 4) (h7 : c ≠ 7) (h10 : c ≠ 10) (h12 : c ≠ 12) (h14 : c ≠ 14) : wCopy S T c = T c := by
  unfold wCopy upA
  rw [if_neg h14, if_neg h12, if_neg h10, if_neg h7, if_neg h4]
theorem wCopy_b {S T : Nat → Nat → Int} (hS : aOK S) (hT : aOK T) {c : Nat} (hc : c = 4 ∨ c = 7 ∨ c = 10 ∨ c = 12 ∨ c = 14) : zBk 900000 (wCopy S T c) := by
  rcases hc with rfl | rfl | rfl | rfl | rfl
  · exact zBk.cpy (hT 4 (by omega)) (hS 4 (by omega)) _ _ _
  · exact zBk.cpy (hT 7 (by omega)) (hS 7 (by omega)) _ _ _
  · exact zBk.cpy (hT 10 (by omega)) (hS 10 (by omega)) _ _ _
  · exact zBk.cpy (hT 12 (by omega)) (hS 12 (by omega)) _ _ _
  · exact zBk.cpy (hT 14 (by omega)) (hS 14 (by omega)) _ _ _
theorem pOK_copy {S T : Nat → Nat → Int} (hS : aOK S) (hT : pOK T) : pOK (wCopy S T) := by
  refine ⟨fun c hc => ?_, hT.2⟩
  rcases Classical.em (c = 4 ∨ c = 7 ∨ c = 10 ∨ c = 12 ∨ c = 14) with h | h
  · exact wCopy_b hS (pOK_a hT) h
  · rw [wCopy_o (by omega) (by omega) (by omega) (by omega) (by omega)]
    exact hT.1 c hc

