/-- the law's row of one long -/
def wArrJ (k : Nat → ClassId) (a : Nat → Nat) (S : Nat → Nat → Int) : va_W := [(a 0, .inl (k 4, 1, .inr (.inl (fun j => (iI (S 0 j)).toInt64))))]
/-- a method with handlers that returns v -/
def zML (l : Launch) (y : MethodName) (ws : List Cond) (rm : Room) (D : va_G) (k : Nat → ClassId) (av : List Value) (w : va_W) (v : Int) (w' : va_W) (mc ms : Nat) : Prop := ∀ sz : Nat, vx_Met l y ws rm (zPx D k av w sz) (zQi D (va_A w sz) v w') (fun _ _ _ => False) mc ms (va_A w sz)
theorem zML_of {l : Launch} {y : MethodName} {ws ws' : List Cond} {rm : Room} {D : va_G} {k : Nat → ClassId} {av : List Value} {w w' : va_W} {v : Int} {mc ms : Nat} {cc : ByteArray} {maxL : Nat} {ret : Option FieldType} {hh : List (Nat × Nat × Nat × Nat)} (hy : plainName y.cls = true) (hw : ws = Cond.codeWith y cc maxL ret hh :: ws') (hn : (lg_sl av).length ≤ maxL)
    (body : ∀ (p : Program) (e : Env) (s : State) (m : MethodId) (args : Array Value) (below : List Frame) (meth : Method) (c : Code) (A : Nat → Prop) (ls : Array Slot), p.tables.exec = Jvm.exec → c.code = cc → meth.sig.returnType = ret → c.maxLocals = maxL → s.vm.findClass y.cls = some m.cls → (∀ w ∈ ws, w.before args s = true) → meth.locks = false → va_K D vwCl (zT k) s → va_P D vwCl w s.heap → va_D A w → zG A s → zE s → c.exceptionTable.toList = tableOf hh → (∀ q : Nat, s.heap.size ≤ q → A q) → va_S A s.heap s.heap [] → lv_has ls maxL (lv_args 0 av) →
      W p l e rm s m args below meth c s.heap [] 0 0 (vx_MQ below (zQi D A v w') (fun _ _ _ => False) args s mc ms A) (F0 m 0 ls [])) : zML l y ws rm D k av w v w' mc ms := by
  intro sz
  refine vx_ofWH (cc := cc) (maxL := maxL) (ret := ret) (hh := hh) hy hw ?_
  intro p e s m args below meth c s₁ B hml hv
  obtain ⟨⟨rfl, hsz, hP, hK, hD0, hG⟩, hE⟩ := hv
  have hts := atoms_spec (ws := ws) B.pre
  have hl := lv_entry av (n := maxL) hn
  rw [lg_entry_eq]
  subst hsz
  exact body p e s m _ below meth c _ _ B.exec B.bytes B.returns hml (findClass_of_methodNamed B.named) hts B.notSynchronized hK hP hD0.self hG hE (vx_table (x := y) B (hts _ (by rw [hw]; exact List.mem_cons_self))) (fun q h => Or.inr h) va_S.rf hl
theorem upZ_lI (f : Nat → Int) (k : Nat) (v : Int) : vp_updL (fun j => (iI (f j)).toInt64) k ((iI v).toInt64) = fun j => (iI (upZ f k v j)).toInt64 := by
  funext j
  unfold vp_updL upZ
  by_cases h : j = k
  · rw [if_pos h, if_pos h]
  · rw [if_neg h, if_neg h]
section ZL
variable {p : Program} {l : Launch} {e : Env} {R : Room} {s : State} {m : MethodId} {args : Array Value} {below : List Frame} {meth : Method} {c : Code} {H : Heap} {locs : List Loc} {cells slots : Nat} {Q : State → Prop}
variable {cc : ByteArray} {pc : Nat} {ls : Array Slot} {rest : List Value} {D : va_G} {cl : List vw_C} {A : Nat → Prop} {a : Nat} {tys : List (ClassId × FieldType)} {ws : va_W} {H0 : Heap}
theorem z_last (hx : p.tables.exec = Jvm.exec) (hb : c.code = cc) (hK : va_K D cl tys s) (hP : va_P D cl ws H) (hD : va_D A ws) (hS : va_S A H0 H locs) (q0 t0 : Nat) {cA : ClassId} {n : Nat} {f : Nat → Int} (ha : ws[q0]? = some (a, .inl (cA, n, .inr (.inl (fun j => (iI (f j)).toInt64))))) (ht : tys[t0]? = some (cA, .long)) {i x : Int} (h0 : 0 ≤ i) (h1 : i < (n : Int)) (hn : n ≤ 100000) (j : Nat) (hj : i.toNat = j) (hdg : decode cc pc = .ok (.lastore, 1))
    (k : ∀ (H1 : Heap) (locs1 : List Loc), va_P D cl (ws.set q0 (a, .inl (cA, n, .inr (.inl (fun q => (iI (upZ f j x q)).toInt64))))) H1 → va_D A (ws.set q0 (a, .inl (cA, n, .inr (.inl (fun q => (iI (upZ f j x q)).toInt64))))) → va_S A H0 H1 locs1 → W p l e R s m args below meth c H1 locs1 cells slots Q (F0 m (pc + 1) ls rest)) : W p l e R s m args below meth c H locs cells slots Q (F0 m pc ls (.long (iI x).toInt64 :: .int (iI i) :: .ref a :: rest)) :=
  va_last hx hb hK hP hD hS q0 t0 ha ht (z_in h0 h1 hn) hdg (fun H1 locs1 => by rw [iI_cl (zR_of h0 h1 hn), hj, upZ_lI]; exact k H1 locs1)
theorem z_axc0 {A : Nat → Prop} {wc : va_W} {E : String} {st : List Value} {mc1 ms1 : Nat} (hr : vx_Run p l e R s m args below meth c H locs cells slots mc1 ms1 (F0 m pc ls st) rest (fun _ _ _ => False) (zXC D (va_A wc H.size) E wc) (va_A wc H.size)) (hA : ∀ q : Nat, s.heap.size ≤ q → A q) (hP : va_P D vwCl ws H) (hD : va_D A ws) (hS : va_S A s.heap H locs) (isC : List Nat) (hC : isC.map (fun i => ws[i]?) = wc.map some)
    (kx : ∀ (ce : Cell) (q9 : Addr) (H1 : Heap) (locs1 : List Loc), va_P D vwCl ws H1 → va_S A s.heap H1 locs1 → H1[q9]? = some ce → ce.vm = .none → s.vm.findClass E = some ce.cls → vx_W p l e R s m args below meth c H1 locs1 (cells + mc1) (slots + ms1) Q (F0 m pc ls rest) q9) : W p l e R s m args below meth c H locs cells slots Q (F0 m pc ls st) :=
  z_axc hr hA hP hD hS isC hC rfl (fun ce q9 H1 locs1 hP1 _ hS1 h1 h2 h3 => kx ce q9 H1 locs1 (by rw [zset_same hC] at hP1; exact hP1) hS1 h1 h2 h3)
end ZL

