/-! doubles and floats: contracts -/
abbrev zQd (D : va_G) (A : Nat → Prop) (v : UInt64) (w' : va_W) : Array Value → State → Outcome → State → Prop := va_Qd (fun r (_ : Unit) => r = v) (fun _ t => va_P D vwCl w' t.heap) A
abbrev zQf (D : va_G) (A : Nat → Prop) (v : UInt32) (w' : va_W) : Array Value → State → Outcome → State → Prop := va_Qf (fun r (_ : Unit) => r = v) (fun _ t => va_P D vwCl w' t.heap) A
def zMd (l : Launch) (y : MethodName) (ws : List Cond) (rm : Room) (D : va_G) (k : Nat → ClassId) (av : List Value) (w : va_W) (v : UInt64) (w' : va_W) (mc ms : Nat) : Prop := ∀ sz : Nat, Met l y ws rm (zPc D k av w sz) (zQd D (va_A w sz) v w') mc ms (va_A w sz)
def zMf (l : Launch) (y : MethodName) (ws : List Cond) (rm : Room) (D : va_G) (k : Nat → ClassId) (av : List Value) (w : va_W) (v : UInt32) (w' : va_W) (mc ms : Nat) : Prop := ∀ sz : Nat, Met l y ws rm (zPc D k av w sz) (zQf D (va_A w sz) v w') mc ms (va_A w sz)
theorem zMd_of {l : Launch} {y : MethodName} {ws ws' : List Cond} {rm : Room} {D : va_G} {k : Nat → ClassId} {av : List Value} {w w' : va_W} {v : UInt64} {mc ms : Nat} {cc : ByteArray} {maxL : Nat} {ret : Option FieldType} (hy : plainName y.cls = true) (hw : ws = Cond.code y cc maxL ret :: ws') (hn : (lg_sl av).length ≤ maxL)
    (body : ∀ (p : Program) (e : Env) (s : State) (m : MethodId) (args : Array Value) (below : List Frame) (meth : Method) (c : Code) (A : Nat → Prop) (ls : Array Slot), p.tables.exec = Jvm.exec → c.code = cc → meth.sig.returnType = ret → c.maxLocals = maxL → s.vm.findClass y.cls = some m.cls → (∀ w ∈ ws, w.before args s = true) → meth.locks = false → va_K D vwCl (zT k) s → va_P D vwCl w s.heap → va_D A w → zG A s → (∀ q : Nat, s.heap.size ≤ q → A q) → va_S A s.heap s.heap [] → lv_has ls maxL (lv_args 0 av) →
      W p l e rm s m args below meth c s.heap [] 0 0 (MQ below (zQd D A v w') args s mc ms A) (F0 m 0 ls [])) : zMd l y ws rm D k av w v w' mc ms := by
  intro sz
  refine Met.ofW (cc := cc) (maxL := maxL) (ret := ret) hy hw ?_
  intro p e s m args below meth c s₁ B hml hv
  obtain ⟨rfl, hsz, hP, hK, hD0, hG⟩ := hv
  have hl := lv_entry av (n := maxL) hn
  rw [lg_entry_eq]
  subst hsz
  exact body p e s m _ below meth c _ _ B.exec B.bytes B.returns hml (findClass_of_methodNamed B.named) (atoms_spec (ws := ws) B.pre) B.notSynchronized hK hP hD0.self hG (fun q h => Or.inr h) va_S.rf hl
theorem zMf_of {l : Launch} {y : MethodName} {ws ws' : List Cond} {rm : Room} {D : va_G} {k : Nat → ClassId} {av : List Value} {w w' : va_W} {v : UInt32} {mc ms : Nat} {cc : ByteArray} {maxL : Nat} {ret : Option FieldType} (hy : plainName y.cls = true) (hw : ws = Cond.code y cc maxL ret :: ws') (hn : (lg_sl av).length ≤ maxL)
    (body : ∀ (p : Program) (e : Env) (s : State) (m : MethodId) (args : Array Value) (below : List Frame) (meth : Method) (c : Code) (A : Nat → Prop) (ls : Array Slot), p.tables.exec = Jvm.exec → c.code = cc → meth.sig.returnType = ret → c.maxLocals = maxL → s.vm.findClass y.cls = some m.cls → (∀ w ∈ ws, w.before args s = true) → meth.locks = false → va_K D vwCl (zT k) s → va_P D vwCl w s.heap → va_D A w → zG A s → (∀ q : Nat, s.heap.size ≤ q → A q) → va_S A s.heap s.heap [] → lv_has ls maxL (lv_args 0 av) →
      W p l e rm s m args below meth c s.heap [] 0 0 (MQ below (zQf D A v w') args s mc ms A) (F0 m 0 ls [])) : zMf l y ws rm D k av w v w' mc ms := by
  intro sz
  refine Met.ofW (cc := cc) (maxL := maxL) (ret := ret) hy hw ?_
  intro p e s m args below meth c s₁ B hml hv
  obtain ⟨rfl, hsz, hP, hK, hD0, hG⟩ := hv
  have hl := lv_entry av (n := maxL) hn
  rw [lg_entry_eq]
  subst hsz
  exact body p e s m _ below meth c _ _ B.exec B.bytes B.returns hml (findClass_of_methodNamed B.named) (atoms_spec (ws := ws) B.pre) B.notSynchronized hK hP hD0.self hG (fun q h => Or.inr h) va_S.rf hl
section ZDD
variable {p : Program} {l : Launch} {e : Env} {R : Room} {s : State} {m : MethodId} {args : Array Value} {below : List Frame} {meth : Method} {c : Code} {H : Heap} {locs : List Loc} {cells slots : Nat} {Q : State → Prop}
variable {cc : ByteArray} {pc : Nat} {ls : Array Slot} {rest : List Value} {D : va_G} {A : Nat → Prop} {mc ms : Nat} {w w' : va_W} {k : Nat → ClassId} {ws wc wc' : va_W} {b : Nat} {As : List Value}
theorem z_dret {v u : UInt64} (hx : p.tables.exec = Jvm.exec) (hb : c.code = cc) (hr : meth.sig.returnType = some .double) (hlocks : meth.locks = false) (hP : va_P D vwCl w H) (hS : va_S A s.heap H locs) (hdg : decode cc pc = .ok (.dreturn, 1)) (hv : v = u) (hw : w' = w) (hc : cells ≤ mc) (hs : slots ≤ ms) : W p l e R s m args below meth c H locs cells slots (MQ below (zQd D A v w') args s mc ms A) (F0 m pc ls [.double u]) := by
  subst hv; subst hw
  exact W.widen hc hs (W.dret hx hb hr (fun t ht hW => ⟨⟨_, (), rfl, rfl, by show va_P D vwCl _ t.heap; rw [ht]; exact hP⟩, hS.F ht⟩) hS.2.2 hdg hlocks)
theorem z_ad {v : UInt64} {a : Array Value} {st : List Value} (hr : va_Run p l e R s m args below meth c H locs cells slots mc ms (F0 m pc ls st) rest (zQd D (va_A wc H.size) v wc' a) (va_A wc H.size)) (hA : ∀ q : Nat, s.heap.size ≤ q → A q) (hP : va_P D vwCl ws H) (hD : va_D A ws) (hS : va_S A s.heap H locs) (isC : List Nat) (hC : isC.map (fun i => ws[i]?) = wc.map some) (hf : wc'.map Prod.fst = wc.map Prod.fst)
    (kk : ∀ (H1 : Heap) (locs1 : List Loc), va_P D vwCl (zset ws isC wc') H1 → va_D A (zset ws isC wc') → va_S A s.heap H1 locs1 → W p l e R s m args below meth c H1 locs1 (cells + mc) (slots + ms) Q (F0 m (pc + 3) ls (.double v :: rest))) : W p l e R s m args below meth c H locs cells slots Q (F0 m pc ls st) := by
  have hFc := va_free hD hS hA isC hC
  have hl : wc'.length = isC.length := by
    have h1 := congrArg List.length hC
    have h2 := congrArg List.length hf
    simp at h1 h2
    omega
  refine va_calld hr hS (fun q _ h => hFc q h) hFc (fun r u t H1 locs1 ht hvm hw hB hz1 hk1 hS1 => ?_)
  rw [hw]
  rw [ht] at hB
  exact kk H1 locs1 (z_join hP hD isC hC hl hk1 hB) (z_fst (zset_fst hC hf) hD) hS1
theorem z_fret {v u : UInt32} (hx : p.tables.exec = Jvm.exec) (hb : c.code = cc) (hr : meth.sig.returnType = some .float) (hlocks : meth.locks = false) (hP : va_P D vwCl w H) (hS : va_S A s.heap H locs) (hdg : decode cc pc = .ok (.freturn, 1)) (hv : v = u) (hw : w' = w) (hc : cells ≤ mc) (hs : slots ≤ ms) : W p l e R s m args below meth c H locs cells slots (MQ below (zQf D A v w') args s mc ms A) (F0 m pc ls [.float u]) := by
  subst hv; subst hw
  exact W.widen hc hs (W.fret hx hb hr (fun t ht hW => ⟨⟨_, (), rfl, rfl, by show va_P D vwCl _ t.heap; rw [ht]; exact hP⟩, hS.F ht⟩) hS.2.2 hdg hlocks)
theorem z_af {v : UInt32} {a : Array Value} {st : List Value} (hr : va_Run p l e R s m args below meth c H locs cells slots mc ms (F0 m pc ls st) rest (zQf D (va_A wc H.size) v wc' a) (va_A wc H.size)) (hA : ∀ q : Nat, s.heap.size ≤ q → A q) (hP : va_P D vwCl ws H) (hD : va_D A ws) (hS : va_S A s.heap H locs) (isC : List Nat) (hC : isC.map (fun i => ws[i]?) = wc.map some) (hf : wc'.map Prod.fst = wc.map Prod.fst)
    (kk : ∀ (H1 : Heap) (locs1 : List Loc), va_P D vwCl (zset ws isC wc') H1 → va_D A (zset ws isC wc') → va_S A s.heap H1 locs1 → W p l e R s m args below meth c H1 locs1 (cells + mc) (slots + ms) Q (F0 m (pc + 3) ls (.float v :: rest))) : W p l e R s m args below meth c H locs cells slots Q (F0 m pc ls st) := by
  have hFc := va_free hD hS hA isC hC
  have hl : wc'.length = isC.length := by
    have h1 := congrArg List.length hC
    have h2 := congrArg List.length hf
    simp at h1 h2
    omega
  refine va_callf hr hS (fun q _ h => hFc q h) hFc (fun r u t H1 locs1 ht hvm hw hB hz1 hk1 hS1 => ?_)
  rw [hw]
  rw [ht] at hB
  exact kk H1 locs1 (z_join hP hD isC hC hl hk1 hB) (z_fst (zset_fst hC hf) hD) hS1
end ZDD
set_option maxHeartbeats 4000000 in
set_option maxRecDepth 100000 in
theorem c_X7_meanGrey_ok (l : Launch) (D : va_G) (k : Nat → ClassId) (a0 : Nat → Nat) (S0 : Nat → Nat → Int) (S1 : Nat → Nat → Int) (hp : pOK S1) (hd : 0 ≤ (S1 3 1 - wBlanks (S1 4) (S1 3 1)) + (S1 6 1 - wBlanks (S1 7) (S1 6 1)) + (S1 9 1 - wBlanks (S1 10) (S1 9 1)) ∧ (S1 3 1 - wBlanks (S1 4) (S1 3 1)) + (S1 6 1 - wBlanks (S1 7) (S1 6 1)) + (S1 9 1 - wBlanks (S1 10) (S1 9 1)) < 1000000) (hc : 1 ≤ (S1 3 1 - wBlanks (S1 4) (S1 3 1)) + (S1 6 1 - wBlanks (S1 7) (S1 6 1)) + (S1 9 1 - wBlanks (S1 10) (S1 9 1))) : zMd l yX7_meanGrey wsX7_meanGrey ({ frames := 4, cells := 0, slots := 0, locals := 91 } : Room) D k [.ref (a0 0)] (wFac k a0 S0 ++ wPlant k (subA a0 1) S1) (FP.ddiv (FP.i2d (iI (wGreys (S1 4) (S1 3 1) + wGreys (S1 7) (S1 6 1) + wGreys (S1 10) (S1 9 1)))) (FP.i2d (iI ((S1 3 1 - wBlanks (S1 4) (S1 3 1)) + (S1 6 1 - wBlanks (S1 7) (S1 6 1)) + (S1 9 1 - wBlanks (S1 10) (S1 9 1)))))) (wFac k a0 S0 ++ wPlant k (subA a0 1) S1) 0 0 := by
  refine zMd_of (cc := cX7_meanGrey) (maxL := 2) (ret := (some .double)) (by decide) rfl (Nat.le_of_ble_eq_true rfl) ?_
  intro p e s m args below meth c A ls hx hb hr hml hown hts hlocks hK hP hD hG hA hS hl
  have hown : s.vm.findClass RX7 = some m.cls := hown
  have hl : lv_has ls 2 [(0, .ref (a0 0))] := hl
  obtain ⟨H, hH⟩ : ∃ z, z = s.heap := ⟨_, rfl⟩
  obtain ⟨locs, hlc⟩ : ∃ z : List Loc, z = [] := ⟨_, rfl⟩
  rw [← hH] at hP
  have hS : va_S A s.heap H locs := by rw [hH, hlc]; exact hS
  rw [← hlc, ← hH]
  clear hlc hH
  have kp := hp.2
  obtain ⟨dn, dok, de⟩ := ddiv_ok (iI (wGreys (S1 4) (S1 3 1) + wGreys (S1 7) (S1 6 1) + wGreys (S1 10) (S1 9 1))) (y := (S1 3 1 - wBlanks (S1 4) (S1 3 1)) + (S1 6 1 - wBlanks (S1 7) (S1 6 1)) + (S1 9 1 - wBlanks (S1 10) (S1 9 1))) ⟨hc, by omega⟩
  refine lv_aload_n hx hb dX7_meanGrey_0 rfl (lv_at hl 0 rfl) ?_
  refine va_get (D := D) (ci := 9) (v := .ref ((subA a0 1) 0)) (C := RX7) (T := TX7) (N := 11) hx hb hts (fun w h => List.mem_cons_of_mem _ (List.mem_append_left _ (List.mem_append_left _ (List.mem_append_left _ (List.mem_append_left _ (List.mem_append_left _ (List.mem_append_right _ h))))))) hown hK hP 0 rfl rfl 0 (by decide) (hts (.fieldLink RX7 10 "MondayFactory" "plant" "LMondayFactory$Plant;") (List.mem_of_getElem? (i := 3) rfl)) (fun _ h9 => h9) rfl dX7_meanGrey_1 ?_
  refine z_ai0 (va_runV (As := []) (rest := []) ⟨hx, hb, hml, hown, hts⟩ (c_X5_mondays l D k ((subA a0 1)) S1 (pOK_b hp 4 (by decide)) (pOK_b hp 7 (by decide)) (pOK_b hp 10 (by decide)) kp.1 kp.2.1 kp.2.2.1 _) (cwV 0 hts gX7_meanGrey_X5_mondays rfl rfl rfl (by decide +kernel) ⟨(Nat.le_of_ble_eq_true rfl), (Nat.le_of_ble_eq_true rfl)⟩) (z_preV hK hG hA hP hD hS (zrg 1 15) (z_sk (n := 1) (off := 0) (m := 15) rfl (z_hdl (n := 15) rfl)) (by decide +kernel) 7 rfl rfl) rfl rfl hl.1 rfl (lv_room (Nat.le_of_ble_eq_true rfl)) dX7_meanGrey_4 ⟨(Nat.le_of_ble_eq_true rfl), (Nat.le_of_ble_eq_true rfl)⟩) hA hP hD hS (zrg 1 15) (z_sk (n := 1) (off := 0) (m := 15) rfl (z_hdl (n := 15) rfl)) (fun H locs hP hS => ?_)
  refine lv_istore_n (lv' := [(1, .int (iI ((S1 3 1 - wBlanks (S1 4) (S1 3 1)) + (S1 6 1 - wBlanks (S1 7) (S1 6 1)) + (S1 9 1 - wBlanks (S1 10) (S1 9 1))))), (0, .ref (a0 0))]) hx hb dX7_meanGrey_7 rfl hl (by decide) rfl (fun ls hl => ?_)
  refine lv_iload_n hx hb dX7_meanGrey_8 rfl (lv_at hl 0 rfl) ?_
  refine zi_if_ne (tgt := 23) hx hb dX7_meanGrey_9 (by decide) ⟨by omega, by omega⟩ (fun c_2 => ?_) (fun c_2 => ?_)
  · refine lv_aload_n hx hb dX7_meanGrey_23 rfl (lv_at hl 1 rfl) ?_
    refine va_get (D := D) (ci := 9) (v := .ref ((subA a0 1) 0)) (C := RX7) (T := TX7) (N := 11) hx hb hts (fun w h => List.mem_cons_of_mem _ (List.mem_append_left _ (List.mem_append_left _ (List.mem_append_left _ (List.mem_append_left _ (List.mem_append_left _ (List.mem_append_right _ h))))))) hown hK hP 0 rfl rfl 0 (by decide) (hts (.fieldLink RX7 10 "MondayFactory" "plant" "LMondayFactory$Plant;") (List.mem_of_getElem? (i := 3) rfl)) (fun _ h9 => h9) rfl dX7_meanGrey_24 ?_
    refine z_ai0 (va_runV (As := []) (rest := []) ⟨hx, hb, hml, hown, hts⟩ (c_X5_greys l D k ((subA a0 1)) S1 (pOK_b hp 4 (by decide)) (pOK_b hp 7 (by decide)) (pOK_b hp 10 (by decide)) kp.1 kp.2.1 kp.2.2.1 _) (cwV 0 hts gX7_meanGrey_X5_greys rfl rfl rfl (by decide +kernel) ⟨(Nat.le_of_ble_eq_true rfl), (Nat.le_of_ble_eq_true rfl)⟩) (z_preV hK hG hA hP hD hS (zrg 1 15) (z_sk (n := 1) (off := 0) (m := 15) rfl (z_hdl (n := 15) rfl)) (by decide +kernel) 7 rfl rfl) rfl rfl hl.1 rfl (lv_room (Nat.le_of_ble_eq_true rfl)) dX7_meanGrey_27 ⟨(Nat.le_of_ble_eq_true rfl), (Nat.le_of_ble_eq_true rfl)⟩) hA hP hD hS (zrg 1 15) (z_sk (n := 1) (off := 0) (m := 15) rfl (z_hdl (n := 15) rfl)) (fun H locs hP hS => ?_)
    refine lv_i2d hx hb dX7_meanGrey_30 ?_
    refine lv_iload_n hx hb dX7_meanGrey_31 rfl (lv_at hl 0 rfl) ?_
    refine lv_i2d hx hb dX7_meanGrey_32 ?_
    refine lv_ddiv hx hb dX7_meanGrey_33 (by rw [de]; exact vf_64 dok) ?_
    exact z_dret hx hb hr hlocks hP hS dX7_meanGrey_34 rfl rfl (Nat.le_refl _) (Nat.le_refl _)
  · exfalso; omega
set_option maxHeartbeats 4000000 in
set_option maxRecDepth 100000 in
theorem c_X7_meanGrey_x (l : Launch) (hst : l.stackTraces = false) (D : va_G) (k : Nat → ClassId) (a0 : Nat → Nat) (S0 : Nat → Nat → Int) (S1 : Nat → Nat → Int) (hp : pOK S1) (hd : 0 ≤ (S1 3 1 - wBlanks (S1 4) (S1 3 1)) + (S1 6 1 - wBlanks (S1 7) (S1 6 1)) + (S1 9 1 - wBlanks (S1 10) (S1 9 1)) ∧ (S1 3 1 - wBlanks (S1 4) (S1 3 1)) + (S1 6 1 - wBlanks (S1 7) (S1 6 1)) + (S1 9 1 - wBlanks (S1 10) (S1 9 1)) < 1000000) (hc : (S1 3 1 - wBlanks (S1 4) (S1 3 1)) + (S1 6 1 - wBlanks (S1 7) (S1 6 1)) + (S1 9 1 - wBlanks (S1 10) (S1 9 1)) = 0) : zMx l yX7_meanGrey wsX7_meanGrey ({ frames := 6, cells := 1, slots := 6, locals := 91 } : Room) D k [.ref (a0 0)] (wFac k a0 S0 ++ wPlant k (subA a0 1) S1) "java/lang/ArithmeticException" (wFac k a0 S0 ++ wPlant k (subA a0 1) S1) 1 6 := by
  refine zMx_of (cc := cX7_meanGrey) (maxL := 2) (ret := (some .double)) (by decide) rfl (Nat.le_of_ble_eq_true rfl) ?_
  intro p e s m args below meth c A ls hx hb hr hml hown hts hlocks hK hP hD hG hE ht hA hS hl
  have hown : s.vm.findClass RX7 = some m.cls := hown
  have hl : lv_has ls 2 [(0, .ref (a0 0))] := hl
  obtain ⟨H, hH⟩ : ∃ z, z = s.heap := ⟨_, rfl⟩
  obtain ⟨locs, hlc⟩ : ∃ z : List Loc, z = [] := ⟨_, rfl⟩
  rw [← hH] at hP
  have hS : va_S A s.heap H locs := by rw [hH, hlc]; exact hS
  rw [← hlc, ← hH]
  clear hlc hH
  have kp := hp.2
  refine lv_aload_n hx hb dX7_meanGrey_0 rfl (lv_at hl 0 rfl) ?_
  refine va_get (D := D) (ci := 9) (v := .ref ((subA a0 1) 0)) (C := RX7) (T := TX7) (N := 11) hx hb hts (fun w h => List.mem_cons_of_mem _ (List.mem_append_left _ (List.mem_append_left _ (List.mem_append_left _ (List.mem_append_left _ (List.mem_append_left _ (List.mem_append_right _ h))))))) hown hK hP 0 rfl rfl 0 (by decide) (hts (.fieldLink RX7 10 "MondayFactory" "plant" "LMondayFactory$Plant;") (List.mem_of_getElem? (i := 3) rfl)) (fun _ h9 => h9) rfl dX7_meanGrey_1 ?_
  refine z_ai0 (va_runV (As := []) (rest := []) ⟨hx, hb, hml, hown, hts⟩ (c_X5_mondays l D k ((subA a0 1)) S1 (pOK_b hp 4 (by decide)) (pOK_b hp 7 (by decide)) (pOK_b hp 10 (by decide)) kp.1 kp.2.1 kp.2.2.1 _) (cwV 0 hts gX7_meanGrey_X5_mondays rfl rfl rfl (by decide +kernel) ⟨(Nat.le_of_ble_eq_true rfl), (Nat.le_of_ble_eq_true rfl)⟩) (z_preV hK hG hA hP hD hS (zrg 1 15) (z_sk (n := 1) (off := 0) (m := 15) rfl (z_hdl (n := 15) rfl)) (by decide +kernel) 7 rfl rfl) rfl rfl hl.1 rfl (lv_room (Nat.le_of_ble_eq_true rfl)) dX7_meanGrey_4 ⟨(Nat.le_of_ble_eq_true rfl), (Nat.le_of_ble_eq_true rfl)⟩) hA hP hD hS (zrg 1 15) (z_sk (n := 1) (off := 0) (m := 15) rfl (z_hdl (n := 15) rfl)) (fun H locs hP hS => ?_)
  refine lv_istore_n (lv' := [(1, .int (iI ((S1 3 1 - wBlanks (S1 4) (S1 3 1)) + (S1 6 1 - wBlanks (S1 7) (S1 6 1)) + (S1 9 1 - wBlanks (S1 10) (S1 9 1))))), (0, .ref (a0 0))]) hx hb dX7_meanGrey_7 rfl hl (by decide) rfl (fun ls hl => ?_)
  refine lv_iload_n hx hb dX7_meanGrey_8 rfl (lv_at hl 0 rfl) ?_
  refine zi_if_ne (tgt := 23) hx hb dX7_meanGrey_9 (by decide) ⟨by omega, by omega⟩ (fun c_2 => ?_) (fun c_2 => ?_)
  · exfalso; omega
  · exact z_thrW (cls := "java/lang/ArithmeticException") hx hb hst hown zXf_arit zXm_arit (hts (.classLink RX7 289 "java/lang/ArithmeticException") (List.mem_of_getElem? (i := 1) rfl)) (hts (.initialized "java/lang/ArithmeticException") (List.mem_of_getElem? (i := 2) rfl)) (show (291, "there is no Monday on the belts") ∈ zStrs by decide +kernel) hG hE (fun w h => hts w ((fun w h => List.mem_cons_of_mem _ (List.mem_append_left _ (List.mem_append_right _ h))) w h)) zXn_arit zXg_arit hS (hl.1.trans hml.symm) dX7_meanGrey_12 dX7_meanGrey_15 dX7_meanGrey_16 dX7_meanGrey_19 dX7_meanGrey_22 ht (Nat.le_of_ble_eq_true rfl) (Nat.le_of_ble_eq_true rfl) (Nat.le_of_ble_eq_true rfl) (Nat.le_of_ble_eq_true rfl) hlocks (z_to (Eq.symm rfl) hP) (Nat.le_of_ble_eq_true rfl) (Nat.le_of_ble_eq_true rfl)
set_option maxHeartbeats 4000000 in
set_option maxRecDepth 100000 in
theorem c_X7_stampShare_ok (l : Launch) (D : va_G) (k : Nat → ClassId) (a0 : Nat → Nat) (S0 : Nat → Nat → Int) (S1 : Nat → Nat → Int) (hp : pOK S1) (hd : 0 ≤ S1 2 4 + S1 5 4 + S1 8 4 ∧ S1 2 4 + S1 5 4 + S1 8 4 < 1000000) (hc : 1 ≤ S1 2 4 + S1 5 4 + S1 8 4) : zMf l yX7_stampShare wsX7_stampShare ({ frames := 4, cells := 0, slots := 0, locals := 91 } : Room) D k [.ref (a0 0)] (wFac k a0 S0 ++ wPlant k (subA a0 1) S1) (FP.fdiv (FP.i2f (iI (S1 2 5 + S1 5 5 + S1 8 5))) (FP.i2f (iI (S1 2 4 + S1 5 4 + S1 8 4)))) (wFac k a0 S0 ++ wPlant k (subA a0 1) S1) 0 0 := by
  refine zMf_of (cc := cX7_stampShare) (maxL := 2) (ret := (some .float)) (by decide) rfl (Nat.le_of_ble_eq_true rfl) ?_
  intro p e s m args below meth c A ls hx hb hr hml hown hts hlocks hK hP hD hG hA hS hl
  have hown : s.vm.findClass RX7 = some m.cls := hown
  have hl : lv_has ls 2 [(0, .ref (a0 0))] := hl
  obtain ⟨H, hH⟩ : ∃ z, z = s.heap := ⟨_, rfl⟩
  obtain ⟨locs, hlc⟩ : ∃ z : List Loc, z = [] := ⟨_, rfl⟩
  rw [← hH] at hP
  have hS : va_S A s.heap H locs := by rw [hH, hlc]; exact hS
  rw [← hlc, ← hH]
  clear hlc hH
  have kp := hp.2
  obtain ⟨dn, dok, de⟩ := fdiv_ok (iI (S1 2 5 + S1 5 5 + S1 8 5)) (y := S1 2 4 + S1 5 4 + S1 8 4) ⟨hc, by omega⟩
  refine lv_aload_n hx hb dX7_stampShare_0 rfl (lv_at hl 0 rfl) ?_
  refine va_get (D := D) (ci := 9) (v := .ref ((subA a0 1) 0)) (C := RX7) (T := TX7) (N := 11) hx hb hts (fun w h => List.mem_cons_of_mem _ (List.mem_append_left _ (List.mem_append_left _ (List.mem_append_left _ (List.mem_append_right _ h))))) hown hK hP 0 rfl rfl 0 (by decide) (hts (.fieldLink RX7 10 "MondayFactory" "plant" "LMondayFactory$Plant;") (List.mem_of_getElem? (i := 3) rfl)) (fun _ h9 => h9) rfl dX7_stampShare_1 ?_
  refine z_ai0 (va_runV (As := []) (rest := []) ⟨hx, hb, hml, hown, hts⟩ (c_X5_inspected l D k ((subA a0 1)) S1 (pOK_b hp 2 (by decide)) (pOK_b hp 5 (by decide)) (pOK_b hp 8 (by decide)) _) (cwV 0 hts gX7_stampShare_X5_inspected rfl rfl rfl (by decide +kernel) ⟨(Nat.le_of_ble_eq_true rfl), (Nat.le_of_ble_eq_true rfl)⟩) (z_preV hK hG hA hP hD hS (zrg 1 15) (z_sk (n := 1) (off := 0) (m := 15) rfl (z_hdl (n := 15) rfl)) (by decide +kernel) 7 rfl rfl) rfl rfl hl.1 rfl (lv_room (Nat.le_of_ble_eq_true rfl)) dX7_stampShare_4 ⟨(Nat.le_of_ble_eq_true rfl), (Nat.le_of_ble_eq_true rfl)⟩) hA hP hD hS (zrg 1 15) (z_sk (n := 1) (off := 0) (m := 15) rfl (z_hdl (n := 15) rfl)) (fun H locs hP hS => ?_)
  refine lv_istore_n (lv' := [(1, .int (iI (S1 2 4 + S1 5 4 + S1 8 4))), (0, .ref (a0 0))]) hx hb dX7_stampShare_7 rfl hl (by decide) rfl (fun ls hl => ?_)
  refine lv_iload_n hx hb dX7_stampShare_8 rfl (lv_at hl 0 rfl) ?_
  refine zi_if_ne (tgt := 23) hx hb dX7_stampShare_9 (by decide) ⟨by omega, by omega⟩ (fun c_2 => ?_) (fun c_2 => ?_)
  · refine lv_aload_n hx hb dX7_stampShare_23 rfl (lv_at hl 1 rfl) ?_
    refine va_get (D := D) (ci := 9) (v := .ref ((subA a0 1) 0)) (C := RX7) (T := TX7) (N := 11) hx hb hts (fun w h => List.mem_cons_of_mem _ (List.mem_append_left _ (List.mem_append_left _ (List.mem_append_left _ (List.mem_append_right _ h))))) hown hK hP 0 rfl rfl 0 (by decide) (hts (.fieldLink RX7 10 "MondayFactory" "plant" "LMondayFactory$Plant;") (List.mem_of_getElem? (i := 3) rfl)) (fun _ h9 => h9) rfl dX7_stampShare_24 ?_
    refine z_ai0 (va_runV (As := []) (rest := []) ⟨hx, hb, hml, hown, hts⟩ (c_X5_stamped l D k ((subA a0 1)) S1 (pOK_b hp 2 (by decide)) (pOK_b hp 5 (by decide)) (pOK_b hp 8 (by decide)) _) (cwV 0 hts gX7_stampShare_X5_stamped rfl rfl rfl (by decide +kernel) ⟨(Nat.le_of_ble_eq_true rfl), (Nat.le_of_ble_eq_true rfl)⟩) (z_preV hK hG hA hP hD hS (zrg 1 15) (z_sk (n := 1) (off := 0) (m := 15) rfl (z_hdl (n := 15) rfl)) (by decide +kernel) 7 rfl rfl) rfl rfl hl.1 rfl (lv_room (Nat.le_of_ble_eq_true rfl)) dX7_stampShare_27 ⟨(Nat.le_of_ble_eq_true rfl), (Nat.le_of_ble_eq_true rfl)⟩) hA hP hD hS (zrg 1 15) (z_sk (n := 1) (off := 0) (m := 15) rfl (z_hdl (n := 15) rfl)) (fun H locs hP hS => ?_)
    refine lv_i2f hx hb dX7_stampShare_30 ?_
    refine lv_iload_n hx hb dX7_stampShare_31 rfl (lv_at hl 0 rfl) ?_
    refine lv_i2f hx hb dX7_stampShare_32 ?_
    refine lv_fdiv hx hb dX7_stampShare_33 (by rw [de]; exact vf_32 dok) ?_
    exact z_fret hx hb hr hlocks hP hS dX7_stampShare_34 rfl rfl (Nat.le_refl _) (Nat.le_refl _)
  · exfalso; omega
set_option maxHeartbeats 4000000 in
set_option maxRecDepth 100000 in
theorem c_X7_stampShare_x (l : Launch) (hst : l.stackTraces = false) (D : va_G) (k : Nat → ClassId) (a0 : Nat → Nat) (S0 : Nat → Nat → Int) (S1 : Nat → Nat → Int) (hp : pOK S1) (hd : 0 ≤ S1 2 4 + S1 5 4 + S1 8 4 ∧ S1 2 4 + S1 5 4 + S1 8 4 < 1000000) (hc : S1 2 4 + S1 5 4 + S1 8 4 = 0) : zMx l yX7_stampShare wsX7_stampShare ({ frames := 6, cells := 1, slots := 6, locals := 91 } : Room) D k [.ref (a0 0)] (wFac k a0 S0 ++ wPlant k (subA a0 1) S1) "java/lang/ArithmeticException" (wFac k a0 S0 ++ wPlant k (subA a0 1) S1) 1 6 := by
  refine zMx_of (cc := cX7_stampShare) (maxL := 2) (ret := (some .float)) (by decide) rfl (Nat.le_of_ble_eq_true rfl) ?_
  intro p e s m args below meth c A ls hx hb hr hml hown hts hlocks hK hP hD hG hE ht hA hS hl
  have hown : s.vm.findClass RX7 = some m.cls := hown
  have hl : lv_has ls 2 [(0, .ref (a0 0))] := hl
  obtain ⟨H, hH⟩ : ∃ z, z = s.heap := ⟨_, rfl⟩
  obtain ⟨locs, hlc⟩ : ∃ z : List Loc, z = [] := ⟨_, rfl⟩
  rw [← hH] at hP
  have hS : va_S A s.heap H locs := by rw [hH, hlc]; exact hS
  rw [← hlc, ← hH]
  clear hlc hH
  have kp := hp.2
  refine lv_aload_n hx hb dX7_stampShare_0 rfl (lv_at hl 0 rfl) ?_
  refine va_get (D := D) (ci := 9) (v := .ref ((subA a0 1) 0)) (C := RX7) (T := TX7) (N := 11) hx hb hts (fun w h => List.mem_cons_of_mem _ (List.mem_append_left _ (List.mem_append_left _ (List.mem_append_left _ (List.mem_append_right _ h))))) hown hK hP 0 rfl rfl 0 (by decide) (hts (.fieldLink RX7 10 "MondayFactory" "plant" "LMondayFactory$Plant;") (List.mem_of_getElem? (i := 3) rfl)) (fun _ h9 => h9) rfl dX7_stampShare_1 ?_
  refine z_ai0 (va_runV (As := []) (rest := []) ⟨hx, hb, hml, hown, hts⟩ (c_X5_inspected l D k ((subA a0 1)) S1 (pOK_b hp 2 (by decide)) (pOK_b hp 5 (by decide)) (pOK_b hp 8 (by decide)) _) (cwV 0 hts gX7_stampShare_X5_inspected rfl rfl rfl (by decide +kernel) ⟨(Nat.le_of_ble_eq_true rfl), (Nat.le_of_ble_eq_true rfl)⟩) (z_preV hK hG hA hP hD hS (zrg 1 15) (z_sk (n := 1) (off := 0) (m := 15) rfl (z_hdl (n := 15) rfl)) (by decide +kernel) 7 rfl rfl) rfl rfl hl.1 rfl (lv_room (Nat.le_of_ble_eq_true rfl)) dX7_stampShare_4 ⟨(Nat.le_of_ble_eq_true rfl), (Nat.le_of_ble_eq_true rfl)⟩) hA hP hD hS (zrg 1 15) (z_sk (n := 1) (off := 0) (m := 15) rfl (z_hdl (n := 15) rfl)) (fun H locs hP hS => ?_)
  refine lv_istore_n (lv' := [(1, .int (iI (S1 2 4 + S1 5 4 + S1 8 4))), (0, .ref (a0 0))]) hx hb dX7_stampShare_7 rfl hl (by decide) rfl (fun ls hl => ?_)
  refine lv_iload_n hx hb dX7_stampShare_8 rfl (lv_at hl 0 rfl) ?_
  refine zi_if_ne (tgt := 23) hx hb dX7_stampShare_9 (by decide) ⟨by omega, by omega⟩ (fun c_2 => ?_) (fun c_2 => ?_)
  · exfalso; omega
  · exact z_thrW (cls := "java/lang/ArithmeticException") hx hb hst hown zXf_arit zXm_arit (hts (.classLink RX7 289 "java/lang/ArithmeticException") (List.mem_of_getElem? (i := 1) rfl)) (hts (.initialized "java/lang/ArithmeticException") (List.mem_of_getElem? (i := 2) rfl)) (show (299, "no Monday was inspected") ∈ zStrs by decide +kernel) hG hE (fun w h => hts w ((fun w h => List.mem_cons_of_mem _ (List.mem_append_right _ h)) w h)) zXn_arit zXg_arit hS (hl.1.trans hml.symm) dX7_stampShare_12 dX7_stampShare_15 dX7_stampShare_16 dX7_stampShare_19 dX7_stampShare_22 ht (Nat.le_of_ble_eq_true rfl) (Nat.le_of_ble_eq_true rfl) (Nat.le_of_ble_eq_true rfl) (Nat.le_of_ble_eq_true rfl) hlocks (z_to (Eq.symm rfl) hP) (Nat.le_of_ble_eq_true rfl) (Nat.le_of_ble_eq_true rfl)
set_option maxHeartbeats 4000000 in
set_option maxRecDepth 100000 in
theorem c_X8_meanGrey_ok (l : Launch) (D : va_G) (k : Nat → ClassId) (a0 : Nat → Nat) (S0 : Nat → Nat → Int) (hB : zBf (S0 1)) (hT : zBt (S0 1)) (hC : ∀ b : Int, 0 ≤ b → b ≤ 2 → 0 ≤ S0 1 (15 + 26 * b + 0).toNat ∧ S0 1 (15 + 26 * b + 0).toNat ≤ 5) (hd : 0 ≤ (rSummed (S0 1) 0 - rSummed (S0 1) 1) ∧ (rSummed (S0 1) 0 - rSummed (S0 1) 1) < 1000000) (hc : 1 ≤ (rSummed (S0 1) 0 - rSummed (S0 1) 1)) : zMd l yX8_meanGrey wsX8_meanGrey ({ frames := 5, cells := 0, slots := 0, locals := 113 } : Room) D k [.ref (a0 0)] (wRef k a0 S0) (FP.ddiv (FP.i2d (iI (rSummed (S0 1) 2))) (FP.i2d (iI (rSummed (S0 1) 0 - rSummed (S0 1) 1)))) (wRef k a0 (upA S0 0 (upZ (upZ (S0 0) 8 0) 7 0))) 0 0 := by
  refine zMd_of (cc := cX8_meanGrey) (maxL := 2) (ret := (some .double)) (by decide) rfl (Nat.le_of_ble_eq_true rfl) ?_
  intro p e s m args below meth c A ls hx hb hr hml hown hts hlocks hK hP hD hG hA hS hl
  have hown : s.vm.findClass RX8 = some m.cls := hown
  have hl : lv_has ls 2 [(0, .ref (a0 0))] := hl
  obtain ⟨H, hH⟩ : ∃ z, z = s.heap := ⟨_, rfl⟩
  obtain ⟨locs, hlc⟩ : ∃ z : List Loc, z = [] := ⟨_, rfl⟩
  rw [← hH] at hP
  have hS : va_S A s.heap H locs := by rw [hH, hlc]; exact hS
  rw [← hlc, ← hH]
  clear hlc hH
  obtain ⟨dn, dok, de⟩ := ddiv_ok (iI (rSummed (S0 1) 2)) (y := (rSummed (S0 1) 0 - rSummed (S0 1) 1)) ⟨hc, by omega⟩
  refine lv_aload_n hx hb dX8_meanGrey_0 rfl (lv_at hl 0 rfl) ?_
  refine lv_iconst (v := iI 0) hx hb dX8_meanGrey_1 rfl ?_
  refine z_ai0 (va_runV (As := [.int (iI 0)]) (rest := []) ⟨hx, hb, hml, hown, hts⟩ (c_X8_summed l D k a0 S0 0 hB hT hC (by decide) _) (cwV 1 hts gX8_meanGrey_X8_summed rfl rfl rfl (by decide +kernel) ⟨(Nat.le_of_ble_eq_true rfl), (Nat.le_of_ble_eq_true rfl)⟩) (z_preV hK hG hA hP hD hS (zrg 0 8) (z_hdl (n := 8) rfl) (by decide +kernel) 10 rfl rfl) rfl rfl hl.1 rfl (lv_room (Nat.le_of_ble_eq_true rfl)) dX8_meanGrey_2 ⟨(Nat.le_of_ble_eq_true rfl), (Nat.le_of_ble_eq_true rfl)⟩) hA hP hD hS (zrg 0 8) (z_hdl (n := 8) rfl) (fun H locs hP hS => ?_)
  refine lv_aload_n hx hb dX8_meanGrey_5 rfl (lv_at hl 0 rfl) ?_
  refine lv_iconst (v := iI 1) hx hb dX8_meanGrey_6 rfl ?_
  refine z_ai0 (va_runV (As := [.int (iI 1)]) (rest := [.int (iI (rSummed (S0 1) 0))]) ⟨hx, hb, hml, hown, hts⟩ (c_X8_summed l D k a0 S0 1 hB hT hC (by decide) _) (cwV 1 hts gX8_meanGrey_X8_summed rfl rfl rfl (by decide +kernel) ⟨(Nat.le_of_ble_eq_true rfl), (Nat.le_of_ble_eq_true rfl)⟩) (z_preV hK hG hA hP hD hS (zrg 0 8) (z_hdl (n := 8) rfl) (by decide +kernel) 10 rfl rfl) rfl rfl hl.1 rfl (lv_room (Nat.le_of_ble_eq_true rfl)) dX8_meanGrey_7 ⟨(Nat.le_of_ble_eq_true rfl), (Nat.le_of_ble_eq_true rfl)⟩) hA hP hD hS (zrg 0 8) (z_hdl (n := 8) rfl) (fun H locs hP hS => ?_)
  refine zi_sub hx hb dX8_meanGrey_10 ?_
  refine lv_istore_n (lv' := [(1, .int (iI (rSummed (S0 1) 0 - rSummed (S0 1) 1))), (0, .ref (a0 0))]) hx hb dX8_meanGrey_11 rfl hl (by decide) rfl (fun ls hl => ?_)
  refine lv_aload_n hx hb dX8_meanGrey_12 rfl (lv_at hl 1 rfl) ?_
  refine lv_iload_n hx hb dX8_meanGrey_13 rfl (lv_at hl 0 rfl) ?_
  refine zi_if_ne (tgt := 21) hx hb dX8_meanGrey_14 (by decide) ⟨by omega, by omega⟩ (fun _ => ?_) (fun h => absurd h (by omega))
  refine lv_iconst (v := iI 0) hx hb dX8_meanGrey_21 rfl ?_
  refine z_ai (va_runV (As := [.int (iI 0)]) (rest := []) ⟨hx, hb, hml, hown, hts⟩ (c_X8_fails l D k a0 S0 0 (by decide) _) (cwV 1 hts gX8_meanGrey_X8_fails rfl rfl rfl (by decide +kernel) ⟨(Nat.le_of_ble_eq_true rfl), (Nat.le_of_ble_eq_true rfl)⟩) (z_preV hK hG hA hP hD hS (zrg 0 8) (z_hdl (n := 8) rfl) (by decide +kernel) 10 rfl rfl) rfl rfl hl.1 rfl (lv_room (Nat.le_of_ble_eq_true rfl)) dX8_meanGrey_22 ⟨(Nat.le_of_ble_eq_true rfl), (Nat.le_of_ble_eq_true rfl)⟩) hA hP hD hS (zrg 0 8) (z_hdl (n := 8) rfl) rfl (fun H locs hP hD hS => ?_)
  have hP : va_P D vwCl (wRef k a0 (upA S0 0 (upZ (upZ (S0 0) 8 0) 7 0))) H := z_to (z_zhl (n := 8) rfl rfl) hP
  have hD : va_D A (wRef k a0 (upA S0 0 (upZ (upZ (S0 0) 8 0) 7 0))) := z_to2 (z_zhl (n := 8) rfl rfl) hD
  refine zi_if_eqB (tgt := 32) hx hb dX8_meanGrey_25 (by decide) (fun _ => ?_) (fun h => absurd h (by decide))
  refine lv_aload_n hx hb dX8_meanGrey_32 rfl (lv_at hl 1 rfl) ?_
  refine lv_iconst (v := iI 2) hx hb dX8_meanGrey_33 rfl ?_
  refine z_ai0 (va_runV (As := [.int (iI 2)]) (rest := []) ⟨hx, hb, hml, hown, hts⟩ (c_X8_summed l D k a0 (upA S0 0 (upZ (upZ (S0 0) 8 0) 7 0)) 2 hB hT hC (by decide) _) (cwV 1 hts gX8_meanGrey_X8_summed rfl rfl rfl (by decide +kernel) ⟨(Nat.le_of_ble_eq_true rfl), (Nat.le_of_ble_eq_true rfl)⟩) (z_preV hK hG hA hP hD hS (zrg 0 8) (z_hdl (n := 8) rfl) (by decide +kernel) 10 rfl rfl) rfl rfl hl.1 rfl (lv_room (Nat.le_of_ble_eq_true rfl)) dX8_meanGrey_34 ⟨(Nat.le_of_ble_eq_true rfl), (Nat.le_of_ble_eq_true rfl)⟩) hA hP hD hS (zrg 0 8) (z_hdl (n := 8) rfl) (fun H locs hP hS => ?_)
  have hP : va_P D vwCl (wRef k a0 (upA S0 0 (upZ (upZ (S0 0) 8 0) 7 0))) H := hP
  refine lv_i2d hx hb dX8_meanGrey_37 ?_
  refine lv_iload_n hx hb dX8_meanGrey_38 rfl (lv_at hl 0 rfl) ?_
  refine lv_i2d hx hb dX8_meanGrey_39 ?_
  refine lv_ddiv hx hb dX8_meanGrey_40 (by show vf_n64 (FP.ddiv (FP.i2d (iI (rSummed (S0 1) 2))) (FP.i2d (iI (rSummed (S0 1) 0 - rSummed (S0 1) 1)))); rw [de]; exact vf_64 dok) ?_
  exact z_dret hx hb hr hlocks hP hS dX8_meanGrey_41 rfl rfl (Nat.le_refl _) (Nat.le_refl _)
set_option maxHeartbeats 4000000 in
set_option maxRecDepth 100000 in
theorem c_X8_meanGrey_x (l : Launch) (D : va_G) (k : Nat → ClassId) (a0 : Nat → Nat) (S0 : Nat → Nat → Int) (hB : zBf (S0 1)) (hT : zBt (S0 1)) (hC : ∀ b : Int, 0 ≤ b → b ≤ 2 → 0 ≤ S0 1 (15 + 26 * b + 0).toNat ∧ S0 1 (15 + 26 * b + 0).toNat ≤ 5) (hd : 0 ≤ (rSummed (S0 1) 0 - rSummed (S0 1) 1) ∧ (rSummed (S0 1) 0 - rSummed (S0 1) 1) < 1000000) (hc : (rSummed (S0 1) 0 - rSummed (S0 1) 1) = 0) : zMd l yX8_meanGrey wsX8_meanGrey ({ frames := 5, cells := 0, slots := 0, locals := 113 } : Room) D k [.ref (a0 0)] (wRef k a0 S0) 0 (wRef k a0 (upA S0 0 (upZ (upZ (S0 0) 8 1) 7 0))) 0 0 := by
  refine zMd_of (cc := cX8_meanGrey) (maxL := 2) (ret := (some .double)) (by decide) rfl (Nat.le_of_ble_eq_true rfl) ?_
  intro p e s m args below meth c A ls hx hb hr hml hown hts hlocks hK hP hD hG hA hS hl
  have hown : s.vm.findClass RX8 = some m.cls := hown
  have hl : lv_has ls 2 [(0, .ref (a0 0))] := hl
  obtain ⟨H, hH⟩ : ∃ z, z = s.heap := ⟨_, rfl⟩
  obtain ⟨locs, hlc⟩ : ∃ z : List Loc, z = [] := ⟨_, rfl⟩
  rw [← hH] at hP
  have hS : va_S A s.heap H locs := by rw [hH, hlc]; exact hS
  rw [← hlc, ← hH]
  clear hlc hH
  refine lv_aload_n hx hb dX8_meanGrey_0 rfl (lv_at hl 0 rfl) ?_
  refine lv_iconst (v := iI 0) hx hb dX8_meanGrey_1 rfl ?_
  refine z_ai0 (va_runV (As := [.int (iI 0)]) (rest := []) ⟨hx, hb, hml, hown, hts⟩ (c_X8_summed l D k a0 S0 0 hB hT hC (by decide) _) (cwV 1 hts gX8_meanGrey_X8_summed rfl rfl rfl (by decide +kernel) ⟨(Nat.le_of_ble_eq_true rfl), (Nat.le_of_ble_eq_true rfl)⟩) (z_preV hK hG hA hP hD hS (zrg 0 8) (z_hdl (n := 8) rfl) (by decide +kernel) 10 rfl rfl) rfl rfl hl.1 rfl (lv_room (Nat.le_of_ble_eq_true rfl)) dX8_meanGrey_2 ⟨(Nat.le_of_ble_eq_true rfl), (Nat.le_of_ble_eq_true rfl)⟩) hA hP hD hS (zrg 0 8) (z_hdl (n := 8) rfl) (fun H locs hP hS => ?_)
  refine lv_aload_n hx hb dX8_meanGrey_5 rfl (lv_at hl 0 rfl) ?_
  refine lv_iconst (v := iI 1) hx hb dX8_meanGrey_6 rfl ?_
  refine z_ai0 (va_runV (As := [.int (iI 1)]) (rest := [.int (iI (rSummed (S0 1) 0))]) ⟨hx, hb, hml, hown, hts⟩ (c_X8_summed l D k a0 S0 1 hB hT hC (by decide) _) (cwV 1 hts gX8_meanGrey_X8_summed rfl rfl rfl (by decide +kernel) ⟨(Nat.le_of_ble_eq_true rfl), (Nat.le_of_ble_eq_true rfl)⟩) (z_preV hK hG hA hP hD hS (zrg 0 8) (z_hdl (n := 8) rfl) (by decide +kernel) 10 rfl rfl) rfl rfl hl.1 rfl (lv_room (Nat.le_of_ble_eq_true rfl)) dX8_meanGrey_7 ⟨(Nat.le_of_ble_eq_true rfl), (Nat.le_of_ble_eq_true rfl)⟩) hA hP hD hS (zrg 0 8) (z_hdl (n := 8) rfl) (fun H locs hP hS => ?_)
  refine zi_sub hx hb dX8_meanGrey_10 ?_
  refine lv_istore_n (lv' := [(1, .int (iI (rSummed (S0 1) 0 - rSummed (S0 1) 1))), (0, .ref (a0 0))]) hx hb dX8_meanGrey_11 rfl hl (by decide) rfl (fun ls hl => ?_)
  refine lv_aload_n hx hb dX8_meanGrey_12 rfl (lv_at hl 1 rfl) ?_
  refine lv_iload_n hx hb dX8_meanGrey_13 rfl (lv_at hl 0 rfl) ?_
  refine zi_if_ne (tgt := 21) hx hb dX8_meanGrey_14 (by decide) ⟨by omega, by omega⟩ (fun h => absurd hc h) (fun _ => ?_)
  refine lv_iconst (v := iI 1) hx hb dX8_meanGrey_17 rfl ?_
  refine lv_goto (tgt := 22) hx hb dX8_meanGrey_18 (by decide) ?_
  refine z_ai (va_runV (As := [.int (iI 1)]) (rest := []) ⟨hx, hb, hml, hown, hts⟩ (c_X8_fails l D k a0 S0 1 (by decide) _) (cwV 1 hts gX8_meanGrey_X8_fails rfl rfl rfl (by decide +kernel) ⟨(Nat.le_of_ble_eq_true rfl), (Nat.le_of_ble_eq_true rfl)⟩) (z_preV hK hG hA hP hD hS (zrg 0 8) (z_hdl (n := 8) rfl) (by decide +kernel) 10 rfl rfl) rfl rfl hl.1 rfl (lv_room (Nat.le_of_ble_eq_true rfl)) dX8_meanGrey_22 ⟨(Nat.le_of_ble_eq_true rfl), (Nat.le_of_ble_eq_true rfl)⟩) hA hP hD hS (zrg 0 8) (z_hdl (n := 8) rfl) rfl (fun H locs hP hD hS => ?_)
  have hP : va_P D vwCl (wRef k a0 (upA S0 0 (upZ (upZ (S0 0) 8 1) 7 0))) H := z_to (z_zhl (n := 8) rfl rfl) hP
  have hD : va_D A (wRef k a0 (upA S0 0 (upZ (upZ (S0 0) 8 1) 7 0))) := z_to2 (z_zhl (n := 8) rfl rfl) hD
  refine zi_if_eqB (tgt := 32) hx hb dX8_meanGrey_25 (by decide) (fun h => absurd (by decide) h) (fun _ => ?_)
  refine lv_dconst0 hx hb dX8_meanGrey_28 ?_
  refine lv_goto (tgt := 41) hx hb dX8_meanGrey_29 (by decide) ?_
  exact z_dret hx hb hr hlocks hP hS dX8_meanGrey_41 rfl rfl (Nat.le_refl _) (Nat.le_refl _)
set_option maxHeartbeats 4000000 in
set_option maxRecDepth 100000 in
theorem c_X8_stampShare_ok (l : Launch) (D : va_G) (k : Nat → ClassId) (a0 : Nat → Nat) (S0 : Nat → Nat → Int) (hB : zBf (S0 1)) (hT : zBt (S0 1)) (hC : ∀ b : Int, 0 ≤ b → b ≤ 2 → 0 ≤ S0 1 (15 + 26 * b + 0).toNat ∧ S0 1 (15 + 26 * b + 0).toNat ≤ 5) (hd : 0 ≤ (rSummed (S0 1) 3) ∧ (rSummed (S0 1) 3) < 1000000) (hc : 1 ≤ (rSummed (S0 1) 3)) : zMf l yX8_stampShare wsX8_stampShare ({ frames := 5, cells := 0, slots := 0, locals := 113 } : Room) D k [.ref (a0 0)] (wRef k a0 S0) (FP.fdiv (FP.i2f (iI (S0 1 3))) (FP.i2f (iI (rSummed (S0 1) 3)))) (wRef k a0 (upA S0 0 (upZ (upZ (S0 0) 8 0) 7 0))) 0 0 := by
  refine zMf_of (cc := cX8_stampShare) (maxL := 1) (ret := (some .float)) (by decide) rfl (Nat.le_of_ble_eq_true rfl) ?_
  intro p e s m args below meth c A ls hx hb hr hml hown hts hlocks hK hP hD hG hA hS hl
  have hown : s.vm.findClass RX8 = some m.cls := hown
  have hl : lv_has ls 1 [(0, .ref (a0 0))] := hl
  obtain ⟨H, hH⟩ : ∃ z, z = s.heap := ⟨_, rfl⟩
  obtain ⟨locs, hlc⟩ : ∃ z : List Loc, z = [] := ⟨_, rfl⟩
  rw [← hH] at hP
  have hS : va_S A s.heap H locs := by rw [hH, hlc]; exact hS
  rw [← hlc, ← hH]
  clear hlc hH
  obtain ⟨dn, dok, de⟩ := fdiv_ok (iI (S0 1 3)) (y := (rSummed (S0 1) 3)) ⟨hc, by omega⟩
  refine lv_aload_n hx hb dX8_stampShare_0 rfl (lv_at hl 0 rfl) ?_
  refine lv_aload_n hx hb dX8_stampShare_1 rfl (lv_at hl 0 rfl) ?_
  refine lv_iconst (v := iI 3) hx hb dX8_stampShare_2 rfl ?_
  refine z_ai0 (va_runV (As := [.int (iI 3)]) (rest := [.ref (a0 0)]) ⟨hx, hb, hml, hown, hts⟩ (c_X8_summed l D k a0 S0 3 hB hT hC (by decide) _) (cwV 1 hts gX8_stampShare_X8_summed rfl rfl rfl (by decide +kernel) ⟨(Nat.le_of_ble_eq_true rfl), (Nat.le_of_ble_eq_true rfl)⟩) (z_preV hK hG hA hP hD hS (zrg 0 8) (z_hdl (n := 8) rfl) (by decide +kernel) 10 rfl rfl) rfl rfl hl.1 rfl (lv_room (Nat.le_of_ble_eq_true rfl)) dX8_stampShare_3 ⟨(Nat.le_of_ble_eq_true rfl), (Nat.le_of_ble_eq_true rfl)⟩) hA hP hD hS (zrg 0 8) (z_hdl (n := 8) rfl) (fun H locs hP hS => ?_)
  refine zi_if_ne (tgt := 13) hx hb dX8_stampShare_6 (by decide) ⟨by omega, by omega⟩ (fun _ => ?_) (fun h => absurd h (by omega))
  refine lv_iconst (v := iI 0) hx hb dX8_stampShare_13 rfl ?_
  refine z_ai (va_runV (As := [.int (iI 0)]) (rest := []) ⟨hx, hb, hml, hown, hts⟩ (c_X8_fails l D k a0 S0 0 (by decide) _) (cwV 1 hts gX8_stampShare_X8_fails rfl rfl rfl (by decide +kernel) ⟨(Nat.le_of_ble_eq_true rfl), (Nat.le_of_ble_eq_true rfl)⟩) (z_preV hK hG hA hP hD hS (zrg 0 8) (z_hdl (n := 8) rfl) (by decide +kernel) 10 rfl rfl) rfl rfl hl.1 rfl (lv_room (Nat.le_of_ble_eq_true rfl)) dX8_stampShare_14 ⟨(Nat.le_of_ble_eq_true rfl), (Nat.le_of_ble_eq_true rfl)⟩) hA hP hD hS (zrg 0 8) (z_hdl (n := 8) rfl) rfl (fun H locs hP hD hS => ?_)
  have hP : va_P D vwCl (wRef k a0 (upA S0 0 (upZ (upZ (S0 0) 8 0) 7 0))) H := z_to (z_zhl (n := 8) rfl rfl) hP
  have hD : va_D A (wRef k a0 (upA S0 0 (upZ (upZ (S0 0) 8 0) 7 0))) := z_to2 (z_zhl (n := 8) rfl rfl) hD
  refine zi_if_eqB (tgt := 24) hx hb dX8_stampShare_17 (by decide) (fun _ => ?_) (fun h => absurd h (by decide))
  refine lv_aload_n hx hb dX8_stampShare_24 rfl (lv_at hl 0 rfl) ?_
  refine va_get (D := D) (ci := 10) (v := .ref (a0 1)) (C := RX8) (T := TX8) (N := 19) hx hb hts (fun w h => List.mem_cons_of_mem _ (List.mem_append_left _ (List.mem_append_right _ h))) hown hK hP 0 rfl rfl 0 (by decide) (hts (.fieldLink RX8 7 "MondayFactoryModel" "g" "[I") (List.mem_of_getElem? (i := 1) rfl)) (fun _ h9 => h9) rfl dX8_stampShare_25 ?_
  refine lv_iconst (v := iI 3) hx hb dX8_stampShare_28 rfl ?_
  refine z_iald hx hb hK hP 1 0 (f := S0 1) rfl rfl (i := 3) (by omega) (by omega) (by decide) 3 rfl dX8_stampShare_29 ?_
  refine lv_i2f hx hb dX8_stampShare_30 ?_
  refine lv_aload_n hx hb dX8_stampShare_31 rfl (lv_at hl 0 rfl) ?_
  refine lv_iconst (v := iI 3) hx hb dX8_stampShare_32 rfl ?_
  refine z_ai0 (va_runV (As := [.int (iI 3)]) (rest := [.float (FP.i2f (iI (S0 1 3)))]) ⟨hx, hb, hml, hown, hts⟩ (c_X8_summed l D k a0 (upA S0 0 (upZ (upZ (S0 0) 8 0) 7 0)) 3 hB hT hC (by decide) _) (cwV 1 hts gX8_stampShare_X8_summed rfl rfl rfl (by decide +kernel) ⟨(Nat.le_of_ble_eq_true rfl), (Nat.le_of_ble_eq_true rfl)⟩) (z_preV hK hG hA hP hD hS (zrg 0 8) (z_hdl (n := 8) rfl) (by decide +kernel) 10 rfl rfl) rfl rfl hl.1 rfl (lv_room (Nat.le_of_ble_eq_true rfl)) dX8_stampShare_33 ⟨(Nat.le_of_ble_eq_true rfl), (Nat.le_of_ble_eq_true rfl)⟩) hA hP hD hS (zrg 0 8) (z_hdl (n := 8) rfl) (fun H locs hP hS => ?_)
  have hP : va_P D vwCl (wRef k a0 (upA S0 0 (upZ (upZ (S0 0) 8 0) 7 0))) H := hP
  refine lv_i2f hx hb dX8_stampShare_36 ?_
  refine lv_fdiv hx hb dX8_stampShare_37 (by show vf_n32 (FP.fdiv (FP.i2f (iI (S0 1 3))) (FP.i2f (iI (rSummed (S0 1) 3)))); rw [de]; exact vf_32 dok) ?_
  exact z_fret hx hb hr hlocks hP hS dX8_stampShare_38 rfl rfl (Nat.le_refl _) (Nat.le_refl _)
set_option maxHeartbeats 4000000 in
set_option maxRecDepth 100000 in
theorem c_X8_stampShare_x (l : Launch) (D : va_G) (k : Nat → ClassId) (a0 : Nat → Nat) (S0 : Nat → Nat → Int) (hB : zBf (S0 1)) (hT : zBt (S0 1)) (hC : ∀ b : Int, 0 ≤ b → b ≤ 2 → 0 ≤ S0 1 (15 + 26 * b + 0).toNat ∧ S0 1 (15 + 26 * b + 0).toNat ≤ 5) (hd : 0 ≤ (rSummed (S0 1) 3) ∧ (rSummed (S0 1) 3) < 1000000) (hc : (rSummed (S0 1) 3) = 0) : zMf l yX8_stampShare wsX8_stampShare ({ frames := 5, cells := 0, slots := 0, locals := 113 } : Room) D k [.ref (a0 0)] (wRef k a0 S0) 0 (wRef k a0 (upA S0 0 (upZ (upZ (S0 0) 8 1) 7 0))) 0 0 := by
  refine zMf_of (cc := cX8_stampShare) (maxL := 1) (ret := (some .float)) (by decide) rfl (Nat.le_of_ble_eq_true rfl) ?_
  intro p e s m args below meth c A ls hx hb hr hml hown hts hlocks hK hP hD hG hA hS hl
  have hown : s.vm.findClass RX8 = some m.cls := hown
  have hl : lv_has ls 1 [(0, .ref (a0 0))] := hl
  obtain ⟨H, hH⟩ : ∃ z, z = s.heap := ⟨_, rfl⟩
  obtain ⟨locs, hlc⟩ : ∃ z : List Loc, z = [] := ⟨_, rfl⟩
  rw [← hH] at hP
  have hS : va_S A s.heap H locs := by rw [hH, hlc]; exact hS
  rw [← hlc, ← hH]
  clear hlc hH
  refine lv_aload_n hx hb dX8_stampShare_0 rfl (lv_at hl 0 rfl) ?_
  refine lv_aload_n hx hb dX8_stampShare_1 rfl (lv_at hl 0 rfl) ?_
  refine lv_iconst (v := iI 3) hx hb dX8_stampShare_2 rfl ?_
  refine z_ai0 (va_runV (As := [.int (iI 3)]) (rest := [.ref (a0 0)]) ⟨hx, hb, hml, hown, hts⟩ (c_X8_summed l D k a0 S0 3 hB hT hC (by decide) _) (cwV 1 hts gX8_stampShare_X8_summed rfl rfl rfl (by decide +kernel) ⟨(Nat.le_of_ble_eq_true rfl), (Nat.le_of_ble_eq_true rfl)⟩) (z_preV hK hG hA hP hD hS (zrg 0 8) (z_hdl (n := 8) rfl) (by decide +kernel) 10 rfl rfl) rfl rfl hl.1 rfl (lv_room (Nat.le_of_ble_eq_true rfl)) dX8_stampShare_3 ⟨(Nat.le_of_ble_eq_true rfl), (Nat.le_of_ble_eq_true rfl)⟩) hA hP hD hS (zrg 0 8) (z_hdl (n := 8) rfl) (fun H locs hP hS => ?_)
  refine zi_if_ne (tgt := 13) hx hb dX8_stampShare_6 (by decide) ⟨by omega, by omega⟩ (fun h => absurd hc h) (fun _ => ?_)
  refine lv_iconst (v := iI 1) hx hb dX8_stampShare_9 rfl ?_
  refine lv_goto (tgt := 14) hx hb dX8_stampShare_10 (by decide) ?_
  refine z_ai (va_runV (As := [.int (iI 1)]) (rest := []) ⟨hx, hb, hml, hown, hts⟩ (c_X8_fails l D k a0 S0 1 (by decide) _) (cwV 1 hts gX8_stampShare_X8_fails rfl rfl rfl (by decide +kernel) ⟨(Nat.le_of_ble_eq_true rfl), (Nat.le_of_ble_eq_true rfl)⟩) (z_preV hK hG hA hP hD hS (zrg 0 8) (z_hdl (n := 8) rfl) (by decide +kernel) 10 rfl rfl) rfl rfl hl.1 rfl (lv_room (Nat.le_of_ble_eq_true rfl)) dX8_stampShare_14 ⟨(Nat.le_of_ble_eq_true rfl), (Nat.le_of_ble_eq_true rfl)⟩) hA hP hD hS (zrg 0 8) (z_hdl (n := 8) rfl) rfl (fun H locs hP hD hS => ?_)
  have hP : va_P D vwCl (wRef k a0 (upA S0 0 (upZ (upZ (S0 0) 8 1) 7 0))) H := z_to (z_zhl (n := 8) rfl rfl) hP
  have hD : va_D A (wRef k a0 (upA S0 0 (upZ (upZ (S0 0) 8 1) 7 0))) := z_to2 (z_zhl (n := 8) rfl rfl) hD
  refine zi_if_eqB (tgt := 24) hx hb dX8_stampShare_17 (by decide) (fun h => absurd (by decide) h) (fun _ => ?_)
  refine lv_fconst0 hx hb dX8_stampShare_20 ?_
  refine lv_goto (tgt := 38) hx hb dX8_stampShare_21 (by decide) ?_
  exact z_fret hx hb hr hlocks hP hS dX8_stampShare_38 rfl rfl (Nat.le_refl _) (Nat.le_refl _)
set_option maxHeartbeats 4000000 in
set_option maxRecDepth 100000 in
theorem c_L_meanGrey_ok (l : Launch) (hst : l.stackTraces = false) (D : va_G) (k : Nat → ClassId) (a0 : Nat → Nat) (o1 : Nat → Nat) (S0 : Nat → Nat → Int) (S1 : Nat → Nat → Int) (X : Nat → UInt64) (hp : pOK S1) (hd : 0 ≤ (S1 3 1 - wBlanks (S1 4) (S1 3 1)) + (S1 6 1 - wBlanks (S1 7) (S1 6 1)) + (S1 9 1 - wBlanks (S1 10) (S1 9 1)) ∧ (S1 3 1 - wBlanks (S1 4) (S1 3 1)) + (S1 6 1 - wBlanks (S1 7) (S1 6 1)) + (S1 9 1 - wBlanks (S1 10) (S1 9 1)) < 1000000) (hc : 1 ≤ (S1 3 1 - wBlanks (S1 4) (S1 3 1)) + (S1 6 1 - wBlanks (S1 7) (S1 6 1)) + (S1 9 1 - wBlanks (S1 10) (S1 9 1))) : zML l yL_meanGrey wsL_meanGrey ({ frames := 6, cells := 1, slots := 6, locals := 112 } : Room) D k [.ref (a0 0), .ref (o1 0)] (wFac k a0 S0 ++ (wPlant k (subA a0 1) S1 ++ wArrD k o1 X)) (0) (wFac k a0 S0 ++ (wPlant k (subA a0 1) S1 ++ wArrD k o1 (vf_upd X 0 (FP.ddiv (FP.i2d (iI (wGreys (S1 4) (S1 3 1) + wGreys (S1 7) (S1 6 1) + wGreys (S1 10) (S1 9 1)))) (FP.i2d (iI ((S1 3 1 - wBlanks (S1 4) (S1 3 1)) + (S1 6 1 - wBlanks (S1 7) (S1 6 1)) + (S1 9 1 - wBlanks (S1 10) (S1 9 1))))))))) 1 6 := by
  refine zML_of (cc := cL_meanGrey) (maxL := 3) (ret := (some .int)) (hh := [(0, 7, 10, 114)]) (by decide) rfl (Nat.le_of_ble_eq_true rfl) ?_
  intro p e s m args below meth c A ls hx hb hr hml hown hts hlocks hK hP hD hG hE hT hA hS hl
  have hown : s.vm.findClass RL = some m.cls := hown
  have hl : lv_has ls 3 [(0, .ref (a0 0)), (1, .ref (o1 0))] := hl
  obtain ⟨H, hH⟩ : ∃ z, z = s.heap := ⟨_, rfl⟩
  obtain ⟨locs, hlc⟩ : ∃ z : List Loc, z = [] := ⟨_, rfl⟩
  rw [← hH] at hP
  have hS : va_S A s.heap H locs := by rw [hH, hlc]; exact hS
  rw [← hlc, ← hH]
  clear hlc hH
  have kp := hp.2
  refine lv_aload_n hx hb dL_meanGrey_0 rfl (lv_at hl 1 rfl) ?_
  refine lv_iconst (v := iI 0) hx hb dL_meanGrey_1 rfl ?_
  refine lv_aload_n hx hb dL_meanGrey_2 rfl (lv_at hl 0 rfl) ?_
  refine z_ad (va_runV (As := []) (rest := [.int (iI 0), .ref (o1 0)]) ⟨hx, hb, hml, hown, hts⟩ (c_X7_meanGrey_ok l D k a0 S0 S1 hp hd hc _) (cwV 0 hts gL_meanGrey_X7_meanGrey rfl rfl rfl (by decide +kernel) ⟨(Nat.le_of_ble_eq_true rfl), (Nat.le_of_ble_eq_true rfl)⟩) (z_preV hK hG hA hP hD hS (zrg 0 1 ++ zrg 1 15) (z_mcat (z_hd (n := 1) rfl) (z_sk (n := 1) (off := 0) (m := 15) rfl (z_hd (n := 15) rfl))) (by decide +kernel) 9 rfl rfl) rfl rfl hl.1 rfl (lv_room (Nat.le_of_ble_eq_true rfl)) dL_meanGrey_3 ⟨(Nat.le_of_ble_eq_true rfl), (Nat.le_of_ble_eq_true rfl)⟩) hA hP hD hS (zrg 0 1 ++ zrg 1 15) (z_mcat (z_hd (n := 1) rfl) (z_sk (n := 1) (off := 0) (m := 15) rfl (z_hd (n := 15) rfl))) rfl (fun H locs hP hD hS => ?_)
  have hP : va_P D vwCl (wFac k a0 S0 ++ (wPlant k (subA a0 1) S1 ++ wArrD k o1 X)) H := z_to (zset_same (is := zrg 0 1 ++ zrg 1 15) (z_mcat (z_hd (n := 1) rfl) (z_sk (n := 1) (off := 0) (m := 15) rfl (z_hd (n := 15) rfl)))) hP
  have hD : va_D A (wFac k a0 S0 ++ (wPlant k (subA a0 1) S1 ++ wArrD k o1 X)) := z_to2 (zset_same (is := zrg 0 1 ++ zrg 1 15) (z_mcat (z_hd (n := 1) rfl) (z_sk (n := 1) (off := 0) (m := 15) rfl (z_hd (n := 15) rfl)))) hD
  refine va_dast hx hb hK hP hD hS 16 5 (f := X) (i := iI 0) rfl rfl (z_in (by omega) (by omega) (by decide)) dL_meanGrey_6 (fun H locs hP hD hS => ?_)
  have hP : va_P D vwCl (wFac k a0 S0 ++ (wPlant k (subA a0 1) S1 ++ wArrD k o1 (vf_upd X 0 (FP.ddiv (FP.i2d (iI (wGreys (S1 4) (S1 3 1) + wGreys (S1 7) (S1 6 1) + wGreys (S1 10) (S1 9 1)))) (FP.i2d (iI ((S1 3 1 - wBlanks (S1 4) (S1 3 1)) + (S1 6 1 - wBlanks (S1 7) (S1 6 1)) + (S1 9 1 - wBlanks (S1 10) (S1 9 1))))))))) H := hP
  refine lv_goto (tgt := 13) hx hb dL_meanGrey_7 (by decide) ?_
  refine lv_iconst (v := iI 0) hx hb dL_meanGrey_13 rfl ?_
  exact vx_ret (z_iret hx hb hr hlocks hP hS dL_meanGrey_14 rfl rfl (Nat.le_of_ble_eq_true rfl) (Nat.le_of_ble_eq_true rfl))
set_option maxHeartbeats 4000000 in
set_option maxRecDepth 100000 in
theorem c_L_meanGrey_x (l : Launch) (hst : l.stackTraces = false) (D : va_G) (k : Nat → ClassId) (a0 : Nat → Nat) (o1 : Nat → Nat) (S0 : Nat → Nat → Int) (S1 : Nat → Nat → Int) (X : Nat → UInt64) (hp : pOK S1) (hd : 0 ≤ (S1 3 1 - wBlanks (S1 4) (S1 3 1)) + (S1 6 1 - wBlanks (S1 7) (S1 6 1)) + (S1 9 1 - wBlanks (S1 10) (S1 9 1)) ∧ (S1 3 1 - wBlanks (S1 4) (S1 3 1)) + (S1 6 1 - wBlanks (S1 7) (S1 6 1)) + (S1 9 1 - wBlanks (S1 10) (S1 9 1)) < 1000000) (hc : (S1 3 1 - wBlanks (S1 4) (S1 3 1)) + (S1 6 1 - wBlanks (S1 7) (S1 6 1)) + (S1 9 1 - wBlanks (S1 10) (S1 9 1)) = 0) : zML l yL_meanGrey wsL_meanGrey ({ frames := 7, cells := 1, slots := 6, locals := 112 } : Room) D k [.ref (a0 0), .ref (o1 0)] (wFac k a0 S0 ++ (wPlant k (subA a0 1) S1 ++ wArrD k o1 X)) (1) (wFac k a0 S0 ++ (wPlant k (subA a0 1) S1 ++ wArrD k o1 X)) 1 6 := by
  refine zML_of (cc := cL_meanGrey) (maxL := 3) (ret := (some .int)) (hh := [(0, 7, 10, 114)]) (by decide) rfl (Nat.le_of_ble_eq_true rfl) ?_
  intro p e s m args below meth c A ls hx hb hr hml hown hts hlocks hK hP hD hG hE hT hA hS hl
  have hown : s.vm.findClass RL = some m.cls := hown
  have hl : lv_has ls 3 [(0, .ref (a0 0)), (1, .ref (o1 0))] := hl
  obtain ⟨H, hH⟩ : ∃ z, z = s.heap := ⟨_, rfl⟩
  obtain ⟨locs, hlc⟩ : ∃ z : List Loc, z = [] := ⟨_, rfl⟩
  rw [← hH] at hP
  have hS : va_S A s.heap H locs := by rw [hH, hlc]; exact hS
  rw [← hlc, ← hH]
  clear hlc hH
  have kp := hp.2
  refine lv_aload_n hx hb dL_meanGrey_0 rfl (lv_at hl 1 rfl) ?_
  refine lv_iconst (v := iI 0) hx hb dL_meanGrey_1 rfl ?_
  refine lv_aload_n hx hb dL_meanGrey_2 rfl (lv_at hl 0 rfl) ?_
  refine z_axc0 (vx_runV (As := []) (rest := [.int (iI 0), .ref (o1 0)]) ⟨hx, hb, hml, hown, hts⟩ (c_X7_meanGrey_x l hst D k a0 S0 S1 hp hd hc _) (cwV 0 hts gL_meanGrey_X7_meanGrey rfl rfl rfl (by decide +kernel) ⟨(Nat.le_of_ble_eq_true rfl), (Nat.le_of_ble_eq_true rfl)⟩) (z_preVx hK hG hE hA hP hD hS (zrg 0 1 ++ zrg 1 15) (z_mcat (z_hd (n := 1) rfl) (z_sk (n := 1) (off := 0) (m := 15) rfl (z_hd (n := 15) rfl))) (by decide +kernel) 9 rfl rfl) rfl rfl hl.1 rfl (lv_room (Nat.le_of_ble_eq_true rfl)) dL_meanGrey_3 ⟨(Nat.le_of_ble_eq_true rfl), (Nat.le_of_ble_eq_true rfl)⟩) hA hP hD hS (zrg 0 1 ++ zrg 1 15) (z_mcat (z_hd (n := 1) rfl) (z_sk (n := 1) (off := 0) (m := 15) rfl (z_hd (n := 15) rfl))) (fun ce q9 H locs hP hS hce hcv hcl => ?_)
  refine vx_catch (name := "java/lang/ArithmeticException") (E := "java/lang/ArithmeticException") hown [] (⟨0, 7, 10, 114⟩ : ExceptionTableEntry) [] (hT.trans rfl) (fun _ h => absurd h List.not_mem_nil) rfl (by decide) (hts (.classLink RL 114 "java/lang/ArithmeticException") (List.mem_of_getElem? (i := 1) rfl)) (va_Nw.use rfl (hE.1 "java/lang/ArithmeticException" zXm_arit)) hce hcv hcl ?_
  refine lv_astore_n (lv' := [(2, .ref q9), (0, .ref (a0 0)), (1, .ref (o1 0))]) hx hb dL_meanGrey_10 rfl hl (by decide) rfl (fun ls hl => ?_)
  refine lv_iconst (v := iI 1) hx hb dL_meanGrey_11 rfl ?_
  exact vx_ret (z_iret hx hb hr hlocks hP hS dL_meanGrey_12 rfl rfl (Nat.le_of_ble_eq_true rfl) (Nat.le_of_ble_eq_true rfl))
set_option maxHeartbeats 4000000 in
set_option maxRecDepth 100000 in
theorem c_L_stampShare_ok (l : Launch) (hst : l.stackTraces = false) (D : va_G) (k : Nat → ClassId) (a0 : Nat → Nat) (o1 : Nat → Nat) (S0 : Nat → Nat → Int) (S1 : Nat → Nat → Int) (X : Nat → UInt64) (hp : pOK S1) (hd : 0 ≤ S1 2 4 + S1 5 4 + S1 8 4 ∧ S1 2 4 + S1 5 4 + S1 8 4 < 1000000) (hc : 1 ≤ S1 2 4 + S1 5 4 + S1 8 4) : zML l yL_stampShare wsL_stampShare ({ frames := 6, cells := 1, slots := 6, locals := 112 } : Room) D k [.ref (a0 0), .ref (o1 0)] (wFac k a0 S0 ++ (wPlant k (subA a0 1) S1 ++ wArrD k o1 X)) (0) (wFac k a0 S0 ++ (wPlant k (subA a0 1) S1 ++ wArrD k o1 (vf_upd X 0 (FP.f2d (FP.fdiv (FP.i2f (iI (S1 2 5 + S1 5 5 + S1 8 5))) (FP.i2f (iI (S1 2 4 + S1 5 4 + S1 8 4)))))))) 1 6 := by
  refine zML_of (cc := cL_stampShare) (maxL := 3) (ret := (some .int)) (hh := [(0, 8, 11, 114)]) (by decide) rfl (Nat.le_of_ble_eq_true rfl) ?_
  intro p e s m args below meth c A ls hx hb hr hml hown hts hlocks hK hP hD hG hE hT hA hS hl
  have hown : s.vm.findClass RL = some m.cls := hown
  have hl : lv_has ls 3 [(0, .ref (a0 0)), (1, .ref (o1 0))] := hl
  obtain ⟨H, hH⟩ : ∃ z, z = s.heap := ⟨_, rfl⟩
  obtain ⟨locs, hlc⟩ : ∃ z : List Loc, z = [] := ⟨_, rfl⟩
  rw [← hH] at hP
  have hS : va_S A s.heap H locs := by rw [hH, hlc]; exact hS
  rw [← hlc, ← hH]
  clear hlc hH
  have kp := hp.2
  obtain ⟨dn, dok, de⟩ := fdiv_ok (iI (S1 2 5 + S1 5 5 + S1 8 5)) (y := S1 2 4 + S1 5 4 + S1 8 4) ⟨hc, by omega⟩
  obtain ⟨dm, dmok, dme⟩ := f2d_ok dok
  refine lv_aload_n hx hb dL_stampShare_0 rfl (lv_at hl 1 rfl) ?_
  refine lv_iconst (v := iI 0) hx hb dL_stampShare_1 rfl ?_
  refine lv_aload_n hx hb dL_stampShare_2 rfl (lv_at hl 0 rfl) ?_
  refine z_af (va_runV (As := []) (rest := [.int (iI 0), .ref (o1 0)]) ⟨hx, hb, hml, hown, hts⟩ (c_X7_stampShare_ok l D k a0 S0 S1 hp hd hc _) (cwV 0 hts gL_stampShare_X7_stampShare rfl rfl rfl (by decide +kernel) ⟨(Nat.le_of_ble_eq_true rfl), (Nat.le_of_ble_eq_true rfl)⟩) (z_preV hK hG hA hP hD hS (zrg 0 1 ++ zrg 1 15) (z_mcat (z_hd (n := 1) rfl) (z_sk (n := 1) (off := 0) (m := 15) rfl (z_hd (n := 15) rfl))) (by decide +kernel) 9 rfl rfl) rfl rfl hl.1 rfl (lv_room (Nat.le_of_ble_eq_true rfl)) dL_stampShare_3 ⟨(Nat.le_of_ble_eq_true rfl), (Nat.le_of_ble_eq_true rfl)⟩) hA hP hD hS (zrg 0 1 ++ zrg 1 15) (z_mcat (z_hd (n := 1) rfl) (z_sk (n := 1) (off := 0) (m := 15) rfl (z_hd (n := 15) rfl))) rfl (fun H locs hP hD hS => ?_)
  have hP : va_P D vwCl (wFac k a0 S0 ++ (wPlant k (subA a0 1) S1 ++ wArrD k o1 X)) H := z_to (zset_same (is := zrg 0 1 ++ zrg 1 15) (z_mcat (z_hd (n := 1) rfl) (z_sk (n := 1) (off := 0) (m := 15) rfl (z_hd (n := 15) rfl)))) hP
  have hD : va_D A (wFac k a0 S0 ++ (wPlant k (subA a0 1) S1 ++ wArrD k o1 X)) := z_to2 (zset_same (is := zrg 0 1 ++ zrg 1 15) (z_mcat (z_hd (n := 1) rfl) (z_sk (n := 1) (off := 0) (m := 15) rfl (z_hd (n := 15) rfl)))) hD
  refine lv_f2d hx hb dL_stampShare_6 (by rw [de, dme]; exact vf_64 dmok) ?_
  refine va_dast hx hb hK hP hD hS 16 5 (f := X) (i := iI 0) rfl rfl (z_in (by omega) (by omega) (by decide)) dL_stampShare_7 (fun H locs hP hD hS => ?_)
  have hP : va_P D vwCl (wFac k a0 S0 ++ (wPlant k (subA a0 1) S1 ++ wArrD k o1 (vf_upd X 0 (FP.f2d (FP.fdiv (FP.i2f (iI (S1 2 5 + S1 5 5 + S1 8 5))) (FP.i2f (iI (S1 2 4 + S1 5 4 + S1 8 4)))))))) H := hP
  refine lv_goto (tgt := 14) hx hb dL_stampShare_8 (by decide) ?_
  refine lv_iconst (v := iI 0) hx hb dL_stampShare_14 rfl ?_
  exact vx_ret (z_iret hx hb hr hlocks hP hS dL_stampShare_15 rfl rfl (Nat.le_of_ble_eq_true rfl) (Nat.le_of_ble_eq_true rfl))
set_option maxHeartbeats 4000000 in
set_option maxRecDepth 100000 in
theorem c_L_stampShare_x (l : Launch) (hst : l.stackTraces = false) (D : va_G) (k : Nat → ClassId) (a0 : Nat → Nat) (o1 : Nat → Nat) (S0 : Nat → Nat → Int) (S1 : Nat → Nat → Int) (X : Nat → UInt64) (hp : pOK S1) (hd : 0 ≤ S1 2 4 + S1 5 4 + S1 8 4 ∧ S1 2 4 + S1 5 4 + S1 8 4 < 1000000) (hc : S1 2 4 + S1 5 4 + S1 8 4 = 0) : zML l yL_stampShare wsL_stampShare ({ frames := 7, cells := 1, slots := 6, locals := 112 } : Room) D k [.ref (a0 0), .ref (o1 0)] (wFac k a0 S0 ++ (wPlant k (subA a0 1) S1 ++ wArrD k o1 X)) (1) (wFac k a0 S0 ++ (wPlant k (subA a0 1) S1 ++ wArrD k o1 X)) 1 6 := by
  refine zML_of (cc := cL_stampShare) (maxL := 3) (ret := (some .int)) (hh := [(0, 8, 11, 114)]) (by decide) rfl (Nat.le_of_ble_eq_true rfl) ?_
  intro p e s m args below meth c A ls hx hb hr hml hown hts hlocks hK hP hD hG hE hT hA hS hl
  have hown : s.vm.findClass RL = some m.cls := hown
  have hl : lv_has ls 3 [(0, .ref (a0 0)), (1, .ref (o1 0))] := hl
  obtain ⟨H, hH⟩ : ∃ z, z = s.heap := ⟨_, rfl⟩
  obtain ⟨locs, hlc⟩ : ∃ z : List Loc, z = [] := ⟨_, rfl⟩
  rw [← hH] at hP
  have hS : va_S A s.heap H locs := by rw [hH, hlc]; exact hS
  rw [← hlc, ← hH]
  clear hlc hH
  have kp := hp.2
  refine lv_aload_n hx hb dL_stampShare_0 rfl (lv_at hl 1 rfl) ?_
  refine lv_iconst (v := iI 0) hx hb dL_stampShare_1 rfl ?_
  refine lv_aload_n hx hb dL_stampShare_2 rfl (lv_at hl 0 rfl) ?_
  refine z_axc0 (vx_runV (As := []) (rest := [.int (iI 0), .ref (o1 0)]) ⟨hx, hb, hml, hown, hts⟩ (c_X7_stampShare_x l hst D k a0 S0 S1 hp hd hc _) (cwV 0 hts gL_stampShare_X7_stampShare rfl rfl rfl (by decide +kernel) ⟨(Nat.le_of_ble_eq_true rfl), (Nat.le_of_ble_eq_true rfl)⟩) (z_preVx hK hG hE hA hP hD hS (zrg 0 1 ++ zrg 1 15) (z_mcat (z_hd (n := 1) rfl) (z_sk (n := 1) (off := 0) (m := 15) rfl (z_hd (n := 15) rfl))) (by decide +kernel) 9 rfl rfl) rfl rfl hl.1 rfl (lv_room (Nat.le_of_ble_eq_true rfl)) dL_stampShare_3 ⟨(Nat.le_of_ble_eq_true rfl), (Nat.le_of_ble_eq_true rfl)⟩) hA hP hD hS (zrg 0 1 ++ zrg 1 15) (z_mcat (z_hd (n := 1) rfl) (z_sk (n := 1) (off := 0) (m := 15) rfl (z_hd (n := 15) rfl))) (fun ce q9 H locs hP hS hce hcv hcl => ?_)
  refine vx_catch (name := "java/lang/ArithmeticException") (E := "java/lang/ArithmeticException") hown [] (⟨0, 8, 11, 114⟩ : ExceptionTableEntry) [] (hT.trans rfl) (fun _ h => absurd h List.not_mem_nil) rfl (by decide) (hts (.classLink RL 114 "java/lang/ArithmeticException") (List.mem_of_getElem? (i := 1) rfl)) (va_Nw.use rfl (hE.1 "java/lang/ArithmeticException" zXm_arit)) hce hcv hcl ?_
  refine lv_astore_n (lv' := [(2, .ref q9), (0, .ref (a0 0)), (1, .ref (o1 0))]) hx hb dL_stampShare_11 rfl hl (by decide) rfl (fun ls hl => ?_)
  refine lv_iconst (v := iI 1) hx hb dL_stampShare_12 rfl ?_
  exact vx_ret (z_iret hx hb hr hlocks hP hS dL_stampShare_13 rfl rfl (Nat.le_of_ble_eq_true rfl) (Nat.le_of_ble_eq_true rfl))
