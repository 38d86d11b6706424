/-! the constructors -/
def zC (U : State) : Prop := va_AO RX0 U ∧ va_AO RX5 U
theorem zC.moved {u U : State} (hvm : u.vm.Alike U.vm) (h : zC u) : zC U := ⟨h.1.moved hvm, h.2.moved hvm⟩
def zPcC (D : va_G) (k : Nat → ClassId) (h0 : Nat) (e0 : va_E) (sz : Nat) : Array Value → State → Prop := fun a U => zPc D k [.ref h0] [(h0, e0)] sz a U ∧ zC U
theorem zPcC.blind (D : va_G) (k : Nat → ClassId) (h0 : Nat) (e0 : va_E) (sz : Nat) : FrameBlind (zPcC D k h0 e0 sz) := by
  rintro a U g mk ⟨h1, h2⟩
  exact ⟨zPc.blind D k _ _ sz a U g mk h1, h2.moved (u := U) (U := U.calling g mk a) (Vm.Alike.refl U.vm)⟩
abbrev zQc (D : va_G) (A : Nat → Prop) (h0 : Nat) (W : (Nat → Nat) → va_W) : Array Value → State → Outcome → State → Prop := va_Qv (fun a : Nat → Nat => a 0 = h0) (fun a t => va_P D vwCl (W a) t.heap ∧ va_D A (W a)) A
def zMc (l : Launch) (y : MethodName) (ws : List Cond) (rm : Room) (D : va_G) (k : Nat → ClassId) (e0 : va_E) (W : (Nat → Nat) → va_W) (mc ms : Nat) : Prop := ∀ h0 sz : Nat, Met l y ws rm (zPcC D k h0 e0 sz) (zQc D (va_A [(h0, e0)] sz) h0 W) mc ms (va_A [(h0, e0)] sz)
theorem zMc_of {l : Launch} {y : MethodName} {ws ws' : List Cond} {rm : Room} {D : va_G} {k : Nat → ClassId} {e0 : va_E} {Wn : (Nat → Nat) → va_W} {mc ms : Nat} {cc : ByteArray} {maxL : Nat} {ret : Option FieldType} (hy : plainName y.cls = true) (hw : ws = Cond.code y cc maxL ret :: ws') (hn : 1 ≤ maxL) (hyn : y.name = "<init>")
    (body : ∀ (h0 : Nat) (p : Program) (e : Env) (s : State) (m : MethodId) (args : Array Value) (below : List Frame) (meth : Method) (c : Code) (A : Nat → Prop) (ls : Array Slot), p.tables.exec = Jvm.exec → c.code = cc → meth.sig.returnType = ret → c.maxLocals = maxL → s.vm.findClass y.cls = some m.cls → (∀ w ∈ ws, w.before args s = true) → meth.locks = false → meth.name = "<init>" → va_K D vwCl (zT k) s → va_P D vwCl [(h0, e0)] s.heap → va_D A [(h0, e0)] → zG A s → zC s → (∀ q : Nat, s.heap.size ≤ q → A q) → va_S A s.heap s.heap [] → lv_has ls maxL [(0, .ref h0)] →
      W p l e rm s m args below meth c s.heap [] 0 0 (MQ below (zQc D A h0 Wn) args s mc ms A) (F0 m 0 ls [])) : zMc l y ws rm D k e0 Wn mc ms := by
  intro h0 sz
  refine Met.ofW (cc := cc) (maxL := maxL) (ret := ret) hy hw ?_
  intro p e s m args below meth c s₁ B hml hv
  obtain ⟨⟨rfl, hsz, hP, hK, hD0, hG⟩, hC⟩ := hv
  have hl := lv_entry [.ref h0] (n := maxL) hn
  rw [lg_entry_eq]
  subst hsz
  exact body h0 p e s m _ below meth c _ _ B.exec B.bytes B.returns hml (findClass_of_methodNamed B.named) (atoms_spec (ws := ws) B.pre) B.notSynchronized ((name_of_methodNamed B.named B.method).1.trans hyn) hK hP hD0.self hG hC (fun q h => Or.inr h) va_S.rf hl
section ZC
variable {p : Program} {l : Launch} {e : Env} {R : Room} {s : State} {m : MethodId} {args : Array Value} {below : List Frame} {meth : Method} {c : Code} {H : Heap} {locs : List Loc} {cells slots : Nat} {Q : State → Prop}
variable {cc : ByteArray} {pc : Nat} {ls : Array Slot} {rest : List Value} {D : va_G} {cl : List vw_C} {A : Nat → Prop} {mc ms : Nat} {w w' : va_W} {k : Nat → ClassId} {ws wc wc' wr : va_W} {b a : Nat} {As : List Value}
theorem z_cret {Wn : (Nat → Nat) → va_W} {h : Nat} (hx : p.tables.exec = Jvm.exec) (hb : c.code = cc) (hr : meth.sig.returnType = none) (hlocks : meth.locks = false) (hS : va_S A s.heap H locs) (hdg : decode cc pc = .ok (.return_, 1)) (a : Nat → Nat) (h0 : a 0 = h) (hP : va_P D vwCl (Wn a) H) (hD : va_D A (Wn a)) (hc : cells ≤ mc) (hs : slots ≤ ms) : W p l e R s m args below meth c H locs cells slots (MQ below (zQc D A h Wn) args s mc ms A) (F0 m pc ls []) :=
  W.widen hc hs (W.vret hx hb hr (fun t ht hW => ⟨⟨a, rfl, h0, by rw [ht]; exact hP, hD⟩, hS.F ht⟩) hS.2.2 hdg hlocks)
theorem z_rgR : ∀ (n o : Nat), (∀ i ∈ zrg o n, o ≤ i ∧ i < o + n) ∧ va_nd (zrg o n) = true := by
  intro n
  induction n with
  | zero => intro o; exact ⟨fun i h => (by cases h), rfl⟩
  | succ n ih =>
    intro o
    have h := ih (o + 1)
    refine ⟨fun i hi => ?_, ?_⟩
    · rcases List.mem_cons.mp hi with rfl | hi
      · omega
      · have := h.1 i hi; omega
    · show (decide (o ∉ zrg (o + 1) n) && va_nd (zrg (o + 1) n)) = true
      rw [h.2, Bool.and_true, decide_eq_true_eq]
      intro hi
      have := h.1 o hi
      omega
theorem z_lastC {q : Nat} {e0 : va_E} : [wr.length].map (fun i => (wr ++ [(q, e0)])[i]?) = [(q, e0)].map some := by simp
/-- a constructor called on the world's last cell -/
theorem z_acv {q : Nat} {e0 : va_E} {Wn : (Nat → Nat) → va_W} {av : Array Value} {st : List Value} (hr : va_Run p l e R s m args below meth c H locs cells slots mc ms (F0 m pc ls st) rest (zQc D (va_A [(q, e0)] H.size) q Wn av) (va_A [(q, e0)] H.size)) (hA : ∀ q : Nat, s.heap.size ≤ q → A q) (hP : va_P D vwCl (wr ++ [(q, e0)]) H) (hD : va_D A (wr ++ [(q, e0)])) (hS : va_S A s.heap H locs)
    (kk : ∀ (a : Nat → Nat) (H1 : Heap) (locs1 : List Loc), a 0 = q → va_P D vwCl (wr ++ Wn a) H1 → va_D A (wr ++ Wn a) → va_S A s.heap H1 locs1 → W p l e R s m args below meth c H1 locs1 (cells + mc) (slots + ms) Q (F0 m (pc + 3) ls rest)) : W p l e R s m args below meth c H locs cells slots Q (F0 m pc ls st) := by
  have hFc := va_free hD hS hA [wr.length] z_lastC
  refine va_callv hr hS (fun x _ h => hFc x h) hFc (fun u t H1 locs1 ht hvm hw hB hz1 hk1 hS1 => ?_)
  obtain ⟨hB1, hB2⟩ := hB
  rw [ht] at hB1
  have hR := z_rgR wr.length 0
  obtain ⟨hP', hD'⟩ := va_join (wr := wr) hP hD [wr.length] (zrg 0 wr.length) z_lastC (z_hd rfl) hR.2 (fun i hi hm => by have h1 := hR.1 i hi; rw [List.mem_singleton] at hm; omega) hk1 hFc hB1 hB2
  exact kk u H1 locs1 hw hP' hD' hS1
theorem z_preC {q : Nat} {e0 : va_E} (hK : va_K D vwCl (zT k) s) (hG : zG A s) (hC : zC s) (hA : ∀ q : Nat, s.heap.size ≤ q → A q) (hP : va_P D vwCl (wr ++ [(q, e0)]) H) (hD : va_D A (wr ++ [(q, e0)])) (hS : va_S A s.heap H locs) : PreS s H (zPcC D k q e0 H.size) [.ref q] :=
  ⟨zPcC.blind _ _ _ _ _, fun U hU hW => ⟨(z_preS hK hG hA hP hD hS [wr.length] z_lastC rfl).2 U hU hW, hC.moved hW.alike⟩⟩
theorem zK_eq {tys : List (ClassId × FieldType)} {cA cB : ClassId} {ty : FieldType} (h : va_K D cl (tys ++ [(cA, ty)]) s) (i : Nat) (hi : tys[i]? = some (cB, ty)) : cA = cB := by
  have h1 := (h.2 tys.length (cA, ty) (by simp)).2
  have hl := (List.getElem?_eq_some_iff.mp hi).1
  have h2 := (h.2 i (cB, ty) (by rw [List.getElem?_append_left hl]; exact hi)).2
  cases ty with
  | object C =>
    obtain ⟨_, _, _, _, _, e1⟩ := h1
    obtain ⟨_, _, _, _, _, e2⟩ := h2
    exact Option.some.inj (e1.symm.trans e2)
  | _ =>
    have e1 : s.vm.findClass _ = some cA := h1
    have e2 : s.vm.findClass _ = some cB := h2
    exact Option.some.inj (e1.symm.trans e2)
theorem z_nrmQ {cA : ClassId} {n : Nat} {f : Nat → Option Nat} (hP : va_P D cl ws H) (q0 : Nat) (g : Nat → Option Nat) (he : ws[q0]? = some (a, .inl (cA, n, .inr (.inr (.inr (.inr f)))))) (hfg : ∀ j, j < n → f j = g j) : va_P D cl (ws.set q0 (a, .inl (cA, n, .inr (.inr (.inr (.inr g)))))) H := by
  intro i q hi
  by_cases h : q0 = i
  · subst h
    have hl := (List.getElem?_eq_some_iff.mp he).1
    rw [List.getElem?_set_self hl] at hi
    cases hi
    have h1 : H[a]? = some (vp_cell cA (n, .inr (.inr (.inr (.inr f))))) := hP q0 _ he
    show H[a]? = some (vp_cell cA (n, .inr (.inr (.inr (.inr g)))))
    rw [h1, vp_cell_q, vp_cell_q]
    unfold arrV
    congr 2
    congr 1
    funext j
    show va_rf (f j.val) = va_rf (g j.val)
    rw [hfg j.val j.isLt]
  · rw [List.getElem?_set_ne h] at hi
    exact hP i q hi
theorem zP_app {w1 w2 : va_W} : va_P D cl (w1 ++ w2) H ↔ va_P D cl w1 H ∧ va_P D cl w2 H := by
  constructor
  · intro h
    refine ⟨fun i q hi => h i q ?_, fun i q hi => h (w1.length + i) q ?_⟩
    · rw [List.getElem?_append_left (List.getElem?_eq_some_iff.mp hi).1]; exact hi
    · rw [List.getElem?_append_right (by omega), Nat.add_sub_cancel_left]; exact hi
  · rintro ⟨h1, h2⟩ i q hi
    by_cases hl : i < w1.length
    · rw [List.getElem?_append_left hl] at hi; exact h1 i q hi
    · rw [List.getElem?_append_right (by omega)] at hi; exact h2 _ q hi
end ZC
-- addresses in blocks
def zsel (n : Nat) (f g : Nat → Nat) : Nat → Nat := fun i => if i < n then f i else g (i - n)
theorem zsel_in {n : Nat} {f g : Nat → Nat} {i : Nat} (h : i < n) : zsel n f g i = f i := if_pos h
theorem subA_sel {n : Nat} {f g : Nat → Nat} : subA (zsel n f g) n = g := by
  funext i
  show zsel n f g (n + i) = g i
  unfold zsel
  rw [if_neg (by omega), Nat.add_sub_cancel_left]
theorem subA_selm {n m : Nat} {f g : Nat → Nat} : subA (zsel n f g) (n + m) = subA g m := by
  funext i
  show zsel n f g (n + m + i) = g (m + i)
  unfold zsel
  rw [if_neg (by omega)]
  congr 1
  omega
theorem wPlant_cg {D : va_G} {cl : List vw_C} {k : Nat → ClassId} {a b : Nat → Nat} {S : Nat → Nat → Int} {H : Heap} (h : ∀ i, i < 15 → a i = b i) (hP : va_P D cl (wPlant k a S) H) : va_P D cl (wPlant k b S) H := by
  have h1 := z_nrmQ hP 1 (fun j => some (b (2 + 3 * j))) rfl (fun j hj => by rw [h _ (by omega)])
  have e : wPlant k b S = (wPlant k a S).set 1 (a 1, .inl (k 2, 3, .inr (.inr (.inr (.inr (fun j => some (b (2 + 3 * j)))))))) := by
    simp only [wPlant, List.set, h 0 (by decide), h 1 (by decide), h 2 (by decide), h 3 (by decide), h 4 (by decide), h 5 (by decide), h 6 (by decide), h 7 (by decide), h 8 (by decide), h 9 (by decide), h 10 (by decide), h 11 (by decide), h 12 (by decide), h 13 (by decide), h 14 (by decide)]
  rw [e]
  exact h1
theorem wPlant_fc {k : Nat → ClassId} {a b : Nat → Nat} {S T : Nat → Nat → Int} (h : ∀ i, i < 15 → a i = b i) : (wPlant k b T).map Prod.fst = (wPlant k a S).map Prod.fst := by
  simp only [wPlant, List.map, h 0 (by decide), h 1 (by decide), h 2 (by decide), h 3 (by decide), h 4 (by decide), h 5 (by decide), h 6 (by decide), h 7 (by decide), h 8 (by decide), h 9 (by decide), h 10 (by decide), h 11 (by decide), h 12 (by decide), h 13 (by decide), h 14 (by decide)]
theorem wHist_cg {D : va_G} {cl : List vw_C} {k : Nat → ClassId} {a b : Nat → Nat} {S : Nat → Nat → Int} {H : Heap} (h : ∀ i, i < 122 → a i = b i) (hP : va_P D cl (wHist k a S) H) : va_P D cl (wHist k b S) H := by
  have h1 := z_nrmQ hP 1 (fun j => some (b (2 + 15 * j))) rfl (fun j hj => by rw [h _ (by omega)])
  have e : wHist k b S = (wHist k a S).set 1 (a 1, .inl (k 3, 8, .inr (.inr (.inr (.inr (fun j => some (b (2 + 15 * j)))))))) := by
    simp only [wHist, List.set, h 0 (by decide), h 1 (by decide)]
  rw [e]
  exact h1
theorem wHist_fc {k : Nat → ClassId} {a b : Nat → Nat} {S T : Nat → Nat → Int} (h : ∀ i, i < 122 → a i = b i) : (wHist k b T).map Prod.fst = (wHist k a S).map Prod.fst := by
  simp only [wHist, List.map, h 0 (by decide), h 1 (by decide)]
theorem wInput_cg {k : Nat → ClassId} {a b : Nat → Nat} {S : Nat → Nat → Int} (h : ∀ i, i < 2 → a i = b i) : wInput k b S = wInput k a S := by
  simp only [wInput, h 0 (by decide), h 1 (by decide)]
theorem wLine_cg {k : Nat → ClassId} {a b : Nat → Nat} {S : Nat → Nat → Int} (h : ∀ i, i < 2 → a i = b i) : wLine k b S = wLine k a S := by
  simp only [wLine, h 0 (by decide), h 1 (by decide)]
-- the first states
def zZ : Nat → Int := fun _ => 0
def iZ : Nat → Nat → Int := fun _ => zZ
def iBl : Nat → Int := upZ (upZ (upZ zZ 1 5) 2 7) 3 (-1)
def iB : Nat → Nat → Int := upA iZ 0 iBl
def iPl : Nat → Nat → Int := upA (upA (upA (upA iZ 0 (upZ zZ 3 5)) 2 iBl) 5 iBl) 8 iBl
def iFac : Nat → Nat → Int := upA iZ 0 (upZ zZ 8 (-1))
def iRf0 : Nat → Nat → Int := upA (upA iZ 0 (upZ zZ 13 (-1))) 1 (upZ zZ 0 5)
/-- the row of plants -/
def wRing (k : Nat → ClassId) (a : Nat → Nat) (T : Nat → Nat → Nat → Int) : va_W := wPlant k (subA a 2) (T 0) ++ (wPlant k (subA a 17) (T 1) ++ (wPlant k (subA a 32) (T 2) ++ (wPlant k (subA a 47) (T 3) ++ (wPlant k (subA a 62) (T 4) ++ (wPlant k (subA a 77) (T 5) ++ (wPlant k (subA a 92) (T 6) ++ wPlant k (subA a 107) (T 7)))))))
/-- the whole factory -/
def wAll (k : Nat → ClassId) (a : Nat → Nat) (F P T B N Hs : Nat → Nat → Int) (G : Nat → Nat → Nat → Int) (I L : Nat → Nat → Int) : va_W := wFac k a F ++ (wPlant k (subA a 1) P ++ (wPlant k (subA a 16) T ++ (wPlant k (subA a 31) B ++ (wPlant k (subA a 46) N ++ (wHist k (subA a 61) Hs ++ (wRing k (subA a 61) G ++ (wInput k (subA a 183) I ++ wLine k (subA a 185) L)))))))
