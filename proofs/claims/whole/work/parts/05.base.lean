/-! BASE: ints as Int; pictures; contracts that name the new world; calls that keep the places of the cells -/
def iI (z : Int) : Int32 := Int32.ofInt z
def zR (z : Int) : Prop := -2147483648 ≤ z ∧ z < 2147483648
theorem iI_add (a b : Int) : iI a + iI b = iI (a + b) := (Int32.ofInt_add a b).symm
theorem iI_sub (a b : Int) : iI a - iI b = iI (a - b) := (Int32.ofInt_sub a b).symm
theorem iI_mul (a b : Int) : iI a * iI b = iI (a * b) := (Int32.ofInt_mul a b).symm
theorem iI_toInt {z : Int} (h : zR z) : (iI z).toInt = z := Int32.toInt_ofInt_of_le h.1 h.2
theorem iI_lt {a b : Int} (ha : zR a) (hb : zR b) : iI a < iI b ↔ a < b := by
  rw [Int32.lt_iff_toInt_lt, iI_toInt ha, iI_toInt hb]
theorem iI_le {a b : Int} (ha : zR a) (hb : zR b) : iI a ≤ iI b ↔ a ≤ b := by
  rw [Int32.le_iff_toInt_le, iI_toInt ha, iI_toInt hb]
theorem iI_eq {a b : Int} (ha : zR a) (hb : zR b) : iI a = iI b ↔ a = b := by
  rw [← Int32.toInt_inj, iI_toInt ha, iI_toInt hb]
theorem iI_self (x : Int32) : iI x.toInt = x := Int32.ofInt_toInt x
theorem iI_range (x : Int32) : zR x.toInt := ⟨Int32.le_toInt x, Int32.toInt_lt x⟩
theorem iI_cl {z : Int} (h : zR z) : (iI z).toNatClampNeg = z.toNat := by
  show (iI z).toInt.toNat = z.toNat
  rw [iI_toInt h]
theorem iI_nI (n : Nat) : iI (n : Int) = nI n := rfl
theorem zR_of {z : Int} {n : Nat} (h0 : 0 ≤ z) (h1 : z < (n : Int)) (hn : n ≤ 100000) : zR z := ⟨by omega, by omega⟩
theorem z_in {z : Int} {n : Nat} (h0 : 0 ≤ z) (h1 : z < (n : Int)) (hn : n ≤ 100000) : vp_in (iI z) n := by
  rw [vp_in_iff, iI_toInt (zR_of h0 h1 hn)]
  exact ⟨h0, h1⟩
theorem iI_narC {z : Int} (h0 : 0 ≤ z) (h1 : z < 65536) : narrow .char (.int (iI z)) = .int (iI z) := by
  have e : iI z = nI z.toNat := by
    rw [← iI_nI]
    congr 1
    omega
  rw [e]
  exact (pk_charN (by omega)).1
theorem iI_char {z : Int} (h0 : 0 ≤ z) (h1 : z < 65536) : vp_nar .char (iI z) = iI z := by
  unfold vp_nar
  rw [iI_narC h0 h1]
theorem iI_i2c {z : Int} (h0 : 0 ≤ z) (h1 : z < 65536) : ((iI z).toUInt32 % 65536).toInt32 = iI z := by
  have e : iI z = nI z.toNat := by
    rw [← iI_nI]
    congr 1
    omega
  rw [e, pk_char, pk_tn (by omega)]
  congr 1
  omega
noncomputable def zif {α : Type} (P : Prop) (a b : α) : α := @ite α P (Classical.propDecidable P) a b
theorem zif_pos {α : Type} {P : Prop} {a b : α} (h : P) : zif P a b = a := if_pos h
theorem zif_neg {α : Type} {P : Prop} {a b : α} (h : ¬ P) : zif P a b = b := if_neg h
noncomputable def zb (P : Prop) : Int := zif P 1 0
theorem zb_pos {P : Prop} (h : P) : zb P = 1 := zif_pos h
theorem zb_neg {P : Prop} (h : ¬ P) : zb P = 0 := zif_neg h
theorem zb_in (P : Prop) : 0 ≤ zb P ∧ zb P ≤ 1 := by
  by_cases h : P
  · rw [zb_pos h]; decide
  · rw [zb_neg h]; decide
theorem zb_nar (P : Prop) : narrow .boolean (.int (iI (zb P))) = .int (iI (zb P)) := by
  by_cases h : P
  · rw [zb_pos h]; rfl
  · rw [zb_neg h]; rfl
theorem z_nar01 {v : Int} (h : v = 0 ∨ v = 1) : narrow .boolean (.int (iI v)) = .int (iI v) := by
  rcases h with rfl | rfl <;> rfl
def upZ (f : Nat → Int) (k : Nat) (v : Int) : Nat → Int := fun j => if j = k then v else f j
def up2 (S : Nat → Nat → Int) (c k : Nat) (v : Int) : Nat → Nat → Int := fun c' => if c' = c then upZ (S c) k v else S c'
def upA (S : Nat → Nat → Int) (c : Nat) (f : Nat → Int) : Nat → Nat → Int := fun c' => if c' = c then f else S c'
/-- the components o .. o + n - 1 of S anew -/
def upB (S : Nat → Nat → Int) (o n : Nat) (X : Nat → Nat → Int) : Nat → Nat → Int := fun c => if o ≤ c ∧ c < o + n then X (c - o) else S c
def sub2 (S : Nat → Nat → Int) (o : Nat) : Nat → Nat → Int := fun c => S (o + c)
def subA (a : Nat → Nat) (o : Nat) : Nat → Nat := fun i => a (o + i)
theorem upZ_iI (f : Nat → Int) (k : Nat) (v : Int) : upd (fun j => iI (f j)) k (iI v) = fun j => iI (upZ f k v j) := by
  funext j
  unfold upd upZ
  by_cases h : j = k
  · rw [if_pos h, if_pos h]
  · rw [if_neg h, if_neg h]
def cpyZ (f g : Nat → Int) (sp dp n : Nat) : Nat → Int := fun j => if dp ≤ j ∧ j < dp + n then f (sp + (j - dp)) else g j
theorem cpyZ_iI (f g : Nat → Int) (sp dp n : Nat) : va_cpy (fun j => iI (f j)) (fun j => iI (g j)) sp dp n = fun j => iI (cpyZ f g sp dp n j) := by
  funext j
  unfold cpyZ
  by_cases h : dp ≤ j ∧ j < dp + n
  · rw [if_pos h, pk_cpy_in h.1 h.2]
  · rw [if_neg h, pk_cpy_out (by omega)]
-- the arrays' classes
abbrev zT (k : Nat → ClassId) : List (ClassId × FieldType) := [(k 0, .int), (k 1, .char), (k 2, .object RX0), (k 3, .object RX5), (k 4, .long), (k 5, .double)]
-- what stays as it was at the start: two statics, the texts, the nest mates' links
def zNest : List (String × Nat × MethodName × String) := [(RX7, 9, yX5_init, RX7), (RX5, 11, yX0_init, RX7), (RX0, 11, yX6_init, RX7), (RX5, 20, yX6_init, RX7), (RX5, 27, yX1_init, RX7), (RX2, 24, yX5_init, RX7), (RX7, 34, yX3_init, RX7), (RX7, 41, yX4_init, RX7), (RX5, 79, yX7_isBelt, RX7)]
def zStrs : List (Nat × String) := [(314, "there is no such belt, inspector or reject"), (316, "a number is out of range"), (322, "it is refused"), (362, "there is no such belt"), (371, "there is no such number"), (365, "there is no such belt or place"), (128, "there is no such inspector"), (139, "there is no such test"), (369, "there is no inspector"), (367, "there is no such reject"), (190, "there is no reject"), (209, "there is no such place"), (228, "there is no such index"), (237, "the input is full"), (247, "the text has an error"), (252, "an order has a wrong number"), (256, "an order is refused"), (265, "nothing was refused"), (291, "there is no Monday on the belts"), (299, "no Monday was inspected"), (301, "no change can be undone"), (309, "there is no snapshot")]
def zGt (U : State) : Prop := (∀ q ∈ zNest, va_Nw (.methodLinkNest q.1 q.2.1 q.2.2.1 q.2.2.2) U) ∧ ∀ q ∈ zStrs, ∃ sa : Nat, vk_R RX7 q.1 q.2 sa U
def zG (A : Nat → Prop) (U : State) : Prop := vx_Zq Bundle.tN "UNASSIGNED_STACK" Bundle.steD A U U.heap ∧ vx_Zq Bundle.tN "SUPPRESSED_SENTINEL" Bundle.listD A U U.heap ∧ zGt U
theorem zG.blind {A : Nat → Prop} (U : State) (g : JFrame) (mk : MethodId) (a : Array Value) (h : zG A U) : zG A (U.calling g mk a) :=
  ⟨vx_Zq.moved (u := U) (U := U.calling g mk a) (Vm.Alike.refl U.vm) h.1, vx_Zq.moved (u := U) (U := U.calling g mk a) (Vm.Alike.refl U.vm) h.2.1, fun q hq => va_Nw.same rfl rfl (h.2.2.1 q hq), fun q hq => by
    obtain ⟨sa, hs⟩ := h.2.2.2 q hq
    exact ⟨sa, vk_R.same (u := U) rfl hs⟩⟩
theorem zG.at {A B : Nat → Prop} {s U : State} {H : Heap} {locs : List Loc} (h : zG A s) (hS : va_S A s.heap H locs) (hAB : ∀ q, B q → A q) (hU : U.heap = H) (hW : s.WarmedH U.vm) : zG B U := by
  refine ⟨?_, ?_, fun q hq => va_Nw.warmM hW (h.2.2.1 q hq), fun q hq => ?_⟩
  · rw [hU]; exact vx_Zq.moved hW.alike ((h.1.kept hS.2.1).narrow hAB)
  · rw [hU]; exact vx_Zq.moved hW.alike ((h.2.1.kept hS.2.1).narrow hAB)
  · obtain ⟨sa, hs⟩ := h.2.2.2 q hq
    exact ⟨sa, vk_R.warm hW hs⟩
-- a world with some of its cells anew, each at its place
def zset : va_W → List Nat → va_W → va_W
  | ws, i :: is, q :: qs => zset (ws.set i q) is qs
  | ws, _, _ => ws
theorem zset_len : ∀ (is : List Nat) (ws wc : va_W), (zset ws is wc).length = ws.length
  | [], ws, _ => by simp [zset]
  | i :: is, ws, [] => by simp [zset]
  | i :: is, ws, q :: qs => by
    show (zset (ws.set i q) is qs).length = _
    rw [zset_len is]
    simp
theorem zset_out : ∀ (is : List Nat) (ws wc : va_W) (k : Nat), k ∉ is → (zset ws is wc)[k]? = ws[k]?
  | [], ws, _, k, _ => by simp [zset]
  | i :: is, ws, [], k, _ => by simp [zset]
  | i :: is, ws, q :: qs, k, h => by
    show (zset (ws.set i q) is qs)[k]? = _
    rw [zset_out is _ _ k (fun z => h (List.mem_cons_of_mem _ z)), List.getElem?_set_ne (fun hz : i = k => h (by rw [hz]; exact List.mem_cons_self))]
theorem zset_in : ∀ (is : List Nat) (ws wc : va_W) (k : Nat) (q : Nat × va_E), k ∈ is → is.length = wc.length → (zset ws is wc)[k]? = some q → k < ws.length → ∃ j : Nat, is[j]? = some k ∧ wc[j]? = some q
  | [], ws, _, k, q, h, _, _, _ => by cases h
  | i :: is, ws, [], k, q, _, hl, _, _ => by simp at hl
  | i :: is, ws, x :: qs, k, q, h, hl, he, hk => by
    have he : (zset (ws.set i x) is qs)[k]? = some q := he
    by_cases hm : k ∈ is
    · obtain ⟨j, h1, h2⟩ := zset_in is (ws.set i x) qs k q hm (by simpa using hl) he (by simpa using hk)
      exact ⟨j + 1, by simpa using h1, by simpa using h2⟩
    · rw [zset_out is _ _ k hm] at he
      rcases List.mem_cons.mp h with rfl | h
      · rw [List.getElem?_set_self hk] at he
        exact ⟨0, rfl, by simpa using he⟩
      · exact absurd h hm
theorem z_fst {A : Nat → Prop} {ws ws' : va_W} (h : ws'.map Prod.fst = ws.map Prod.fst) (hD : va_D A ws) : va_D A ws' := by
  have key : ∀ (k : Nat) (q : Nat × va_E), ws'[k]? = some q → ∃ q0, ws[k]? = some q0 ∧ q0.1 = q.1 := by
    intro k q hk
    have h1 : (ws'.map Prod.fst)[k]? = some q.1 := by rw [List.getElem?_map, hk]; rfl
    rw [h, List.getElem?_map] at h1
    cases hq : ws[k]? with
    | none => rw [hq] at h1; cases h1
    | some q0 => rw [hq] at h1; exact ⟨q0, rfl, Option.some.inj h1⟩
  refine ⟨fun i j p q hi hj hpq => ?_, fun k q hk => ?_⟩
  · obtain ⟨p0, a1, a2⟩ := key i p hi
    obtain ⟨q0, b1, b2⟩ := key j q hj
    exact hD.1 i j p0 q0 a1 b1 (a2.trans (hpq.trans b2.symm))
  · obtain ⟨q0, a1, a2⟩ := key k q hk
    rw [← a2]
    exact hD.2 k q0 a1
theorem z_pick {ws wc : va_W} {is : List Nat} (hs : is.map (fun i => ws[i]?) = wc.map some) {k : Nat} {q : Nat × va_E} (hq : wc[k]? = some q) : ∃ i, is[k]? = some i ∧ ws[i]? = some q := by
  have h1 : (is.map (fun i => ws[i]?))[k]? = some (some q) := by rw [hs, List.getElem?_map, hq]; rfl
  rw [List.getElem?_map] at h1
  cases hi : is[k]? with
  | none => rw [hi] at h1; cases h1
  | some i => rw [hi] at h1; exact ⟨i, rfl, Option.some.inj h1⟩
theorem z_sub {D : va_G} {cl : List vw_C} {ws wc : va_W} {H : Heap} (h : va_P D cl ws H) (is : List Nat) (hs : is.map (fun i => ws[i]?) = wc.map some) : va_P D cl wc H := by
  intro k q hk
  obtain ⟨i, -, hi⟩ := z_pick hs hk
  exact h i q hi
/-- behind a call: the caller's world, the callee's cells at their places anew -/
theorem z_join {A0 : Nat → Prop} {D : va_G} {cl : List vw_C} {ws wc w1 : va_W} {H H1 : Heap} (hP : va_P D cl ws H) (hD : va_D A0 ws) (isC : List Nat) (hC : isC.map (fun i => ws[i]?) = wc.map some) (hf : w1.length = isC.length)
    (hk : ∀ q : Nat, q < H.size → ¬ va_A wc H.size q → H1[q]? = H[q]?) (hP1 : va_P D cl w1 H1) : va_P D cl (zset ws isC w1) H1 := by
  intro k q hq
  by_cases hm : k ∈ isC
  · have hkl : k < ws.length := by
      have := (List.getElem?_eq_some_iff.mp hq).1
      rwa [zset_len] at this
    obtain ⟨j, -, h2⟩ := zset_in isC ws w1 k q hm hf.symm hq hkl
    exact hP1 j q h2
  · rw [zset_out isC ws w1 k hm] at hq
    have hl := (hP k q hq).lt
    refine (hP k q hq).kept (hk q.1 hl ?_)
    rintro (⟨k2, e, h⟩ | h)
    · obtain ⟨i, h3, h4⟩ := z_pick hC h
      have hij := hD.1 k i q (q.1, e) hq h4 rfl
      subst hij
      exact hm (List.mem_of_getElem? h3)
    · omega
section ZR
variable {p : Program} {l : Launch} {e : Env} {R : Room} {s : State} {m : MethodId} {args : Array Value} {below : List Frame} {meth : Method} {c : Code} {H : Heap} {locs : List Loc} {cells slots : Nat} {Q : State → Prop}
variable {cc : ByteArray} {pc : Nat} {ls : Array Slot} {rest : List Value}
theorem zi_add (hx : p.tables.exec = Jvm.exec) (hb : c.code = cc) {x y : Int} (hdg : decode cc pc = .ok (.iadd, 1)) (k : W p l e R s m args below meth c H locs cells slots Q (F0 m (pc + 1) ls (.int (iI (x + y)) :: rest))) : W p l e R s m args below meth c H locs cells slots Q (F0 m pc ls (.int (iI y) :: .int (iI x) :: rest)) := lv_iadd hx hb hdg (by rw [iI_add]; exact k)
theorem zi_sub (hx : p.tables.exec = Jvm.exec) (hb : c.code = cc) {x y : Int} (hdg : decode cc pc = .ok (.isub, 1)) (k : W p l e R s m args below meth c H locs cells slots Q (F0 m (pc + 1) ls (.int (iI (x - y)) :: rest))) : W p l e R s m args below meth c H locs cells slots Q (F0 m pc ls (.int (iI y) :: .int (iI x) :: rest)) := lv_isub hx hb hdg (by rw [iI_sub]; exact k)
theorem zi_mul (hx : p.tables.exec = Jvm.exec) (hb : c.code = cc) {x y : Int} (hdg : decode cc pc = .ok (.imul, 1)) (k : W p l e R s m args below meth c H locs cells slots Q (F0 m (pc + 1) ls (.int (iI (x * y)) :: rest))) : W p l e R s m args below meth c H locs cells slots Q (F0 m pc ls (.int (iI y) :: .int (iI x) :: rest)) := lv_imul hx hb hdg (by rw [iI_mul]; exact k)
theorem zi_icmp_eq (hx : p.tables.exec = Jvm.exec) (hb : c.code = cc) {x y : Int} {off : Int} {tgt : Nat} (hdg : decode cc pc = .ok (.if_icmp .eq off, 3)) (ht : (pc : Int) + off = (tgt : Int)) (zx : zR x) (zy : zR y) (kt : x = y → W p l e R s m args below meth c H locs cells slots Q (F0 m tgt ls rest)) (kf : ¬ x = y → W p l e R s m args below meth c H locs cells slots Q (F0 m (pc + 3) ls rest)) : W p l e R s m args below meth c H locs cells slots Q (F0 m pc ls (.int (iI y) :: .int (iI x) :: rest)) := lv_icmp_eq hx hb hdg ht (fun h => kt ((iI_eq zx zy).mp h)) (fun h => kf (fun q => h ((iI_eq zx zy).mpr q)))
theorem zi_if_eq (hx : p.tables.exec = Jvm.exec) (hb : c.code = cc) {x : Int} {off : Int} {tgt : Nat} (hdg : decode cc pc = .ok (.ifCond .eq off, 3)) (ht : (pc : Int) + off = (tgt : Int)) (zx : zR x) (kt : x = 0 → W p l e R s m args below meth c H locs cells slots Q (F0 m tgt ls rest)) (kf : ¬ x = 0 → W p l e R s m args below meth c H locs cells slots Q (F0 m (pc + 3) ls rest)) : W p l e R s m args below meth c H locs cells slots Q (F0 m pc ls (.int (iI x) :: rest)) := by
  have z0 : zR 0 := ⟨by omega, by omega⟩
  exact lv_if_eq hx hb hdg ht (fun h => kt ((iI_eq zx z0).mp h)) (fun h => kf (fun q => h ((iI_eq zx z0).mpr q)))
theorem zi_icmp_ne (hx : p.tables.exec = Jvm.exec) (hb : c.code = cc) {x y : Int} {off : Int} {tgt : Nat} (hdg : decode cc pc = .ok (.if_icmp .ne off, 3)) (ht : (pc : Int) + off = (tgt : Int)) (zx : zR x) (zy : zR y) (kt : ¬ x = y → W p l e R s m args below meth c H locs cells slots Q (F0 m tgt ls rest)) (kf : x = y → W p l e R s m args below meth c H locs cells slots Q (F0 m (pc + 3) ls rest)) : W p l e R s m args below meth c H locs cells slots Q (F0 m pc ls (.int (iI y) :: .int (iI x) :: rest)) := by
  refine lv_icmp_ne hx hb hdg ht (fun h => ?_) (fun h => ?_)
  · exact kt (fun q => h (congrArg iI q))
  · exact kf ((iI_eq zx zy).mp h)
theorem zi_if_ne (hx : p.tables.exec = Jvm.exec) (hb : c.code = cc) {x : Int} {off : Int} {tgt : Nat} (hdg : decode cc pc = .ok (.ifCond .ne off, 3)) (ht : (pc : Int) + off = (tgt : Int)) (zx : zR x) (kt : ¬ x = 0 → W p l e R s m args below meth c H locs cells slots Q (F0 m tgt ls rest)) (kf : x = 0 → W p l e R s m args below meth c H locs cells slots Q (F0 m (pc + 3) ls rest)) : W p l e R s m args below meth c H locs cells slots Q (F0 m pc ls (.int (iI x) :: rest)) := by
  refine lv_if_ne hx hb hdg ht (fun h => ?_) (fun h => ?_)
  · exact kt (fun q => h (congrArg iI q))
  · exact kf ((iI_eq zx (b := 0) ⟨by omega, by omega⟩).mp (show iI x = iI 0 from h))
theorem zi_icmp_lt (hx : p.tables.exec = Jvm.exec) (hb : c.code = cc) {x y : Int} {off : Int} {tgt : Nat} (hdg : decode cc pc = .ok (.if_icmp .lt off, 3)) (ht : (pc : Int) + off = (tgt : Int)) (zx : zR x) (zy : zR y) (kt : x < y → W p l e R s m args below meth c H locs cells slots Q (F0 m tgt ls rest)) (kf : ¬ x < y → W p l e R s m args below meth c H locs cells slots Q (F0 m (pc + 3) ls rest)) : W p l e R s m args below meth c H locs cells slots Q (F0 m pc ls (.int (iI y) :: .int (iI x) :: rest)) := lv_icmp_lt hx hb hdg ht (fun h => kt ((iI_lt zx zy).mp h)) (fun h => kf (fun q => h ((iI_lt zx zy).mpr q)))
theorem zi_if_lt (hx : p.tables.exec = Jvm.exec) (hb : c.code = cc) {x : Int} {off : Int} {tgt : Nat} (hdg : decode cc pc = .ok (.ifCond .lt off, 3)) (ht : (pc : Int) + off = (tgt : Int)) (zx : zR x) (kt : x < 0 → W p l e R s m args below meth c H locs cells slots Q (F0 m tgt ls rest)) (kf : ¬ x < 0 → W p l e R s m args below meth c H locs cells slots Q (F0 m (pc + 3) ls rest)) : W p l e R s m args below meth c H locs cells slots Q (F0 m pc ls (.int (iI x) :: rest)) := by
  have z0 : zR 0 := ⟨by omega, by omega⟩
  exact lv_if_lt hx hb hdg ht (fun h => kt ((iI_lt zx z0).mp h)) (fun h => kf (fun q => h ((iI_lt zx z0).mpr q)))
theorem zi_icmp_ge (hx : p.tables.exec = Jvm.exec) (hb : c.code = cc) {x y : Int} {off : Int} {tgt : Nat} (hdg : decode cc pc = .ok (.if_icmp .ge off, 3)) (ht : (pc : Int) + off = (tgt : Int)) (zx : zR x) (zy : zR y) (kt : y ≤ x → W p l e R s m args below meth c H locs cells slots Q (F0 m tgt ls rest)) (kf : ¬ y ≤ x → W p l e R s m args below meth c H locs cells slots Q (F0 m (pc + 3) ls rest)) : W p l e R s m args below meth c H locs cells slots Q (F0 m pc ls (.int (iI y) :: .int (iI x) :: rest)) := lv_icmp_ge hx hb hdg ht (fun h => kt ((iI_le zy zx).mp h)) (fun h => kf (fun q => h ((iI_le zy zx).mpr q)))
theorem zi_if_ge (hx : p.tables.exec = Jvm.exec) (hb : c.code = cc) {x : Int} {off : Int} {tgt : Nat} (hdg : decode cc pc = .ok (.ifCond .ge off, 3)) (ht : (pc : Int) + off = (tgt : Int)) (zx : zR x) (kt : 0 ≤ x → W p l e R s m args below meth c H locs cells slots Q (F0 m tgt ls rest)) (kf : ¬ 0 ≤ x → W p l e R s m args below meth c H locs cells slots Q (F0 m (pc + 3) ls rest)) : W p l e R s m args below meth c H locs cells slots Q (F0 m pc ls (.int (iI x) :: rest)) := by
  have z0 : zR 0 := ⟨by omega, by omega⟩
  exact lv_if_ge hx hb hdg ht (fun h => kt ((iI_le z0 zx).mp h)) (fun h => kf (fun q => h ((iI_le z0 zx).mpr q)))
theorem zi_icmp_gt (hx : p.tables.exec = Jvm.exec) (hb : c.code = cc) {x y : Int} {off : Int} {tgt : Nat} (hdg : decode cc pc = .ok (.if_icmp .gt off, 3)) (ht : (pc : Int) + off = (tgt : Int)) (zx : zR x) (zy : zR y) (kt : y < x → W p l e R s m args below meth c H locs cells slots Q (F0 m tgt ls rest)) (kf : ¬ y < x → W p l e R s m args below meth c H locs cells slots Q (F0 m (pc + 3) ls rest)) : W p l e R s m args below meth c H locs cells slots Q (F0 m pc ls (.int (iI y) :: .int (iI x) :: rest)) := lv_icmp_gt hx hb hdg ht (fun h => kt ((iI_lt zy zx).mp h)) (fun h => kf (fun q => h ((iI_lt zy zx).mpr q)))
theorem zi_if_gt (hx : p.tables.exec = Jvm.exec) (hb : c.code = cc) {x : Int} {off : Int} {tgt : Nat} (hdg : decode cc pc = .ok (.ifCond .gt off, 3)) (ht : (pc : Int) + off = (tgt : Int)) (zx : zR x) (kt : 0 < x → W p l e R s m args below meth c H locs cells slots Q (F0 m tgt ls rest)) (kf : ¬ 0 < x → W p l e R s m args below meth c H locs cells slots Q (F0 m (pc + 3) ls rest)) : W p l e R s m args below meth c H locs cells slots Q (F0 m pc ls (.int (iI x) :: rest)) := by
  have z0 : zR 0 := ⟨by omega, by omega⟩
  exact lv_if_gt hx hb hdg ht (fun h => kt ((iI_lt z0 zx).mp h)) (fun h => kf (fun q => h ((iI_lt z0 zx).mpr q)))
theorem zi_icmp_le (hx : p.tables.exec = Jvm.exec) (hb : c.code = cc) {x y : Int} {off : Int} {tgt : Nat} (hdg : decode cc pc = .ok (.if_icmp .le off, 3)) (ht : (pc : Int) + off = (tgt : Int)) (zx : zR x) (zy : zR y) (kt : x ≤ y → W p l e R s m args below meth c H locs cells slots Q (F0 m tgt ls rest)) (kf : ¬ x ≤ y → W p l e R s m args below meth c H locs cells slots Q (F0 m (pc + 3) ls rest)) : W p l e R s m args below meth c H locs cells slots Q (F0 m pc ls (.int (iI y) :: .int (iI x) :: rest)) := lv_icmp_le hx hb hdg ht (fun h => kt ((iI_le zx zy).mp h)) (fun h => kf (fun q => h ((iI_le zx zy).mpr q)))
theorem zi_if_le (hx : p.tables.exec = Jvm.exec) (hb : c.code = cc) {x : Int} {off : Int} {tgt : Nat} (hdg : decode cc pc = .ok (.ifCond .le off, 3)) (ht : (pc : Int) + off = (tgt : Int)) (zx : zR x) (kt : x ≤ 0 → W p l e R s m args below meth c H locs cells slots Q (F0 m tgt ls rest)) (kf : ¬ x ≤ 0 → W p l e R s m args below meth c H locs cells slots Q (F0 m (pc + 3) ls rest)) : W p l e R s m args below meth c H locs cells slots Q (F0 m pc ls (.int (iI x) :: rest)) := by
  have z0 : zR 0 := ⟨by omega, by omega⟩
  exact lv_if_le hx hb hdg ht (fun h => kt ((iI_le zx z0).mp h)) (fun h => kf (fun q => h ((iI_le zx z0).mpr q)))
theorem zi_if_eqB (hx : p.tables.exec = Jvm.exec) (hb : c.code = cc) {P : Prop} {off : Int} {tgt : Nat} (hdg : decode cc pc = .ok (.ifCond .eq off, 3)) (ht : (pc : Int) + off = (tgt : Int)) (kt : ¬ P → W p l e R s m args below meth c H locs cells slots Q (F0 m tgt ls rest)) (kf : P → W p l e R s m args below meth c H locs cells slots Q (F0 m (pc + 3) ls rest)) : W p l e R s m args below meth c H locs cells slots Q (F0 m pc ls (.int (iI (zb P)) :: rest)) := by
  refine zi_if_eq hx hb hdg ht ⟨by have := zb_in P; omega, by have := zb_in P; omega⟩ (fun h => kt (fun q => ?_)) (fun h => kf (Classical.byContradiction fun q => h (zb_neg q)))
  rw [zb_pos q] at h; cases h
theorem zi_if_neB (hx : p.tables.exec = Jvm.exec) (hb : c.code = cc) {P : Prop} {off : Int} {tgt : Nat} (hdg : decode cc pc = .ok (.ifCond .ne off, 3)) (ht : (pc : Int) + off = (tgt : Int)) (kt : P → W p l e R s m args below meth c H locs cells slots Q (F0 m tgt ls rest)) (kf : ¬ P → W p l e R s m args below meth c H locs cells slots Q (F0 m (pc + 3) ls rest)) : W p l e R s m args below meth c H locs cells slots Q (F0 m pc ls (.int (iI (zb P)) :: rest)) := by
  refine zi_if_ne hx hb hdg ht ⟨by have := zb_in P; omega, by have := zb_in P; omega⟩ (fun h => kt (Classical.byContradiction fun q => h (zb_neg q))) (fun h => kf (fun q => ?_))
  rw [zb_pos q] at h; cases h
variable {D : va_G} {cl : List vw_C} {A : Nat → Prop} {a : Nat} {tys : List (ClassId × FieldType)} {ws : va_W} {H0 : Heap}
theorem z_iald (hx : p.tables.exec = Jvm.exec) (hb : c.code = cc) (hK : va_K D cl tys s) (hP : va_P D cl ws H) (q0 t0 : Nat) {cA : ClassId} {n : Nat} {f : Nat → Int} (ha : ws[q0]? = some (a, .inl (cA, n, .inl (fun j => iI (f j))))) (ht : tys[t0]? = some (cA, .int)) {i : Int} (h0 : 0 ≤ i) (h1 : i < (n : Int)) (hn : n ≤ 100000) (j : Nat) (hj : i.toNat = j) (hdg : decode cc pc = .ok (.iaload, 1)) (k : W p l e R s m args below meth c H locs cells slots Q (F0 m (pc + 1) ls (.int (iI (f j)) :: rest))) : W p l e R s m args below meth c H locs cells slots Q (F0 m pc ls (.int (iI i) :: .ref a :: rest)) := va_iald hx hb hK hP q0 t0 ha ht (z_in h0 h1 hn) hdg (by rw [iI_cl (zR_of h0 h1 hn), hj]; exact k)
theorem z_cald (hx : p.tables.exec = Jvm.exec) (hb : c.code = cc) (hK : va_K D cl tys s) (hP : va_P D cl ws H) (q0 t0 : Nat) {cA : ClassId} {n : Nat} {f : Nat → Int} (ha : ws[q0]? = some (a, .inl (cA, n, .inl (fun j => iI (f j))))) (ht : tys[t0]? = some (cA, .char)) {i : Int} (h0 : 0 ≤ i) (h1 : i < (n : Int)) (hn : n ≤ 100000) (j : Nat) (hj : i.toNat = j) (hdg : decode cc pc = .ok (.caload, 1)) (k : W p l e R s m args below meth c H locs cells slots Q (F0 m (pc + 1) ls (.int (iI (f j)) :: rest))) : W p l e R s m args below meth c H locs cells slots Q (F0 m pc ls (.int (iI i) :: .ref a :: rest)) := va_cald hx hb hK hP q0 t0 ha ht (z_in h0 h1 hn) hdg (by rw [iI_cl (zR_of h0 h1 hn), hj]; exact k)
theorem z_iast (hx : p.tables.exec = Jvm.exec) (hb : c.code = cc) (hK : va_K D cl tys s) (hP : va_P D cl ws H) (hD : va_D A ws) (hS : va_S A H0 H locs) (q0 t0 : Nat) {cA : ClassId} {n : Nat} {f : Nat → Int} (ha : ws[q0]? = some (a, .inl (cA, n, .inl (fun j => iI (f j))))) (ht : tys[t0]? = some (cA, .int)) {i x : Int} (h0 : 0 ≤ i) (h1 : i < (n : Int)) (hn : n ≤ 100000) (j : Nat) (hj : i.toNat = j) (hdg : decode cc pc = .ok (.iastore, 1)) (k : ∀ (H1 : Heap) (locs1 : List Loc), va_P D cl (ws.set q0 (a, .inl (cA, n, .inl (fun q => iI (upZ f j x q))))) H1 → va_D A (ws.set q0 (a, .inl (cA, n, .inl (fun q => iI (upZ f j x q))))) → va_S A H0 H1 locs1 → W p l e R s m args below meth c H1 locs1 cells slots Q (F0 m (pc + 1) ls rest)) : W p l e R s m args below meth c H locs cells slots Q (F0 m pc ls (.int (iI x) :: .int (iI i) :: .ref a :: rest)) := va_iast hx hb hK hP hD hS q0 t0 ha ht (z_in h0 h1 hn) hdg (fun H1 locs1 => by rw [iI_cl (zR_of h0 h1 hn), hj, upZ_iI]; exact k H1 locs1)
theorem z_cast (hx : p.tables.exec = Jvm.exec) (hb : c.code = cc) (hK : va_K D cl tys s) (hP : va_P D cl ws H) (hD : va_D A ws) (hS : va_S A H0 H locs) (q0 t0 : Nat) {cA : ClassId} {n : Nat} {f : Nat → Int} (ha : ws[q0]? = some (a, .inl (cA, n, .inl (fun j => iI (f j))))) (ht : tys[t0]? = some (cA, .char)) {i x : Int} (h0 : 0 ≤ i) (h1 : i < (n : Int)) (hn : n ≤ 100000) (x0 : 0 ≤ x) (x1 : x < 65536) (j : Nat) (hj : i.toNat = j) (hdg : decode cc pc = .ok (.castore, 1)) (k : ∀ (H1 : Heap) (locs1 : List Loc), va_P D cl (ws.set q0 (a, .inl (cA, n, .inl (fun q => iI (upZ f j x q))))) H1 → va_D A (ws.set q0 (a, .inl (cA, n, .inl (fun q => iI (upZ f j x q))))) → va_S A H0 H1 locs1 → W p l e R s m args below meth c H1 locs1 cells slots Q (F0 m (pc + 1) ls rest)) : W p l e R s m args below meth c H locs cells slots Q (F0 m pc ls (.int (iI x) :: .int (iI i) :: .ref a :: rest)) := va_cast hx hb hK hP hD hS q0 t0 ha ht (z_in h0 h1 hn) hdg (fun H1 locs1 => by rw [iI_cl (zR_of h0 h1 hn), hj, iI_char x0 x1, upZ_iI]; exact k H1 locs1)
theorem z_i2c (hx : p.tables.exec = Jvm.exec) (hb : c.code = cc) {x : Int} (x0 : 0 ≤ x) (x1 : x < 65536) (hdg : decode cc pc = .ok (.i2c, 1)) (k : W p l e R s m args below meth c H locs cells slots Q (F0 m (pc + 1) ls (.int (iI x) :: rest))) : W p l e R s m args below meth c H locs cells slots Q (F0 m pc ls (.int (iI x) :: rest)) := lv_i2c hx hb (v := iI x) hdg (iI_i2c x0 x1) k
theorem z_top {z : Int} (k : ∀ y : Int, y = z → W p l e R s m args below meth c H locs cells slots Q (F0 m pc ls (.int (iI y) :: rest))) : W p l e R s m args below meth c H locs cells slots Q (F0 m pc ls (.int (iI z) :: rest)) := k z rfl
theorem z_eqi {z z2 : Int} (h : z = z2) (k : W p l e R s m args below meth c H locs cells slots Q (F0 m pc ls (.int (iI z2) :: rest))) : W p l e R s m args below meth c H locs cells slots Q (F0 m pc ls (.int (iI z) :: rest)) := h ▸ k
end ZR
def zPc (D : va_G) (k : Nat → ClassId) (av : List Value) (w : va_W) (sz : Nat) : Array Value → State → Prop := va_Pc av (fun U => U.heap.size = sz ∧ va_P D vwCl w U.heap ∧ va_K D vwCl (zT k) U ∧ va_D (fun _ => True) w ∧ zG (va_A w sz) U)
theorem zPc.blind (D : va_G) (k : Nat → ClassId) (av : List Value) (w : va_W) (sz : Nat) : FrameBlind (zPc D k av w sz) := by
  rintro a U g mk ⟨h1, h2, h3, h4, h5, h6⟩
  exact ⟨h1, h2, h3, va_K.moved (u := U) (U := U.calling g mk a) (Vm.Alike.refl U.vm) h4, h5, h6.blind U g mk a⟩
abbrev zQi (D : va_G) (A : Nat → Prop) (v : Int) (w' : va_W) : Array Value → State → Outcome → State → Prop := va_Qi (fun r (_ : Unit) => r = iI v) (fun _ t => va_P D vwCl w' t.heap) A
abbrev zQv (D : va_G) (A : Nat → Prop) (w' : va_W) : Array Value → State → Outcome → State → Prop := va_Qv (fun (_ : Unit) => True) (fun _ t => va_P D vwCl w' t.heap) A
/-- the method returns v, and the world is w' -/
def zMi (l : Launch) (y : MethodName) (ws : List Cond) (rm : Room) (D : va_G) (k : Nat → ClassId) (av : List Value) (w : va_W) (v : Int) (w' : va_W) (mc ms : Nat) : Prop := ∀ sz : Nat, Met l y ws rm (zPc D k av w sz) (zQi D (va_A w sz) v w') mc ms (va_A w sz)
def zMv (l : Launch) (y : MethodName) (ws : List Cond) (rm : Room) (D : va_G) (k : Nat → ClassId) (av : List Value) (w : va_W) (w' : va_W) (mc ms : Nat) : Prop := ∀ sz : Nat, Met l y ws rm (zPc D k av w sz) (zQv D (va_A w sz) w') mc ms (va_A w sz)
theorem zMi_of {l : Launch} {y : MethodName} {ws ws' : List Cond} {rm : Room} {D : va_G} {k : Nat → ClassId} {av : List Value} {w w' : va_W} {v : Int} {mc ms : Nat} {cc : ByteArray} {maxL : Nat} {ret : Option FieldType} (hy : plainName y.cls = true) (hw : ws = Cond.code y cc maxL ret :: ws') (hn : (lg_sl av).length ≤ maxL)
    (body : ∀ (p : Program) (e : Env) (s : State) (m : MethodId) (args : Array Value) (below : List Frame) (meth : Method) (c : Code) (A : Nat → Prop) (ls : Array Slot), p.tables.exec = Jvm.exec → c.code = cc → meth.sig.returnType = ret → c.maxLocals = maxL → s.vm.findClass y.cls = some m.cls → (∀ w ∈ ws, w.before args s = true) → meth.locks = false → va_K D vwCl (zT k) s → va_P D vwCl w s.heap → va_D A w → zG A s → (∀ q : Nat, s.heap.size ≤ q → A q) → va_S A s.heap s.heap [] → lv_has ls maxL (lv_args 0 av) →
      W p l e rm s m args below meth c s.heap [] 0 0 (MQ below (zQi D A v w') args s mc ms A) (F0 m 0 ls [])) : zMi l y ws rm D k av w v w' mc ms := by
  intro sz
  refine Met.ofW (cc := cc) (maxL := maxL) (ret := ret) hy hw ?_
  intro p e s m args below meth c s₁ B hml hv
  obtain ⟨rfl, hsz, hP, hK, hD0, hG⟩ := hv
  have hl := lv_entry av (n := maxL) hn
  rw [lg_entry_eq]
  subst hsz
  exact body p e s m _ below meth c _ _ B.exec B.bytes B.returns hml (findClass_of_methodNamed B.named) (atoms_spec (ws := ws) B.pre) B.notSynchronized hK hP hD0.self hG (fun q h => Or.inr h) va_S.rf hl
theorem zMv_of {l : Launch} {y : MethodName} {ws ws' : List Cond} {rm : Room} {D : va_G} {k : Nat → ClassId} {av : List Value} {w w' : va_W} {mc ms : Nat} {cc : ByteArray} {maxL : Nat} {ret : Option FieldType} (hy : plainName y.cls = true) (hw : ws = Cond.code y cc maxL ret :: ws') (hn : (lg_sl av).length ≤ maxL)
    (body : ∀ (p : Program) (e : Env) (s : State) (m : MethodId) (args : Array Value) (below : List Frame) (meth : Method) (c : Code) (A : Nat → Prop) (ls : Array Slot), p.tables.exec = Jvm.exec → c.code = cc → meth.sig.returnType = ret → c.maxLocals = maxL → s.vm.findClass y.cls = some m.cls → (∀ w ∈ ws, w.before args s = true) → meth.locks = false → va_K D vwCl (zT k) s → va_P D vwCl w s.heap → va_D A w → zG A s → (∀ q : Nat, s.heap.size ≤ q → A q) → va_S A s.heap s.heap [] → lv_has ls maxL (lv_args 0 av) →
      W p l e rm s m args below meth c s.heap [] 0 0 (MQ below (zQv D A w') args s mc ms A) (F0 m 0 ls [])) : zMv l y ws rm D k av w  w' mc ms := by
  intro sz
  refine Met.ofW (cc := cc) (maxL := maxL) (ret := ret) hy hw ?_
  intro p e s m args below meth c s₁ B hml hv
  obtain ⟨rfl, hsz, hP, hK, hD0, hG⟩ := hv
  have hl := lv_entry av (n := maxL) hn
  rw [lg_entry_eq]
  subst hsz
  exact body p e s m _ below meth c _ _ B.exec B.bytes B.returns hml (findClass_of_methodNamed B.named) (atoms_spec (ws := ws) B.pre) B.notSynchronized hK hP hD0.self hG (fun q h => Or.inr h) va_S.rf hl
section ZE
variable {p : Program} {l : Launch} {e : Env} {R : Room} {s : State} {m : MethodId} {args : Array Value} {below : List Frame} {meth : Method} {c : Code} {H : Heap} {locs : List Loc} {cells slots : Nat} {Q : State → Prop}
variable {cc : ByteArray} {pc : Nat} {ls : Array Slot} {rest : List Value} {D : va_G} {A : Nat → Prop} {mc ms : Nat} {w w' : va_W}
theorem z_iret {v u : Int} (hx : p.tables.exec = Jvm.exec) (hb : c.code = cc) (hr : meth.sig.returnType = some .int) (hlocks : meth.locks = false) (hP : va_P D vwCl w H) (hS : va_S A s.heap H locs) (hdg : decode cc pc = .ok (.ireturn, 1)) (hv : v = u) (hw : w' = w) (hc : cells ≤ mc) (hs : slots ≤ ms) : W p l e R s m args below meth c H locs cells slots (MQ below (zQi D A v w') args s mc ms A) (F0 m pc ls [.int (iI u)]) := by
  subst hv; subst hw
  exact W.widen hc hs (W.iret hx hb hr (fun t ht hW => ⟨⟨_, (), rfl, rfl, by show va_P D vwCl _ t.heap; rw [ht]; exact hP⟩, hS.F ht⟩) hS.2.2 hdg hlocks)
theorem z_zret {ty : FieldType} {v u : Int} (hx : p.tables.exec = Jvm.exec) (hb : c.code = cc) (hr : meth.sig.returnType = some ty) (hlocks : meth.locks = false) (hn : narrow ty (.int (iI u)) = .int (iI u)) (hP : va_P D vwCl w H) (hS : va_S A s.heap H locs) (hdg : decode cc pc = .ok (.ireturn, 1)) (hv : v = u) (hw : w' = w) (hc : cells ≤ mc) (hs : slots ≤ ms) : W p l e R s m args below meth c H locs cells slots (MQ below (zQi D A v w') args s mc ms A) (F0 m pc ls [.int (iI u)]) := by
  subst hv; subst hw
  exact W.widen hc hs (W.zret hx hb hr hn (fun t ht hW => ⟨⟨_, (), rfl, rfl, by show va_P D vwCl _ t.heap; rw [ht]; exact hP⟩, hS.F ht⟩) hS.2.2 hdg hlocks)
theorem z_vret (hx : p.tables.exec = Jvm.exec) (hb : c.code = cc) (hr : meth.sig.returnType = none) (hlocks : meth.locks = false) (hP : va_P D vwCl w H) (hS : va_S A s.heap H locs) (hdg : decode cc pc = .ok (.return_, 1)) (hw : w' = w) (hc : cells ≤ mc) (hs : slots ≤ ms) : W p l e R s m args below meth c H locs cells slots (MQ below (zQv D A w') args s mc ms A) (F0 m pc ls []) := by
  subst hw
  exact W.widen hc hs (W.vret hx hb hr (fun t ht hW => ⟨⟨(), rfl, trivial, by show va_P D vwCl _ t.heap; rw [ht]; exact hP⟩, hS.F ht⟩) hS.2.2 hdg hlocks)
variable {k : Nat → ClassId} {ws wc wc' : va_W} {b : Nat} {As : List Value}
theorem z_preS (hK : va_K D vwCl (zT k) s) (hG : zG A s) (hA : ∀ q : Nat, s.heap.size ≤ q → A q) (hP : va_P D vwCl ws H) (hD : va_D A ws) (hS : va_S A s.heap H locs) (isC : List Nat) (hC : isC.map (fun i => ws[i]?) = wc.map some) (hnd : va_nd isC = true) : PreS s H (zPc D k As wc H.size) As :=
  ⟨zPc.blind _ _ _ _ _, fun U hU hW => ⟨rfl, by rw [hU], by rw [hU]; exact z_sub hP isC hC, va_K.moved hW.alike hK, (hD.sub isC hnd hC).weaken (fun _ _ _ _ => trivial), hG.at hS (va_free hD hS hA isC hC) hU hW⟩⟩
theorem z_preV (hK : va_K D vwCl (zT k) s) (hG : zG A s) (hA : ∀ q : Nat, s.heap.size ≤ q → A q) (hP : va_P D vwCl ws H) (hD : va_D A ws) (hS : va_S A s.heap H locs) (isC : List Nat) (hC : isC.map (fun i => ws[i]?) = wc.map some) (hnd : va_nd isC = true) (ci : Nat) {q : vw_C} {fs : List Value} (hc : vwCl[ci]? = some q) (h0 : wc[0]? = some (b, .inr (ci, fs))) : PreV s H q.1 b (zPc D k (.ref b :: As) wc H.size) As :=
  ⟨zPc.blind _ _ _ _ _, va_recv hK (z_sub hP isC hC) hc h0, (z_preS hK hG hA hP hD hS isC hC hnd).2⟩
theorem zset_fst {is : List Nat} (hC : is.map (fun i => ws[i]?) = wc.map some) (hf : wc'.map Prod.fst = wc.map Prod.fst) : (zset ws is wc').map Prod.fst = ws.map Prod.fst := by
  have hl : is.length = wc'.length := by
    have h1 := congrArg List.length hC
    have h2 := congrArg List.length hf
    simp at h1 h2
    omega
  apply List.ext_getElem?
  intro i
  rw [List.getElem?_map, List.getElem?_map]
  by_cases hm : i ∈ is
  · cases hq : (zset ws is wc')[i]? with
    | none =>
      have h1 : ws.length ≤ i := by rw [← zset_len is ws wc']; exact List.getElem?_eq_none_iff.mp hq
      rw [List.getElem?_eq_none h1]
    | some q =>
      have hi : i < ws.length := by
        have := (List.getElem?_eq_some_iff.mp hq).1
        rwa [zset_len] at this
      obtain ⟨j, h1, h2⟩ := zset_in is ws wc' i q hm hl hq hi
      have h3 : (wc'.map Prod.fst)[j]? = some q.1 := by rw [List.getElem?_map, h2]; rfl
      rw [hf, List.getElem?_map] at h3
      cases hz : wc[j]? with
      | none => rw [hz] at h3; cases h3
      | some z =>
        rw [hz] at h3
        obtain ⟨i2, h4, h5⟩ := z_pick hC hz
        cases Option.some.inj (h4.symm.trans h1)
        rw [h5]
        exact h3.symm
  · rw [zset_out is ws wc' i hm]
theorem z_ai {v : Int} {a : Array Value} {st : List Value} (hr : va_Run p l e R s m args below meth c H locs cells slots mc ms (F0 m pc ls st) rest (zQi D (va_A wc H.size) v wc' a) (va_A wc H.size)) (hA : ∀ q : Nat, s.heap.size ≤ q → A q) (hP : va_P D vwCl ws H) (hD : va_D A ws) (hS : va_S A s.heap H locs) (isC : List Nat) (hC : isC.map (fun i => ws[i]?) = wc.map some) (hf : wc'.map Prod.fst = wc.map Prod.fst)
    (kk : ∀ (H1 : Heap) (locs1 : List Loc), va_P D vwCl (zset ws isC wc') H1 → va_D A (zset ws isC wc') → va_S A s.heap H1 locs1 → W p l e R s m args below meth c H1 locs1 (cells + mc) (slots + ms) Q (F0 m (pc + 3) ls (.int (iI v) :: rest))) : W p l e R s m args below meth c H locs cells slots Q (F0 m pc ls st) := by
  have hFc := va_free hD hS hA isC hC
  have hl : wc'.length = isC.length := by
    have h1 := congrArg List.length hC
    have h2 := congrArg List.length hf
    simp at h1 h2
    omega
  refine va_calli hr hS (fun q _ h => hFc q h) hFc (fun r u t H1 locs1 ht hvm hw hB hz1 hk1 hS1 => ?_)
  rw [hw]
  rw [ht] at hB
  exact kk H1 locs1 (z_join hP hD isC hC hl hk1 hB) (z_fst (zset_fst hC hf) hD) hS1
theorem z_av {a : Array Value} {st : List Value} (hr : va_Run p l e R s m args below meth c H locs cells slots mc ms (F0 m pc ls st) rest (zQv D (va_A wc H.size) wc' a) (va_A wc H.size)) (hA : ∀ q : Nat, s.heap.size ≤ q → A q) (hP : va_P D vwCl ws H) (hD : va_D A ws) (hS : va_S A s.heap H locs) (isC : List Nat) (hC : isC.map (fun i => ws[i]?) = wc.map some) (hf : wc'.map Prod.fst = wc.map Prod.fst)
    (kk : ∀ (H1 : Heap) (locs1 : List Loc), va_P D vwCl (zset ws isC wc') H1 → va_D A (zset ws isC wc') → va_S A s.heap H1 locs1 → W p l e R s m args below meth c H1 locs1 (cells + mc) (slots + ms) Q (F0 m (pc + 3) ls rest)) : W p l e R s m args below meth c H locs cells slots Q (F0 m pc ls st) := by
  have hFc := va_free hD hS hA isC hC
  have hl : wc'.length = isC.length := by
    have h1 := congrArg List.length hC
    have h2 := congrArg List.length hf
    simp at h1 h2
    omega
  refine va_callv hr hS (fun q _ h => hFc q h) hFc (fun u t H1 locs1 ht hvm hw hB hz1 hk1 hS1 => ?_)
  rw [ht] at hB
  exact kk H1 locs1 (z_join hP hD isC hC hl hk1 hB) (z_fst (zset_fst hC hf) hD) hS1
end ZE
theorem z_to {D : va_G} {cl : List vw_C} {ws ws' : va_W} {H : Heap} (h : ws = ws') (hP : va_P D cl ws H) : va_P D cl ws' H := h ▸ hP
theorem z_to2 {A : Nat → Prop} {ws ws' : va_W} (h : ws = ws') (hD : va_D A ws) : va_D A ws' := h ▸ hD
theorem z3 {b : Nat} (h : b < 3) : b = 0 ∨ b = 1 ∨ b = 2 := by omega
def zBf (f : Nat → Int) : Prop := ∀ j, -1000000000 ≤ f j ∧ f j ≤ 1000000000
def zBt (f : Nat → Int) : Prop := ∀ j, -1000000 ≤ f j ∧ f j ≤ 1000000
theorem zBt.f {f : Nat → Int} (h : zBt f) : zBf f := fun j => ⟨by have := h j; omega, by have := h j; omega⟩
theorem zBf.up {f : Nat → Int} (h : zBf f) {k : Nat} {v : Int} (hv : -1000000000 ≤ v ∧ v ≤ 1000000000) : zBf (upZ f k v) := by
  intro j
  unfold upZ
  by_cases q : j = k
  · rw [if_pos q]; exact hv
  · rw [if_neg q]; exact h j
-- pictures: the cells of a thing at the addresses a, with the numbers S
abbrev wArrI (k : Nat → ClassId) (n : Nat) (a : Nat → Nat) (S : Nat → Nat → Int) : va_W := [(a 0, .inl (k 0, n, .inl (fun j => iI (S 0 j))))]
abbrev wArrC (k : Nat → ClassId) (n : Nat) (a : Nat → Nat) (S : Nat → Nat → Int) : va_W := [(a 0, .inl (k 1, n, .inl (fun j => iI (S 0 j))))]
def wRow (k : Nat → ClassId) (a : Nat → Nat) (S : Nat → Nat → Int) : va_W := [(a 0, .inr (8, [.ref (a 1), .int (iI (S 0 1))])), (a 1, .inl (k 0, 32, .inl (fun j => iI (S 1 j))))]
def wCrew (k : Nat → ClassId) (a : Nat → Nat) (S : Nat → Nat → Int) : va_W := [(a 0, .inr (3, [.ref (a 1), .int (iI (S 0 1))])), (a 1, .inl (k 0, 4, .inl (fun j => iI (S 1 j))))]
def wInput (k : Nat → ClassId) (a : Nat → Nat) (S : Nat → Nat → Int) : va_W := [(a 0, .inr (5, [.ref (a 1), .int (iI (S 0 1))])), (a 1, .inl (k 1, 60, .inl (fun j => iI (S 1 j))))]
def wLine (k : Nat → ClassId) (a : Nat → Nat) (S : Nat → Nat → Int) : va_W := [(a 0, .inr (6, [.ref (a 1), .int (iI (S 0 1))])), (a 1, .inl (k 1, 39, .inl (fun j => iI (S 1 j))))]
def wBelt (k : Nat → ClassId) (a : Nat → Nat) (S : Nat → Nat → Int) : va_W := [(a 0, .inr (2, [.ref (a 1), .int (iI (S 0 1)), .int (iI (S 0 2)), .int (iI (S 0 3)), .int (iI (S 0 4)), .int (iI (S 0 5))])), (a 1, .inr (8, [.ref (a 2), .int (iI (S 1 1))])), (a 2, .inl (k 0, 32, .inl (fun j => iI (S 2 j))))]
def wPlant (k : Nat → ClassId) (a : Nat → Nat) (S : Nat → Nat → Int) : va_W := [(a 0, .inr (7, [.ref (a 1), .ref (a 11), .ref (a 13), .int (iI (S 0 3)), .int (iI (S 0 4)), .int (iI (S 0 5)), .int (iI (S 0 6)), .int (iI (S 0 7)), .int (iI (S 0 8)), .int (iI (S 0 9)), .int (iI (S 0 10))])),
  (a 1, .inl (k 2, 3, .inr (.inr (.inr (.inr (fun j => some (a (2 + 3 * j)))))))),
  (a 2, .inr (2, [.ref (a 3), .int (iI (S 2 1)), .int (iI (S 2 2)), .int (iI (S 2 3)), .int (iI (S 2 4)), .int (iI (S 2 5))])), (a 3, .inr (8, [.ref (a 4), .int (iI (S 3 1))])), (a 4, .inl (k 0, 32, .inl (fun j => iI (S 4 j)))),
  (a 5, .inr (2, [.ref (a 6), .int (iI (S 5 1)), .int (iI (S 5 2)), .int (iI (S 5 3)), .int (iI (S 5 4)), .int (iI (S 5 5))])), (a 6, .inr (8, [.ref (a 7), .int (iI (S 6 1))])), (a 7, .inl (k 0, 32, .inl (fun j => iI (S 7 j)))),
  (a 8, .inr (2, [.ref (a 9), .int (iI (S 8 1)), .int (iI (S 8 2)), .int (iI (S 8 3)), .int (iI (S 8 4)), .int (iI (S 8 5))])), (a 9, .inr (8, [.ref (a 10), .int (iI (S 9 1))])), (a 10, .inl (k 0, 32, .inl (fun j => iI (S 10 j)))),
  (a 11, .inr (8, [.ref (a 12), .int (iI (S 11 1))])), (a 12, .inl (k 0, 32, .inl (fun j => iI (S 12 j)))),
  (a 13, .inr (3, [.ref (a 14), .int (iI (S 13 1))])), (a 14, .inl (k 0, 4, .inl (fun j => iI (S 14 j))))]
def wRef (k : Nat → ClassId) (a : Nat → Nat) (S : Nat → Nat → Int) : va_W := [(a 0, .inr (10, [.ref (a 1), .ref (a 2), .ref (a 3), .ref (a 4), .int (iI (S 0 4)), .int (iI (S 0 5)), .int (iI (S 0 6)), .int (iI (S 0 7)), .int (iI (S 0 8)), .int (iI (S 0 9)), .int (iI (S 0 10)), .ref (a 5), .int (iI (S 0 12)), .int (iI (S 0 13)), .ref (a 6), .int (iI (S 0 15)), .int (iI (S 0 16)), .ref (a 7), .int (iI (S 0 18))])),
  (a 1, .inl (k 0, 125, .inl (fun j => iI (S 1 j)))), (a 2, .inl (k 0, 1000, .inl (fun j => iI (S 2 j)))), (a 3, .inl (k 0, 125, .inl (fun j => iI (S 3 j)))), (a 4, .inl (k 0, 125, .inl (fun j => iI (S 4 j)))),
  (a 5, .inl (k 0, 60, .inl (fun j => iI (S 5 j)))), (a 6, .inl (k 1, 60, .inl (fun j => iI (S 6 j)))), (a 7, .inl (k 0, 124, .inl (fun j => iI (S 7 j))))]
section ZE3
variable {p : Program} {l : Launch} {e : Env} {R : Room} {s : State} {m : MethodId} {args : Array Value} {below : List Frame} {meth : Method} {c : Code} {H : Heap} {locs : List Loc} {cells slots : Nat} {Q : State → Prop}
variable {cc : ByteArray} {pc : Nat} {ls : Array Slot} {rest : List Value} {D : va_G} {A : Nat → Prop} {mc ms : Nat} {w w' : va_W} {k : Nat → ClassId} {ws wc wc' : va_W} {b : Nat} {As : List Value}
theorem zset_same {is : List Nat} : ∀ {ws wc : va_W}, is.map (fun i => ws[i]?) = wc.map some → zset ws is wc = ws := by
  induction is with
  | nil =>
    intro ws wc h
    cases wc with
    | nil => rfl
    | cons q qs => simp at h
  | cons i is ih =>
    intro ws wc h
    cases wc with
    | nil => simp at h
    | cons q qs =>
      simp only [List.map_cons, List.cons.injEq] at h
      have e : ws.set i q = ws := by
        obtain ⟨hi, hq⟩ := List.getElem?_eq_some_iff.mp h.1
        rw [← hq]
        exact List.set_getElem_self hi
      show zset (ws.set i q) is qs = ws
      rw [e]
      exact ih h.2
theorem z_ai0 {v : Int} {a : Array Value} {st : List Value} (hr : va_Run p l e R s m args below meth c H locs cells slots mc ms (F0 m pc ls st) rest (zQi D (va_A wc H.size) v wc a) (va_A wc H.size)) (hA : ∀ q : Nat, s.heap.size ≤ q → A q) (hP : va_P D vwCl ws H) (hD : va_D A ws) (hS : va_S A s.heap H locs) (isC : List Nat) (hC : isC.map (fun i => ws[i]?) = wc.map some)
    (kk : ∀ (H1 : Heap) (locs1 : List Loc), va_P D vwCl ws H1 → va_S A s.heap H1 locs1 → W p l e R s m args below meth c H1 locs1 (cells + mc) (slots + ms) Q (F0 m (pc + 3) ls (.int (iI v) :: rest))) : W p l e R s m args below meth c H locs cells slots Q (F0 m pc ls st) :=
  z_ai hr hA hP hD hS isC hC rfl (fun H1 locs1 hP1 _ hS1 => kk H1 locs1 (by rw [zset_same hC] at hP1; exact hP1) hS1)
theorem z_av0 {a : Array Value} {st : List Value} (hr : va_Run p l e R s m args below meth c H locs cells slots mc ms (F0 m pc ls st) rest (zQv D (va_A wc H.size) wc a) (va_A wc H.size)) (hA : ∀ q : Nat, s.heap.size ≤ q → A q) (hP : va_P D vwCl ws H) (hD : va_D A ws) (hS : va_S A s.heap H locs) (isC : List Nat) (hC : isC.map (fun i => ws[i]?) = wc.map some)
    (kk : ∀ (H1 : Heap) (locs1 : List Loc), va_P D vwCl ws H1 → va_S A s.heap H1 locs1 → W p l e R s m args below meth c H1 locs1 (cells + mc) (slots + ms) Q (F0 m (pc + 3) ls rest)) : W p l e R s m args below meth c H locs cells slots Q (F0 m pc ls st) :=
  z_av hr hA hP hD hS isC hC rfl (fun H1 locs1 hP1 _ hS1 => kk H1 locs1 (by rw [zset_same hC] at hP1; exact hP1) hS1)
theorem z_mmax (hx : p.tables.exec = Jvm.exec) (hb : c.code = cc) (hml : c.maxLocals = ls.size) {own : String} {index : Nat} (hown : s.vm.findClass own = some m.cls) (hlink : (Cond.methodLink own index Lib.Math.max.name).before args s = true) (hstat : (Cond.static Lib.Math.max.name).before args s = true) (hini : (Cond.initialized "java/lang/Math").before args s = true) (hcode : (Cond.code Lib.Math.max.name Lib.Math.max.code 2 (some .int)).before args s = true)
    (hframes : 1 ≤ R.frames) (hlocals : (rest.map fun v => v.category).sum + 13 ≤ R.locals) (hc : cells ≤ R.cells) (hs : slots ≤ R.slots) {x y : Int} (zx : zR x) (zy : zR y) (hdg : decode cc pc = .ok (.invokestatic index, 3))
    (kk : W p l e R s m args below meth c H locs cells slots Q (F0 m (pc + 3) ls (.int (iI (max x y)) :: rest))) : W p l e R s m args below meth c H locs cells slots Q (F0 m pc ls (.int (iI y) :: .int (iI x) :: rest)) := by
  refine va_mmax hx hb hml hown hlink hstat hini hcode hframes hlocals hc hs hdg ?_
  have e : (if iI x < iI y then iI y else iI x) = iI (max x y) := by
    by_cases h : x < y
    · rw [if_pos ((iI_lt zx zy).mpr h), show max x y = y by omega]
    · rw [if_neg (fun q => h ((iI_lt zx zy).mp q)), show max x y = x by omega]
  rw [e]
  exact kk
theorem z_mmin (hx : p.tables.exec = Jvm.exec) (hb : c.code = cc) (hml : c.maxLocals = ls.size) {own : String} {index : Nat} (hown : s.vm.findClass own = some m.cls) (hlink : (Cond.methodLink own index Lib.Math.min.name).before args s = true) (hstat : (Cond.static Lib.Math.min.name).before args s = true) (hini : (Cond.initialized "java/lang/Math").before args s = true) (hcode : (Cond.code Lib.Math.min.name Lib.Math.min.code 2 (some .int)).before args s = true)
    (hframes : 1 ≤ R.frames) (hlocals : (rest.map fun v => v.category).sum + 13 ≤ R.locals) (hc : cells ≤ R.cells) (hs : slots ≤ R.slots) {x y : Int} (zx : zR x) (zy : zR y) (hdg : decode cc pc = .ok (.invokestatic index, 3))
    (kk : W p l e R s m args below meth c H locs cells slots Q (F0 m (pc + 3) ls (.int (iI (min x y)) :: rest))) : W p l e R s m args below meth c H locs cells slots Q (F0 m pc ls (.int (iI y) :: .int (iI x) :: rest)) := by
  refine va_mmin hx hb hml hown hlink hstat hini hcode hframes hlocals hc hs hdg ?_
  have e : (if iI y < iI x then iI y else iI x) = iI (min x y) := by
    by_cases h : y < x
    · rw [if_pos ((iI_lt zy zx).mpr h), show min x y = y by omega]
    · rw [if_neg (fun q => h ((iI_lt zy zx).mp q)), show min x y = x by omega]
  rw [e]
  exact kk
variable {a : Nat} {tys : List (ClassId × FieldType)} {H0 : Heap} {cl : List vw_C}
theorem z_aald (hx : p.tables.exec = Jvm.exec) (hb : c.code = cc) (hK : va_K D cl tys s) (hP : va_P D cl ws H) (q0 t0 : Nat) {cA : ClassId} {C : String} {n : Nat} {f : Nat → Option Nat} {q : Nat} (ha : ws[q0]? = some (a, .inl (cA, n, .inr (.inr (.inr (.inr f)))))) (ht : tys[t0]? = some (cA, .object C)) {i : Int} (h0 : 0 ≤ i) (h1 : i < (n : Int)) (hn : n ≤ 100000) (hq : f i.toNat = some q) (hdg : decode cc pc = .ok (.aaload, 1))
    (kk : W p l e R s m args below meth c H locs cells slots Q (F0 m (pc + 1) ls (.ref q :: rest))) : W p l e R s m args below meth c H locs cells slots Q (F0 m pc ls (.int (iI i) :: .ref a :: rest)) :=
  va_aldq hx hb hK hP q0 t0 ha ht (z_in h0 h1 hn) hdg (by rw [iI_cl (zR_of h0 h1 hn), hq]; exact kk)
theorem z_copyi (hx : p.tables.exec = Jvm.exec) (hb : c.code = cc) (hml : c.maxLocals = ls.size) {own : String} {index : Nat} (hown : s.vm.findClass own = some m.cls) (hlink : (Cond.methodLink own index arraycopyName).before args s = true) (hnat : (Cond.native arraycopyName).before args s = true) (hstat : (Cond.static arraycopyName).before args s = true) (hini : (Cond.initialized "java/lang/System").before args s = true)
    (hK : va_K D vwCl (zT k) s) (hP : va_P D vwCl ws H) (hD : va_D A ws) (hS : va_S A H0 H locs) (q0 q1 : Nat) {a0 n0 n1 : Nat} {f g : Nat → Int} (ha0 : ws[q0]? = some (a0, .inl (k 0, n0, .inl (fun j => iI (f j))))) (ha1 : ws[q1]? = some (a, .inl (k 0, n1, .inl (fun j => iI (g j))))) (_ : True = True)
    {sp dp n : Int} (h1 : 0 ≤ sp) (h2 : 0 ≤ dp) (h3 : 0 ≤ n) (h4 : sp + n ≤ (n0 : Int)) (h5 : dp + n ≤ (n1 : Int)) (hn0 : n0 ≤ 100000) (hn1 : n1 ≤ 100000)
    (hframes : 1 ≤ R.frames) (hlocals : (rest.map fun v => v.category).sum + (nativeFrameWords "java/lang/System" "arraycopy" 5 + 11) ≤ R.locals) (hdg : decode cc pc = .ok (.invokestatic index, 3))
    (kk : ∀ (H1 : Heap) (locs1 : List Loc), va_P D vwCl (ws.set q1 (a, .inl (k 0, n1, .inl (fun j => iI (cpyZ f g sp.toNat dp.toNat n.toNat j))))) H1 → va_D A (ws.set q1 (a, .inl (k 0, n1, .inl (fun j => iI (cpyZ f g sp.toNat dp.toNat n.toNat j))))) → va_S A H0 H1 locs1 → W p l e R s m args below meth c H1 locs1 cells slots Q (F0 m (pc + 3) ls rest)) : W p l e R s m args below meth c H locs cells slots Q (F0 m pc ls (.int (iI n) :: .int (iI dp) :: .ref a :: .int (iI sp) :: .ref a0 :: rest)) := by
  have z1 : zR sp := ⟨by omega, by omega⟩
  have z2 : zR dp := ⟨by omega, by omega⟩
  have z3' : zR n := ⟨by omega, by omega⟩
  have z0 : zR 0 := ⟨by omega, by omega⟩
  have nn : ∀ z : Int, 0 ≤ z → zR z → ¬ iI z < 0 := fun z h hz q => absurd ((iI_lt hz z0).mp q) (by omega)
  refine va_copyi hx hb hml hown hlink hnat hstat hini hK hP hD hS q0 q1 0 0 (ty := .int) ha0 ha1 rfl rfl rfl (nn sp h1 z1) (nn dp h2 z2) (nn n h3 z3') (by rw [iI_cl z1, iI_cl z3']; omega) (by rw [iI_cl z2, iI_cl z3']; omega) (fun i hi => rfl) hframes hlocals hdg (fun H1 locs1 => ?_)
  rw [iI_cl z1, iI_cl z2, iI_cl z3', cpyZ_iI]
  exact kk H1 locs1
theorem z_tabD (hx : p.tables.exec = Jvm.exec) (hb : c.code = cc) {dflt lo hi : Int} {offs : Array Int} {len : Nat} {tgt : Nat} (hdg : decode cc pc = .ok (.tableswitch dflt lo hi offs, len)) {x : Int} (zx : zR x) (ht : (pc : Int) + dflt = (tgt : Int)) (h : (x < lo ∨ hi < x) ∨ ∃ off, offs[(x - lo).toNat]? = some off ∧ off = dflt ∧ ¬ x < lo ∧ ¬ hi < x)
    (kk : W p l e R s m args below meth c H locs cells slots Q (F0 m tgt ls rest)) : W p l e R s m args below meth c H locs cells slots Q (F0 m pc ls (.int (iI x) :: rest)) := by
  rcases h with h | ⟨off, h1, h2, h3, h4⟩
  · exact lv_tableOut hx hb hdg (by rw [iI_toInt zx]; exact h) ht kk
  · subst h2
    exact lv_tableIn hx hb hdg (by rw [iI_toInt zx]; exact h3) (by rw [iI_toInt zx]; exact h4) (by rw [iI_toInt zx]; exact h1) ht kk
theorem z_tabI (hx : p.tables.exec = Jvm.exec) (hb : c.code = cc) {dflt lo hi : Int} {offs : Array Int} {len : Nat} {tgt : Nat} (hdg : decode cc pc = .ok (.tableswitch dflt lo hi offs, len)) {x : Int} (zx : zR x) {v : Int} (hv : x = v) (h1 : ¬ v < lo) (h2 : ¬ hi < v) {off : Int} (ho : offs[(v - lo).toNat]? = some off) (ht : (pc : Int) + off = (tgt : Int))
    (kk : W p l e R s m args below meth c H locs cells slots Q (F0 m tgt ls rest)) : W p l e R s m args below meth c H locs cells slots Q (F0 m pc ls (.int (iI x) :: rest)) := by
  subst hv
  exact lv_tableIn hx hb hdg (by rw [iI_toInt zx]; exact h1) (by rw [iI_toInt zx]; exact h2) (by rw [iI_toInt zx]; exact ho) ht kk
theorem z_lookup (hx : p.tables.exec = Jvm.exec) (hb : c.code = cc) {dflt : Int} {ps : Array (Int × Int)} {len : Nat} (hdg : decode cc pc = .ok (.lookupswitch dflt ps, len)) (hp : (ps.toList.zip (ps.toList.drop 1)).all (fun (a, next) => a.1 < next.1) = true) {x : Int} (zx : zR x) {off : Int} {tgt : Nat} (ho : Op.lookupswitch.offset ps.toList dflt x = off) (ht : (pc : Int) + off = (tgt : Int))
    (kk : W p l e R s m args below meth c H locs cells slots Q (F0 m tgt ls rest)) : W p l e R s m args below meth c H locs cells slots Q (F0 m pc ls (.int (iI x) :: rest)) :=
  lv_lookup hx hb hdg hp (by rw [iI_toInt zx]; exact ho) ht kk
end ZE3
