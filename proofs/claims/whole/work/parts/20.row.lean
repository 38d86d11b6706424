theorem el7 {α1 α2 α3 α4 α5 α6 α7 : Type} {Q : α1 → α2 → α3 → α4 → α5 → α6 → α7 → Prop} {P : Prop} {a1 b1 : α1} {a2 b2 : α2} {a3 b3 : α3} {a4 b4 : α4} {a5 b5 : α5} {a6 b6 : α6} {a7 b7 : α7} (h : P → Q a1 a2 a3 a4 a5 a6 a7) (g : ¬ P → Q b1 b2 b3 b4 b5 b6 b7) : Q (zif P a1 b1) (zif P a2 b2) (zif P a3 b3) (zif P a4 b4) (zif P a5 b5) (zif P a6 b6) (zif P a7 b7) := by
  by_cases p : P
  · rw [zif_pos p, zif_pos p, zif_pos p, zif_pos p, zif_pos p, zif_pos p, zif_pos p]; exact h p
  · rw [zif_neg p, zif_neg p, zif_neg p, zif_neg p, zif_neg p, zif_neg p, zif_neg p]; exact g p
theorem el8 {α1 α2 α3 α4 α5 α6 α7 α8 : Type} {Q : α1 → α2 → α3 → α4 → α5 → α6 → α7 → α8 → Prop} {P : Prop} {a1 b1 : α1} {a2 b2 : α2} {a3 b3 : α3} {a4 b4 : α4} {a5 b5 : α5} {a6 b6 : α6} {a7 b7 : α7} {a8 b8 : α8} (h : P → Q a1 a2 a3 a4 a5 a6 a7 a8) (g : ¬ P → Q b1 b2 b3 b4 b5 b6 b7 b8) : Q (zif P a1 b1) (zif P a2 b2) (zif P a3 b3) (zif P a4 b4) (zif P a5 b5) (zif P a6 b6) (zif P a7 b7) (zif P a8 b8) := by
  by_cases p : P
  · rw [zif_pos p, zif_pos p, zif_pos p, zif_pos p, zif_pos p, zif_pos p, zif_pos p, zif_pos p]; exact h p
  · rw [zif_neg p, zif_neg p, zif_neg p, zif_neg p, zif_neg p, zif_neg p, zif_neg p, zif_neg p]; exact g p
theorem el9 {α1 α2 α3 α4 α5 α6 α7 α8 α9 : Type} {Q : α1 → α2 → α3 → α4 → α5 → α6 → α7 → α8 → α9 → Prop} {P : Prop} {a1 b1 : α1} {a2 b2 : α2} {a3 b3 : α3} {a4 b4 : α4} {a5 b5 : α5} {a6 b6 : α6} {a7 b7 : α7} {a8 b8 : α8} {a9 b9 : α9} (h : P → Q a1 a2 a3 a4 a5 a6 a7 a8 a9) (g : ¬ P → Q b1 b2 b3 b4 b5 b6 b7 b8 b9) : Q (zif P a1 b1) (zif P a2 b2) (zif P a3 b3) (zif P a4 b4) (zif P a5 b5) (zif P a6 b6) (zif P a7 b7) (zif P a8 b8) (zif P a9 b9) := by
  by_cases p : P
  · rw [zif_pos p, zif_pos p, zif_pos p, zif_pos p, zif_pos p, zif_pos p, zif_pos p, zif_pos p, zif_pos p]; exact h p
  · rw [zif_neg p, zif_neg p, zif_neg p, zif_neg p, zif_neg p, zif_neg p, zif_neg p, zif_neg p, zif_neg p]; exact g p
theorem el10 {α1 α2 α3 α4 α5 α6 α7 α8 α9 α10 : Type} {Q : α1 → α2 → α3 → α4 → α5 → α6 → α7 → α8 → α9 → α10 → Prop} {P : Prop} {a1 b1 : α1} {a2 b2 : α2} {a3 b3 : α3} {a4 b4 : α4} {a5 b5 : α5} {a6 b6 : α6} {a7 b7 : α7} {a8 b8 : α8} {a9 b9 : α9} {a10 b10 : α10} (h : P → Q a1 a2 a3 a4 a5 a6 a7 a8 a9 a10) (g : ¬ P → Q b1 b2 b3 b4 b5 b6 b7 b8 b9 b10) : Q (zif P a1 b1) (zif P a2 b2) (zif P a3 b3) (zif P a4 b4) (zif P a5 b5) (zif P a6 b6) (zif P a7 b7) (zif P a8 b8) (zif P a9 b9) (zif P a10 b10) := by
  by_cases p : P
  · rw [zif_pos p, zif_pos p, zif_pos p, zif_pos p, zif_pos p, zif_pos p, zif_pos p, zif_pos p, zif_pos p, zif_pos p]; exact h p
  · rw [zif_neg p, zif_neg p, zif_neg p, zif_neg p, zif_neg p, zif_neg p, zif_neg p, zif_neg p, zif_neg p, zif_neg p]; exact g p
theorem el11 {α1 α2 α3 α4 α5 α6 α7 α8 α9 α10 α11 : Type} {Q : α1 → α2 → α3 → α4 → α5 → α6 → α7 → α8 → α9 → α10 → α11 → Prop} {P : Prop} {a1 b1 : α1} {a2 b2 : α2} {a3 b3 : α3} {a4 b4 : α4} {a5 b5 : α5} {a6 b6 : α6} {a7 b7 : α7} {a8 b8 : α8} {a9 b9 : α9} {a10 b10 : α10} {a11 b11 : α11} (h : P → Q a1 a2 a3 a4 a5 a6 a7 a8 a9 a10 a11) (g : ¬ P → Q b1 b2 b3 b4 b5 b6 b7 b8 b9 b10 b11) : Q (zif P a1 b1) (zif P a2 b2) (zif P a3 b3) (zif P a4 b4) (zif P a5 b5) (zif P a6 b6) (zif P a7 b7) (zif P a8 b8) (zif P a9 b9) (zif P a10 b10) (zif P a11 b11) := by
  by_cases p : P
  · rw [zif_pos p, zif_pos p, zif_pos p, zif_pos p, zif_pos p, zif_pos p, zif_pos p, zif_pos p, zif_pos p, zif_pos p, zif_pos p]; exact h p
  · rw [zif_neg p, zif_neg p, zif_neg p, zif_neg p, zif_neg p, zif_neg p, zif_neg p, zif_neg p, zif_neg p, zif_neg p, zif_neg p]; exact g p
theorem el12 {α1 α2 α3 α4 α5 α6 α7 α8 α9 α10 α11 α12 : Type} {Q : α1 → α2 → α3 → α4 → α5 → α6 → α7 → α8 → α9 → α10 → α11 → α12 → Prop} {P : Prop} {a1 b1 : α1} {a2 b2 : α2} {a3 b3 : α3} {a4 b4 : α4} {a5 b5 : α5} {a6 b6 : α6} {a7 b7 : α7} {a8 b8 : α8} {a9 b9 : α9} {a10 b10 : α10} {a11 b11 : α11} {a12 b12 : α12} (h : P → Q a1 a2 a3 a4 a5 a6 a7 a8 a9 a10 a11 a12) (g : ¬ P → Q b1 b2 b3 b4 b5 b6 b7 b8 b9 b10 b11 b12) : Q (zif P a1 b1) (zif P a2 b2) (zif P a3 b3) (zif P a4 b4) (zif P a5 b5) (zif P a6 b6) (zif P a7 b7) (zif P a8 b8) (zif P a9 b9) (zif P a10 b10) (zif P a11 b11) (zif P a12 b12) := by
  by_cases p : P
  · rw [zif_pos p, zif_pos p, zif_pos p, zif_pos p, zif_pos p, zif_pos p, zif_pos p, zif_pos p, zif_pos p, zif_pos p, zif_pos p, zif_pos p]; exact h p
  · rw [zif_neg p, zif_neg p, zif_neg p, zif_neg p, zif_neg p, zif_neg p, zif_neg p, zif_neg p, zif_neg p, zif_neg p, zif_neg p, zif_neg p]; exact g p
theorem el13 {α1 α2 α3 α4 α5 α6 α7 α8 α9 α10 α11 α12 α13 : Type} {Q : α1 → α2 → α3 → α4 → α5 → α6 → α7 → α8 → α9 → α10 → α11 → α12 → α13 → Prop} {P : Prop} {a1 b1 : α1} {a2 b2 : α2} {a3 b3 : α3} {a4 b4 : α4} {a5 b5 : α5} {a6 b6 : α6} {a7 b7 : α7} {a8 b8 : α8} {a9 b9 : α9} {a10 b10 : α10} {a11 b11 : α11} {a12 b12 : α12} {a13 b13 : α13} (h : P → Q a1 a2 a3 a4 a5 a6 a7 a8 a9 a10 a11 a12 a13) (g : ¬ P → Q b1 b2 b3 b4 b5 b6 b7 b8 b9 b10 b11 b12 b13) : Q (zif P a1 b1) (zif P a2 b2) (zif P a3 b3) (zif P a4 b4) (zif P a5 b5) (zif P a6 b6) (zif P a7 b7) (zif P a8 b8) (zif P a9 b9) (zif P a10 b10) (zif P a11 b11) (zif P a12 b12) (zif P a13 b13) := by
  by_cases p : P
  · rw [zif_pos p, zif_pos p, zif_pos p, zif_pos p, zif_pos p, zif_pos p, zif_pos p, zif_pos p, zif_pos p, zif_pos p, zif_pos p, zif_pos p, zif_pos p]; exact h p
  · rw [zif_neg p, zif_neg p, zif_neg p, zif_neg p, zif_neg p, zif_neg p, zif_neg p, zif_neg p, zif_neg p, zif_neg p, zif_neg p, zif_neg p, zif_neg p]; exact g p
theorem el14 {α1 α2 α3 α4 α5 α6 α7 α8 α9 α10 α11 α12 α13 α14 : Type} {Q : α1 → α2 → α3 → α4 → α5 → α6 → α7 → α8 → α9 → α10 → α11 → α12 → α13 → α14 → Prop} {P : Prop} {a1 b1 : α1} {a2 b2 : α2} {a3 b3 : α3} {a4 b4 : α4} {a5 b5 : α5} {a6 b6 : α6} {a7 b7 : α7} {a8 b8 : α8} {a9 b9 : α9} {a10 b10 : α10} {a11 b11 : α11} {a12 b12 : α12} {a13 b13 : α13} {a14 b14 : α14} (h : P → Q a1 a2 a3 a4 a5 a6 a7 a8 a9 a10 a11 a12 a13 a14) (g : ¬ P → Q b1 b2 b3 b4 b5 b6 b7 b8 b9 b10 b11 b12 b13 b14) : Q (zif P a1 b1) (zif P a2 b2) (zif P a3 b3) (zif P a4 b4) (zif P a5 b5) (zif P a6 b6) (zif P a7 b7) (zif P a8 b8) (zif P a9 b9) (zif P a10 b10) (zif P a11 b11) (zif P a12 b12) (zif P a13 b13) (zif P a14 b14) := by
  by_cases p : P
  · rw [zif_pos p, zif_pos p, zif_pos p, zif_pos p, zif_pos p, zif_pos p, zif_pos p, zif_pos p, zif_pos p, zif_pos p, zif_pos p, zif_pos p, zif_pos p, zif_pos p]; exact h p
  · rw [zif_neg p, zif_neg p, zif_neg p, zif_neg p, zif_neg p, zif_neg p, zif_neg p, zif_neg p, zif_neg p, zif_neg p, zif_neg p, zif_neg p, zif_neg p, zif_neg p]; exact g p
theorem el15 {α1 α2 α3 α4 α5 α6 α7 α8 α9 α10 α11 α12 α13 α14 α15 : Type} {Q : α1 → α2 → α3 → α4 → α5 → α6 → α7 → α8 → α9 → α10 → α11 → α12 → α13 → α14 → α15 → Prop} {P : Prop} {a1 b1 : α1} {a2 b2 : α2} {a3 b3 : α3} {a4 b4 : α4} {a5 b5 : α5} {a6 b6 : α6} {a7 b7 : α7} {a8 b8 : α8} {a9 b9 : α9} {a10 b10 : α10} {a11 b11 : α11} {a12 b12 : α12} {a13 b13 : α13} {a14 b14 : α14} {a15 b15 : α15} (h : P → Q a1 a2 a3 a4 a5 a6 a7 a8 a9 a10 a11 a12 a13 a14 a15) (g : ¬ P → Q b1 b2 b3 b4 b5 b6 b7 b8 b9 b10 b11 b12 b13 b14 b15) : Q (zif P a1 b1) (zif P a2 b2) (zif P a3 b3) (zif P a4 b4) (zif P a5 b5) (zif P a6 b6) (zif P a7 b7) (zif P a8 b8) (zif P a9 b9) (zif P a10 b10) (zif P a11 b11) (zif P a12 b12) (zif P a13 b13) (zif P a14 b14) (zif P a15 b15) := by
  by_cases p : P
  · rw [zif_pos p, zif_pos p, zif_pos p, zif_pos p, zif_pos p, zif_pos p, zif_pos p, zif_pos p, zif_pos p, zif_pos p, zif_pos p, zif_pos p, zif_pos p, zif_pos p, zif_pos p]; exact h p
  · rw [zif_neg p, zif_neg p, zif_neg p, zif_neg p, zif_neg p, zif_neg p, zif_neg p, zif_neg p, zif_neg p, zif_neg p, zif_neg p, zif_neg p, zif_neg p, zif_neg p, zif_neg p]; exact g p
theorem el16 {α1 α2 α3 α4 α5 α6 α7 α8 α9 α10 α11 α12 α13 α14 α15 α16 : Type} {Q : α1 → α2 → α3 → α4 → α5 → α6 → α7 → α8 → α9 → α10 → α11 → α12 → α13 → α14 → α15 → α16 → Prop} {P : Prop} {a1 b1 : α1} {a2 b2 : α2} {a3 b3 : α3} {a4 b4 : α4} {a5 b5 : α5} {a6 b6 : α6} {a7 b7 : α7} {a8 b8 : α8} {a9 b9 : α9} {a10 b10 : α10} {a11 b11 : α11} {a12 b12 : α12} {a13 b13 : α13} {a14 b14 : α14} {a15 b15 : α15} {a16 b16 : α16} (h : P → Q a1 a2 a3 a4 a5 a6 a7 a8 a9 a10 a11 a12 a13 a14 a15 a16) (g : ¬ P → Q b1 b2 b3 b4 b5 b6 b7 b8 b9 b10 b11 b12 b13 b14 b15 b16) : Q (zif P a1 b1) (zif P a2 b2) (zif P a3 b3) (zif P a4 b4) (zif P a5 b5) (zif P a6 b6) (zif P a7 b7) (zif P a8 b8) (zif P a9 b9) (zif P a10 b10) (zif P a11 b11) (zif P a12 b12) (zif P a13 b13) (zif P a14 b14) (zif P a15 b15) (zif P a16 b16) := by
  by_cases p : P
  · rw [zif_pos p, zif_pos p, zif_pos p, zif_pos p, zif_pos p, zif_pos p, zif_pos p, zif_pos p, zif_pos p, zif_pos p, zif_pos p, zif_pos p, zif_pos p, zif_pos p, zif_pos p, zif_pos p]; exact h p
  · rw [zif_neg p, zif_neg p, zif_neg p, zif_neg p, zif_neg p, zif_neg p, zif_neg p, zif_neg p, zif_neg p, zif_neg p, zif_neg p, zif_neg p, zif_neg p, zif_neg p, zif_neg p, zif_neg p]; exact g p
theorem zif_or (P : Prop) (a b : Int) : zif P a b = a ∨ zif P a b = b := by
  by_cases p : P
  · left; exact zif_pos p
  · right; exact zif_neg p
section ZST
variable {p : Program} {l : Launch} {e : Env} {R : Room} {s : State} {m : MethodId} {args : Array Value} {below : List Frame} {meth : Method} {c : Code} {H : Heap} {locs : List Loc} {cells slots : Nat} {Q : State → Prop} {ls : Array Slot} {pc : Nat}
theorem z_stk {st st2 : List Value} (h : st = st2) (k : W p l e R s m args below meth c H locs cells slots Q (F0 m pc ls st2)) : W p l e R s m args below meth c H locs cells slots Q (F0 m pc ls st) := h ▸ k
end ZST
theorem upZ_id {f : Nat → Int} {k : Nat} : upZ f k (f k) = f := by
  funext j
  by_cases h : j = k
  · subst h; rw [upZ_s]
  · rw [upZ_n h]
/-- a number of a row of so many, or -1 where there is none -/
noncomputable def wNum (N : Nat → Int) (c p q : Int) : Int := zif ((0 ≤ p ∧ p < c) ∧ (0 ≤ q ∧ q < 4)) (N (p * 4 + q).toNat) (-1)
theorem wNum_bd {N : Nat → Int} (h : zBf N) {c p q : Int} : -1000000000 ≤ wNum N c p q ∧ wNum N c p q ≤ 1000000000 := by
  unfold wNum
  exact el1 (Q := fun z => -1000000000 ≤ z ∧ z ≤ 1000000000) (fun _ => h _) (fun _ => by omega)
def wAdd (N : Nat → Int) (c p0 p1 p2 p3 : Int) : Nat → Int := upZ (upZ (upZ (upZ N (c * 4 + 0).toNat p0) (c * 4 + 1).toNat p1) (c * 4 + 2).toNat p2) (c * 4 + 3).toNat p3
noncomputable def wCutN (N : Nat → Int) (c p q : Int) : Nat → Int := zif (0 ≤ p ∧ 0 ≤ q ∧ q ≤ c - p) (cpyZ N N ((p + q) * 4).toNat (p * 4).toNat ((c - (p + q)) * 4).toNat) N
noncomputable def wCutK (c p q : Int) : Int := zif (0 ≤ p ∧ 0 ≤ q ∧ q ≤ c - p) (c - q) c
noncomputable def wMvN (N M : Nat → Int) (c d : Int) : Nat → Int := zif (0 < c) (wAdd M d (wNum N c 0 0) (wNum N c 0 1) (wNum N c 0 2) (wNum N c 0 3)) M
noncomputable def wMvK (c d : Int) : Int := zif (0 < c) (d + 1) d
noncomputable def wMvN0 (N : Nat → Int) (c : Int) : Nat → Int := zif (0 < c) (wCutN N c 0 1) N
noncomputable def wMvK0 (c : Int) : Int := zif (0 < c) (wCutK c 0 1) c
theorem zBf.wadd {N : Nat → Int} (h : zBf N) {c p0 p1 p2 p3 : Int} (h1 : -1000000000 ≤ p0 ∧ p0 ≤ 1000000000) (h2 : -1000000000 ≤ p1 ∧ p1 ≤ 1000000000) (h3 : -1000000000 ≤ p2 ∧ p2 ≤ 1000000000) (h4 : -1000000000 ≤ p3 ∧ p3 ≤ 1000000000) : zBf (wAdd N c p0 p1 p2 p3) := (((h.up h1).up h2).up h3).up h4
theorem zBf.wcut {N : Nat → Int} (h : zBf N) {c p q : Int} : zBf (wCutN N c p q) := zBf.zif (h.cpy h _ _ _) h
theorem zBf.wmv {N M : Nat → Int} (h : zBf N) (g : zBf M) {c d : Int} : zBf (wMvN N M c d) := zBf.zif (g.wadd (wNum_bd h) (wNum_bd h) (wNum_bd h) (wNum_bd h)) g
theorem zBf.wmv0 {N : Nat → Int} (h : zBf N) {c : Int} : zBf (wMvN0 N c) := zBf.zif h.wcut h
theorem wCutK_rng {c p q : Int} (h : 0 ≤ c ∧ c ≤ 8) : 0 ≤ wCutK c p q ∧ wCutK c p q ≤ c := by
  unfold wCutK
  exact el1 (Q := fun z => 0 ≤ z ∧ z ≤ c) (fun _ => by omega) (fun _ => by omega)
/-- a crew -/
noncomputable def wYaw (Y : Nat → Int) (c p : Int) : Int := zif (0 ≤ p ∧ p < c) (Y p.toNat) (-1)
theorem wYaw_bd {N : Nat → Int} (h : zBf N) {c p : Int} : -1000000000 ≤ wYaw N c p ∧ wYaw N c p ≤ 1000000000 := by
  unfold wYaw
  exact el1 (Q := fun z => -1000000000 ≤ z ∧ z ≤ 1000000000) (fun _ => h _) (fun _ => by omega)
noncomputable def wTire (Y : Nat → Int) (c p q : Int) : Nat → Int := zif (0 ≤ p ∧ p < c) (upZ Y p.toNat (max 0 (min 9 (Y p.toNat + q)))) Y
def wTireAll (Y : Nat → Int) (c q : Int) : Nat → Int := mapZ (fun z => max 0 (min 9 (z + q))) Y 0 c.toNat
theorem zBf.wtire {N : Nat → Int} (h : zBf N) {c p q : Int} : zBf (wTire N c p q) := zBf.zif (h.up (by omega)) h
theorem zBf.wtireAll {N : Nat → Int} (h : zBf N) {c q : Int} : zBf (wTireAll N c q) := h.map (fun z _ => by show _ ≤ max 0 (min 9 (z + q)) ∧ max 0 (min 9 (z + q)) ≤ _; omega) _ _
theorem wtire_s {Y : Nat → Int} {c q x : Int} (h0 : 0 ≤ x) (hx : x < c) : wTire (mapZ (fun z => max 0 (min 9 (z + q))) Y 0 x.toNat) c x q = mapZ (fun z => max 0 (min 9 (z + q))) Y 0 (x + 1).toNat := by
  unfold wTire
  rw [zif_pos ⟨h0, hx⟩, show (x + 1).toNat = x.toNat + 1 by omega]
  exact mapZ_step (by omega) rfl
noncomputable def wAhead (Y : Nat → Int) (c i : Int) : Int := sumI (fun o => zif (Y o.toNat < Y i.toNat ∨ (Y o.toNat = Y i.toNat ∧ o < i)) 1 0) c
theorem wAhead_bd {Y : Nat → Int} {c i : Int} (h : 0 ≤ c) : 0 ≤ wAhead Y c i ∧ wAhead Y c i ≤ c := sumI_01 h (fun k _ _ => zif_01 _)
def wLeft (t y : Int) : Prop := (¬ t = 1 ∧ t = 2 ∧ 9 ≤ y) ∨ (¬ t = 1 ∧ ¬ t = 2 ∧ 6 ≤ y)
/-- a belt -/
def wPassed (B : Nat → Int) (g a t : Int) : Prop := (t = 1 ∧ B 1 ≤ g) ∨ (¬ t = 1 ∧ t = 2 ∧ a ≤ B 2) ∨ (¬ t = 1 ∧ ¬ t = 2 ∧ ¬ g = B 3)
noncomputable def wBlanks (N : Nat → Int) (c : Int) : Int := sumI (fun k => zif (wNum N c k 0 = -1) 1 0) c
theorem wBlanks_bd {N : Nat → Int} {c : Int} (h : 0 ≤ c) : 0 ≤ wBlanks N c ∧ wBlanks N c ≤ c := sumI_01 h (fun k _ _ => zif_01 _)
noncomputable def wGreys (N : Nat → Int) (c : Int) : Int := sumI (fun k => zif (wNum N c k 0 = -1) 0 (wNum N c k 0)) c
theorem wGreys_bd {N : Nat → Int} {M c : Int} (h : zBk M N) (hM : 1 ≤ M) (hc : 0 ≤ c) : -(M * c) ≤ wGreys N c ∧ wGreys N c ≤ M * c := sumI_bd hc (fun k _ _ => by
  show -M ≤ zif (wNum N c k 0 = -1) 0 (wNum N c k 0) ∧ zif (wNum N c k 0 = -1) 0 (wNum N c k 0) ≤ M
  refine el1 (Q := fun z => -M ≤ z ∧ z ≤ M) (fun _ => by omega) (fun _ => ?_)
  unfold wNum
  exact el1 (Q := fun z => -M ≤ z ∧ z ≤ M) (fun _ => h _) (fun _ => by omega))
set_option maxHeartbeats 4000000 in
set_option maxRecDepth 100000 in
theorem c_X6_copyFrom (l : Launch) (D : va_G) (k : Nat → ClassId) (a0 : Nat → Nat) (S0 : Nat → Nat → Int) (a1 : Nat → Nat) (S1 : Nat → Nat → Int) (hc1 : 0 ≤ S1 0 1 ∧ S1 0 1 ≤ 8) : zMv l yX6_copyFrom wsX6_copyFrom ({ frames := 1, cells := 0, slots := 0, locals := 40 } : Room) D k [.ref (a0 0), .ref (a1 0)] (wRow k a0 S0 ++ wRow k a1 S1) (wRow k a0 (upA (up2 S0 0 1 (S1 0 1)) 1 (cpyZ (S1 1) (S0 1) 0 0 (((S1 0 1) * 4).toNat))) ++ wRow k a1 S1) 0 0 := by
  refine zMv_of (cc := cX6_copyFrom) (maxL := 2) (ret := none) (by decide) rfl (Nat.le_of_ble_eq_true rfl) ?_
  intro p e s m args below meth c A ls hx hb hr hml hown hts hlocks hK hP hD hG hA hS hl
  have hown : s.vm.findClass RX6 = some m.cls := hown
  have hl : lv_has ls 2 [(0, .ref (a0 0)), (1, .ref (a1 0))] := hl
  obtain ⟨H, hH⟩ : ∃ z, z = s.heap := ⟨_, rfl⟩
  obtain ⟨locs, hlc⟩ : ∃ z : List Loc, z = [] := ⟨_, rfl⟩
  rw [← hH] at hP
  have hS : va_S A s.heap H locs := by rw [hH, hlc]; exact hS
  rw [← hlc, ← hH]
  clear hlc hH
  refine lv_aload_n hx hb dX6_copyFrom_0 rfl (lv_at hl 0 rfl) ?_
  refine lv_aload_n hx hb dX6_copyFrom_1 rfl (lv_at hl 1 rfl) ?_
  refine va_get (D := D) (ci := 8) (v := .int (iI (S1 0 1))) (C := RX6) (T := TX6) (N := 2) hx hb hts (fun w h => List.mem_cons_of_mem _ (List.mem_append_right _ h)) hown hK hP 2 rfl rfl 1 (by decide) (hts (.fieldLink RX6 15 "MondayFactory$Row" "count" "I") (List.mem_of_getElem? (i := 1) rfl)) (fun _ h9 => h9) rfl dX6_copyFrom_2 ?_
  refine va_put (D := D) (ci := 8) (v := .int (iI (S1 0 1))) (ty := .int) (C := RX6) (T := TX6) (N := 2) hx hb hts (fun w h => List.mem_cons_of_mem _ (List.mem_append_right _ h)) tyX6 tyX6_ok nmX6 hown hK hP hD hS 0 rfl rfl 1 (by decide) (hts (.fieldLink RX6 15 "MondayFactory$Row" "count" "I") (List.mem_of_getElem? (i := 1) rfl)) (fun _ h9 => h9) rfl (by decide +kernel) rfl rfl (Nat.le_of_ble_eq_true rfl) dX6_copyFrom_5 (fun H locs hP hD hS => ?_)
  have hP : va_P D vwCl (wRow k a0 (up2 S0 0 1 (S1 0 1)) ++ wRow k a1 S1) H := hP
  have hD : va_D A (wRow k a0 (up2 S0 0 1 (S1 0 1)) ++ wRow k a1 S1) := hD
  refine lv_aload_n hx hb dX6_copyFrom_8 rfl (lv_at hl 1 rfl) ?_
  refine va_get (D := D) (ci := 8) (v := .ref (a1 1)) (C := RX6) (T := TX6) (N := 2) hx hb hts (fun w h => List.mem_cons_of_mem _ (List.mem_append_right _ h)) hown hK hP 2 rfl rfl 0 (by decide) (hts (.fieldLink RX6 9 "MondayFactory$Row" "numbers" "[I") (List.mem_of_getElem? (i := 2) rfl)) (fun _ h9 => h9) rfl dX6_copyFrom_9 ?_
  refine lv_iconst (v := iI 0) hx hb dX6_copyFrom_12 rfl ?_
  refine lv_aload_n hx hb dX6_copyFrom_13 rfl (lv_at hl 0 rfl) ?_
  refine va_get (D := D) (ci := 8) (v := .ref (a0 1)) (C := RX6) (T := TX6) (N := 2) hx hb hts (fun w h => List.mem_cons_of_mem _ (List.mem_append_right _ h)) hown hK hP 0 rfl rfl 0 (by decide) (hts (.fieldLink RX6 9 "MondayFactory$Row" "numbers" "[I") (List.mem_of_getElem? (i := 2) rfl)) (fun _ h9 => h9) rfl dX6_copyFrom_14 ?_
  refine lv_iconst (v := iI 0) hx hb dX6_copyFrom_17 rfl ?_
  refine lv_aload_n hx hb dX6_copyFrom_18 rfl (lv_at hl 0 rfl) ?_
  refine va_get (D := D) (ci := 8) (v := .int (iI (S1 0 1))) (C := RX6) (T := TX6) (N := 2) hx hb hts (fun w h => List.mem_cons_of_mem _ (List.mem_append_right _ h)) hown hK hP 0 rfl rfl 1 (by decide) (hts (.fieldLink RX6 15 "MondayFactory$Row" "count" "I") (List.mem_of_getElem? (i := 1) rfl)) (fun _ h9 => h9) rfl dX6_copyFrom_19 ?_
  refine lv_iconst (v := iI 4) hx hb dX6_copyFrom_22 rfl ?_
  refine zi_mul hx hb dX6_copyFrom_23 ?_
  refine z_copyi hx hb (hml.trans hl.1.symm) hown (hts (.methodLink RX6 19 arraycopyName) (List.mem_of_getElem? (i := 3) rfl)) (hts (.native arraycopyName) (List.mem_of_getElem? (i := 4) rfl)) (hts (.static arraycopyName) (List.mem_of_getElem? (i := 5) rfl)) (hts (.initialized "java/lang/System") (List.mem_of_getElem? (i := 6) rfl)) hK hP hD hS 3 1 (f := S1 1) (g := S0 1) rfl rfl rfl (sp := 0) (dp := 0) (n := (S1 0 1) * 4) (by omega) (by omega) (by omega) (by omega) (by omega) (by decide) (by decide) (Nat.le_of_ble_eq_true rfl) (Nat.le_of_ble_eq_true rfl) dX6_copyFrom_24 (fun H locs hP hD hS => ?_)
  have hP : va_P D vwCl (wRow k a0 (upA (up2 S0 0 1 (S1 0 1)) 1 (cpyZ (S1 1) (S0 1) 0 0 (((S1 0 1) * 4).toNat))) ++ wRow k a1 S1) H := hP
  have hD : va_D A (wRow k a0 (upA (up2 S0 0 1 (S1 0 1)) 1 (cpyZ (S1 1) (S0 1) 0 0 (((S1 0 1) * 4).toNat))) ++ wRow k a1 S1) := hD
  exact z_vret hx hb hr hlocks hP hS dX6_copyFrom_27 rfl (Nat.le_refl _) (Nat.le_refl _)
set_option maxHeartbeats 4000000 in
set_option maxRecDepth 100000 in
theorem c_X6_has (l : Launch) (D : va_G) (k : Nat → ClassId) (a0 : Nat → Nat) (S0 : Nat → Nat → Int) (p0 : Int) (hc0 : 0 ≤ S0 0 1 ∧ S0 0 1 ≤ 8) (h0 : -2147483648 ≤ p0 ∧ p0 < 2147483648) : zMi l yX6_has wsX6_has ({ frames := 0, cells := 0, slots := 0, locals := 0 } : Room) D k [.ref (a0 0), .int (iI p0)] (wRow k a0 S0) (zb (0 ≤ p0 ∧ p0 < S0 0 1)) (wRow k a0 S0) 0 0 := by
  refine zMi_of (cc := cX6_has) (maxL := 2) (ret := (some .boolean)) (by decide) rfl (Nat.le_of_ble_eq_true rfl) ?_
  intro p e s m args below meth c A ls hx hb hr hml hown hts hlocks hK hP hD hG hA hS hl
  have hown : s.vm.findClass RX6 = some m.cls := hown
  have hl : lv_has ls 2 [(0, .ref (a0 0)), (1, .int (iI p0))] := hl
  obtain ⟨H, hH⟩ : ∃ z, z = s.heap := ⟨_, rfl⟩
  obtain ⟨locs, hlc⟩ : ∃ z : List Loc, z = [] := ⟨_, rfl⟩
  rw [← hH] at hP
  have hS : va_S A s.heap H locs := by rw [hH, hlc]; exact hS
  rw [← hlc, ← hH]
  clear hlc hH
  refine lv_iload_n hx hb dX6_has_0 rfl (lv_at hl 1 rfl) ?_
  refine zi_if_lt (tgt := 16) hx hb dX6_has_1 (by decide) ⟨by omega, by omega⟩ (fun c_1 => ?_) (fun c_1 => ?_)
  · refine lv_iconst (v := iI 0) hx hb dX6_has_16 rfl ?_
    exact z_zret hx hb hr hlocks rfl hP hS dX6_has_17 (zb_neg (by omega)) rfl (Nat.le_refl _) (Nat.le_refl _)
  · refine lv_iload_n hx hb dX6_has_4 rfl (lv_at hl 1 rfl) ?_
    refine lv_aload_n hx hb dX6_has_5 rfl (lv_at hl 0 rfl) ?_
    refine va_get (D := D) (ci := 8) (v := .int (iI (S0 0 1))) (C := RX6) (T := TX6) (N := 2) hx hb hts (fun w h => List.mem_cons_of_mem _ (List.mem_append_right _ h)) hown hK hP 0 rfl rfl 1 (by decide) (hts (.fieldLink RX6 15 "MondayFactory$Row" "count" "I") (List.mem_of_getElem? (i := 1) rfl)) (fun _ h9 => h9) rfl dX6_has_6 ?_
    refine zi_icmp_ge (tgt := 16) hx hb dX6_has_9 (by decide) ⟨by omega, by omega⟩ ⟨by omega, by omega⟩ (fun c_2 => ?_) (fun c_2 => ?_)
    · refine lv_iconst (v := iI 0) hx hb dX6_has_16 rfl ?_
      exact z_zret hx hb hr hlocks rfl hP hS dX6_has_17 (zb_neg (by omega)) rfl (Nat.le_refl _) (Nat.le_refl _)
    · refine lv_iconst (v := iI 1) hx hb dX6_has_12 rfl ?_
      refine lv_goto (tgt := 17) hx hb dX6_has_13 (by decide) ?_
      exact z_zret hx hb hr hlocks rfl hP hS dX6_has_17 (zb_pos (by omega)) rfl (Nat.le_refl _) (Nat.le_refl _)
set_option maxHeartbeats 4000000 in
set_option maxRecDepth 100000 in
theorem c_X6_number (l : Launch) (D : va_G) (k : Nat → ClassId) (a0 : Nat → Nat) (S0 : Nat → Nat → Int) (p0 : Int) (p1 : Int) (hB01 : zBf (S0 1)) (hc0 : 0 ≤ S0 0 1 ∧ S0 0 1 ≤ 8) (h0 : -2147483648 ≤ p0 ∧ p0 < 2147483648) (h1 : -2147483648 ≤ p1 ∧ p1 < 2147483648) : zMi l yX6_number wsX6_number ({ frames := 0, cells := 0, slots := 0, locals := 0 } : Room) D k [.ref (a0 0), .int (iI p0), .int (iI p1)] (wRow k a0 S0) (wNum (S0 1) (S0 0 1) p0 p1) (wRow k a0 S0) 0 0 := by
  refine zMi_of (cc := cX6_number) (maxL := 4) (ret := (some .int)) (by decide) rfl (Nat.le_of_ble_eq_true rfl) ?_
  intro p e s m args below meth c A ls hx hb hr hml hown hts hlocks hK hP hD hG hA hS hl
  have hown : s.vm.findClass RX6 = some m.cls := hown
  have hl : lv_has ls 4 [(0, .ref (a0 0)), (1, .int (iI p0)), (2, .int (iI p1))] := hl
  obtain ⟨H, hH⟩ : ∃ z, z = s.heap := ⟨_, rfl⟩
  obtain ⟨locs, hlc⟩ : ∃ z : List Loc, z = [] := ⟨_, rfl⟩
  rw [← hH] at hP
  have hS : va_S A s.heap H locs := by rw [hH, hlc]; exact hS
  rw [← hlc, ← hH]
  clear hlc hH
  refine lv_iload_n hx hb dX6_number_0 rfl (lv_at hl 1 rfl) ?_
  refine zi_if_lt (tgt := 25) hx hb dX6_number_1 (by decide) ⟨by omega, by omega⟩ (fun c_1 => ?_) (fun c_1 => ?_)
  · refine lv_iconst (v := iI 0) hx hb dX6_number_25 rfl ?_
    refine lv_istore_n (lv' := [(3, .int (iI 0)), (0, .ref (a0 0)), (1, .int (iI p0)), (2, .int (iI p1))]) hx hb dX6_number_26 rfl hl (by decide) rfl (fun ls hl => ?_)
    refine lv_iload_n hx hb dX6_number_27 rfl (lv_at hl 0 rfl) ?_
    refine zi_if_eq (tgt := 44) hx hb dX6_number_28 (by decide) ⟨by omega, by omega⟩ (fun _ => ?_) (fun c_2 => absurd c_2 (by omega))
    refine lv_iconst (v := iI (-1)) hx hb dX6_number_44 rfl ?_
    exact z_iret hx hb hr hlocks hP hS dX6_number_45 (by unfold wNum; first | exact zif_pos (by omega) | exact zif_neg (by omega)) rfl (Nat.le_refl _) (Nat.le_refl _)
  · refine lv_iload_n hx hb dX6_number_4 rfl (lv_at hl 1 rfl) ?_
    refine lv_aload_n hx hb dX6_number_5 rfl (lv_at hl 0 rfl) ?_
    refine va_get (D := D) (ci := 8) (v := .int (iI (S0 0 1))) (C := RX6) (T := TX6) (N := 2) hx hb hts (fun w h => List.mem_cons_of_mem _ (List.mem_append_left _ (List.mem_append_right _ h))) hown hK hP 0 rfl rfl 1 (by decide) (hts (.fieldLink RX6 15 "MondayFactory$Row" "count" "I") (List.mem_of_getElem? (i := 1) rfl)) (fun _ h9 => h9) rfl dX6_number_6 ?_
    refine zi_icmp_ge (tgt := 25) hx hb dX6_number_9 (by decide) ⟨by omega, by omega⟩ ⟨by omega, by omega⟩ (fun c_3 => ?_) (fun c_3 => ?_)
    · refine lv_iconst (v := iI 0) hx hb dX6_number_25 rfl ?_
      refine lv_istore_n (lv' := [(3, .int (iI 0)), (0, .ref (a0 0)), (1, .int (iI p0)), (2, .int (iI p1))]) hx hb dX6_number_26 rfl hl (by decide) rfl (fun ls hl => ?_)
      refine lv_iload_n hx hb dX6_number_27 rfl (lv_at hl 0 rfl) ?_
      refine zi_if_eq (tgt := 44) hx hb dX6_number_28 (by decide) ⟨by omega, by omega⟩ (fun _ => ?_) (fun c_4 => absurd c_4 (by omega))
      refine lv_iconst (v := iI (-1)) hx hb dX6_number_44 rfl ?_
      exact z_iret hx hb hr hlocks hP hS dX6_number_45 (by unfold wNum; first | exact zif_pos (by omega) | exact zif_neg (by omega)) rfl (Nat.le_refl _) (Nat.le_refl _)
    · refine lv_iload_n hx hb dX6_number_12 rfl (lv_at hl 2 rfl) ?_
      refine zi_if_lt (tgt := 25) hx hb dX6_number_13 (by decide) ⟨by omega, by omega⟩ (fun c_5 => ?_) (fun c_5 => ?_)
      · refine lv_iconst (v := iI 0) hx hb dX6_number_25 rfl ?_
        refine lv_istore_n (lv' := [(3, .int (iI 0)), (0, .ref (a0 0)), (1, .int (iI p0)), (2, .int (iI p1))]) hx hb dX6_number_26 rfl hl (by decide) rfl (fun ls hl => ?_)
        refine lv_iload_n hx hb dX6_number_27 rfl (lv_at hl 0 rfl) ?_
        refine zi_if_eq (tgt := 44) hx hb dX6_number_28 (by decide) ⟨by omega, by omega⟩ (fun _ => ?_) (fun c_6 => absurd c_6 (by omega))
        refine lv_iconst (v := iI (-1)) hx hb dX6_number_44 rfl ?_
        exact z_iret hx hb hr hlocks hP hS dX6_number_45 (by unfold wNum; first | exact zif_pos (by omega) | exact zif_neg (by omega)) rfl (Nat.le_refl _) (Nat.le_refl _)
      · refine lv_iload_n hx hb dX6_number_16 rfl (lv_at hl 2 rfl) ?_
        refine lv_iconst (v := iI 4) hx hb dX6_number_17 rfl ?_
        refine zi_icmp_ge (tgt := 25) hx hb dX6_number_18 (by decide) ⟨by omega, by omega⟩ ⟨by omega, by omega⟩ (fun c_7 => ?_) (fun c_7 => ?_)
        · refine lv_iconst (v := iI 0) hx hb dX6_number_25 rfl ?_
          refine lv_istore_n (lv' := [(3, .int (iI 0)), (0, .ref (a0 0)), (1, .int (iI p0)), (2, .int (iI p1))]) hx hb dX6_number_26 rfl hl (by decide) rfl (fun ls hl => ?_)
          refine lv_iload_n hx hb dX6_number_27 rfl (lv_at hl 0 rfl) ?_
          refine zi_if_eq (tgt := 44) hx hb dX6_number_28 (by decide) ⟨by omega, by omega⟩ (fun _ => ?_) (fun c_8 => absurd c_8 (by omega))
          refine lv_iconst (v := iI (-1)) hx hb dX6_number_44 rfl ?_
          exact z_iret hx hb hr hlocks hP hS dX6_number_45 (by unfold wNum; first | exact zif_pos (by omega) | exact zif_neg (by omega)) rfl (Nat.le_refl _) (Nat.le_refl _)
        · refine lv_iconst (v := iI 1) hx hb dX6_number_21 rfl ?_
          refine lv_goto (tgt := 26) hx hb dX6_number_22 (by decide) ?_
          refine lv_istore_n (lv' := [(3, .int (iI 1)), (0, .ref (a0 0)), (1, .int (iI p0)), (2, .int (iI p1))]) hx hb dX6_number_26 rfl hl (by decide) rfl (fun ls hl => ?_)
          refine lv_iload_n hx hb dX6_number_27 rfl (lv_at hl 0 rfl) ?_
          refine zi_if_eq (tgt := 44) hx hb dX6_number_28 (by decide) ⟨by omega, by omega⟩ (fun c_9 => absurd c_9 (by omega)) (fun _ => ?_)
          refine lv_aload_n hx hb dX6_number_31 rfl (lv_at hl 1 rfl) ?_
          refine va_get (D := D) (ci := 8) (v := .ref (a0 1)) (C := RX6) (T := TX6) (N := 2) hx hb hts (fun w h => List.mem_cons_of_mem _ (List.mem_append_left _ (List.mem_append_right _ h))) hown hK hP 0 rfl rfl 0 (by decide) (hts (.fieldLink RX6 9 "MondayFactory$Row" "numbers" "[I") (List.mem_of_getElem? (i := 2) rfl)) (fun _ h9 => h9) rfl dX6_number_32 ?_
          refine lv_iload_n hx hb dX6_number_35 rfl (lv_at hl 2 rfl) ?_
          refine lv_iconst (v := iI 4) hx hb dX6_number_36 rfl ?_
          refine zi_mul hx hb dX6_number_37 ?_
          refine lv_iload_n hx hb dX6_number_38 rfl (lv_at hl 3 rfl) ?_
          refine zi_add hx hb dX6_number_39 ?_
          refine z_iald hx hb hK hP 1 0 (f := S0 1) rfl rfl (i := (p0 * 4) + p1) (by omega) (by omega) (by decide) (((p0 * 4) + p1).toNat) rfl dX6_number_40 ?_
          have f_10 := hB01 (((p0 * 4) + p1).toNat)
          refine lv_goto (tgt := 45) hx hb dX6_number_41 (by decide) ?_
          exact z_iret hx hb hr hlocks hP hS dX6_number_45 (by unfold wNum; first | exact zif_pos (by omega) | exact zif_neg (by omega)) rfl (Nat.le_refl _) (Nat.le_refl _)
set_option maxHeartbeats 4000000 in
set_option maxRecDepth 100000 in
theorem c_X6_grey (l : Launch) (D : va_G) (k : Nat → ClassId) (a0 : Nat → Nat) (S0 : Nat → Nat → Int) (p0 : Int) (hB01 : zBf (S0 1)) (hc0 : 0 ≤ S0 0 1 ∧ S0 0 1 ≤ 8) (h0 : -2147483648 ≤ p0 ∧ p0 < 2147483648) : zMi l yX6_grey wsX6_grey ({ frames := 1, cells := 0, slots := 0, locals := 23 } : Room) D k [.ref (a0 0), .int (iI p0)] (wRow k a0 S0) (wNum (S0 1) (S0 0 1) p0 0) (wRow k a0 S0) 0 0 := by
  refine zMi_of (cc := cX6_grey) (maxL := 2) (ret := (some .int)) (by decide) rfl (Nat.le_of_ble_eq_true rfl) ?_
  intro p e s m args below meth c A ls hx hb hr hml hown hts hlocks hK hP hD hG hA hS hl
  have hown : s.vm.findClass RX6 = some m.cls := hown
  have hl : lv_has ls 2 [(0, .ref (a0 0)), (1, .int (iI p0))] := hl
  obtain ⟨H, hH⟩ : ∃ z, z = s.heap := ⟨_, rfl⟩
  obtain ⟨locs, hlc⟩ : ∃ z : List Loc, z = [] := ⟨_, rfl⟩
  rw [← hH] at hP
  have hS : va_S A s.heap H locs := by rw [hH, hlc]; exact hS
  rw [← hlc, ← hH]
  clear hlc hH
  refine lv_aload_n hx hb dX6_grey_0 rfl (lv_at hl 0 rfl) ?_
  refine lv_iload_n hx hb dX6_grey_1 rfl (lv_at hl 1 rfl) ?_
  refine lv_iconst (v := iI 0) hx hb dX6_grey_2 rfl ?_
  refine z_ai0 (va_runV (As := [.int (iI p0), .int (iI 0)]) (rest := []) ⟨hx, hb, hml, hown, hts⟩ (c_X6_number l D k a0 S0  p0 0 hB01 (by omega) (by omega) (by omega) _) (cwV 2 hts gX6_grey_X6_number rfl rfl rfl (by decide +kernel) ⟨(Nat.le_of_ble_eq_true rfl), (Nat.le_of_ble_eq_true rfl)⟩) (z_preV hK hG hA hP hD hS [0, 1] rfl (by decide) 8 rfl rfl) rfl rfl hl.1 rfl (lv_room (Nat.le_of_ble_eq_true rfl)) dX6_grey_3 ⟨(Nat.le_of_ble_eq_true rfl), (Nat.le_of_ble_eq_true rfl)⟩) hA hP hD hS [0, 1] rfl (fun H locs hP hS => ?_)
  have q_1 : -1000000000 ≤ wNum (S0 1) (S0 0 1) p0 0 ∧ wNum (S0 1) (S0 0 1) p0 0 ≤ 1000000000 := wNum_bd hB01
  exact z_iret hx hb hr hlocks hP hS dX6_grey_6 rfl rfl (Nat.le_refl _) (Nat.le_refl _)
set_option maxHeartbeats 4000000 in
set_option maxRecDepth 100000 in
theorem c_X6_alarm (l : Launch) (D : va_G) (k : Nat → ClassId) (a0 : Nat → Nat) (S0 : Nat → Nat → Int) (p0 : Int) (hB01 : zBf (S0 1)) (hc0 : 0 ≤ S0 0 1 ∧ S0 0 1 ≤ 8) (h0 : -2147483648 ≤ p0 ∧ p0 < 2147483648) : zMi l yX6_alarm wsX6_alarm ({ frames := 1, cells := 0, slots := 0, locals := 23 } : Room) D k [.ref (a0 0), .int (iI p0)] (wRow k a0 S0) (wNum (S0 1) (S0 0 1) p0 1) (wRow k a0 S0) 0 0 := by
  refine zMi_of (cc := cX6_alarm) (maxL := 2) (ret := (some .int)) (by decide) rfl (Nat.le_of_ble_eq_true rfl) ?_
  intro p e s m args below meth c A ls hx hb hr hml hown hts hlocks hK hP hD hG hA hS hl
  have hown : s.vm.findClass RX6 = some m.cls := hown
  have hl : lv_has ls 2 [(0, .ref (a0 0)), (1, .int (iI p0))] := hl
  obtain ⟨H, hH⟩ : ∃ z, z = s.heap := ⟨_, rfl⟩
  obtain ⟨locs, hlc⟩ : ∃ z : List Loc, z = [] := ⟨_, rfl⟩
  rw [← hH] at hP
  have hS : va_S A s.heap H locs := by rw [hH, hlc]; exact hS
  rw [← hlc, ← hH]
  clear hlc hH
  refine lv_aload_n hx hb dX6_alarm_0 rfl (lv_at hl 0 rfl) ?_
  refine lv_iload_n hx hb dX6_alarm_1 rfl (lv_at hl 1 rfl) ?_
  refine lv_iconst (v := iI 1) hx hb dX6_alarm_2 rfl ?_
  refine z_ai0 (va_runV (As := [.int (iI p0), .int (iI 1)]) (rest := []) ⟨hx, hb, hml, hown, hts⟩ (c_X6_number l D k a0 S0  p0 1 hB01 (by omega) (by omega) (by omega) _) (cwV 2 hts gX6_alarm_X6_number rfl rfl rfl (by decide +kernel) ⟨(Nat.le_of_ble_eq_true rfl), (Nat.le_of_ble_eq_true rfl)⟩) (z_preV hK hG hA hP hD hS [0, 1] rfl (by decide) 8 rfl rfl) rfl rfl hl.1 rfl (lv_room (Nat.le_of_ble_eq_true rfl)) dX6_alarm_3 ⟨(Nat.le_of_ble_eq_true rfl), (Nat.le_of_ble_eq_true rfl)⟩) hA hP hD hS [0, 1] rfl (fun H locs hP hS => ?_)
  have q_1 : -1000000000 ≤ wNum (S0 1) (S0 0 1) p0 1 ∧ wNum (S0 1) (S0 0 1) p0 1 ≤ 1000000000 := wNum_bd hB01
  exact z_iret hx hb hr hlocks hP hS dX6_alarm_6 rfl rfl (Nat.le_refl _) (Nat.le_refl _)
set_option maxHeartbeats 4000000 in
set_option maxRecDepth 100000 in
theorem c_X6_isBlank (l : Launch) (D : va_G) (k : Nat → ClassId) (a0 : Nat → Nat) (S0 : Nat → Nat → Int) (p0 : Int) (hB01 : zBf (S0 1)) (hc0 : 0 ≤ S0 0 1 ∧ S0 0 1 ≤ 8) (h0 : -2147483648 ≤ p0 ∧ p0 < 2147483648) : zMi l yX6_isBlank wsX6_isBlank ({ frames := 1, cells := 0, slots := 0, locals := 23 } : Room) D k [.ref (a0 0), .int (iI p0)] (wRow k a0 S0) (zb (wNum (S0 1) (S0 0 1) p0 0 = -1)) (wRow k a0 S0) 0 0 := by
  refine zMi_of (cc := cX6_isBlank) (maxL := 2) (ret := (some .boolean)) (by decide) rfl (Nat.le_of_ble_eq_true rfl) ?_
  intro p e s m args below meth c A ls hx hb hr hml hown hts hlocks hK hP hD hG hA hS hl
  have hown : s.vm.findClass RX6 = some m.cls := hown
  have hl : lv_has ls 2 [(0, .ref (a0 0)), (1, .int (iI p0))] := hl
  obtain ⟨H, hH⟩ : ∃ z, z = s.heap := ⟨_, rfl⟩
  obtain ⟨locs, hlc⟩ : ∃ z : List Loc, z = [] := ⟨_, rfl⟩
  rw [← hH] at hP
  have hS : va_S A s.heap H locs := by rw [hH, hlc]; exact hS
  rw [← hlc, ← hH]
  clear hlc hH
  refine lv_aload_n hx hb dX6_isBlank_0 rfl (lv_at hl 0 rfl) ?_
  refine lv_iload_n hx hb dX6_isBlank_1 rfl (lv_at hl 1 rfl) ?_
  refine lv_iconst (v := iI 0) hx hb dX6_isBlank_2 rfl ?_
  refine z_ai0 (va_runV (As := [.int (iI p0), .int (iI 0)]) (rest := []) ⟨hx, hb, hml, hown, hts⟩ (c_X6_number l D k a0 S0  p0 0 hB01 (by omega) (by omega) (by omega) _) (cwV 2 hts gX6_isBlank_X6_number rfl rfl rfl (by decide +kernel) ⟨(Nat.le_of_ble_eq_true rfl), (Nat.le_of_ble_eq_true rfl)⟩) (z_preV hK hG hA hP hD hS [0, 1] rfl (by decide) 8 rfl rfl) rfl rfl hl.1 rfl (lv_room (Nat.le_of_ble_eq_true rfl)) dX6_isBlank_3 ⟨(Nat.le_of_ble_eq_true rfl), (Nat.le_of_ble_eq_true rfl)⟩) hA hP hD hS [0, 1] rfl (fun H locs hP hS => ?_)
  have q_1 : -1000000000 ≤ wNum (S0 1) (S0 0 1) p0 0 ∧ wNum (S0 1) (S0 0 1) p0 0 ≤ 1000000000 := wNum_bd hB01
  refine lv_iconst (v := iI (-1)) hx hb dX6_isBlank_6 rfl ?_
  refine zi_icmp_ne (tgt := 14) hx hb dX6_isBlank_7 (by decide) ⟨by omega, by omega⟩ ⟨by omega, by omega⟩ (fun c_2 => ?_) (fun c_2 => ?_)
  · refine lv_iconst (v := iI 0) hx hb dX6_isBlank_14 rfl ?_
    exact z_zret hx hb hr hlocks rfl hP hS dX6_isBlank_15 (zb_neg (by omega)) rfl (Nat.le_refl _) (Nat.le_refl _)
  · refine lv_iconst (v := iI 1) hx hb dX6_isBlank_10 rfl ?_
    refine lv_goto (tgt := 15) hx hb dX6_isBlank_11 (by decide) ?_
    exact z_zret hx hb hr hlocks rfl hP hS dX6_isBlank_15 (zb_pos (by omega)) rfl (Nat.le_refl _) (Nat.le_refl _)
set_option maxHeartbeats 4000000 in
set_option maxRecDepth 100000 in
theorem c_X6_add (l : Launch) (D : va_G) (k : Nat → ClassId) (a0 : Nat → Nat) (S0 : Nat → Nat → Int) (p0 : Int) (p1 : Int) (p2 : Int) (p3 : Int) (hc0 : 0 ≤ S0 0 1 ∧ S0 0 1 ≤ 7) : zMv l yX6_add wsX6_add ({ frames := 0, cells := 0, slots := 0, locals := 0 } : Room) D k [.ref (a0 0), .int (iI p0), .int (iI p1), .int (iI p2), .int (iI p3)] (wRow k a0 S0) (wRow k a0 (upA (upA S0 0 (upZ (S0 0) 1 (S0 0 1 + 1))) 1 (wAdd (S0 1) (S0 0 1) p0 p1 p2 p3))) 0 0 := by
  refine zMv_of (cc := cX6_add) (maxL := 6) (ret := none) (by decide) rfl (Nat.le_of_ble_eq_true rfl) ?_
  intro p e s m args below meth c A ls hx hb hr hml hown hts hlocks hK hP hD hG hA hS hl
  have hown : s.vm.findClass RX6 = some m.cls := hown
  have hl : lv_has ls 6 [(0, .ref (a0 0)), (1, .int (iI p0)), (2, .int (iI p1)), (3, .int (iI p2)), (4, .int (iI p3))] := hl
  obtain ⟨H, hH⟩ : ∃ z, z = s.heap := ⟨_, rfl⟩
  obtain ⟨locs, hlc⟩ : ∃ z : List Loc, z = [] := ⟨_, rfl⟩
  rw [← hH] at hP
  have hS : va_S A s.heap H locs := by rw [hH, hlc]; exact hS
  rw [← hlc, ← hH]
  clear hlc hH
  refine lv_aload_n hx hb dX6_add_0 rfl (lv_at hl 0 rfl) ?_
  refine va_get (D := D) (ci := 8) (v := .int (iI (S0 0 1))) (C := RX6) (T := TX6) (N := 2) hx hb hts (fun w h => List.mem_cons_of_mem _ (List.mem_append_left _ (List.mem_append_right _ h))) hown hK hP 0 rfl rfl 1 (by decide) (hts (.fieldLink RX6 15 "MondayFactory$Row" "count" "I") (List.mem_of_getElem? (i := 1) rfl)) (fun _ h9 => h9) rfl dX6_add_1 ?_
  refine lv_bipush (v := iI 8) hx hb dX6_add_4 (by decide) ?_
  refine zi_icmp_ge (tgt := 68) hx hb dX6_add_6 (by decide) ⟨by omega, by omega⟩ ⟨by omega, by omega⟩ (fun c_1 => absurd c_1 (by omega)) (fun _ => ?_)
  refine lv_aload_n hx hb dX6_add_9 rfl (lv_at hl 0 rfl) ?_
  refine va_get (D := D) (ci := 8) (v := .int (iI (S0 0 1))) (C := RX6) (T := TX6) (N := 2) hx hb hts (fun w h => List.mem_cons_of_mem _ (List.mem_append_left _ (List.mem_append_right _ h))) hown hK hP 0 rfl rfl 1 (by decide) (hts (.fieldLink RX6 15 "MondayFactory$Row" "count" "I") (List.mem_of_getElem? (i := 1) rfl)) (fun _ h9 => h9) rfl dX6_add_10 ?_
  refine lv_iconst (v := iI 4) hx hb dX6_add_13 rfl ?_
  refine zi_mul hx hb dX6_add_14 ?_
  refine lv_istore (lv' := [(5, .int (iI ((S0 0 1) * 4))), (0, .ref (a0 0)), (1, .int (iI p0)), (2, .int (iI p1)), (3, .int (iI p2)), (4, .int (iI p3))]) hx hb dX6_add_15 hl (by decide) rfl (fun ls hl => ?_)
  refine lv_aload_n hx hb dX6_add_17 rfl (lv_at hl 1 rfl) ?_
  refine va_get (D := D) (ci := 8) (v := .ref (a0 1)) (C := RX6) (T := TX6) (N := 2) hx hb hts (fun w h => List.mem_cons_of_mem _ (List.mem_append_left _ (List.mem_append_right _ h))) hown hK hP 0 rfl rfl 0 (by decide) (hts (.fieldLink RX6 9 "MondayFactory$Row" "numbers" "[I") (List.mem_of_getElem? (i := 2) rfl)) (fun _ h9 => h9) rfl dX6_add_18 ?_
  refine lv_iload hx hb dX6_add_21 (lv_at hl 0 rfl) ?_
  refine lv_iconst (v := iI 0) hx hb dX6_add_23 rfl ?_
  refine zi_add hx hb dX6_add_24 ?_
  refine lv_iload_n hx hb dX6_add_25 rfl (lv_at hl 2 rfl) ?_
  refine z_iast hx hb hK hP hD hS 1 0 (f := S0 1) rfl rfl (i := ((S0 0 1) * 4) + 0) (by omega) (by omega) (by decide) ((((S0 0 1) * 4) + 0).toNat) rfl dX6_add_26 (fun H locs hP hD hS => ?_)
  have hP : va_P D vwCl (wRow k a0 (up2 S0 1 ((((S0 0 1) * 4) + 0).toNat) p0)) H := hP
  have hD : va_D A (wRow k a0 (up2 S0 1 ((((S0 0 1) * 4) + 0).toNat) p0)) := hD
  refine lv_aload_n hx hb dX6_add_27 rfl (lv_at hl 1 rfl) ?_
  refine va_get (D := D) (ci := 8) (v := .ref (a0 1)) (C := RX6) (T := TX6) (N := 2) hx hb hts (fun w h => List.mem_cons_of_mem _ (List.mem_append_left _ (List.mem_append_right _ h))) hown hK hP 0 rfl rfl 0 (by decide) (hts (.fieldLink RX6 9 "MondayFactory$Row" "numbers" "[I") (List.mem_of_getElem? (i := 2) rfl)) (fun _ h9 => h9) rfl dX6_add_28 ?_
  refine lv_iload hx hb dX6_add_31 (lv_at hl 0 rfl) ?_
  refine lv_iconst (v := iI 1) hx hb dX6_add_33 rfl ?_
  refine zi_add hx hb dX6_add_34 ?_
  refine lv_iload_n hx hb dX6_add_35 rfl (lv_at hl 3 rfl) ?_
  refine z_iast hx hb hK hP hD hS 1 0 (f := upZ (S0 1) ((((S0 0 1) * 4) + 0).toNat) p0) rfl rfl (i := ((S0 0 1) * 4) + 1) (by omega) (by omega) (by decide) ((((S0 0 1) * 4) + 1).toNat) rfl dX6_add_36 (fun H locs hP hD hS => ?_)
  have hP : va_P D vwCl (wRow k a0 (up2 (up2 S0 1 ((((S0 0 1) * 4) + 0).toNat) p0) 1 ((((S0 0 1) * 4) + 1).toNat) p1)) H := hP
  have hD : va_D A (wRow k a0 (up2 (up2 S0 1 ((((S0 0 1) * 4) + 0).toNat) p0) 1 ((((S0 0 1) * 4) + 1).toNat) p1)) := hD
  refine lv_aload_n hx hb dX6_add_37 rfl (lv_at hl 1 rfl) ?_
  refine va_get (D := D) (ci := 8) (v := .ref (a0 1)) (C := RX6) (T := TX6) (N := 2) hx hb hts (fun w h => List.mem_cons_of_mem _ (List.mem_append_left _ (List.mem_append_right _ h))) hown hK hP 0 rfl rfl 0 (by decide) (hts (.fieldLink RX6 9 "MondayFactory$Row" "numbers" "[I") (List.mem_of_getElem? (i := 2) rfl)) (fun _ h9 => h9) rfl dX6_add_38 ?_
  refine lv_iload hx hb dX6_add_41 (lv_at hl 0 rfl) ?_
  refine lv_iconst (v := iI 2) hx hb dX6_add_43 rfl ?_
  refine zi_add hx hb dX6_add_44 ?_
  refine lv_iload_n hx hb dX6_add_45 rfl (lv_at hl 4 rfl) ?_
  refine z_iast hx hb hK hP hD hS 1 0 (f := upZ (upZ (S0 1) ((((S0 0 1) * 4) + 0).toNat) p0) ((((S0 0 1) * 4) + 1).toNat) p1) rfl rfl (i := ((S0 0 1) * 4) + 2) (by omega) (by omega) (by decide) ((((S0 0 1) * 4) + 2).toNat) rfl dX6_add_46 (fun H locs hP hD hS => ?_)
  have hP : va_P D vwCl (wRow k a0 (up2 (up2 (up2 S0 1 ((((S0 0 1) * 4) + 0).toNat) p0) 1 ((((S0 0 1) * 4) + 1).toNat) p1) 1 ((((S0 0 1) * 4) + 2).toNat) p2)) H := hP
  have hD : va_D A (wRow k a0 (up2 (up2 (up2 S0 1 ((((S0 0 1) * 4) + 0).toNat) p0) 1 ((((S0 0 1) * 4) + 1).toNat) p1) 1 ((((S0 0 1) * 4) + 2).toNat) p2)) := hD
  refine lv_aload_n hx hb dX6_add_47 rfl (lv_at hl 1 rfl) ?_
  refine va_get (D := D) (ci := 8) (v := .ref (a0 1)) (C := RX6) (T := TX6) (N := 2) hx hb hts (fun w h => List.mem_cons_of_mem _ (List.mem_append_left _ (List.mem_append_right _ h))) hown hK hP 0 rfl rfl 0 (by decide) (hts (.fieldLink RX6 9 "MondayFactory$Row" "numbers" "[I") (List.mem_of_getElem? (i := 2) rfl)) (fun _ h9 => h9) rfl dX6_add_48 ?_
  refine lv_iload hx hb dX6_add_51 (lv_at hl 0 rfl) ?_
  refine lv_iconst (v := iI 3) hx hb dX6_add_53 rfl ?_
  refine zi_add hx hb dX6_add_54 ?_
  refine lv_iload hx hb dX6_add_55 (lv_at hl 5 rfl) ?_
  refine z_iast hx hb hK hP hD hS 1 0 (f := upZ (upZ (upZ (S0 1) ((((S0 0 1) * 4) + 0).toNat) p0) ((((S0 0 1) * 4) + 1).toNat) p1) ((((S0 0 1) * 4) + 2).toNat) p2) rfl rfl (i := ((S0 0 1) * 4) + 3) (by omega) (by omega) (by decide) ((((S0 0 1) * 4) + 3).toNat) rfl dX6_add_57 (fun H locs hP hD hS => ?_)
  have hP : va_P D vwCl (wRow k a0 (up2 (up2 (up2 (up2 S0 1 ((((S0 0 1) * 4) + 0).toNat) p0) 1 ((((S0 0 1) * 4) + 1).toNat) p1) 1 ((((S0 0 1) * 4) + 2).toNat) p2) 1 ((((S0 0 1) * 4) + 3).toNat) p3)) H := hP
  have hD : va_D A (wRow k a0 (up2 (up2 (up2 (up2 S0 1 ((((S0 0 1) * 4) + 0).toNat) p0) 1 ((((S0 0 1) * 4) + 1).toNat) p1) 1 ((((S0 0 1) * 4) + 2).toNat) p2) 1 ((((S0 0 1) * 4) + 3).toNat) p3)) := hD
  refine lv_aload_n hx hb dX6_add_58 rfl (lv_at hl 1 rfl) ?_
  refine lv_dup hx hb dX6_add_59 rfl ?_
  refine va_get (D := D) (ci := 8) (v := .int (iI (S0 0 1))) (C := RX6) (T := TX6) (N := 2) hx hb hts (fun w h => List.mem_cons_of_mem _ (List.mem_append_left _ (List.mem_append_right _ h))) hown hK hP 0 rfl rfl 1 (by decide) (hts (.fieldLink RX6 15 "MondayFactory$Row" "count" "I") (List.mem_of_getElem? (i := 1) rfl)) (fun _ h9 => h9) rfl dX6_add_60 ?_
  refine lv_iconst (v := iI 1) hx hb dX6_add_63 rfl ?_
  refine zi_add hx hb dX6_add_64 ?_
  refine va_put (D := D) (ci := 8) (v := .int (iI ((S0 0 1) + 1))) (ty := .int) (C := RX6) (T := TX6) (N := 2) hx hb hts (fun w h => List.mem_cons_of_mem _ (List.mem_append_left _ (List.mem_append_right _ h))) tyX6 tyX6_ok nmX6 hown hK hP hD hS 0 rfl rfl 1 (by decide) (hts (.fieldLink RX6 15 "MondayFactory$Row" "count" "I") (List.mem_of_getElem? (i := 1) rfl)) (fun _ h9 => h9) rfl (by decide +kernel) rfl rfl (Nat.le_of_ble_eq_true rfl) dX6_add_65 (fun H locs hP hD hS => ?_)
  have hP : va_P D vwCl (wRow k a0 (up2 (up2 (up2 (up2 (up2 S0 1 ((((S0 0 1) * 4) + 0).toNat) p0) 1 ((((S0 0 1) * 4) + 1).toNat) p1) 1 ((((S0 0 1) * 4) + 2).toNat) p2) 1 ((((S0 0 1) * 4) + 3).toNat) p3) 0 1 ((S0 0 1) + 1))) H := hP
  have hD : va_D A (wRow k a0 (up2 (up2 (up2 (up2 (up2 S0 1 ((((S0 0 1) * 4) + 0).toNat) p0) 1 ((((S0 0 1) * 4) + 1).toNat) p1) 1 ((((S0 0 1) * 4) + 2).toNat) p2) 1 ((((S0 0 1) * 4) + 3).toNat) p3) 0 1 ((S0 0 1) + 1))) := hD
  exact z_vret hx hb hr hlocks hP hS dX6_add_68 (Eq.trans (congrArg (fun z => wRow k a0 (upA (upA S0 0 z) 1 (wAdd (S0 1) (S0 0 1) p0 p1 p2 p3))) (show upZ (S0 0) 1 (S0 0 1 + 1) = upZ (S0 0) 1 ((S0 0 1) + 1) from rfl)) (congrArg (fun z => wRow k a0 (upA (upA S0 0 (upZ (S0 0) 1 ((S0 0 1) + 1))) 1 z)) (show wAdd (S0 1) (S0 0 1) p0 p1 p2 p3 = upZ (upZ (upZ (upZ (S0 1) ((((S0 0 1) * 4) + 0).toNat) p0) ((((S0 0 1) * 4) + 1).toNat) p1) ((((S0 0 1) * 4) + 2).toNat) p2) ((((S0 0 1) * 4) + 3).toNat) p3 from rfl))) (Nat.le_refl _) (Nat.le_refl _)
set_option maxHeartbeats 4000000 in
set_option maxRecDepth 100000 in
theorem c_X6_cut (l : Launch) (D : va_G) (k : Nat → ClassId) (a0 : Nat → Nat) (S0 : Nat → Nat → Int) (p0 : Int) (p1 : Int) (hc0 : 0 ≤ S0 0 1 ∧ S0 0 1 ≤ 8) (h0 : -2147483648 ≤ p0 ∧ p0 < 2147483648) (h1 : -2147483648 ≤ p1 ∧ p1 < 2147483648) : zMv l yX6_cut wsX6_cut ({ frames := 1, cells := 0, slots := 0, locals := 40 } : Room) D k [.ref (a0 0), .int (iI p0), .int (iI p1)] (wRow k a0 S0) (wRow k a0 (upA (upA S0 0 (upZ (S0 0) 1 (wCutK (S0 0 1) p0 p1))) 1 (wCutN (S0 1) (S0 0 1) p0 p1))) 0 0 := by
  refine zMv_of (cc := cX6_cut) (maxL := 4) (ret := none) (by decide) rfl (Nat.le_of_ble_eq_true rfl) ?_
  intro p e s m args below meth c A ls hx hb hr hml hown hts hlocks hK hP hD hG hA hS hl
  have hown : s.vm.findClass RX6 = some m.cls := hown
  have hl : lv_has ls 4 [(0, .ref (a0 0)), (1, .int (iI p0)), (2, .int (iI p1))] := hl
  obtain ⟨H, hH⟩ : ∃ z, z = s.heap := ⟨_, rfl⟩
  obtain ⟨locs, hlc⟩ : ∃ z : List Loc, z = [] := ⟨_, rfl⟩
  rw [← hH] at hP
  have hS : va_S A s.heap H locs := by rw [hH, hlc]; exact hS
  rw [← hlc, ← hH]
  clear hlc hH
  refine lv_iload_n hx hb dX6_cut_0 rfl (lv_at hl 1 rfl) ?_
  refine zi_if_lt (tgt := 57) hx hb dX6_cut_1 (by decide) ⟨by omega, by omega⟩ (fun c_1 => ?_) (fun c_1 => ?_)
  · exact z_vret hx hb hr hlocks hP hS dX6_cut_57 (Eq.trans (congrArg (fun z => wRow k a0 (upA (upA S0 0 z) 1 (wCutN (S0 1) (S0 0 1) p0 p1))) (show upZ (S0 0) 1 (wCutK (S0 0 1) p0 p1) = S0 0 from (by unfold wCutK; first | rw [zif_pos (by omega)] | (rw [zif_neg (by omega)]; exact upZ_id)))) (congrArg (fun z => wRow k a0 (upA (upA S0 0 (S0 0)) 1 z)) (show wCutN (S0 1) (S0 0 1) p0 p1 = S0 1 from (by unfold wCutN; first | exact zif_pos (by omega) | exact zif_neg (by omega))))) (Nat.le_refl _) (Nat.le_refl _)
  · refine lv_iload_n hx hb dX6_cut_4 rfl (lv_at hl 2 rfl) ?_
    refine zi_if_lt (tgt := 57) hx hb dX6_cut_5 (by decide) ⟨by omega, by omega⟩ (fun c_2 => ?_) (fun c_2 => ?_)
    · exact z_vret hx hb hr hlocks hP hS dX6_cut_57 (Eq.trans (congrArg (fun z => wRow k a0 (upA (upA S0 0 z) 1 (wCutN (S0 1) (S0 0 1) p0 p1))) (show upZ (S0 0) 1 (wCutK (S0 0 1) p0 p1) = S0 0 from (by unfold wCutK; first | rw [zif_pos (by omega)] | (rw [zif_neg (by omega)]; exact upZ_id)))) (congrArg (fun z => wRow k a0 (upA (upA S0 0 (S0 0)) 1 z)) (show wCutN (S0 1) (S0 0 1) p0 p1 = S0 1 from (by unfold wCutN; first | exact zif_pos (by omega) | exact zif_neg (by omega))))) (Nat.le_refl _) (Nat.le_refl _)
    · refine lv_iload_n hx hb dX6_cut_8 rfl (lv_at hl 2 rfl) ?_
      refine lv_aload_n hx hb dX6_cut_9 rfl (lv_at hl 0 rfl) ?_
      refine va_get (D := D) (ci := 8) (v := .int (iI (S0 0 1))) (C := RX6) (T := TX6) (N := 2) hx hb hts (fun w h => List.mem_cons_of_mem _ (List.mem_append_right _ h)) hown hK hP 0 rfl rfl 1 (by decide) (hts (.fieldLink RX6 15 "MondayFactory$Row" "count" "I") (List.mem_of_getElem? (i := 1) rfl)) (fun _ h9 => h9) rfl dX6_cut_10 ?_
      refine lv_iload_n hx hb dX6_cut_13 rfl (lv_at hl 1 rfl) ?_
      refine zi_sub hx hb dX6_cut_14 ?_
      refine zi_icmp_gt (tgt := 57) hx hb dX6_cut_15 (by decide) ⟨by omega, by omega⟩ ⟨by omega, by omega⟩ (fun c_3 => ?_) (fun c_3 => ?_)
      · exact z_vret hx hb hr hlocks hP hS dX6_cut_57 (Eq.trans (congrArg (fun z => wRow k a0 (upA (upA S0 0 z) 1 (wCutN (S0 1) (S0 0 1) p0 p1))) (show upZ (S0 0) 1 (wCutK (S0 0 1) p0 p1) = S0 0 from (by unfold wCutK; first | rw [zif_pos (by omega)] | (rw [zif_neg (by omega)]; exact upZ_id)))) (congrArg (fun z => wRow k a0 (upA (upA S0 0 (S0 0)) 1 z)) (show wCutN (S0 1) (S0 0 1) p0 p1 = S0 1 from (by unfold wCutN; first | exact zif_pos (by omega) | exact zif_neg (by omega))))) (Nat.le_refl _) (Nat.le_refl _)
      · refine lv_iload_n hx hb dX6_cut_18 rfl (lv_at hl 1 rfl) ?_
        refine lv_iload_n hx hb dX6_cut_19 rfl (lv_at hl 2 rfl) ?_
        refine zi_add hx hb dX6_cut_20 ?_
        refine lv_istore_n (lv' := [(3, .int (iI (p0 + p1))), (0, .ref (a0 0)), (1, .int (iI p0)), (2, .int (iI p1))]) hx hb dX6_cut_21 rfl hl (by decide) rfl (fun ls hl => ?_)
        refine lv_aload_n hx hb dX6_cut_22 rfl (lv_at hl 1 rfl) ?_
        refine va_get (D := D) (ci := 8) (v := .ref (a0 1)) (C := RX6) (T := TX6) (N := 2) hx hb hts (fun w h => List.mem_cons_of_mem _ (List.mem_append_right _ h)) hown hK hP 0 rfl rfl 0 (by decide) (hts (.fieldLink RX6 9 "MondayFactory$Row" "numbers" "[I") (List.mem_of_getElem? (i := 2) rfl)) (fun _ h9 => h9) rfl dX6_cut_23 ?_
        refine lv_iload_n hx hb dX6_cut_26 rfl (lv_at hl 0 rfl) ?_
        refine lv_iconst (v := iI 4) hx hb dX6_cut_27 rfl ?_
        refine zi_mul hx hb dX6_cut_28 ?_
        refine lv_aload_n hx hb dX6_cut_29 rfl (lv_at hl 1 rfl) ?_
        refine va_get (D := D) (ci := 8) (v := .ref (a0 1)) (C := RX6) (T := TX6) (N := 2) hx hb hts (fun w h => List.mem_cons_of_mem _ (List.mem_append_right _ h)) hown hK hP 0 rfl rfl 0 (by decide) (hts (.fieldLink RX6 9 "MondayFactory$Row" "numbers" "[I") (List.mem_of_getElem? (i := 2) rfl)) (fun _ h9 => h9) rfl dX6_cut_30 ?_
        refine lv_iload_n hx hb dX6_cut_33 rfl (lv_at hl 2 rfl) ?_
        refine lv_iconst (v := iI 4) hx hb dX6_cut_34 rfl ?_
        refine zi_mul hx hb dX6_cut_35 ?_
        refine lv_aload_n hx hb dX6_cut_36 rfl (lv_at hl 1 rfl) ?_
        refine va_get (D := D) (ci := 8) (v := .int (iI (S0 0 1))) (C := RX6) (T := TX6) (N := 2) hx hb hts (fun w h => List.mem_cons_of_mem _ (List.mem_append_right _ h)) hown hK hP 0 rfl rfl 1 (by decide) (hts (.fieldLink RX6 15 "MondayFactory$Row" "count" "I") (List.mem_of_getElem? (i := 1) rfl)) (fun _ h9 => h9) rfl dX6_cut_37 ?_
        refine lv_iload_n hx hb dX6_cut_40 rfl (lv_at hl 0 rfl) ?_
        refine zi_sub hx hb dX6_cut_41 ?_
        refine lv_iconst (v := iI 4) hx hb dX6_cut_42 rfl ?_
        refine zi_mul hx hb dX6_cut_43 ?_
        refine z_copyi hx hb (hml.trans hl.1.symm) hown (hts (.methodLink RX6 19 arraycopyName) (List.mem_of_getElem? (i := 3) rfl)) (hts (.native arraycopyName) (List.mem_of_getElem? (i := 4) rfl)) (hts (.static arraycopyName) (List.mem_of_getElem? (i := 5) rfl)) (hts (.initialized "java/lang/System") (List.mem_of_getElem? (i := 6) rfl)) hK hP hD hS 1 1 (f := S0 1) (g := S0 1) rfl rfl rfl (sp := (p0 + p1) * 4) (dp := p0 * 4) (n := ((S0 0 1) - (p0 + p1)) * 4) (by omega) (by omega) (by omega) (by omega) (by omega) (by decide) (by decide) (Nat.le_of_ble_eq_true rfl) (Nat.le_of_ble_eq_true rfl) dX6_cut_44 (fun H locs hP hD hS => ?_)
        have hP : va_P D vwCl (wRow k a0 (upA S0 1 (cpyZ (S0 1) (S0 1) (((p0 + p1) * 4).toNat) ((p0 * 4).toNat) ((((S0 0 1) - (p0 + p1)) * 4).toNat)))) H := hP
        have hD : va_D A (wRow k a0 (upA S0 1 (cpyZ (S0 1) (S0 1) (((p0 + p1) * 4).toNat) ((p0 * 4).toNat) ((((S0 0 1) - (p0 + p1)) * 4).toNat)))) := hD
        refine lv_aload_n hx hb dX6_cut_47 rfl (lv_at hl 1 rfl) ?_
        refine lv_dup hx hb dX6_cut_48 rfl ?_
        refine va_get (D := D) (ci := 8) (v := .int (iI (S0 0 1))) (C := RX6) (T := TX6) (N := 2) hx hb hts (fun w h => List.mem_cons_of_mem _ (List.mem_append_right _ h)) hown hK hP 0 rfl rfl 1 (by decide) (hts (.fieldLink RX6 15 "MondayFactory$Row" "count" "I") (List.mem_of_getElem? (i := 1) rfl)) (fun _ h9 => h9) rfl dX6_cut_49 ?_
        refine lv_iload_n hx hb dX6_cut_52 rfl (lv_at hl 3 rfl) ?_
        refine zi_sub hx hb dX6_cut_53 ?_
        refine va_put (D := D) (ci := 8) (v := .int (iI ((S0 0 1) - p1))) (ty := .int) (C := RX6) (T := TX6) (N := 2) hx hb hts (fun w h => List.mem_cons_of_mem _ (List.mem_append_right _ h)) tyX6 tyX6_ok nmX6 hown hK hP hD hS 0 rfl rfl 1 (by decide) (hts (.fieldLink RX6 15 "MondayFactory$Row" "count" "I") (List.mem_of_getElem? (i := 1) rfl)) (fun _ h9 => h9) rfl (by decide +kernel) rfl rfl (Nat.le_of_ble_eq_true rfl) dX6_cut_54 (fun H locs hP hD hS => ?_)
        have hP : va_P D vwCl (wRow k a0 (up2 (upA S0 1 (cpyZ (S0 1) (S0 1) (((p0 + p1) * 4).toNat) ((p0 * 4).toNat) ((((S0 0 1) - (p0 + p1)) * 4).toNat))) 0 1 ((S0 0 1) - p1))) H := hP
        have hD : va_D A (wRow k a0 (up2 (upA S0 1 (cpyZ (S0 1) (S0 1) (((p0 + p1) * 4).toNat) ((p0 * 4).toNat) ((((S0 0 1) - (p0 + p1)) * 4).toNat))) 0 1 ((S0 0 1) - p1))) := hD
        exact z_vret hx hb hr hlocks hP hS dX6_cut_57 (Eq.trans (congrArg (fun z => wRow k a0 (upA (upA S0 0 z) 1 (wCutN (S0 1) (S0 0 1) p0 p1))) (show upZ (S0 0) 1 (wCutK (S0 0 1) p0 p1) = upZ (S0 0) 1 ((S0 0 1) - p1) from (by unfold wCutK; first | rw [zif_pos (by omega)] | (rw [zif_neg (by omega)]; exact upZ_id)))) (congrArg (fun z => wRow k a0 (upA (upA S0 0 (upZ (S0 0) 1 ((S0 0 1) - p1))) 1 z)) (show wCutN (S0 1) (S0 0 1) p0 p1 = cpyZ (S0 1) (S0 1) (((p0 + p1) * 4).toNat) ((p0 * 4).toNat) ((((S0 0 1) - (p0 + p1)) * 4).toNat) from (by unfold wCutN; first | exact zif_pos (by omega) | exact zif_neg (by omega))))) (Nat.le_refl _) (Nat.le_refl _)
set_option maxHeartbeats 4000000 in
set_option maxRecDepth 100000 in
theorem c_X6_moveFrontTo (l : Launch) (D : va_G) (k : Nat → ClassId) (a0 : Nat → Nat) (S0 : Nat → Nat → Int) (a1 : Nat → Nat) (S1 : Nat → Nat → Int) (hB01 : zBf (S0 1)) (hc0 : 0 ≤ S0 0 1 ∧ S0 0 1 ≤ 8) (hc1 : 0 ≤ S1 0 1 ∧ S1 0 1 ≤ 7) : zMv l yX6_moveFrontTo wsX6_moveFrontTo ({ frames := 2, cells := 0, slots := 0, locals := 63 } : Room) D k [.ref (a0 0), .ref (a1 0)] (wRow k a0 S0 ++ wRow k a1 S1) (wRow k a0 (upA (upA S0 0 (upZ (S0 0) 1 (wMvK0 (S0 0 1)))) 1 (wMvN0 (S0 1) (S0 0 1))) ++ wRow k a1 (upA (upA S1 0 (upZ (S1 0) 1 (wMvK (S0 0 1) (S1 0 1)))) 1 (wMvN (S0 1) (S1 1) (S0 0 1) (S1 0 1)))) 0 0 := by
  refine zMv_of (cc := cX6_moveFrontTo) (maxL := 2) (ret := none) (by decide) rfl (Nat.le_of_ble_eq_true rfl) ?_
  intro p e s m args below meth c A ls hx hb hr hml hown hts hlocks hK hP hD hG hA hS hl
  have hown : s.vm.findClass RX6 = some m.cls := hown
  have hl : lv_has ls 2 [(0, .ref (a0 0)), (1, .ref (a1 0))] := hl
  obtain ⟨H, hH⟩ : ∃ z, z = s.heap := ⟨_, rfl⟩
  obtain ⟨locs, hlc⟩ : ∃ z : List Loc, z = [] := ⟨_, rfl⟩
  rw [← hH] at hP
  have hS : va_S A s.heap H locs := by rw [hH, hlc]; exact hS
  rw [← hlc, ← hH]
  clear hlc hH
  refine lv_aload_n hx hb dX6_moveFrontTo_0 rfl (lv_at hl 0 rfl) ?_
  refine va_get (D := D) (ci := 8) (v := .int (iI (S0 0 1))) (C := RX6) (T := TX6) (N := 2) hx hb hts (fun w h => List.mem_cons_of_mem _ (List.mem_append_left _ (List.mem_append_right _ h))) hown hK hP 0 rfl rfl 1 (by decide) (hts (.fieldLink RX6 15 "MondayFactory$Row" "count" "I") (List.mem_of_getElem? (i := 1) rfl)) (fun _ h9 => h9) rfl dX6_moveFrontTo_1 ?_
  refine zi_if_le (tgt := 41) hx hb dX6_moveFrontTo_4 (by decide) ⟨by omega, by omega⟩ (fun c_1 => ?_) (fun c_1 => ?_)
  · exact z_vret hx hb hr hlocks hP hS dX6_moveFrontTo_41 (Eq.trans (Eq.trans (Eq.trans (congrArg (fun z => wRow k a0 (upA (upA S0 0 z) 1 (wMvN0 (S0 1) (S0 0 1))) ++ wRow k a1 (upA (upA S1 0 (upZ (S1 0) 1 (wMvK (S0 0 1) (S1 0 1)))) 1 (wMvN (S0 1) (S1 1) (S0 0 1) (S1 0 1)))) (show upZ (S0 0) 1 (wMvK0 (S0 0 1)) = S0 0 from (by unfold wMvK0; first | rw [zif_pos (by omega)] | (rw [zif_neg (by omega)]; exact upZ_id)))) (congrArg (fun z => wRow k a0 (upA (upA S0 0 (S0 0)) 1 z) ++ wRow k a1 (upA (upA S1 0 (upZ (S1 0) 1 (wMvK (S0 0 1) (S1 0 1)))) 1 (wMvN (S0 1) (S1 1) (S0 0 1) (S1 0 1)))) (show wMvN0 (S0 1) (S0 0 1) = S0 1 from (by unfold wMvN0; first | exact zif_pos (by omega) | exact zif_neg (by omega))))) (congrArg (fun z => wRow k a0 (upA (upA S0 0 (S0 0)) 1 (S0 1)) ++ wRow k a1 (upA (upA S1 0 z) 1 (wMvN (S0 1) (S1 1) (S0 0 1) (S1 0 1)))) (show upZ (S1 0) 1 (wMvK (S0 0 1) (S1 0 1)) = S1 0 from (by unfold wMvK; first | rw [zif_pos (by omega)] | (rw [zif_neg (by omega)]; exact upZ_id))))) (congrArg (fun z => wRow k a0 (upA (upA S0 0 (S0 0)) 1 (S0 1)) ++ wRow k a1 (upA (upA S1 0 (S1 0)) 1 z)) (show wMvN (S0 1) (S1 1) (S0 0 1) (S1 0 1) = S1 1 from (by unfold wMvN; first | exact zif_pos (by omega) | exact zif_neg (by omega))))) (Nat.le_refl _) (Nat.le_refl _)
  · refine lv_aload_n hx hb dX6_moveFrontTo_7 rfl (lv_at hl 1 rfl) ?_
    refine lv_aload_n hx hb dX6_moveFrontTo_8 rfl (lv_at hl 0 rfl) ?_
    refine lv_iconst (v := iI 0) hx hb dX6_moveFrontTo_9 rfl ?_
    refine lv_iconst (v := iI 0) hx hb dX6_moveFrontTo_10 rfl ?_
    refine z_ai0 (va_runV (As := [.int (iI 0), .int (iI 0)]) (rest := [.ref (a1 0)]) ⟨hx, hb, hml, hown, hts⟩ (c_X6_number l D k a0 S0  0 0 hB01 (by omega) (by omega) (by omega) _) (cwV 2 hts gX6_moveFrontTo_X6_number rfl rfl rfl (by decide +kernel) ⟨(Nat.le_of_ble_eq_true rfl), (Nat.le_of_ble_eq_true rfl)⟩) (z_preV hK hG hA hP hD hS [0, 1] rfl (by decide) 8 rfl rfl) rfl rfl hl.1 rfl (lv_room (Nat.le_of_ble_eq_true rfl)) dX6_moveFrontTo_11 ⟨(Nat.le_of_ble_eq_true rfl), (Nat.le_of_ble_eq_true rfl)⟩) hA hP hD hS [0, 1] rfl (fun H locs hP hS => ?_)
    have q_2 : -1000000000 ≤ wNum (S0 1) (S0 0 1) 0 0 ∧ wNum (S0 1) (S0 0 1) 0 0 ≤ 1000000000 := wNum_bd hB01
    refine lv_aload_n hx hb dX6_moveFrontTo_14 rfl (lv_at hl 0 rfl) ?_
    refine lv_iconst (v := iI 0) hx hb dX6_moveFrontTo_15 rfl ?_
    refine lv_iconst (v := iI 1) hx hb dX6_moveFrontTo_16 rfl ?_
    refine z_ai0 (va_runV (As := [.int (iI 0), .int (iI 1)]) (rest := [.int (iI (wNum (S0 1) (S0 0 1) 0 0)), .ref (a1 0)]) ⟨hx, hb, hml, hown, hts⟩ (c_X6_number l D k a0 S0  0 1 hB01 (by omega) (by omega) (by omega) _) (cwV 2 hts gX6_moveFrontTo_X6_number rfl rfl rfl (by decide +kernel) ⟨(Nat.le_of_ble_eq_true rfl), (Nat.le_of_ble_eq_true rfl)⟩) (z_preV hK hG hA hP hD hS [0, 1] rfl (by decide) 8 rfl rfl) rfl rfl hl.1 rfl (lv_room (Nat.le_of_ble_eq_true rfl)) dX6_moveFrontTo_17 ⟨(Nat.le_of_ble_eq_true rfl), (Nat.le_of_ble_eq_true rfl)⟩) hA hP hD hS [0, 1] rfl (fun H locs hP hS => ?_)
    have q_3 : -1000000000 ≤ wNum (S0 1) (S0 0 1) 0 1 ∧ wNum (S0 1) (S0 0 1) 0 1 ≤ 1000000000 := wNum_bd hB01
    refine lv_aload_n hx hb dX6_moveFrontTo_20 rfl (lv_at hl 0 rfl) ?_
    refine lv_iconst (v := iI 0) hx hb dX6_moveFrontTo_21 rfl ?_
    refine lv_iconst (v := iI 2) hx hb dX6_moveFrontTo_22 rfl ?_
    refine z_ai0 (va_runV (As := [.int (iI 0), .int (iI 2)]) (rest := [.int (iI (wNum (S0 1) (S0 0 1) 0 1)), .int (iI (wNum (S0 1) (S0 0 1) 0 0)), .ref (a1 0)]) ⟨hx, hb, hml, hown, hts⟩ (c_X6_number l D k a0 S0  0 2 hB01 (by omega) (by omega) (by omega) _) (cwV 2 hts gX6_moveFrontTo_X6_number rfl rfl rfl (by decide +kernel) ⟨(Nat.le_of_ble_eq_true rfl), (Nat.le_of_ble_eq_true rfl)⟩) (z_preV hK hG hA hP hD hS [0, 1] rfl (by decide) 8 rfl rfl) rfl rfl hl.1 rfl (lv_room (Nat.le_of_ble_eq_true rfl)) dX6_moveFrontTo_23 ⟨(Nat.le_of_ble_eq_true rfl), (Nat.le_of_ble_eq_true rfl)⟩) hA hP hD hS [0, 1] rfl (fun H locs hP hS => ?_)
    have q_4 : -1000000000 ≤ wNum (S0 1) (S0 0 1) 0 2 ∧ wNum (S0 1) (S0 0 1) 0 2 ≤ 1000000000 := wNum_bd hB01
    refine lv_aload_n hx hb dX6_moveFrontTo_26 rfl (lv_at hl 0 rfl) ?_
    refine lv_iconst (v := iI 0) hx hb dX6_moveFrontTo_27 rfl ?_
    refine lv_iconst (v := iI 3) hx hb dX6_moveFrontTo_28 rfl ?_
    refine z_ai0 (va_runV (As := [.int (iI 0), .int (iI 3)]) (rest := [.int (iI (wNum (S0 1) (S0 0 1) 0 2)), .int (iI (wNum (S0 1) (S0 0 1) 0 1)), .int (iI (wNum (S0 1) (S0 0 1) 0 0)), .ref (a1 0)]) ⟨hx, hb, hml, hown, hts⟩ (c_X6_number l D k a0 S0  0 3 hB01 (by omega) (by omega) (by omega) _) (cwV 2 hts gX6_moveFrontTo_X6_number rfl rfl rfl (by decide +kernel) ⟨(Nat.le_of_ble_eq_true rfl), (Nat.le_of_ble_eq_true rfl)⟩) (z_preV hK hG hA hP hD hS [0, 1] rfl (by decide) 8 rfl rfl) rfl rfl hl.1 rfl (lv_room (Nat.le_of_ble_eq_true rfl)) dX6_moveFrontTo_29 ⟨(Nat.le_of_ble_eq_true rfl), (Nat.le_of_ble_eq_true rfl)⟩) hA hP hD hS [0, 1] rfl (fun H locs hP hS => ?_)
    have q_5 : -1000000000 ≤ wNum (S0 1) (S0 0 1) 0 3 ∧ wNum (S0 1) (S0 0 1) 0 3 ≤ 1000000000 := wNum_bd hB01
    refine z_av (va_runV (As := [.int (iI (wNum (S0 1) (S0 0 1) 0 0)), .int (iI (wNum (S0 1) (S0 0 1) 0 1)), .int (iI (wNum (S0 1) (S0 0 1) 0 2)), .int (iI (wNum (S0 1) (S0 0 1) 0 3))]) (rest := []) ⟨hx, hb, hml, hown, hts⟩ (c_X6_add l D k a1 S1  (wNum (S0 1) (S0 0 1) 0 0) (wNum (S0 1) (S0 0 1) 0 1) (wNum (S0 1) (S0 0 1) 0 2) (wNum (S0 1) (S0 0 1) 0 3) (by omega) _) (cwV 4 hts gX6_moveFrontTo_X6_add rfl rfl rfl (by decide +kernel) ⟨(Nat.le_of_ble_eq_true rfl), (Nat.le_of_ble_eq_true rfl)⟩) (z_preV hK hG hA hP hD hS [2, 3] rfl (by decide) 8 rfl rfl) rfl rfl hl.1 rfl (lv_room (Nat.le_of_ble_eq_true rfl)) dX6_moveFrontTo_32 ⟨(Nat.le_of_ble_eq_true rfl), (Nat.le_of_ble_eq_true rfl)⟩) hA hP hD hS [2, 3] rfl rfl (fun H locs hP hD hS => ?_)
    have hP : va_P D vwCl (wRow k a0 S0 ++ wRow k a1 (upA (upA S1 0 (upZ (S1 0) 1 (S1 0 1 + 1))) 1 (wAdd (S1 1) (S1 0 1) (wNum (S0 1) (S0 0 1) 0 0) (wNum (S0 1) (S0 0 1) 0 1) (wNum (S0 1) (S0 0 1) 0 2) (wNum (S0 1) (S0 0 1) 0 3)))) H := hP
    have hD : va_D A (wRow k a0 S0 ++ wRow k a1 (upA (upA S1 0 (upZ (S1 0) 1 (S1 0 1 + 1))) 1 (wAdd (S1 1) (S1 0 1) (wNum (S0 1) (S0 0 1) 0 0) (wNum (S0 1) (S0 0 1) 0 1) (wNum (S0 1) (S0 0 1) 0 2) (wNum (S0 1) (S0 0 1) 0 3)))) := hD
    refine lv_aload_n hx hb dX6_moveFrontTo_35 rfl (lv_at hl 0 rfl) ?_
    refine lv_iconst (v := iI 0) hx hb dX6_moveFrontTo_36 rfl ?_
    refine lv_iconst (v := iI 1) hx hb dX6_moveFrontTo_37 rfl ?_
    refine z_av (va_runV (As := [.int (iI 0), .int (iI 1)]) (rest := []) ⟨hx, hb, hml, hown, hts⟩ (c_X6_cut l D k a0 S0  0 1 (by omega) (by omega) (by omega) _) (cwV 2 hts gX6_moveFrontTo_X6_cut rfl rfl rfl (by decide +kernel) ⟨(Nat.le_of_ble_eq_true rfl), (Nat.le_of_ble_eq_true rfl)⟩) (z_preV hK hG hA hP hD hS [0, 1] rfl (by decide) 8 rfl rfl) rfl rfl hl.1 rfl (lv_room (Nat.le_of_ble_eq_true rfl)) dX6_moveFrontTo_38 ⟨(Nat.le_of_ble_eq_true rfl), (Nat.le_of_ble_eq_true rfl)⟩) hA hP hD hS [0, 1] rfl rfl (fun H locs hP hD hS => ?_)
    have hP : va_P D vwCl (wRow k a0 (upA (upA S0 0 (upZ (S0 0) 1 (wCutK ((S0 0 1)) 0 1))) 1 (wCutN (S0 1) ((S0 0 1)) 0 1)) ++ wRow k a1 (upA (upA S1 0 (upZ (S1 0) 1 (S1 0 1 + 1))) 1 (wAdd (S1 1) (S1 0 1) (wNum (S0 1) (S0 0 1) 0 0) (wNum (S0 1) (S0 0 1) 0 1) (wNum (S0 1) (S0 0 1) 0 2) (wNum (S0 1) (S0 0 1) 0 3)))) H := hP
    have hD : va_D A (wRow k a0 (upA (upA S0 0 (upZ (S0 0) 1 (wCutK ((S0 0 1)) 0 1))) 1 (wCutN (S0 1) ((S0 0 1)) 0 1)) ++ wRow k a1 (upA (upA S1 0 (upZ (S1 0) 1 (S1 0 1 + 1))) 1 (wAdd (S1 1) (S1 0 1) (wNum (S0 1) (S0 0 1) 0 0) (wNum (S0 1) (S0 0 1) 0 1) (wNum (S0 1) (S0 0 1) 0 2) (wNum (S0 1) (S0 0 1) 0 3)))) := hD
    have q_6 : 0 ≤ wCutK ((S0 0 1)) 0 1 ∧ wCutK ((S0 0 1)) 0 1 ≤ (S0 0 1) := wCutK_rng (by omega)
    exact z_vret hx hb hr hlocks hP hS dX6_moveFrontTo_41 (Eq.trans (Eq.trans (Eq.trans (congrArg (fun z => wRow k a0 (upA (upA S0 0 z) 1 (wMvN0 (S0 1) (S0 0 1))) ++ wRow k a1 (upA (upA S1 0 (upZ (S1 0) 1 (wMvK (S0 0 1) (S1 0 1)))) 1 (wMvN (S0 1) (S1 1) (S0 0 1) (S1 0 1)))) (show upZ (S0 0) 1 (wMvK0 (S0 0 1)) = upZ (S0 0) 1 (wCutK ((S0 0 1)) 0 1) from (by unfold wMvK0; first | rw [zif_pos (by omega)] | (rw [zif_neg (by omega)]; exact upZ_id)))) (congrArg (fun z => wRow k a0 (upA (upA S0 0 (upZ (S0 0) 1 (wCutK ((S0 0 1)) 0 1))) 1 z) ++ wRow k a1 (upA (upA S1 0 (upZ (S1 0) 1 (wMvK (S0 0 1) (S1 0 1)))) 1 (wMvN (S0 1) (S1 1) (S0 0 1) (S1 0 1)))) (show wMvN0 (S0 1) (S0 0 1) = wCutN (S0 1) ((S0 0 1)) 0 1 from (by unfold wMvN0; first | exact zif_pos (by omega) | exact zif_neg (by omega))))) (congrArg (fun z => wRow k a0 (upA (upA S0 0 (upZ (S0 0) 1 (wCutK ((S0 0 1)) 0 1))) 1 (wCutN (S0 1) ((S0 0 1)) 0 1)) ++ wRow k a1 (upA (upA S1 0 z) 1 (wMvN (S0 1) (S1 1) (S0 0 1) (S1 0 1)))) (show upZ (S1 0) 1 (wMvK (S0 0 1) (S1 0 1)) = upZ (S1 0) 1 (S1 0 1 + 1) from (by unfold wMvK; first | rw [zif_pos (by omega)] | (rw [zif_neg (by omega)]; exact upZ_id))))) (congrArg (fun z => wRow k a0 (upA (upA S0 0 (upZ (S0 0) 1 (wCutK ((S0 0 1)) 0 1))) 1 (wCutN (S0 1) ((S0 0 1)) 0 1)) ++ wRow k a1 (upA (upA S1 0 (upZ (S1 0) 1 (S1 0 1 + 1))) 1 z)) (show wMvN (S0 1) (S1 1) (S0 0 1) (S1 0 1) = wAdd (S1 1) (S1 0 1) (wNum (S0 1) (S0 0 1) 0 0) (wNum (S0 1) (S0 0 1) 0 1) (wNum (S0 1) (S0 0 1) 0 2) (wNum (S0 1) (S0 0 1) 0 3) from (by unfold wMvN; first | exact zif_pos (by omega) | exact zif_neg (by omega))))) (Nat.le_refl _) (Nat.le_refl _)
set_option maxHeartbeats 4000000 in
set_option maxRecDepth 100000 in
theorem c_X1_copyFrom (l : Launch) (D : va_G) (k : Nat → ClassId) (a0 : Nat → Nat) (S0 : Nat → Nat → Int) (a1 : Nat → Nat) (S1 : Nat → Nat → Int) : zMv l yX1_copyFrom wsX1_copyFrom ({ frames := 1, cells := 0, slots := 0, locals := 40 } : Room) D k [.ref (a0 0), .ref (a1 0)] (wCrew k a0 S0 ++ wCrew k a1 S1) (wCrew k a0 (upA (up2 S0 0 1 (S1 0 1)) 1 (cpyZ (S1 1) (S0 1) 0 0 4)) ++ wCrew k a1 S1) 0 0 := by
  refine zMv_of (cc := cX1_copyFrom) (maxL := 2) (ret := none) (by decide) rfl (Nat.le_of_ble_eq_true rfl) ?_
  intro p e s m args below meth c A ls hx hb hr hml hown hts hlocks hK hP hD hG hA hS hl
  have hown : s.vm.findClass RX1 = some m.cls := hown
  have hl : lv_has ls 2 [(0, .ref (a0 0)), (1, .ref (a1 0))] := hl
  obtain ⟨H, hH⟩ : ∃ z, z = s.heap := ⟨_, rfl⟩
  obtain ⟨locs, hlc⟩ : ∃ z : List Loc, z = [] := ⟨_, rfl⟩
  rw [← hH] at hP
  have hS : va_S A s.heap H locs := by rw [hH, hlc]; exact hS
  rw [← hlc, ← hH]
  clear hlc hH
  refine lv_aload_n hx hb dX1_copyFrom_0 rfl (lv_at hl 0 rfl) ?_
  refine lv_aload_n hx hb dX1_copyFrom_1 rfl (lv_at hl 1 rfl) ?_
  refine va_get (D := D) (ci := 3) (v := .int (iI (S1 0 1))) (C := RX1) (T := TX1) (N := 2) hx hb hts (fun w h => List.mem_cons_of_mem _ (List.mem_append_right _ h)) hown hK hP 2 rfl rfl 1 (by decide) (hts (.fieldLink RX1 15 "MondayFactory$Crew" "count" "I") (List.mem_of_getElem? (i := 1) rfl)) (fun _ h9 => h9) rfl dX1_copyFrom_2 ?_
  refine va_put (D := D) (ci := 3) (v := .int (iI (S1 0 1))) (ty := .int) (C := RX1) (T := TX1) (N := 2) hx hb hts (fun w h => List.mem_cons_of_mem _ (List.mem_append_right _ h)) tyX1 tyX1_ok nmX1 hown hK hP hD hS 0 rfl rfl 1 (by decide) (hts (.fieldLink RX1 15 "MondayFactory$Crew" "count" "I") (List.mem_of_getElem? (i := 1) rfl)) (fun _ h9 => h9) rfl (by decide +kernel) rfl rfl (Nat.le_of_ble_eq_true rfl) dX1_copyFrom_5 (fun H locs hP hD hS => ?_)
  have hP : va_P D vwCl (wCrew k a0 (up2 S0 0 1 (S1 0 1)) ++ wCrew k a1 S1) H := hP
  have hD : va_D A (wCrew k a0 (up2 S0 0 1 (S1 0 1)) ++ wCrew k a1 S1) := hD
  refine lv_aload_n hx hb dX1_copyFrom_8 rfl (lv_at hl 1 rfl) ?_
  refine va_get (D := D) (ci := 3) (v := .ref (a1 1)) (C := RX1) (T := TX1) (N := 2) hx hb hts (fun w h => List.mem_cons_of_mem _ (List.mem_append_right _ h)) hown hK hP 2 rfl rfl 0 (by decide) (hts (.fieldLink RX1 9 "MondayFactory$Crew" "yawns" "[I") (List.mem_of_getElem? (i := 2) rfl)) (fun _ h9 => h9) rfl dX1_copyFrom_9 ?_
  refine lv_iconst (v := iI 0) hx hb dX1_copyFrom_12 rfl ?_
  refine lv_aload_n hx hb dX1_copyFrom_13 rfl (lv_at hl 0 rfl) ?_
  refine va_get (D := D) (ci := 3) (v := .ref (a0 1)) (C := RX1) (T := TX1) (N := 2) hx hb hts (fun w h => List.mem_cons_of_mem _ (List.mem_append_right _ h)) hown hK hP 0 rfl rfl 0 (by decide) (hts (.fieldLink RX1 9 "MondayFactory$Crew" "yawns" "[I") (List.mem_of_getElem? (i := 2) rfl)) (fun _ h9 => h9) rfl dX1_copyFrom_14 ?_
  refine lv_iconst (v := iI 0) hx hb dX1_copyFrom_17 rfl ?_
  refine lv_iconst (v := iI 4) hx hb dX1_copyFrom_18 rfl ?_
  refine z_copyi hx hb (hml.trans hl.1.symm) hown (hts (.methodLink RX1 19 arraycopyName) (List.mem_of_getElem? (i := 3) rfl)) (hts (.native arraycopyName) (List.mem_of_getElem? (i := 4) rfl)) (hts (.static arraycopyName) (List.mem_of_getElem? (i := 5) rfl)) (hts (.initialized "java/lang/System") (List.mem_of_getElem? (i := 6) rfl)) hK hP hD hS 3 1 (f := S1 1) (g := S0 1) rfl rfl rfl (sp := 0) (dp := 0) (n := 4) (by omega) (by omega) (by omega) (by omega) (by omega) (by decide) (by decide) (Nat.le_of_ble_eq_true rfl) (Nat.le_of_ble_eq_true rfl) dX1_copyFrom_19 (fun H locs hP hD hS => ?_)
  have hP : va_P D vwCl (wCrew k a0 (upA (up2 S0 0 1 (S1 0 1)) 1 (cpyZ (S1 1) (S0 1) 0 0 4)) ++ wCrew k a1 S1) H := hP
  have hD : va_D A (wCrew k a0 (upA (up2 S0 0 1 (S1 0 1)) 1 (cpyZ (S1 1) (S0 1) 0 0 4)) ++ wCrew k a1 S1) := hD
  exact z_vret hx hb hr hlocks hP hS dX1_copyFrom_22 rfl (Nat.le_refl _) (Nat.le_refl _)
set_option maxHeartbeats 4000000 in
set_option maxRecDepth 100000 in
theorem c_X1_has (l : Launch) (D : va_G) (k : Nat → ClassId) (a0 : Nat → Nat) (S0 : Nat → Nat → Int) (p0 : Int) (hc0 : 0 ≤ S0 0 1 ∧ S0 0 1 ≤ 4) (h0 : -2147483648 ≤ p0 ∧ p0 < 2147483648) : zMi l yX1_has wsX1_has ({ frames := 0, cells := 0, slots := 0, locals := 0 } : Room) D k [.ref (a0 0), .int (iI p0)] (wCrew k a0 S0) (zb (0 ≤ p0 ∧ p0 < S0 0 1)) (wCrew k a0 S0) 0 0 := by
  refine zMi_of (cc := cX1_has) (maxL := 2) (ret := (some .boolean)) (by decide) rfl (Nat.le_of_ble_eq_true rfl) ?_
  intro p e s m args below meth c A ls hx hb hr hml hown hts hlocks hK hP hD hG hA hS hl
  have hown : s.vm.findClass RX1 = some m.cls := hown
  have hl : lv_has ls 2 [(0, .ref (a0 0)), (1, .int (iI p0))] := hl
  obtain ⟨H, hH⟩ : ∃ z, z = s.heap := ⟨_, rfl⟩
  obtain ⟨locs, hlc⟩ : ∃ z : List Loc, z = [] := ⟨_, rfl⟩
  rw [← hH] at hP
  have hS : va_S A s.heap H locs := by rw [hH, hlc]; exact hS
  rw [← hlc, ← hH]
  clear hlc hH
  refine lv_iload_n hx hb dX1_has_0 rfl (lv_at hl 1 rfl) ?_
  refine zi_if_lt (tgt := 16) hx hb dX1_has_1 (by decide) ⟨by omega, by omega⟩ (fun c_1 => ?_) (fun c_1 => ?_)
  · refine lv_iconst (v := iI 0) hx hb dX1_has_16 rfl ?_
    exact z_zret hx hb hr hlocks rfl hP hS dX1_has_17 (zb_neg (by omega)) rfl (Nat.le_refl _) (Nat.le_refl _)
  · refine lv_iload_n hx hb dX1_has_4 rfl (lv_at hl 1 rfl) ?_
    refine lv_aload_n hx hb dX1_has_5 rfl (lv_at hl 0 rfl) ?_
    refine va_get (D := D) (ci := 3) (v := .int (iI (S0 0 1))) (C := RX1) (T := TX1) (N := 2) hx hb hts (fun w h => List.mem_cons_of_mem _ (List.mem_append_right _ h)) hown hK hP 0 rfl rfl 1 (by decide) (hts (.fieldLink RX1 15 "MondayFactory$Crew" "count" "I") (List.mem_of_getElem? (i := 1) rfl)) (fun _ h9 => h9) rfl dX1_has_6 ?_
    refine zi_icmp_ge (tgt := 16) hx hb dX1_has_9 (by decide) ⟨by omega, by omega⟩ ⟨by omega, by omega⟩ (fun c_2 => ?_) (fun c_2 => ?_)
    · refine lv_iconst (v := iI 0) hx hb dX1_has_16 rfl ?_
      exact z_zret hx hb hr hlocks rfl hP hS dX1_has_17 (zb_neg (by omega)) rfl (Nat.le_refl _) (Nat.le_refl _)
    · refine lv_iconst (v := iI 1) hx hb dX1_has_12 rfl ?_
      refine lv_goto (tgt := 17) hx hb dX1_has_13 (by decide) ?_
      exact z_zret hx hb hr hlocks rfl hP hS dX1_has_17 (zb_pos (by omega)) rfl (Nat.le_refl _) (Nat.le_refl _)
set_option maxHeartbeats 4000000 in
set_option maxRecDepth 100000 in
theorem c_X1_yawned (l : Launch) (D : va_G) (k : Nat → ClassId) (a0 : Nat → Nat) (S0 : Nat → Nat → Int) (p0 : Int) (hB01 : zBf (S0 1)) (hc0 : 0 ≤ S0 0 1 ∧ S0 0 1 ≤ 4) (h0 : -2147483648 ≤ p0 ∧ p0 < 2147483648) : zMi l yX1_yawned wsX1_yawned ({ frames := 1, cells := 0, slots := 0, locals := 21 } : Room) D k [.ref (a0 0), .int (iI p0)] (wCrew k a0 S0) (wYaw (S0 1) (S0 0 1) p0) (wCrew k a0 S0) 0 0 := by
  refine zMi_of (cc := cX1_yawned) (maxL := 2) (ret := (some .int)) (by decide) rfl (Nat.le_of_ble_eq_true rfl) ?_
  intro p e s m args below meth c A ls hx hb hr hml hown hts hlocks hK hP hD hG hA hS hl
  have hown : s.vm.findClass RX1 = some m.cls := hown
  have hl : lv_has ls 2 [(0, .ref (a0 0)), (1, .int (iI p0))] := hl
  obtain ⟨H, hH⟩ : ∃ z, z = s.heap := ⟨_, rfl⟩
  obtain ⟨locs, hlc⟩ : ∃ z : List Loc, z = [] := ⟨_, rfl⟩
  rw [← hH] at hP
  have hS : va_S A s.heap H locs := by rw [hH, hlc]; exact hS
  rw [← hlc, ← hH]
  clear hlc hH
  refine lv_aload_n hx hb dX1_yawned_0 rfl (lv_at hl 0 rfl) ?_
  refine lv_iload_n hx hb dX1_yawned_1 rfl (lv_at hl 1 rfl) ?_
  refine z_ai0 (va_runV (As := [.int (iI p0)]) (rest := []) ⟨hx, hb, hml, hown, hts⟩ (c_X1_has l D k a0 S0  p0 (by omega) (by omega) _) (cwV 1 hts gX1_yawned_X1_has rfl rfl rfl (by decide +kernel) ⟨(Nat.le_of_ble_eq_true rfl), (Nat.le_of_ble_eq_true rfl)⟩) (z_preV hK hG hA hP hD hS [0, 1] rfl (by decide) 3 rfl rfl) rfl rfl hl.1 rfl (lv_room (Nat.le_of_ble_eq_true rfl)) dX1_yawned_2 ⟨(Nat.le_of_ble_eq_true rfl), (Nat.le_of_ble_eq_true rfl)⟩) hA hP hD hS [0, 1] rfl (fun H locs hP hS => ?_)
  refine zi_if_eqB (tgt := 17) hx hb dX1_yawned_5 (by decide) (fun c_1 => ?_) (fun c_1 => ?_)
  · refine lv_iconst (v := iI (-1)) hx hb dX1_yawned_17 rfl ?_
    exact z_iret hx hb hr hlocks hP hS dX1_yawned_18 (by unfold wYaw; first | exact zif_pos (by assumption) | exact zif_neg (by assumption)) rfl (Nat.le_refl _) (Nat.le_refl _)
  · refine lv_aload_n hx hb dX1_yawned_8 rfl (lv_at hl 0 rfl) ?_
    refine va_get (D := D) (ci := 3) (v := .ref (a0 1)) (C := RX1) (T := TX1) (N := 2) hx hb hts (fun w h => List.mem_cons_of_mem _ (List.mem_append_left _ (List.mem_append_right _ h))) hown hK hP 0 rfl rfl 0 (by decide) (hts (.fieldLink RX1 9 "MondayFactory$Crew" "yawns" "[I") (List.mem_of_getElem? (i := 1) rfl)) (fun _ h9 => h9) rfl dX1_yawned_9 ?_
    refine lv_iload_n hx hb dX1_yawned_12 rfl (lv_at hl 1 rfl) ?_
    refine z_iald hx hb hK hP 1 0 (f := S0 1) rfl rfl (i := p0) (by omega) (by omega) (by decide) p0.toNat rfl dX1_yawned_13 ?_
    have f_2 := hB01 p0.toNat
    refine lv_goto (tgt := 18) hx hb dX1_yawned_14 (by decide) ?_
    exact z_iret hx hb hr hlocks hP hS dX1_yawned_18 (by unfold wYaw; first | exact zif_pos (by assumption) | exact zif_neg (by assumption)) rfl (Nat.le_refl _) (Nat.le_refl _)
set_option maxHeartbeats 4000000 in
set_option maxRecDepth 100000 in
theorem c_X1_addYawns (l : Launch) (D : va_G) (k : Nat → ClassId) (a0 : Nat → Nat) (S0 : Nat → Nat → Int) (p0 : Int) (p1 : Int) (hB01 : zBf (S0 1)) (hc0 : 0 ≤ S0 0 1 ∧ S0 0 1 ≤ 4) (h0 : -2147483648 ≤ p0 ∧ p0 < 2147483648) (h1 : -10 ≤ p1 ∧ p1 ≤ 10) : zMv l yX1_addYawns wsX1_addYawns ({ frames := 1, cells := 0, slots := 0, locals := 21 } : Room) D k [.ref (a0 0), .int (iI p0), .int (iI p1)] (wCrew k a0 S0) (wCrew k a0 (upA S0 1 (wTire (S0 1) (S0 0 1) p0 p1))) 0 0 := by
  refine zMv_of (cc := cX1_addYawns) (maxL := 3) (ret := none) (by decide) rfl (Nat.le_of_ble_eq_true rfl) ?_
  intro p e s m args below meth c A ls hx hb hr hml hown hts hlocks hK hP hD hG hA hS hl
  have hown : s.vm.findClass RX1 = some m.cls := hown
  have hl : lv_has ls 3 [(0, .ref (a0 0)), (1, .int (iI p0)), (2, .int (iI p1))] := hl
  obtain ⟨H, hH⟩ : ∃ z, z = s.heap := ⟨_, rfl⟩
  obtain ⟨locs, hlc⟩ : ∃ z : List Loc, z = [] := ⟨_, rfl⟩
  rw [← hH] at hP
  have hS : va_S A s.heap H locs := by rw [hH, hlc]; exact hS
  rw [← hlc, ← hH]
  clear hlc hH
  refine lv_aload_n hx hb dX1_addYawns_0 rfl (lv_at hl 0 rfl) ?_
  refine lv_iload_n hx hb dX1_addYawns_1 rfl (lv_at hl 1 rfl) ?_
  refine z_ai0 (va_runV (As := [.int (iI p0)]) (rest := []) ⟨hx, hb, hml, hown, hts⟩ (c_X1_has l D k a0 S0  p0 (by omega) (by omega) _) (cwV 1 hts gX1_addYawns_X1_has rfl rfl rfl (by decide +kernel) ⟨(Nat.le_of_ble_eq_true rfl), (Nat.le_of_ble_eq_true rfl)⟩) (z_preV hK hG hA hP hD hS [0, 1] rfl (by decide) 3 rfl rfl) rfl rfl hl.1 rfl (lv_room (Nat.le_of_ble_eq_true rfl)) dX1_addYawns_2 ⟨(Nat.le_of_ble_eq_true rfl), (Nat.le_of_ble_eq_true rfl)⟩) hA hP hD hS [0, 1] rfl (fun H locs hP hS => ?_)
  refine zi_if_eqB (tgt := 31) hx hb dX1_addYawns_5 (by decide) (fun c_1 => ?_) (fun c_1 => ?_)
  · exact z_vret hx hb hr hlocks hP hS dX1_addYawns_31 (congrArg (fun z => wCrew k a0 (upA S0 1 z)) (show wTire (S0 1) (S0 0 1) p0 p1 = S0 1 from (by unfold wTire; first | exact zif_pos (by assumption) | exact zif_neg (by assumption)))) (Nat.le_refl _) (Nat.le_refl _)
  · refine lv_aload_n hx hb dX1_addYawns_8 rfl (lv_at hl 0 rfl) ?_
    refine va_get (D := D) (ci := 3) (v := .ref (a0 1)) (C := RX1) (T := TX1) (N := 2) hx hb hts (fun w h => List.mem_cons_of_mem _ (List.mem_append_left _ (List.mem_append_right _ h))) hown hK hP 0 rfl rfl 0 (by decide) (hts (.fieldLink RX1 9 "MondayFactory$Crew" "yawns" "[I") (List.mem_of_getElem? (i := 1) rfl)) (fun _ h9 => h9) rfl dX1_addYawns_9 ?_
    refine lv_iload_n hx hb dX1_addYawns_12 rfl (lv_at hl 1 rfl) ?_
    refine lv_iconst (v := iI 0) hx hb dX1_addYawns_13 rfl ?_
    refine lv_bipush (v := iI 9) hx hb dX1_addYawns_14 (by decide) ?_
    refine lv_aload_n hx hb dX1_addYawns_16 rfl (lv_at hl 0 rfl) ?_
    refine va_get (D := D) (ci := 3) (v := .ref (a0 1)) (C := RX1) (T := TX1) (N := 2) hx hb hts (fun w h => List.mem_cons_of_mem _ (List.mem_append_left _ (List.mem_append_right _ h))) hown hK hP 0 rfl rfl 0 (by decide) (hts (.fieldLink RX1 9 "MondayFactory$Crew" "yawns" "[I") (List.mem_of_getElem? (i := 1) rfl)) (fun _ h9 => h9) rfl dX1_addYawns_17 ?_
    refine lv_iload_n hx hb dX1_addYawns_20 rfl (lv_at hl 1 rfl) ?_
    refine z_iald hx hb hK hP 1 0 (f := S0 1) rfl rfl (i := p0) (by omega) (by omega) (by decide) p0.toNat rfl dX1_addYawns_21 ?_
    have f_2 := hB01 p0.toNat
    refine lv_iload_n hx hb dX1_addYawns_22 rfl (lv_at hl 2 rfl) ?_
    refine zi_add hx hb dX1_addYawns_23 ?_
    refine z_mmin hx hb (hml.trans hl.1.symm) hown (hts (.methodLink RX1 29 Lib.Math.min.name) (List.mem_of_getElem? (i := 2) rfl)) (hts (.static Lib.Math.min.name) (List.mem_of_getElem? (i := 3) rfl)) (hts (.initialized "java/lang/Math") (List.mem_of_getElem? (i := 4) rfl)) (hts (.code Lib.Math.min.name Lib.Math.min.code 2 (some .int)) (List.mem_of_getElem? (i := 5) rfl)) (Nat.le_of_ble_eq_true rfl) (Nat.le_of_ble_eq_true rfl) (Nat.le_of_ble_eq_true rfl) (Nat.le_of_ble_eq_true rfl) ⟨by omega, by omega⟩ ⟨by omega, by omega⟩ dX1_addYawns_24 ?_
    refine z_mmax hx hb (hml.trans hl.1.symm) hown (hts (.methodLink RX1 35 Lib.Math.max.name) (List.mem_of_getElem? (i := 6) rfl)) (hts (.static Lib.Math.max.name) (List.mem_of_getElem? (i := 7) rfl)) (hts (.initialized "java/lang/Math") (List.mem_of_getElem? (i := 4) rfl)) (hts (.code Lib.Math.max.name Lib.Math.max.code 2 (some .int)) (List.mem_of_getElem? (i := 8) rfl)) (Nat.le_of_ble_eq_true rfl) (Nat.le_of_ble_eq_true rfl) (Nat.le_of_ble_eq_true rfl) (Nat.le_of_ble_eq_true rfl) ⟨by omega, by omega⟩ ⟨by omega, by omega⟩ dX1_addYawns_27 ?_
    refine z_iast hx hb hK hP hD hS 1 0 (f := S0 1) rfl rfl (i := p0) (by omega) (by omega) (by decide) p0.toNat rfl dX1_addYawns_30 (fun H locs hP hD hS => ?_)
    have hP : va_P D vwCl (wCrew k a0 (up2 S0 1 p0.toNat (max 0 (min 9 ((S0 1 p0.toNat) + p1))))) H := hP
    have hD : va_D A (wCrew k a0 (up2 S0 1 p0.toNat (max 0 (min 9 ((S0 1 p0.toNat) + p1))))) := hD
    exact z_vret hx hb hr hlocks hP hS dX1_addYawns_31 (congrArg (fun z => wCrew k a0 (upA S0 1 z)) (show wTire (S0 1) (S0 0 1) p0 p1 = upZ (S0 1) p0.toNat (max 0 (min 9 ((S0 1 p0.toNat) + p1))) from (by unfold wTire; first | exact zif_pos (by assumption) | exact zif_neg (by assumption)))) (Nat.le_refl _) (Nat.le_refl _)
set_option maxHeartbeats 4000000 in
set_option maxRecDepth 100000 in
theorem c_X1_addYawnsToAll (l : Launch) (D : va_G) (k : Nat → ClassId) (a0 : Nat → Nat) (S0 : Nat → Nat → Int) (p0 : Int) (hB01 : zBf (S0 1)) (hc0 : 0 ≤ S0 0 1 ∧ S0 0 1 ≤ 4) (h1 : -10 ≤ p0 ∧ p0 ≤ 10) : zMv l yX1_addYawnsToAll wsX1_addYawnsToAll ({ frames := 2, cells := 0, slots := 0, locals := 43 } : Room) D k [.ref (a0 0), .int (iI p0)] (wCrew k a0 S0) (wCrew k a0 (upA S0 1 (wTireAll (S0 1) (S0 0 1) p0))) 0 0 := by
  refine zMv_of (cc := cX1_addYawnsToAll) (maxL := 3) (ret := none) (by decide) rfl (Nat.le_of_ble_eq_true rfl) ?_
  intro p e s m args below meth c A ls hx hb hr hml hown hts hlocks hK hP hD hG hA hS hl
  have hown : s.vm.findClass RX1 = some m.cls := hown
  have hl : lv_has ls 3 [(0, .ref (a0 0)), (1, .int (iI p0))] := hl
  obtain ⟨H, hH⟩ : ∃ z, z = s.heap := ⟨_, rfl⟩
  obtain ⟨locs, hlc⟩ : ∃ z : List Loc, z = [] := ⟨_, rfl⟩
  rw [← hH] at hP
  have hS : va_S A s.heap H locs := by rw [hH, hlc]; exact hS
  rw [← hlc, ← hH]
  clear hlc hH
  refine lv_iconst (v := iI 0) hx hb dX1_addYawnsToAll_0 rfl ?_
  refine lv_istore_n (lv' := [(2, .int (iI 0)), (0, .ref (a0 0)), (1, .int (iI p0))]) hx hb dX1_addYawnsToAll_1 rfl hl (by decide) rfl (fun ls hl => ?_)
  have lp2_0 : ∀ (n : Nat) (x2 : Int) (FA : Nat → Int), (4 - x2).toNat < n → (0 ≤ x2) → (x2 ≤ S0 0 1) → (FA = mapZ (fun z => max 0 (min 9 (z + p0))) (S0 1) 0 x2.toNat) → ∀ (H : Heap) (locs : List Loc) (ls : Array Slot), va_P D vwCl (wCrew k a0 (upA S0 1 FA)) H → va_D A (wCrew k a0 (upA S0 1 FA)) → va_S A s.heap H locs → lv_has ls 3 [(2, .int (iI x2)), (0, .ref (a0 0)), (1, .int (iI p0))] → W p l e ({ frames := 2, cells := 0, slots := 0, locals := 43 } : Room) s m args below meth c H locs 0 0 (MQ below (zQv D A (wCrew k a0 (upA S0 1 (wTireAll (S0 1) (S0 0 1) p0)))) args s 0 0 A) (F0 m 2 ls []) := by
    intro n2
    induction n2 with
    | zero => intro x2 FA hm; exact absurd hm (Nat.not_lt_zero _)
    | succ n2 ih2 =>
      intro x2 FA hm2 i0 i1 iF  H locs ls hP hD hS hl
      have hbF : zBf FA := by rw [iF]; exact hB01.map (fun z _ => by show _ ≤ max 0 (min 9 (z + p0)) ∧ max 0 (min 9 (z + p0)) ≤ _; omega) _ _
      refine lv_iload_n hx hb dX1_addYawnsToAll_2 rfl (lv_at hl 0 rfl) ?_
      refine lv_aload_n hx hb dX1_addYawnsToAll_3 rfl (lv_at hl 1 rfl) ?_
      refine va_get (D := D) (ci := 3) (v := .int (iI (S0 0 1))) (C := RX1) (T := TX1) (N := 2) hx hb hts (fun w h => List.mem_cons_of_mem _ (List.mem_append_left _ (List.mem_append_right _ h))) hown hK hP 0 rfl rfl 1 (by decide) (hts (.fieldLink RX1 15 "MondayFactory$Crew" "count" "I") (List.mem_of_getElem? (i := 1) rfl)) (fun _ h9 => h9) rfl dX1_addYawnsToAll_4 ?_
      refine zi_icmp_ge (tgt := 22) hx hb dX1_addYawnsToAll_7 (by decide) ⟨by omega, by omega⟩ ⟨by omega, by omega⟩ (fun c_1 => ?_) (fun c_1 => ?_)
      · have v_2 : FA = wTireAll (S0 1) (S0 0 1) p0 := (by rw [iF, show x2 = S0 0 1 by omega]; rfl)
        rw [v_2] at hP hD
        exact z_vret hx hb hr hlocks hP hS dX1_addYawnsToAll_22 (congrArg (fun z => wCrew k a0 (upA S0 1 z)) (show wTireAll (S0 1) (S0 0 1) p0 = wTireAll (S0 1) (S0 0 1) p0 from rfl)) (Nat.le_refl _) (Nat.le_refl _)
      · refine lv_aload_n hx hb dX1_addYawnsToAll_10 rfl (lv_at hl 1 rfl) ?_
        refine lv_iload_n hx hb dX1_addYawnsToAll_11 rfl (lv_at hl 0 rfl) ?_
        refine lv_iload_n hx hb dX1_addYawnsToAll_12 rfl (lv_at hl 2 rfl) ?_
        refine z_av (va_runV (As := [.int (iI x2), .int (iI p0)]) (rest := []) ⟨hx, hb, hml, hown, hts⟩ (c_X1_addYawns l D k a0 (upA S0 1 FA)  x2 p0 hbF (by have e0 : ((upA S0 1 FA) 0 1) = S0 0 1 := rfl; omega) (by omega) (by omega) _) (cwV 2 hts gX1_addYawnsToAll_X1_addYawns rfl rfl rfl (by decide +kernel) ⟨(Nat.le_of_ble_eq_true rfl), (Nat.le_of_ble_eq_true rfl)⟩) (z_preV hK hG hA hP hD hS [0, 1] rfl (by decide) 3 rfl rfl) rfl rfl hl.1 rfl (lv_room (Nat.le_of_ble_eq_true rfl)) dX1_addYawnsToAll_13 ⟨(Nat.le_of_ble_eq_true rfl), (Nat.le_of_ble_eq_true rfl)⟩) hA hP hD hS [0, 1] rfl rfl (fun H locs hP hD hS => ?_)
        have hP : va_P D vwCl (wCrew k a0 (upA (upA S0 1 FA) 1 (wTire (FA) (S0 0 1) x2 p0))) H := hP
        have hD : va_D A (wCrew k a0 (upA (upA S0 1 FA) 1 (wTire (FA) (S0 0 1) x2 p0))) := hD
        refine lv_iinc (v := iI (x2 + 1)) (lv' := [(2, .int (iI (x2 + 1))), (0, .ref (a0 0)), (1, .int (iI p0))]) hx hb dX1_addYawnsToAll_16 hl (k := 0) rfl (iI_add _ _) (by decide) rfl (fun ls hl => ?_)
        refine lv_goto (tgt := 2) hx hb dX1_addYawnsToAll_19 (by decide) ?_
        exact ih2 (x2 + 1) (wTire (FA) (S0 0 1) x2 p0) (by omega) (by omega) (by omega) (by rw [iF]; exact wtire_s i0 (by omega))  H locs ls hP hD hS (lv_sub hl [0, 1, 2] rfl)
  exact lp2_0 5 0 (S0 1) (by omega) (by omega) (by omega) (mapZ_0 (Nat.le_refl 0)).symm  H locs ls hP hD hS (lv_sub hl [0, 1, 2] rfl)
set_option maxHeartbeats 4000000 in
set_option maxRecDepth 100000 in
theorem c_X1_join (l : Launch) (D : va_G) (k : Nat → ClassId) (a0 : Nat → Nat) (S0 : Nat → Nat → Int) (hc0 : 0 ≤ S0 0 1 ∧ S0 0 1 ≤ 3) : zMi l yX1_join wsX1_join ({ frames := 0, cells := 0, slots := 0, locals := 0 } : Room) D k [.ref (a0 0)] (wCrew k a0 S0) (((S0 0 1) + 1) - 1) (wCrew k a0 (up2 (up2 S0 1 ((S0 0 1).toNat) 0) 0 1 ((S0 0 1) + 1))) 0 0 := by
  refine zMi_of (cc := cX1_join) (maxL := 1) (ret := (some .int)) (by decide) rfl (Nat.le_of_ble_eq_true rfl) ?_
  intro p e s m args below meth c A ls hx hb hr hml hown hts hlocks hK hP hD hG hA hS hl
  have hown : s.vm.findClass RX1 = some m.cls := hown
  have hl : lv_has ls 1 [(0, .ref (a0 0))] := hl
  obtain ⟨H, hH⟩ : ∃ z, z = s.heap := ⟨_, rfl⟩
  obtain ⟨locs, hlc⟩ : ∃ z : List Loc, z = [] := ⟨_, rfl⟩
  rw [← hH] at hP
  have hS : va_S A s.heap H locs := by rw [hH, hlc]; exact hS
  rw [← hlc, ← hH]
  clear hlc hH
  refine lv_aload_n hx hb dX1_join_0 rfl (lv_at hl 0 rfl) ?_
  refine va_get (D := D) (ci := 3) (v := .int (iI (S0 0 1))) (C := RX1) (T := TX1) (N := 2) hx hb hts (fun w h => List.mem_cons_of_mem _ (List.mem_append_left _ (List.mem_append_right _ h))) hown hK hP 0 rfl rfl 1 (by decide) (hts (.fieldLink RX1 15 "MondayFactory$Crew" "count" "I") (List.mem_of_getElem? (i := 1) rfl)) (fun _ h9 => h9) rfl dX1_join_1 ?_
  refine lv_iconst (v := iI 4) hx hb dX1_join_4 rfl ?_
  refine zi_icmp_ge (tgt := 28) hx hb dX1_join_5 (by decide) ⟨by omega, by omega⟩ ⟨by omega, by omega⟩ (fun c_1 => absurd c_1 (by omega)) (fun _ => ?_)
  refine lv_aload_n hx hb dX1_join_8 rfl (lv_at hl 0 rfl) ?_
  refine va_get (D := D) (ci := 3) (v := .ref (a0 1)) (C := RX1) (T := TX1) (N := 2) hx hb hts (fun w h => List.mem_cons_of_mem _ (List.mem_append_left _ (List.mem_append_right _ h))) hown hK hP 0 rfl rfl 0 (by decide) (hts (.fieldLink RX1 9 "MondayFactory$Crew" "yawns" "[I") (List.mem_of_getElem? (i := 2) rfl)) (fun _ h9 => h9) rfl dX1_join_9 ?_
  refine lv_aload_n hx hb dX1_join_12 rfl (lv_at hl 0 rfl) ?_
  refine va_get (D := D) (ci := 3) (v := .int (iI (S0 0 1))) (C := RX1) (T := TX1) (N := 2) hx hb hts (fun w h => List.mem_cons_of_mem _ (List.mem_append_left _ (List.mem_append_right _ h))) hown hK hP 0 rfl rfl 1 (by decide) (hts (.fieldLink RX1 15 "MondayFactory$Crew" "count" "I") (List.mem_of_getElem? (i := 1) rfl)) (fun _ h9 => h9) rfl dX1_join_13 ?_
  refine lv_iconst (v := iI 0) hx hb dX1_join_16 rfl ?_
  refine z_iast hx hb hK hP hD hS 1 0 (f := S0 1) rfl rfl (i := S0 0 1) (by omega) (by omega) (by decide) ((S0 0 1).toNat) rfl dX1_join_17 (fun H locs hP hD hS => ?_)
  have hP : va_P D vwCl (wCrew k a0 (up2 S0 1 ((S0 0 1).toNat) 0)) H := hP
  have hD : va_D A (wCrew k a0 (up2 S0 1 ((S0 0 1).toNat) 0)) := hD
  refine lv_aload_n hx hb dX1_join_18 rfl (lv_at hl 0 rfl) ?_
  refine lv_dup hx hb dX1_join_19 rfl ?_
  refine va_get (D := D) (ci := 3) (v := .int (iI (S0 0 1))) (C := RX1) (T := TX1) (N := 2) hx hb hts (fun w h => List.mem_cons_of_mem _ (List.mem_append_left _ (List.mem_append_right _ h))) hown hK hP 0 rfl rfl 1 (by decide) (hts (.fieldLink RX1 15 "MondayFactory$Crew" "count" "I") (List.mem_of_getElem? (i := 1) rfl)) (fun _ h9 => h9) rfl dX1_join_20 ?_
  refine lv_iconst (v := iI 1) hx hb dX1_join_23 rfl ?_
  refine zi_add hx hb dX1_join_24 ?_
  refine va_put (D := D) (ci := 3) (v := .int (iI ((S0 0 1) + 1))) (ty := .int) (C := RX1) (T := TX1) (N := 2) hx hb hts (fun w h => List.mem_cons_of_mem _ (List.mem_append_left _ (List.mem_append_right _ h))) tyX1 tyX1_ok nmX1 hown hK hP hD hS 0 rfl rfl 1 (by decide) (hts (.fieldLink RX1 15 "MondayFactory$Crew" "count" "I") (List.mem_of_getElem? (i := 1) rfl)) (fun _ h9 => h9) rfl (by decide +kernel) rfl rfl (Nat.le_of_ble_eq_true rfl) dX1_join_25 (fun H locs hP hD hS => ?_)
  have hP : va_P D vwCl (wCrew k a0 (up2 (up2 S0 1 ((S0 0 1).toNat) 0) 0 1 ((S0 0 1) + 1))) H := hP
  have hD : va_D A (wCrew k a0 (up2 (up2 S0 1 ((S0 0 1).toNat) 0) 0 1 ((S0 0 1) + 1))) := hD
  refine lv_aload_n hx hb dX1_join_28 rfl (lv_at hl 0 rfl) ?_
  refine va_get (D := D) (ci := 3) (v := .int (iI ((S0 0 1) + 1))) (C := RX1) (T := TX1) (N := 2) hx hb hts (fun w h => List.mem_cons_of_mem _ (List.mem_append_left _ (List.mem_append_right _ h))) hown hK hP 0 rfl rfl 1 (by decide) (hts (.fieldLink RX1 15 "MondayFactory$Crew" "count" "I") (List.mem_of_getElem? (i := 1) rfl)) (fun _ h9 => h9) rfl dX1_join_29 ?_
  refine lv_iconst (v := iI 1) hx hb dX1_join_32 rfl ?_
  refine zi_sub hx hb dX1_join_33 ?_
  exact z_iret hx hb hr hlocks hP hS dX1_join_34 rfl rfl (Nat.le_refl _) (Nat.le_refl _)
noncomputable def sp_X1_part (S0 : Nat → Nat → Int) (p0 : Int) : Int := zif (0 ≤ p0 ∧ p0 < S0 0 1)
  (wYaw (S0 1) (S0 0 1) p0)
  (wYaw (S0 1) (S0 0 1) p0)
noncomputable def sS0_0_X1_part (S0 : Nat → Nat → Int) (p0 : Int) : (Nat → Int) := zif (0 ≤ p0 ∧ p0 < S0 0 1)
  (upZ (S0 0) 1 ((S0 0 1) - 1))
  (S0 0)
noncomputable def sS0_1_X1_part (S0 : Nat → Nat → Int) (p0 : Int) : (Nat → Int) := zif (0 ≤ p0 ∧ p0 < S0 0 1)
  (cpyZ (S0 1) (S0 1) ((p0 + 1).toNat) p0.toNat ((((S0 0 1) - p0) - 1).toNat))
  (S0 1)
set_option maxHeartbeats 4000000 in
set_option maxRecDepth 100000 in
theorem c_X1_part (l : Launch) (D : va_G) (k : Nat → ClassId) (a0 : Nat → Nat) (S0 : Nat → Nat → Int) (p0 : Int) (hB01 : zBf (S0 1)) (hc0 : 0 ≤ p0 ∧ p0 < S0 0 1 ∧ S0 0 1 ≤ 4) : zMi l yX1_part wsX1_part ({ frames := 2, cells := 0, slots := 0, locals := 42 } : Room) D k [.ref (a0 0), .int (iI p0)] (wCrew k a0 S0) (sp_X1_part S0 p0) (wCrew k a0 (upA (upA S0 0 (sS0_0_X1_part S0 p0)) 1 (sS0_1_X1_part S0 p0))) 0 0 := by
  refine zMi_of (cc := cX1_part) (maxL := 3) (ret := (some .int)) (by decide) rfl (Nat.le_of_ble_eq_true rfl) ?_
  intro p e s m args below meth c A ls hx hb hr hml hown hts hlocks hK hP hD hG hA hS hl
  have hown : s.vm.findClass RX1 = some m.cls := hown
  have hl : lv_has ls 3 [(0, .ref (a0 0)), (1, .int (iI p0))] := hl
  obtain ⟨H, hH⟩ : ∃ z, z = s.heap := ⟨_, rfl⟩
  obtain ⟨locs, hlc⟩ : ∃ z : List Loc, z = [] := ⟨_, rfl⟩
  rw [← hH] at hP
  have hS : va_S A s.heap H locs := by rw [hH, hlc]; exact hS
  rw [← hlc, ← hH]
  clear hlc hH
  refine lv_aload_n hx hb dX1_part_0 rfl (lv_at hl 0 rfl) ?_
  refine lv_iload_n hx hb dX1_part_1 rfl (lv_at hl 1 rfl) ?_
  refine z_ai0 (va_runV (As := [.int (iI p0)]) (rest := []) ⟨hx, hb, hml, hown, hts⟩ (c_X1_yawned l D k a0 S0  p0 hB01 (by omega) (by omega) _) (cwV 1 hts gX1_part_X1_yawned rfl rfl rfl (by decide +kernel) ⟨(Nat.le_of_ble_eq_true rfl), (Nat.le_of_ble_eq_true rfl)⟩) (z_preV hK hG hA hP hD hS [0, 1] rfl (by decide) 3 rfl rfl) rfl rfl hl.1 rfl (lv_room (Nat.le_of_ble_eq_true rfl)) dX1_part_2 ⟨(Nat.le_of_ble_eq_true rfl), (Nat.le_of_ble_eq_true rfl)⟩) hA hP hD hS [0, 1] rfl (fun H locs hP hS => ?_)
  have q_1 : -1000000000 ≤ wYaw (S0 1) (S0 0 1) p0 ∧ wYaw (S0 1) (S0 0 1) p0 ≤ 1000000000 := wYaw_bd hB01
  refine lv_istore_n (lv' := [(2, .int (iI (wYaw (S0 1) (S0 0 1) p0))), (0, .ref (a0 0)), (1, .int (iI p0))]) hx hb dX1_part_5 rfl hl (by decide) rfl (fun ls hl => ?_)
  refine lv_aload_n hx hb dX1_part_6 rfl (lv_at hl 1 rfl) ?_
  refine lv_iload_n hx hb dX1_part_7 rfl (lv_at hl 2 rfl) ?_
  refine z_ai0 (va_runV (As := [.int (iI p0)]) (rest := []) ⟨hx, hb, hml, hown, hts⟩ (c_X1_has l D k a0 S0  p0 (by omega) (by omega) _) (cwV 1 hts gX1_part_X1_has rfl rfl rfl (by decide +kernel) ⟨(Nat.le_of_ble_eq_true rfl), (Nat.le_of_ble_eq_true rfl)⟩) (z_preV hK hG hA hP hD hS [0, 1] rfl (by decide) 3 rfl rfl) rfl rfl hl.1 rfl (lv_room (Nat.le_of_ble_eq_true rfl)) dX1_part_8 ⟨(Nat.le_of_ble_eq_true rfl), (Nat.le_of_ble_eq_true rfl)⟩) hA hP hD hS [0, 1] rfl (fun H locs hP hS => ?_)
  refine zi_if_eqB (tgt := 47) hx hb dX1_part_11 (by decide) (fun c_2 => ?_) (fun c_2 => ?_)
  · refine lv_iload_n hx hb dX1_part_47 rfl (lv_at hl 0 rfl) ?_
    exact z_iret hx hb hr hlocks hP hS dX1_part_48 (Eq.trans (zif_neg c_2) rfl) (Eq.trans (congrArg (fun z => wCrew k a0 (upA (upA S0 0 z) 1 (sS0_1_X1_part S0 p0))) (show sS0_0_X1_part S0 p0 = S0 0 from (Eq.trans (zif_neg c_2) rfl))) (congrArg (fun z => wCrew k a0 (upA (upA S0 0 (S0 0)) 1 z)) (show sS0_1_X1_part S0 p0 = S0 1 from (Eq.trans (zif_neg c_2) rfl)))) (Nat.le_refl _) (Nat.le_refl _)
  · refine lv_aload_n hx hb dX1_part_14 rfl (lv_at hl 1 rfl) ?_
    refine va_get (D := D) (ci := 3) (v := .ref (a0 1)) (C := RX1) (T := TX1) (N := 2) hx hb hts (fun w h => List.mem_cons_of_mem _ (List.mem_append_left _ (List.mem_append_right _ h))) hown hK hP 0 rfl rfl 0 (by decide) (hts (.fieldLink RX1 9 "MondayFactory$Crew" "yawns" "[I") (List.mem_of_getElem? (i := 1) rfl)) (fun _ h9 => h9) rfl dX1_part_15 ?_
    refine lv_iload_n hx hb dX1_part_18 rfl (lv_at hl 2 rfl) ?_
    refine lv_iconst (v := iI 1) hx hb dX1_part_19 rfl ?_
    refine zi_add hx hb dX1_part_20 ?_
    refine lv_aload_n hx hb dX1_part_21 rfl (lv_at hl 1 rfl) ?_
    refine va_get (D := D) (ci := 3) (v := .ref (a0 1)) (C := RX1) (T := TX1) (N := 2) hx hb hts (fun w h => List.mem_cons_of_mem _ (List.mem_append_left _ (List.mem_append_right _ h))) hown hK hP 0 rfl rfl 0 (by decide) (hts (.fieldLink RX1 9 "MondayFactory$Crew" "yawns" "[I") (List.mem_of_getElem? (i := 1) rfl)) (fun _ h9 => h9) rfl dX1_part_22 ?_
    refine lv_iload_n hx hb dX1_part_25 rfl (lv_at hl 2 rfl) ?_
    refine lv_aload_n hx hb dX1_part_26 rfl (lv_at hl 1 rfl) ?_
    refine va_get (D := D) (ci := 3) (v := .int (iI (S0 0 1))) (C := RX1) (T := TX1) (N := 2) hx hb hts (fun w h => List.mem_cons_of_mem _ (List.mem_append_left _ (List.mem_append_right _ h))) hown hK hP 0 rfl rfl 1 (by decide) (hts (.fieldLink RX1 15 "MondayFactory$Crew" "count" "I") (List.mem_of_getElem? (i := 2) rfl)) (fun _ h9 => h9) rfl dX1_part_27 ?_
    refine lv_iload_n hx hb dX1_part_30 rfl (lv_at hl 2 rfl) ?_
    refine zi_sub hx hb dX1_part_31 ?_
    refine lv_iconst (v := iI 1) hx hb dX1_part_32 rfl ?_
    refine zi_sub hx hb dX1_part_33 ?_
    refine z_copyi hx hb (hml.trans hl.1.symm) hown (hts (.methodLink RX1 19 arraycopyName) (List.mem_of_getElem? (i := 3) rfl)) (hts (.native arraycopyName) (List.mem_of_getElem? (i := 4) rfl)) (hts (.static arraycopyName) (List.mem_of_getElem? (i := 5) rfl)) (hts (.initialized "java/lang/System") (List.mem_of_getElem? (i := 6) rfl)) hK hP hD hS 1 1 (f := S0 1) (g := S0 1) rfl rfl rfl (sp := p0 + 1) (dp := p0) (n := ((S0 0 1) - p0) - 1) (by omega) (by omega) (by omega) (by omega) (by omega) (by decide) (by decide) (Nat.le_of_ble_eq_true rfl) (Nat.le_of_ble_eq_true rfl) dX1_part_34 (fun H locs hP hD hS => ?_)
    have hP : va_P D vwCl (wCrew k a0 (upA S0 1 (cpyZ (S0 1) (S0 1) ((p0 + 1).toNat) p0.toNat ((((S0 0 1) - p0) - 1).toNat)))) H := hP
    have hD : va_D A (wCrew k a0 (upA S0 1 (cpyZ (S0 1) (S0 1) ((p0 + 1).toNat) p0.toNat ((((S0 0 1) - p0) - 1).toNat)))) := hD
    refine lv_aload_n hx hb dX1_part_37 rfl (lv_at hl 1 rfl) ?_
    refine lv_dup hx hb dX1_part_38 rfl ?_
    refine va_get (D := D) (ci := 3) (v := .int (iI (S0 0 1))) (C := RX1) (T := TX1) (N := 2) hx hb hts (fun w h => List.mem_cons_of_mem _ (List.mem_append_left _ (List.mem_append_right _ h))) hown hK hP 0 rfl rfl 1 (by decide) (hts (.fieldLink RX1 15 "MondayFactory$Crew" "count" "I") (List.mem_of_getElem? (i := 2) rfl)) (fun _ h9 => h9) rfl dX1_part_39 ?_
    refine lv_iconst (v := iI 1) hx hb dX1_part_42 rfl ?_
    refine zi_sub hx hb dX1_part_43 ?_
    refine va_put (D := D) (ci := 3) (v := .int (iI ((S0 0 1) - 1))) (ty := .int) (C := RX1) (T := TX1) (N := 2) hx hb hts (fun w h => List.mem_cons_of_mem _ (List.mem_append_left _ (List.mem_append_right _ h))) tyX1 tyX1_ok nmX1 hown hK hP hD hS 0 rfl rfl 1 (by decide) (hts (.fieldLink RX1 15 "MondayFactory$Crew" "count" "I") (List.mem_of_getElem? (i := 2) rfl)) (fun _ h9 => h9) rfl (by decide +kernel) rfl rfl (Nat.le_of_ble_eq_true rfl) dX1_part_44 (fun H locs hP hD hS => ?_)
    have hP : va_P D vwCl (wCrew k a0 (up2 (upA S0 1 (cpyZ (S0 1) (S0 1) ((p0 + 1).toNat) p0.toNat ((((S0 0 1) - p0) - 1).toNat))) 0 1 ((S0 0 1) - 1))) H := hP
    have hD : va_D A (wCrew k a0 (up2 (upA S0 1 (cpyZ (S0 1) (S0 1) ((p0 + 1).toNat) p0.toNat ((((S0 0 1) - p0) - 1).toNat))) 0 1 ((S0 0 1) - 1))) := hD
    refine lv_iload_n hx hb dX1_part_47 rfl (lv_at hl 0 rfl) ?_
    exact z_iret hx hb hr hlocks hP hS dX1_part_48 (Eq.trans (zif_pos c_2) rfl) (Eq.trans (congrArg (fun z => wCrew k a0 (upA (upA S0 0 z) 1 (sS0_1_X1_part S0 p0))) (show sS0_0_X1_part S0 p0 = upZ (S0 0) 1 ((S0 0 1) - 1) from (Eq.trans (zif_pos c_2) rfl))) (congrArg (fun z => wCrew k a0 (upA (upA S0 0 (upZ (S0 0) 1 ((S0 0 1) - 1))) 1 z)) (show sS0_1_X1_part S0 p0 = cpyZ (S0 1) (S0 1) ((p0 + 1).toNat) p0.toNat ((((S0 0 1) - p0) - 1).toNat) from (Eq.trans (zif_pos c_2) rfl)))) (Nat.le_refl _) (Nat.le_refl _)
set_option maxHeartbeats 4000000 in
set_option maxRecDepth 100000 in
theorem c_X1_howManyAhead (l : Launch) (D : va_G) (k : Nat → ClassId) (a0 : Nat → Nat) (S0 : Nat → Nat → Int) (p0 : Int) (hB01 : zBf (S0 1)) (hc0 : 0 ≤ p0 ∧ p0 < S0 0 1 ∧ S0 0 1 ≤ 4) : zMi l yX1_howManyAhead wsX1_howManyAhead ({ frames := 0, cells := 0, slots := 0, locals := 0 } : Room) D k [.ref (a0 0), .int (iI p0)] (wCrew k a0 S0) (wAhead (S0 1) (S0 0 1) p0) (wCrew k a0 S0) 0 0 := by
  refine zMi_of (cc := cX1_howManyAhead) (maxL := 6) (ret := (some .int)) (by decide) rfl (Nat.le_of_ble_eq_true rfl) ?_
  intro p e s m args below meth c A ls hx hb hr hml hown hts hlocks hK hP hD hG hA hS hl
  have hown : s.vm.findClass RX1 = some m.cls := hown
  have hl : lv_has ls 6 [(0, .ref (a0 0)), (1, .int (iI p0))] := hl
  obtain ⟨H, hH⟩ : ∃ z, z = s.heap := ⟨_, rfl⟩
  obtain ⟨locs, hlc⟩ : ∃ z : List Loc, z = [] := ⟨_, rfl⟩
  rw [← hH] at hP
  have hS : va_S A s.heap H locs := by rw [hH, hlc]; exact hS
  rw [← hlc, ← hH]
  clear hlc hH
  refine lv_iconst (v := iI 0) hx hb dX1_howManyAhead_0 rfl ?_
  refine lv_istore_n (lv' := [(2, .int (iI 0)), (0, .ref (a0 0)), (1, .int (iI p0))]) hx hb dX1_howManyAhead_1 rfl hl (by decide) rfl (fun ls hl => ?_)
  refine lv_iconst (v := iI 0) hx hb dX1_howManyAhead_2 rfl ?_
  refine lv_istore_n (lv' := [(3, .int (iI 0)), (2, .int (iI 0)), (0, .ref (a0 0)), (1, .int (iI p0))]) hx hb dX1_howManyAhead_3 rfl hl (by decide) rfl (fun ls hl => ?_)
  have lp4_0 : ∀ (n : Nat) (x2 : Int) (x3 : Int), (4 - x3).toNat < n → (0 ≤ x3) → (x3 ≤ S0 0 1) → (x2 = sumI (fun o => zif (S0 1 o.toNat < S0 1 p0.toNat ∨ (S0 1 o.toNat = S0 1 p0.toNat ∧ o < p0)) 1 0) x3) → ∀ (H : Heap) (locs : List Loc) (ls : Array Slot), va_P D vwCl (wCrew k a0 S0) H → va_D A (wCrew k a0 S0) → va_S A s.heap H locs → lv_has ls 6 [(3, .int (iI x3)), (2, .int (iI x2)), (0, .ref (a0 0)), (1, .int (iI p0))] → W p l e ({ frames := 0, cells := 0, slots := 0, locals := 0 } : Room) s m args below meth c H locs 0 0 (MQ below (zQi D A (wAhead (S0 1) (S0 0 1) p0) (wCrew k a0 S0)) args s 0 0 A) (F0 m 4 ls []) := by
    intro n4
    induction n4 with
    | zero => intro x2 x3 hm; exact absurd hm (Nat.not_lt_zero _)
    | succ n4 ih4 =>
      intro x2 x3 hm4 i0 i1 iF  H locs ls hP hD hS hl
      refine lv_iload_n hx hb dX1_howManyAhead_4 rfl (lv_at hl 0 rfl) ?_
      refine lv_aload_n hx hb dX1_howManyAhead_5 rfl (lv_at hl 2 rfl) ?_
      refine va_get (D := D) (ci := 3) (v := .int (iI (S0 0 1))) (C := RX1) (T := TX1) (N := 2) hx hb hts (fun w h => List.mem_cons_of_mem _ (List.mem_append_left _ (List.mem_append_right _ h))) hown hK hP 0 rfl rfl 1 (by decide) (hts (.fieldLink RX1 15 "MondayFactory$Crew" "count" "I") (List.mem_of_getElem? (i := 1) rfl)) (fun _ h9 => h9) rfl dX1_howManyAhead_6 ?_
      refine zi_icmp_ge (tgt := 85) hx hb dX1_howManyAhead_9 (by decide) ⟨by omega, by omega⟩ ⟨by omega, by omega⟩ (fun c_1 => ?_) (fun c_1 => ?_)
      · have v_2 : x2 = wAhead (S0 1) (S0 0 1) p0 := (by rw [iF, show x3 = S0 0 1 by omega]; rfl)
        rw [v_2] at hl
        refine lv_iload_n hx hb dX1_howManyAhead_85 rfl (lv_at hl 1 rfl) ?_
        exact z_iret hx hb hr hlocks hP hS dX1_howManyAhead_86 rfl rfl (Nat.le_refl _) (Nat.le_refl _)
      · refine lv_aload_n hx hb dX1_howManyAhead_12 rfl (lv_at hl 2 rfl) ?_
        refine va_get (D := D) (ci := 3) (v := .ref (a0 1)) (C := RX1) (T := TX1) (N := 2) hx hb hts (fun w h => List.mem_cons_of_mem _ (List.mem_append_left _ (List.mem_append_right _ h))) hown hK hP 0 rfl rfl 0 (by decide) (hts (.fieldLink RX1 9 "MondayFactory$Crew" "yawns" "[I") (List.mem_of_getElem? (i := 2) rfl)) (fun _ h9 => h9) rfl dX1_howManyAhead_13 ?_
        refine lv_iload_n hx hb dX1_howManyAhead_16 rfl (lv_at hl 0 rfl) ?_
        refine z_iald hx hb hK hP 1 0 (f := S0 1) rfl rfl (i := x3) (by omega) (by omega) (by decide) x3.toNat rfl dX1_howManyAhead_17 ?_
        have f_3 := hB01 x3.toNat
        refine lv_aload_n hx hb dX1_howManyAhead_18 rfl (lv_at hl 2 rfl) ?_
        refine va_get (D := D) (ci := 3) (v := .ref (a0 1)) (C := RX1) (T := TX1) (N := 2) hx hb hts (fun w h => List.mem_cons_of_mem _ (List.mem_append_left _ (List.mem_append_right _ h))) hown hK hP 0 rfl rfl 0 (by decide) (hts (.fieldLink RX1 9 "MondayFactory$Crew" "yawns" "[I") (List.mem_of_getElem? (i := 2) rfl)) (fun _ h9 => h9) rfl dX1_howManyAhead_19 ?_
        refine lv_iload_n hx hb dX1_howManyAhead_22 rfl (lv_at hl 3 rfl) ?_
        refine z_iald hx hb hK hP 1 0 (f := S0 1) rfl rfl (i := p0) (by omega) (by omega) (by decide) p0.toNat rfl dX1_howManyAhead_23 ?_
        have f_4 := hB01 p0.toNat
        refine zi_icmp_ge (tgt := 31) hx hb dX1_howManyAhead_24 (by decide) ⟨by omega, by omega⟩ ⟨by omega, by omega⟩ (fun c_5 => ?_) (fun c_5 => ?_)
        · refine lv_iconst (v := iI 0) hx hb dX1_howManyAhead_31 rfl ?_
          refine lv_istore (lv' := [(4, .int (iI 0)), (3, .int (iI x3)), (2, .int (iI x2)), (0, .ref (a0 0)), (1, .int (iI p0))]) hx hb dX1_howManyAhead_32 hl (by decide) rfl (fun ls hl => ?_)
          refine lv_aload_n hx hb dX1_howManyAhead_34 rfl (lv_at hl 3 rfl) ?_
          refine va_get (D := D) (ci := 3) (v := .ref (a0 1)) (C := RX1) (T := TX1) (N := 2) hx hb hts (fun w h => List.mem_cons_of_mem _ (List.mem_append_left _ (List.mem_append_right _ h))) hown hK hP 0 rfl rfl 0 (by decide) (hts (.fieldLink RX1 9 "MondayFactory$Crew" "yawns" "[I") (List.mem_of_getElem? (i := 2) rfl)) (fun _ h9 => h9) rfl dX1_howManyAhead_35 ?_
          refine lv_iload_n hx hb dX1_howManyAhead_38 rfl (lv_at hl 1 rfl) ?_
          refine z_iald hx hb hK hP 1 0 (f := S0 1) rfl rfl (i := x3) (by omega) (by omega) (by decide) x3.toNat rfl dX1_howManyAhead_39 ?_
          refine lv_aload_n hx hb dX1_howManyAhead_40 rfl (lv_at hl 3 rfl) ?_
          refine va_get (D := D) (ci := 3) (v := .ref (a0 1)) (C := RX1) (T := TX1) (N := 2) hx hb hts (fun w h => List.mem_cons_of_mem _ (List.mem_append_left _ (List.mem_append_right _ h))) hown hK hP 0 rfl rfl 0 (by decide) (hts (.fieldLink RX1 9 "MondayFactory$Crew" "yawns" "[I") (List.mem_of_getElem? (i := 2) rfl)) (fun _ h9 => h9) rfl dX1_howManyAhead_41 ?_
          refine lv_iload_n hx hb dX1_howManyAhead_44 rfl (lv_at hl 4 rfl) ?_
          refine z_iald hx hb hK hP 1 0 (f := S0 1) rfl rfl (i := p0) (by omega) (by omega) (by decide) p0.toNat rfl dX1_howManyAhead_45 ?_
          refine zi_icmp_ne (tgt := 58) hx hb dX1_howManyAhead_46 (by decide) ⟨by omega, by omega⟩ ⟨by omega, by omega⟩ (fun c_6 => ?_) (fun c_6 => ?_)
          · refine lv_iconst (v := iI 0) hx hb dX1_howManyAhead_58 rfl ?_
            refine lv_istore (lv' := [(5, .int (iI 0)), (4, .int (iI 0)), (3, .int (iI x3)), (2, .int (iI x2)), (0, .ref (a0 0)), (1, .int (iI p0))]) hx hb dX1_howManyAhead_59 hl (by decide) rfl (fun ls hl => ?_)
            refine lv_iload_n hx hb dX1_howManyAhead_61 rfl (lv_at hl 3 rfl) ?_
            refine lv_iload hx hb dX1_howManyAhead_62 (lv_at hl 1 rfl) ?_
            refine zi_if_ne (tgt := 72) hx hb dX1_howManyAhead_64 (by decide) ⟨by omega, by omega⟩ (fun c_7 => absurd c_7 (by omega)) (fun _ => ?_)
            refine lv_iload hx hb dX1_howManyAhead_67 (lv_at hl 0 rfl) ?_
            refine zi_if_eq (tgt := 76) hx hb dX1_howManyAhead_69 (by decide) ⟨by omega, by omega⟩ (fun _ => ?_) (fun c_8 => absurd c_8 (by omega))
            refine lv_iconst (v := iI 0) hx hb dX1_howManyAhead_76 rfl ?_
            refine zi_add hx hb dX1_howManyAhead_77 ?_
            refine lv_istore_n (lv' := [(2, .int (iI (x2 + 0))), (5, .int (iI 0)), (4, .int (iI 0)), (3, .int (iI x3)), (0, .ref (a0 0)), (1, .int (iI p0))]) hx hb dX1_howManyAhead_78 rfl hl (by decide) rfl (fun ls hl => ?_)
            refine lv_iinc (v := iI (x3 + 1)) (lv' := [(3, .int (iI (x3 + 1))), (2, .int (iI (x2 + 0))), (5, .int (iI 0)), (4, .int (iI 0)), (0, .ref (a0 0)), (1, .int (iI p0))]) hx hb dX1_howManyAhead_79 hl (k := 3) rfl (iI_add _ _) (by decide) rfl (fun ls hl => ?_)
            refine lv_goto (tgt := 4) hx hb dX1_howManyAhead_82 (by decide) ?_
            exact ih4 (x2 + 0) (x3 + 1) (by omega) (by omega) (by omega) (by rw [iF]; first | exact sumI_e i0 (zif_pos (by omega)).symm | exact sumI_e i0 (zif_neg (by omega)).symm)  H locs ls hP hD hS (lv_sub hl [0, 1, 4, 5] rfl)
          · refine lv_iload_n hx hb dX1_howManyAhead_49 rfl (lv_at hl 1 rfl) ?_
            refine lv_iload_n hx hb dX1_howManyAhead_50 rfl (lv_at hl 4 rfl) ?_
            refine zi_icmp_ge (tgt := 58) hx hb dX1_howManyAhead_51 (by decide) ⟨by omega, by omega⟩ ⟨by omega, by omega⟩ (fun c_9 => ?_) (fun c_9 => ?_)
            · refine lv_iconst (v := iI 0) hx hb dX1_howManyAhead_58 rfl ?_
              refine lv_istore (lv' := [(5, .int (iI 0)), (4, .int (iI 0)), (3, .int (iI x3)), (2, .int (iI x2)), (0, .ref (a0 0)), (1, .int (iI p0))]) hx hb dX1_howManyAhead_59 hl (by decide) rfl (fun ls hl => ?_)
              refine lv_iload_n hx hb dX1_howManyAhead_61 rfl (lv_at hl 3 rfl) ?_
              refine lv_iload hx hb dX1_howManyAhead_62 (lv_at hl 1 rfl) ?_
              refine zi_if_ne (tgt := 72) hx hb dX1_howManyAhead_64 (by decide) ⟨by omega, by omega⟩ (fun c_10 => absurd c_10 (by omega)) (fun _ => ?_)
              refine lv_iload hx hb dX1_howManyAhead_67 (lv_at hl 0 rfl) ?_
              refine zi_if_eq (tgt := 76) hx hb dX1_howManyAhead_69 (by decide) ⟨by omega, by omega⟩ (fun _ => ?_) (fun c_11 => absurd c_11 (by omega))
              refine lv_iconst (v := iI 0) hx hb dX1_howManyAhead_76 rfl ?_
              refine zi_add hx hb dX1_howManyAhead_77 ?_
              refine lv_istore_n (lv' := [(2, .int (iI (x2 + 0))), (5, .int (iI 0)), (4, .int (iI 0)), (3, .int (iI x3)), (0, .ref (a0 0)), (1, .int (iI p0))]) hx hb dX1_howManyAhead_78 rfl hl (by decide) rfl (fun ls hl => ?_)
              refine lv_iinc (v := iI (x3 + 1)) (lv' := [(3, .int (iI (x3 + 1))), (2, .int (iI (x2 + 0))), (5, .int (iI 0)), (4, .int (iI 0)), (0, .ref (a0 0)), (1, .int (iI p0))]) hx hb dX1_howManyAhead_79 hl (k := 3) rfl (iI_add _ _) (by decide) rfl (fun ls hl => ?_)
              refine lv_goto (tgt := 4) hx hb dX1_howManyAhead_82 (by decide) ?_
              exact ih4 (x2 + 0) (x3 + 1) (by omega) (by omega) (by omega) (by rw [iF]; first | exact sumI_e i0 (zif_pos (by omega)).symm | exact sumI_e i0 (zif_neg (by omega)).symm)  H locs ls hP hD hS (lv_sub hl [0, 1, 4, 5] rfl)
            · refine lv_iconst (v := iI 1) hx hb dX1_howManyAhead_54 rfl ?_
              refine lv_goto (tgt := 59) hx hb dX1_howManyAhead_55 (by decide) ?_
              refine lv_istore (lv' := [(5, .int (iI 1)), (4, .int (iI 0)), (3, .int (iI x3)), (2, .int (iI x2)), (0, .ref (a0 0)), (1, .int (iI p0))]) hx hb dX1_howManyAhead_59 hl (by decide) rfl (fun ls hl => ?_)
              refine lv_iload_n hx hb dX1_howManyAhead_61 rfl (lv_at hl 3 rfl) ?_
              refine lv_iload hx hb dX1_howManyAhead_62 (lv_at hl 1 rfl) ?_
              refine zi_if_ne (tgt := 72) hx hb dX1_howManyAhead_64 (by decide) ⟨by omega, by omega⟩ (fun c_12 => absurd c_12 (by omega)) (fun _ => ?_)
              refine lv_iload hx hb dX1_howManyAhead_67 (lv_at hl 0 rfl) ?_
              refine zi_if_eq (tgt := 76) hx hb dX1_howManyAhead_69 (by decide) ⟨by omega, by omega⟩ (fun c_13 => absurd c_13 (by omega)) (fun _ => ?_)
              refine lv_iconst (v := iI 1) hx hb dX1_howManyAhead_72 rfl ?_
              refine lv_goto (tgt := 77) hx hb dX1_howManyAhead_73 (by decide) ?_
              refine zi_add hx hb dX1_howManyAhead_77 ?_
              refine lv_istore_n (lv' := [(2, .int (iI (x2 + 1))), (5, .int (iI 1)), (4, .int (iI 0)), (3, .int (iI x3)), (0, .ref (a0 0)), (1, .int (iI p0))]) hx hb dX1_howManyAhead_78 rfl hl (by decide) rfl (fun ls hl => ?_)
              refine lv_iinc (v := iI (x3 + 1)) (lv' := [(3, .int (iI (x3 + 1))), (2, .int (iI (x2 + 1))), (5, .int (iI 1)), (4, .int (iI 0)), (0, .ref (a0 0)), (1, .int (iI p0))]) hx hb dX1_howManyAhead_79 hl (k := 3) rfl (iI_add _ _) (by decide) rfl (fun ls hl => ?_)
              refine lv_goto (tgt := 4) hx hb dX1_howManyAhead_82 (by decide) ?_
              exact ih4 (x2 + 1) (x3 + 1) (by omega) (by omega) (by omega) (by rw [iF]; first | exact sumI_e i0 (zif_pos (by omega)).symm | exact sumI_e i0 (zif_neg (by omega)).symm)  H locs ls hP hD hS (lv_sub hl [0, 1, 4, 5] rfl)
        · refine lv_iconst (v := iI 1) hx hb dX1_howManyAhead_27 rfl ?_
          refine lv_goto (tgt := 32) hx hb dX1_howManyAhead_28 (by decide) ?_
          refine lv_istore (lv' := [(4, .int (iI 1)), (3, .int (iI x3)), (2, .int (iI x2)), (0, .ref (a0 0)), (1, .int (iI p0))]) hx hb dX1_howManyAhead_32 hl (by decide) rfl (fun ls hl => ?_)
          refine lv_aload_n hx hb dX1_howManyAhead_34 rfl (lv_at hl 3 rfl) ?_
          refine va_get (D := D) (ci := 3) (v := .ref (a0 1)) (C := RX1) (T := TX1) (N := 2) hx hb hts (fun w h => List.mem_cons_of_mem _ (List.mem_append_left _ (List.mem_append_right _ h))) hown hK hP 0 rfl rfl 0 (by decide) (hts (.fieldLink RX1 9 "MondayFactory$Crew" "yawns" "[I") (List.mem_of_getElem? (i := 2) rfl)) (fun _ h9 => h9) rfl dX1_howManyAhead_35 ?_
          refine lv_iload_n hx hb dX1_howManyAhead_38 rfl (lv_at hl 1 rfl) ?_
          refine z_iald hx hb hK hP 1 0 (f := S0 1) rfl rfl (i := x3) (by omega) (by omega) (by decide) x3.toNat rfl dX1_howManyAhead_39 ?_
          refine lv_aload_n hx hb dX1_howManyAhead_40 rfl (lv_at hl 3 rfl) ?_
          refine va_get (D := D) (ci := 3) (v := .ref (a0 1)) (C := RX1) (T := TX1) (N := 2) hx hb hts (fun w h => List.mem_cons_of_mem _ (List.mem_append_left _ (List.mem_append_right _ h))) hown hK hP 0 rfl rfl 0 (by decide) (hts (.fieldLink RX1 9 "MondayFactory$Crew" "yawns" "[I") (List.mem_of_getElem? (i := 2) rfl)) (fun _ h9 => h9) rfl dX1_howManyAhead_41 ?_
          refine lv_iload_n hx hb dX1_howManyAhead_44 rfl (lv_at hl 4 rfl) ?_
          refine z_iald hx hb hK hP 1 0 (f := S0 1) rfl rfl (i := p0) (by omega) (by omega) (by decide) p0.toNat rfl dX1_howManyAhead_45 ?_
          refine zi_icmp_ne (tgt := 58) hx hb dX1_howManyAhead_46 (by decide) ⟨by omega, by omega⟩ ⟨by omega, by omega⟩ (fun c_14 => ?_) (fun c_14 => ?_)
          · refine lv_iconst (v := iI 0) hx hb dX1_howManyAhead_58 rfl ?_
            refine lv_istore (lv' := [(5, .int (iI 0)), (4, .int (iI 1)), (3, .int (iI x3)), (2, .int (iI x2)), (0, .ref (a0 0)), (1, .int (iI p0))]) hx hb dX1_howManyAhead_59 hl (by decide) rfl (fun ls hl => ?_)
            refine lv_iload_n hx hb dX1_howManyAhead_61 rfl (lv_at hl 3 rfl) ?_
            refine lv_iload hx hb dX1_howManyAhead_62 (lv_at hl 1 rfl) ?_
            refine zi_if_ne (tgt := 72) hx hb dX1_howManyAhead_64 (by decide) ⟨by omega, by omega⟩ (fun _ => ?_) (fun c_15 => absurd c_15 (by omega))
            refine lv_iconst (v := iI 1) hx hb dX1_howManyAhead_72 rfl ?_
            refine lv_goto (tgt := 77) hx hb dX1_howManyAhead_73 (by decide) ?_
            refine zi_add hx hb dX1_howManyAhead_77 ?_
            refine lv_istore_n (lv' := [(2, .int (iI (x2 + 1))), (5, .int (iI 0)), (4, .int (iI 1)), (3, .int (iI x3)), (0, .ref (a0 0)), (1, .int (iI p0))]) hx hb dX1_howManyAhead_78 rfl hl (by decide) rfl (fun ls hl => ?_)
            refine lv_iinc (v := iI (x3 + 1)) (lv' := [(3, .int (iI (x3 + 1))), (2, .int (iI (x2 + 1))), (5, .int (iI 0)), (4, .int (iI 1)), (0, .ref (a0 0)), (1, .int (iI p0))]) hx hb dX1_howManyAhead_79 hl (k := 3) rfl (iI_add _ _) (by decide) rfl (fun ls hl => ?_)
            refine lv_goto (tgt := 4) hx hb dX1_howManyAhead_82 (by decide) ?_
            exact ih4 (x2 + 1) (x3 + 1) (by omega) (by omega) (by omega) (by rw [iF]; first | exact sumI_e i0 (zif_pos (by omega)).symm | exact sumI_e i0 (zif_neg (by omega)).symm)  H locs ls hP hD hS (lv_sub hl [0, 1, 4, 5] rfl)
          · refine lv_iload_n hx hb dX1_howManyAhead_49 rfl (lv_at hl 1 rfl) ?_
            refine lv_iload_n hx hb dX1_howManyAhead_50 rfl (lv_at hl 4 rfl) ?_
            refine zi_icmp_ge (tgt := 58) hx hb dX1_howManyAhead_51 (by decide) ⟨by omega, by omega⟩ ⟨by omega, by omega⟩ (fun c_16 => ?_) (fun c_16 => ?_)
            · refine lv_iconst (v := iI 0) hx hb dX1_howManyAhead_58 rfl ?_
              refine lv_istore (lv' := [(5, .int (iI 0)), (4, .int (iI 1)), (3, .int (iI x3)), (2, .int (iI x2)), (0, .ref (a0 0)), (1, .int (iI p0))]) hx hb dX1_howManyAhead_59 hl (by decide) rfl (fun ls hl => ?_)
              refine lv_iload_n hx hb dX1_howManyAhead_61 rfl (lv_at hl 3 rfl) ?_
              refine lv_iload hx hb dX1_howManyAhead_62 (lv_at hl 1 rfl) ?_
              refine zi_if_ne (tgt := 72) hx hb dX1_howManyAhead_64 (by decide) ⟨by omega, by omega⟩ (fun _ => ?_) (fun c_17 => absurd c_17 (by omega))
              refine lv_iconst (v := iI 1) hx hb dX1_howManyAhead_72 rfl ?_
              refine lv_goto (tgt := 77) hx hb dX1_howManyAhead_73 (by decide) ?_
              refine zi_add hx hb dX1_howManyAhead_77 ?_
              refine lv_istore_n (lv' := [(2, .int (iI (x2 + 1))), (5, .int (iI 0)), (4, .int (iI 1)), (3, .int (iI x3)), (0, .ref (a0 0)), (1, .int (iI p0))]) hx hb dX1_howManyAhead_78 rfl hl (by decide) rfl (fun ls hl => ?_)
              refine lv_iinc (v := iI (x3 + 1)) (lv' := [(3, .int (iI (x3 + 1))), (2, .int (iI (x2 + 1))), (5, .int (iI 0)), (4, .int (iI 1)), (0, .ref (a0 0)), (1, .int (iI p0))]) hx hb dX1_howManyAhead_79 hl (k := 3) rfl (iI_add _ _) (by decide) rfl (fun ls hl => ?_)
              refine lv_goto (tgt := 4) hx hb dX1_howManyAhead_82 (by decide) ?_
              exact ih4 (x2 + 1) (x3 + 1) (by omega) (by omega) (by omega) (by rw [iF]; first | exact sumI_e i0 (zif_pos (by omega)).symm | exact sumI_e i0 (zif_neg (by omega)).symm)  H locs ls hP hD hS (lv_sub hl [0, 1, 4, 5] rfl)
            · refine lv_iconst (v := iI 1) hx hb dX1_howManyAhead_54 rfl ?_
              refine lv_goto (tgt := 59) hx hb dX1_howManyAhead_55 (by decide) ?_
              refine lv_istore (lv' := [(5, .int (iI 1)), (4, .int (iI 1)), (3, .int (iI x3)), (2, .int (iI x2)), (0, .ref (a0 0)), (1, .int (iI p0))]) hx hb dX1_howManyAhead_59 hl (by decide) rfl (fun ls hl => ?_)
              refine lv_iload_n hx hb dX1_howManyAhead_61 rfl (lv_at hl 3 rfl) ?_
              refine lv_iload hx hb dX1_howManyAhead_62 (lv_at hl 1 rfl) ?_
              refine zi_if_ne (tgt := 72) hx hb dX1_howManyAhead_64 (by decide) ⟨by omega, by omega⟩ (fun _ => ?_) (fun c_18 => absurd c_18 (by omega))
              refine lv_iconst (v := iI 1) hx hb dX1_howManyAhead_72 rfl ?_
              refine lv_goto (tgt := 77) hx hb dX1_howManyAhead_73 (by decide) ?_
              refine zi_add hx hb dX1_howManyAhead_77 ?_
              refine lv_istore_n (lv' := [(2, .int (iI (x2 + 1))), (5, .int (iI 1)), (4, .int (iI 1)), (3, .int (iI x3)), (0, .ref (a0 0)), (1, .int (iI p0))]) hx hb dX1_howManyAhead_78 rfl hl (by decide) rfl (fun ls hl => ?_)
              refine lv_iinc (v := iI (x3 + 1)) (lv' := [(3, .int (iI (x3 + 1))), (2, .int (iI (x2 + 1))), (5, .int (iI 1)), (4, .int (iI 1)), (0, .ref (a0 0)), (1, .int (iI p0))]) hx hb dX1_howManyAhead_79 hl (k := 3) rfl (iI_add _ _) (by decide) rfl (fun ls hl => ?_)
              refine lv_goto (tgt := 4) hx hb dX1_howManyAhead_82 (by decide) ?_
              exact ih4 (x2 + 1) (x3 + 1) (by omega) (by omega) (by omega) (by rw [iF]; first | exact sumI_e i0 (zif_pos (by omega)).symm | exact sumI_e i0 (zif_neg (by omega)).symm)  H locs ls hP hD hS (lv_sub hl [0, 1, 4, 5] rfl)
  exact lp4_0 5 0 0 (by omega) (by omega) (by omega) rfl  H locs ls hP hD hS (lv_sub hl [0, 1, 2, 3] rfl)
noncomputable def sp_X1_freshAt_L2 (S0 : Nat → Nat → Int) (p0 : Int) : Nat → Int → Int
  | 0, _ => 0
  | n + 1, x2 => zif ((S0 0 1) ≤ x2)
    (-1)
    (zif ((wAhead (S0 1) (S0 0 1) x2) = p0)
      (x2)
      (sp_X1_freshAt_L2 S0 p0 n (x2 + 1)))
noncomputable def sp_X1_freshAt (S0 : Nat → Nat → Int) (p0 : Int) : Int := sp_X1_freshAt_L2 S0 p0 5 0
set_option maxHeartbeats 4000000 in
set_option maxRecDepth 100000 in
theorem c_X1_freshAt (l : Launch) (D : va_G) (k : Nat → ClassId) (a0 : Nat → Nat) (S0 : Nat → Nat → Int) (p0 : Int) (hB01 : zBf (S0 1)) (hc0 : 0 ≤ S0 0 1 ∧ S0 0 1 ≤ 4) (h0 : -2147483648 ≤ p0 ∧ p0 < 2147483648) : zMi l yX1_freshAt wsX1_freshAt ({ frames := 1, cells := 0, slots := 0, locals := 25 } : Room) D k [.ref (a0 0), .int (iI p0)] (wCrew k a0 S0) (sp_X1_freshAt S0 p0) (wCrew k a0 S0) 0 0 := by
  refine zMi_of (cc := cX1_freshAt) (maxL := 3) (ret := (some .int)) (by decide) rfl (Nat.le_of_ble_eq_true rfl) ?_
  intro p e s m args below meth c A ls hx hb hr hml hown hts hlocks hK hP hD hG hA hS hl
  have hown : s.vm.findClass RX1 = some m.cls := hown
  have hl : lv_has ls 3 [(0, .ref (a0 0)), (1, .int (iI p0))] := hl
  obtain ⟨H, hH⟩ : ∃ z, z = s.heap := ⟨_, rfl⟩
  obtain ⟨locs, hlc⟩ : ∃ z : List Loc, z = [] := ⟨_, rfl⟩
  rw [← hH] at hP
  have hS : va_S A s.heap H locs := by rw [hH, hlc]; exact hS
  rw [← hlc, ← hH]
  clear hlc hH
  refine lv_iconst (v := iI 0) hx hb dX1_freshAt_0 rfl ?_
  refine lv_istore_n (lv' := [(2, .int (iI 0)), (0, .ref (a0 0)), (1, .int (iI p0))]) hx hb dX1_freshAt_1 rfl hl (by decide) rfl (fun ls hl => ?_)
  have lp2_0 : ∀ (n : Nat) (x2 : Int), (4 - x2).toNat < n → (0 ≤ x2) → (x2 ≤ S0 0 1) → sp_X1_freshAt S0 p0 = sp_X1_freshAt_L2 S0 p0 n x2 → ∀ (H : Heap) (locs : List Loc) (ls : Array Slot), va_P D vwCl (wCrew k a0 S0) H → va_D A (wCrew k a0 S0) → va_S A s.heap H locs → lv_has ls 3 [(2, .int (iI x2)), (0, .ref (a0 0)), (1, .int (iI p0))] → W p l e ({ frames := 1, cells := 0, slots := 0, locals := 25 } : Room) s m args below meth c H locs 0 0 (MQ below (zQi D A (sp_X1_freshAt S0 p0) (wCrew k a0 S0)) args s 0 0 A) (F0 m 2 ls []) := by
    intro n2
    induction n2 with
    | zero => intro x2 hm; exact absurd hm (Nat.not_lt_zero _)
    | succ n2 ih2 =>
      intro x2 hm2 i0 i1 E2_0_r H locs ls hP hD hS hl
      refine lv_iload_n hx hb dX1_freshAt_2 rfl (lv_at hl 0 rfl) ?_
      refine lv_aload_n hx hb dX1_freshAt_3 rfl (lv_at hl 1 rfl) ?_
      refine va_get (D := D) (ci := 3) (v := .int (iI (S0 0 1))) (C := RX1) (T := TX1) (N := 2) hx hb hts (fun w h => List.mem_cons_of_mem _ (List.mem_append_left _ (List.mem_append_right _ h))) hown hK hP 0 rfl rfl 1 (by decide) (hts (.fieldLink RX1 15 "MondayFactory$Crew" "count" "I") (List.mem_of_getElem? (i := 1) rfl)) (fun _ h9 => h9) rfl dX1_freshAt_4 ?_
      refine zi_icmp_ge (tgt := 27) hx hb dX1_freshAt_7 (by decide) ⟨by omega, by omega⟩ ⟨by omega, by omega⟩ (fun c_1 => ?_) (fun c_1 => ?_)
      · refine lv_iconst (v := iI (-1)) hx hb dX1_freshAt_27 rfl ?_
        exact z_iret hx hb hr hlocks hP hS dX1_freshAt_28 (Eq.trans E2_0_r (Eq.trans (zif_pos c_1) rfl)) rfl (Nat.le_refl _) (Nat.le_refl _)
      · refine lv_aload_n hx hb dX1_freshAt_10 rfl (lv_at hl 1 rfl) ?_
        refine lv_iload_n hx hb dX1_freshAt_11 rfl (lv_at hl 0 rfl) ?_
        refine z_ai0 (va_runV (As := [.int (iI x2)]) (rest := []) ⟨hx, hb, hml, hown, hts⟩ (c_X1_howManyAhead l D k a0 S0  x2 hB01 (by omega) _) (cwV 1 hts gX1_freshAt_X1_howManyAhead rfl rfl rfl (by decide +kernel) ⟨(Nat.le_of_ble_eq_true rfl), (Nat.le_of_ble_eq_true rfl)⟩) (z_preV hK hG hA hP hD hS [0, 1] rfl (by decide) 3 rfl rfl) rfl rfl hl.1 rfl (lv_room (Nat.le_of_ble_eq_true rfl)) dX1_freshAt_12 ⟨(Nat.le_of_ble_eq_true rfl), (Nat.le_of_ble_eq_true rfl)⟩) hA hP hD hS [0, 1] rfl (fun H locs hP hS => ?_)
        have q_2 : 0 ≤ wAhead (S0 1) (S0 0 1) x2 ∧ wAhead (S0 1) (S0 0 1) x2 ≤ S0 0 1 := wAhead_bd (by omega)
        refine lv_iload_n hx hb dX1_freshAt_15 rfl (lv_at hl 2 rfl) ?_
        refine zi_icmp_ne (tgt := 21) hx hb dX1_freshAt_16 (by decide) ⟨by omega, by omega⟩ ⟨by omega, by omega⟩ (fun c_3 => ?_) (fun c_3 => ?_)
        · refine lv_iinc (v := iI (x2 + 1)) (lv' := [(2, .int (iI (x2 + 1))), (0, .ref (a0 0)), (1, .int (iI p0))]) hx hb dX1_freshAt_21 hl (k := 0) rfl (iI_add _ _) (by decide) rfl (fun ls hl => ?_)
          refine lv_goto (tgt := 2) hx hb dX1_freshAt_24 (by decide) ?_
          exact ih2 (x2 + 1) (by omega) (by omega) (by omega) (Eq.trans E2_0_r (Eq.trans (zif_neg c_1) (Eq.trans (zif_neg c_3) rfl))) H locs ls hP hD hS (lv_sub hl [0, 1, 2] rfl)
        · refine lv_iload_n hx hb dX1_freshAt_19 rfl (lv_at hl 0 rfl) ?_
          exact z_iret hx hb hr hlocks hP hS dX1_freshAt_20 (Eq.trans E2_0_r (Eq.trans (zif_neg c_1) (Eq.trans (zif_pos c_3) rfl))) rfl (Nat.le_refl _) (Nat.le_refl _)
  exact lp2_0 5 0 (by omega) (by omega) (by omega) rfl H locs ls hP hD hS (lv_sub hl [0, 1, 2] rfl)
theorem freshL_rng (S0 : Nat → Nat → Int) (p0 : Int) (h : 0 ≤ S0 0 1 ∧ S0 0 1 ≤ 4) : ∀ (n : Nat) (x : Int), 0 ≤ x → -1 ≤ sp_X1_freshAt_L2 S0 p0 n x ∧ sp_X1_freshAt_L2 S0 p0 n x ≤ 3 := by
  intro n
  induction n with
  | zero => intro x _; exact ⟨show (-1 : Int) ≤ 0 by decide, show (0 : Int) ≤ 3 by decide⟩
  | succ n ih =>
    intro x hx
    unfold sp_X1_freshAt_L2
    refine el1 (Q := fun z => -1 ≤ z ∧ z ≤ 3) (fun _ => by omega) (fun _ => ?_)
    exact el1 (Q := fun z => -1 ≤ z ∧ z ≤ 3) (fun _ => by omega) (fun _ => ih _ (by omega))
theorem fresh_rng (S0 : Nat → Nat → Int) (p0 : Int) (h : 0 ≤ S0 0 1 ∧ S0 0 1 ≤ 4) : -1 ≤ sp_X1_freshAt S0 p0 ∧ sp_X1_freshAt S0 p0 ≤ 3 := by
  unfold sp_X1_freshAt
  exact freshL_rng S0 p0 h 5 0 (by omega)

set_option maxHeartbeats 4000000 in
set_option maxRecDepth 100000 in
theorem c_X1_isLeftOut (l : Launch) (D : va_G) (k : Nat → ClassId)  (p0 : Int) (p1 : Int) (h0 : -2147483648 ≤ p0 ∧ p0 < 2147483648) (h1 : -2147483648 ≤ p1 ∧ p1 < 2147483648) : zMi l yX1_isLeftOut wsX1_isLeftOut ({ frames := 0, cells := 0, slots := 0, locals := 0 } : Room) D k [.int (iI p0), .int (iI p1)] (([] : va_W)) (zb (wLeft p0 p1)) (([] : va_W)) 0 0 := by
  refine zMi_of (cc := cX1_isLeftOut) (maxL := 2) (ret := (some .boolean)) (by decide) rfl (Nat.le_of_ble_eq_true rfl) ?_
  intro p e s m args below meth c A ls hx hb hr hml hown hts hlocks hK hP hD hG hA hS hl
  have hown : s.vm.findClass RX1 = some m.cls := hown
  have hl : lv_has ls 2 [(0, .int (iI p0)), (1, .int (iI p1))] := hl
  obtain ⟨H, hH⟩ : ∃ z, z = s.heap := ⟨_, rfl⟩
  obtain ⟨locs, hlc⟩ : ∃ z : List Loc, z = [] := ⟨_, rfl⟩
  rw [← hH] at hP
  have hS : va_S A s.heap H locs := by rw [hH, hlc]; exact hS
  rw [← hlc, ← hH]
  clear hlc hH
  refine lv_iload_n hx hb dX1_isLeftOut_0 rfl (lv_at hl 0 rfl) ?_
  by_cases w_1 : p0 = 1
  · refine z_lookup hx hb dX1_isLeftOut_1 (by decide) (x := p0) ⟨by omega, by omega⟩ (off := 27) (tgt := 28) (by rw [w_1]; decide) (by decide) ?_
    refine lv_iconst (v := iI 0) hx hb dX1_isLeftOut_28 rfl ?_
    exact z_zret hx hb hr hlocks rfl hP hS dX1_isLeftOut_29 (zb_neg (by unfold wLeft; omega)) rfl (Nat.le_refl _) (Nat.le_refl _)
  · by_cases w_2 : p0 = 2
    · refine z_lookup hx hb dX1_isLeftOut_1 (by decide) (x := p0) ⟨by omega, by omega⟩ (off := 29) (tgt := 30) (by rw [w_2]; decide) (by decide) ?_
      refine lv_iload_n hx hb dX1_isLeftOut_30 rfl (lv_at hl 1 rfl) ?_
      refine lv_bipush (v := iI 9) hx hb dX1_isLeftOut_31 (by decide) ?_
      refine zi_icmp_lt (tgt := 40) hx hb dX1_isLeftOut_33 (by decide) ⟨by omega, by omega⟩ ⟨by omega, by omega⟩ (fun c_3 => ?_) (fun c_3 => ?_)
      · refine lv_iconst (v := iI 0) hx hb dX1_isLeftOut_40 rfl ?_
        exact z_zret hx hb hr hlocks rfl hP hS dX1_isLeftOut_41 (zb_neg (by unfold wLeft; omega)) rfl (Nat.le_refl _) (Nat.le_refl _)
      · refine lv_iconst (v := iI 1) hx hb dX1_isLeftOut_36 rfl ?_
        refine lv_goto (tgt := 41) hx hb dX1_isLeftOut_37 (by decide) ?_
        exact z_zret hx hb hr hlocks rfl hP hS dX1_isLeftOut_41 (zb_pos (by unfold wLeft; omega)) rfl (Nat.le_refl _) (Nat.le_refl _)
    · refine z_lookup hx hb dX1_isLeftOut_1 (by decide) (x := p0) ⟨by omega, by omega⟩ (off := 41) (tgt := 42) (by simp [Op.lookupswitch.offset, Ne.symm w_1, Ne.symm w_2]) (by decide) ?_
      refine lv_iload_n hx hb dX1_isLeftOut_42 rfl (lv_at hl 1 rfl) ?_
      refine lv_bipush (v := iI 6) hx hb dX1_isLeftOut_43 (by decide) ?_
      refine zi_icmp_lt (tgt := 52) hx hb dX1_isLeftOut_45 (by decide) ⟨by omega, by omega⟩ ⟨by omega, by omega⟩ (fun c_4 => ?_) (fun c_4 => ?_)
      · refine lv_iconst (v := iI 0) hx hb dX1_isLeftOut_52 rfl ?_
        exact z_zret hx hb hr hlocks rfl hP hS dX1_isLeftOut_53 (zb_neg (by unfold wLeft; omega)) rfl (Nat.le_refl _) (Nat.le_refl _)
      · refine lv_iconst (v := iI 1) hx hb dX1_isLeftOut_48 rfl ?_
        refine lv_goto (tgt := 53) hx hb dX1_isLeftOut_49 (by decide) ?_
        exact z_zret hx hb hr hlocks rfl hP hS dX1_isLeftOut_53 (zb_pos (by unfold wLeft; omega)) rfl (Nat.le_refl _) (Nat.le_refl _)
set_option maxHeartbeats 4000000 in
set_option maxRecDepth 100000 in
theorem c_X0_copyFrom (l : Launch) (D : va_G) (k : Nat → ClassId) (a0 : Nat → Nat) (S0 : Nat → Nat → Int) (a1 : Nat → Nat) (S1 : Nat → Nat → Int) (hc1 : 0 ≤ S1 1 1 ∧ S1 1 1 ≤ 8) : zMv l yX0_copyFrom wsX0_copyFrom ({ frames := 2, cells := 0, slots := 0, locals := 61 } : Room) D k [.ref (a0 0), .ref (a1 0)] (wBelt k a0 S0 ++ wBelt k a1 S1) (wBelt k a0 (up2 (up2 (up2 (up2 (up2 (upA (up2 S0 1 1 (S1 1 1)) 2 (cpyZ (S1 2) (S0 2) 0 0 (((S1 1 1) * 4).toNat))) 0 1 (S1 0 1)) 0 2 (S1 0 2)) 0 3 (S1 0 3)) 0 4 (S1 0 4)) 0 5 (S1 0 5)) ++ wBelt k a1 S1) 0 0 := by
  refine zMv_of (cc := cX0_copyFrom) (maxL := 2) (ret := none) (by decide) rfl (Nat.le_of_ble_eq_true rfl) ?_
  intro p e s m args below meth c A ls hx hb hr hml hown hts hlocks hK hP hD hG hA hS hl
  have hown : s.vm.findClass RX0 = some m.cls := hown
  have hl : lv_has ls 2 [(0, .ref (a0 0)), (1, .ref (a1 0))] := hl
  obtain ⟨H, hH⟩ : ∃ z, z = s.heap := ⟨_, rfl⟩
  obtain ⟨locs, hlc⟩ : ∃ z : List Loc, z = [] := ⟨_, rfl⟩
  rw [← hH] at hP
  have hS : va_S A s.heap H locs := by rw [hH, hlc]; exact hS
  rw [← hlc, ← hH]
  clear hlc hH
  refine lv_aload_n hx hb dX0_copyFrom_0 rfl (lv_at hl 0 rfl) ?_
  refine va_get (D := D) (ci := 2) (v := .ref (a0 1)) (C := RX0) (T := TX0) (N := 6) hx hb hts (fun w h => List.mem_cons_of_mem _ (List.mem_append_left _ (List.mem_append_right _ h))) hown hK hP 0 rfl rfl 0 (by decide) (hts (.fieldLink RX0 12 "MondayFactory$Belt" "row" "LMondayFactory$Row;") (List.mem_of_getElem? (i := 1) rfl)) (fun _ h9 => h9) rfl dX0_copyFrom_1 ?_
  refine lv_aload_n hx hb dX0_copyFrom_4 rfl (lv_at hl 1 rfl) ?_
  refine va_get (D := D) (ci := 2) (v := .ref (a1 1)) (C := RX0) (T := TX0) (N := 6) hx hb hts (fun w h => List.mem_cons_of_mem _ (List.mem_append_left _ (List.mem_append_right _ h))) hown hK hP 3 rfl rfl 0 (by decide) (hts (.fieldLink RX0 12 "MondayFactory$Belt" "row" "LMondayFactory$Row;") (List.mem_of_getElem? (i := 1) rfl)) (fun _ h9 => h9) rfl dX0_copyFrom_5 ?_
  refine z_av (va_runV (As := [.ref (a1 1)]) (rest := []) ⟨hx, hb, hml, hown, hts⟩ (c_X6_copyFrom l D k (subA a0 1) (sub2 S0 1) (subA a1 1) (sub2 S1 1)   (by have e0 : ((sub2 S1 1) 0 1) = S1 1 1 := rfl; omega) _) (cwV 1 hts gX0_copyFrom_X6_copyFrom rfl rfl rfl (by decide +kernel) ⟨(Nat.le_of_ble_eq_true rfl), (Nat.le_of_ble_eq_true rfl)⟩) (z_preV hK hG hA hP hD hS [1, 2, 4, 5] rfl (by decide) 8 rfl rfl) rfl rfl hl.1 rfl (lv_room (Nat.le_of_ble_eq_true rfl)) dX0_copyFrom_8 ⟨(Nat.le_of_ble_eq_true rfl), (Nat.le_of_ble_eq_true rfl)⟩) hA hP hD hS [1, 2, 4, 5] rfl rfl (fun H locs hP hD hS => ?_)
  have hP : va_P D vwCl (wBelt k a0 (upA (up2 S0 1 1 (S1 1 1)) 2 (cpyZ (S1 2) (S0 2) 0 0 (((S1 1 1) * 4).toNat))) ++ wBelt k a1 S1) H := hP
  have hD : va_D A (wBelt k a0 (upA (up2 S0 1 1 (S1 1 1)) 2 (cpyZ (S1 2) (S0 2) 0 0 (((S1 1 1) * 4).toNat))) ++ wBelt k a1 S1) := hD
  refine lv_aload_n hx hb dX0_copyFrom_11 rfl (lv_at hl 0 rfl) ?_
  refine lv_aload_n hx hb dX0_copyFrom_12 rfl (lv_at hl 1 rfl) ?_
  refine va_get (D := D) (ci := 2) (v := .int (iI (S1 0 1))) (C := RX0) (T := TX0) (N := 6) hx hb hts (fun w h => List.mem_cons_of_mem _ (List.mem_append_left _ (List.mem_append_right _ h))) hown hK hP 3 rfl rfl 1 (by decide) (hts (.fieldLink RX0 18 "MondayFactory$Belt" "least" "I") (List.mem_of_getElem? (i := 2) rfl)) (fun _ h9 => h9) rfl dX0_copyFrom_13 ?_
  refine va_put (D := D) (ci := 2) (v := .int (iI (S1 0 1))) (ty := .int) (C := RX0) (T := TX0) (N := 6) hx hb hts (fun w h => List.mem_cons_of_mem _ (List.mem_append_left _ (List.mem_append_right _ h))) tyX0 tyX0_ok nmX0 hown hK hP hD hS 0 rfl rfl 1 (by decide) (hts (.fieldLink RX0 18 "MondayFactory$Belt" "least" "I") (List.mem_of_getElem? (i := 2) rfl)) (fun _ h9 => h9) rfl (by decide +kernel) rfl rfl (Nat.le_of_ble_eq_true rfl) dX0_copyFrom_16 (fun H locs hP hD hS => ?_)
  have hP : va_P D vwCl (wBelt k a0 (up2 (upA (up2 S0 1 1 (S1 1 1)) 2 (cpyZ (S1 2) (S0 2) 0 0 (((S1 1 1) * 4).toNat))) 0 1 (S1 0 1)) ++ wBelt k a1 S1) H := hP
  have hD : va_D A (wBelt k a0 (up2 (upA (up2 S0 1 1 (S1 1 1)) 2 (cpyZ (S1 2) (S0 2) 0 0 (((S1 1 1) * 4).toNat))) 0 1 (S1 0 1)) ++ wBelt k a1 S1) := hD
  refine lv_aload_n hx hb dX0_copyFrom_19 rfl (lv_at hl 0 rfl) ?_
  refine lv_aload_n hx hb dX0_copyFrom_20 rfl (lv_at hl 1 rfl) ?_
  refine va_get (D := D) (ci := 2) (v := .int (iI (S1 0 2))) (C := RX0) (T := TX0) (N := 6) hx hb hts (fun w h => List.mem_cons_of_mem _ (List.mem_append_left _ (List.mem_append_right _ h))) hown hK hP 3 rfl rfl 2 (by decide) (hts (.fieldLink RX0 22 "MondayFactory$Belt" "latest" "I") (List.mem_of_getElem? (i := 3) rfl)) (fun _ h9 => h9) rfl dX0_copyFrom_21 ?_
  refine va_put (D := D) (ci := 2) (v := .int (iI (S1 0 2))) (ty := .int) (C := RX0) (T := TX0) (N := 6) hx hb hts (fun w h => List.mem_cons_of_mem _ (List.mem_append_left _ (List.mem_append_right _ h))) tyX0 tyX0_ok nmX0 hown hK hP hD hS 0 rfl rfl 2 (by decide) (hts (.fieldLink RX0 22 "MondayFactory$Belt" "latest" "I") (List.mem_of_getElem? (i := 3) rfl)) (fun _ h9 => h9) rfl (by decide +kernel) rfl rfl (Nat.le_of_ble_eq_true rfl) dX0_copyFrom_24 (fun H locs hP hD hS => ?_)
  have hP : va_P D vwCl (wBelt k a0 (up2 (up2 (upA (up2 S0 1 1 (S1 1 1)) 2 (cpyZ (S1 2) (S0 2) 0 0 (((S1 1 1) * 4).toNat))) 0 1 (S1 0 1)) 0 2 (S1 0 2)) ++ wBelt k a1 S1) H := hP
  have hD : va_D A (wBelt k a0 (up2 (up2 (upA (up2 S0 1 1 (S1 1 1)) 2 (cpyZ (S1 2) (S0 2) 0 0 (((S1 1 1) * 4).toNat))) 0 1 (S1 0 1)) 0 2 (S1 0 2)) ++ wBelt k a1 S1) := hD
  refine lv_aload_n hx hb dX0_copyFrom_27 rfl (lv_at hl 0 rfl) ?_
  refine lv_aload_n hx hb dX0_copyFrom_28 rfl (lv_at hl 1 rfl) ?_
  refine va_get (D := D) (ci := 2) (v := .int (iI (S1 0 3))) (C := RX0) (T := TX0) (N := 6) hx hb hts (fun w h => List.mem_cons_of_mem _ (List.mem_append_left _ (List.mem_append_right _ h))) hown hK hP 3 rfl rfl 3 (by decide) (hts (.fieldLink RX0 25 "MondayFactory$Belt" "last" "I") (List.mem_of_getElem? (i := 4) rfl)) (fun _ h9 => h9) rfl dX0_copyFrom_29 ?_
  refine va_put (D := D) (ci := 2) (v := .int (iI (S1 0 3))) (ty := .int) (C := RX0) (T := TX0) (N := 6) hx hb hts (fun w h => List.mem_cons_of_mem _ (List.mem_append_left _ (List.mem_append_right _ h))) tyX0 tyX0_ok nmX0 hown hK hP hD hS 0 rfl rfl 3 (by decide) (hts (.fieldLink RX0 25 "MondayFactory$Belt" "last" "I") (List.mem_of_getElem? (i := 4) rfl)) (fun _ h9 => h9) rfl (by decide +kernel) rfl rfl (Nat.le_of_ble_eq_true rfl) dX0_copyFrom_32 (fun H locs hP hD hS => ?_)
  have hP : va_P D vwCl (wBelt k a0 (up2 (up2 (up2 (upA (up2 S0 1 1 (S1 1 1)) 2 (cpyZ (S1 2) (S0 2) 0 0 (((S1 1 1) * 4).toNat))) 0 1 (S1 0 1)) 0 2 (S1 0 2)) 0 3 (S1 0 3)) ++ wBelt k a1 S1) H := hP
  have hD : va_D A (wBelt k a0 (up2 (up2 (up2 (upA (up2 S0 1 1 (S1 1 1)) 2 (cpyZ (S1 2) (S0 2) 0 0 (((S1 1 1) * 4).toNat))) 0 1 (S1 0 1)) 0 2 (S1 0 2)) 0 3 (S1 0 3)) ++ wBelt k a1 S1) := hD
  refine lv_aload_n hx hb dX0_copyFrom_35 rfl (lv_at hl 0 rfl) ?_
  refine lv_aload_n hx hb dX0_copyFrom_36 rfl (lv_at hl 1 rfl) ?_
  refine va_get (D := D) (ci := 2) (v := .int (iI (S1 0 4))) (C := RX0) (T := TX0) (N := 6) hx hb hts (fun w h => List.mem_cons_of_mem _ (List.mem_append_left _ (List.mem_append_right _ h))) hown hK hP 3 rfl rfl 4 (by decide) (hts (.fieldLink RX0 28 "MondayFactory$Belt" "inspected" "I") (List.mem_of_getElem? (i := 5) rfl)) (fun _ h9 => h9) rfl dX0_copyFrom_37 ?_
  refine va_put (D := D) (ci := 2) (v := .int (iI (S1 0 4))) (ty := .int) (C := RX0) (T := TX0) (N := 6) hx hb hts (fun w h => List.mem_cons_of_mem _ (List.mem_append_left _ (List.mem_append_right _ h))) tyX0 tyX0_ok nmX0 hown hK hP hD hS 0 rfl rfl 4 (by decide) (hts (.fieldLink RX0 28 "MondayFactory$Belt" "inspected" "I") (List.mem_of_getElem? (i := 5) rfl)) (fun _ h9 => h9) rfl (by decide +kernel) rfl rfl (Nat.le_of_ble_eq_true rfl) dX0_copyFrom_40 (fun H locs hP hD hS => ?_)
  have hP : va_P D vwCl (wBelt k a0 (up2 (up2 (up2 (up2 (upA (up2 S0 1 1 (S1 1 1)) 2 (cpyZ (S1 2) (S0 2) 0 0 (((S1 1 1) * 4).toNat))) 0 1 (S1 0 1)) 0 2 (S1 0 2)) 0 3 (S1 0 3)) 0 4 (S1 0 4)) ++ wBelt k a1 S1) H := hP
  have hD : va_D A (wBelt k a0 (up2 (up2 (up2 (up2 (upA (up2 S0 1 1 (S1 1 1)) 2 (cpyZ (S1 2) (S0 2) 0 0 (((S1 1 1) * 4).toNat))) 0 1 (S1 0 1)) 0 2 (S1 0 2)) 0 3 (S1 0 3)) 0 4 (S1 0 4)) ++ wBelt k a1 S1) := hD
  refine lv_aload_n hx hb dX0_copyFrom_43 rfl (lv_at hl 0 rfl) ?_
  refine lv_aload_n hx hb dX0_copyFrom_44 rfl (lv_at hl 1 rfl) ?_
  refine va_get (D := D) (ci := 2) (v := .int (iI (S1 0 5))) (C := RX0) (T := TX0) (N := 6) hx hb hts (fun w h => List.mem_cons_of_mem _ (List.mem_append_left _ (List.mem_append_right _ h))) hown hK hP 3 rfl rfl 5 (by decide) (hts (.fieldLink RX0 31 "MondayFactory$Belt" "stamped" "I") (List.mem_of_getElem? (i := 6) rfl)) (fun _ h9 => h9) rfl dX0_copyFrom_45 ?_
  refine va_put (D := D) (ci := 2) (v := .int (iI (S1 0 5))) (ty := .int) (C := RX0) (T := TX0) (N := 6) hx hb hts (fun w h => List.mem_cons_of_mem _ (List.mem_append_left _ (List.mem_append_right _ h))) tyX0 tyX0_ok nmX0 hown hK hP hD hS 0 rfl rfl 5 (by decide) (hts (.fieldLink RX0 31 "MondayFactory$Belt" "stamped" "I") (List.mem_of_getElem? (i := 6) rfl)) (fun _ h9 => h9) rfl (by decide +kernel) rfl rfl (Nat.le_of_ble_eq_true rfl) dX0_copyFrom_48 (fun H locs hP hD hS => ?_)
  have hP : va_P D vwCl (wBelt k a0 (up2 (up2 (up2 (up2 (up2 (upA (up2 S0 1 1 (S1 1 1)) 2 (cpyZ (S1 2) (S0 2) 0 0 (((S1 1 1) * 4).toNat))) 0 1 (S1 0 1)) 0 2 (S1 0 2)) 0 3 (S1 0 3)) 0 4 (S1 0 4)) 0 5 (S1 0 5)) ++ wBelt k a1 S1) H := hP
  have hD : va_D A (wBelt k a0 (up2 (up2 (up2 (up2 (up2 (upA (up2 S0 1 1 (S1 1 1)) 2 (cpyZ (S1 2) (S0 2) 0 0 (((S1 1 1) * 4).toNat))) 0 1 (S1 0 1)) 0 2 (S1 0 2)) 0 3 (S1 0 3)) 0 4 (S1 0 4)) 0 5 (S1 0 5)) ++ wBelt k a1 S1) := hD
  exact z_vret hx hb hr hlocks hP hS dX0_copyFrom_51 rfl (Nat.le_refl _) (Nat.le_refl _)
set_option maxHeartbeats 4000000 in
set_option maxRecDepth 100000 in
theorem c_X0_isPassedBy (l : Launch) (D : va_G) (k : Nat → ClassId) (a0 : Nat → Nat) (S0 : Nat → Nat → Int) (p0 : Int) (p1 : Int) (p2 : Int) (hB00 : zBf (S0 0)) (h0 : -2147483648 ≤ p0 ∧ p0 < 2147483648) (h1 : -2147483648 ≤ p1 ∧ p1 < 2147483648) (h2 : -2147483648 ≤ p2 ∧ p2 < 2147483648) : zMi l yX0_isPassedBy wsX0_isPassedBy ({ frames := 0, cells := 0, slots := 0, locals := 0 } : Room) D k [.ref (a0 0), .int (iI p0), .int (iI p1), .int (iI p2)] (wBelt k a0 S0) (zb (wPassed (S0 0) p0 p1 p2)) (wBelt k a0 S0) 0 0 := by
  refine zMi_of (cc := cX0_isPassedBy) (maxL := 4) (ret := (some .boolean)) (by decide) rfl (Nat.le_of_ble_eq_true rfl) ?_
  intro p e s m args below meth c A ls hx hb hr hml hown hts hlocks hK hP hD hG hA hS hl
  have hown : s.vm.findClass RX0 = some m.cls := hown
  have hl : lv_has ls 4 [(0, .ref (a0 0)), (1, .int (iI p0)), (2, .int (iI p1)), (3, .int (iI p2))] := hl
  obtain ⟨H, hH⟩ : ∃ z, z = s.heap := ⟨_, rfl⟩
  obtain ⟨locs, hlc⟩ : ∃ z : List Loc, z = [] := ⟨_, rfl⟩
  rw [← hH] at hP
  have hS : va_S A s.heap H locs := by rw [hH, hlc]; exact hS
  rw [← hlc, ← hH]
  clear hlc hH
  refine lv_iload_n hx hb dX0_isPassedBy_0 rfl (lv_at hl 3 rfl) ?_
  by_cases w_1 : p2 = 1
  · refine z_lookup hx hb dX0_isPassedBy_1 (by decide) (x := p2) ⟨by omega, by omega⟩ (off := 27) (tgt := 28) (by rw [w_1]; decide) (by decide) ?_
    refine lv_iload_n hx hb dX0_isPassedBy_28 rfl (lv_at hl 1 rfl) ?_
    refine lv_aload_n hx hb dX0_isPassedBy_29 rfl (lv_at hl 0 rfl) ?_
    have f_2 := hB00 1
    refine va_get (D := D) (ci := 2) (v := .int (iI (S0 0 1))) (C := RX0) (T := TX0) (N := 6) hx hb hts (fun w h => List.mem_cons_of_mem _ (List.mem_append_right _ h)) hown hK hP 0 rfl rfl 1 (by decide) (hts (.fieldLink RX0 18 "MondayFactory$Belt" "least" "I") (List.mem_of_getElem? (i := 1) rfl)) (fun _ h9 => h9) rfl dX0_isPassedBy_30 ?_
    refine zi_icmp_lt (tgt := 40) hx hb dX0_isPassedBy_33 (by decide) ⟨by omega, by omega⟩ ⟨by omega, by omega⟩ (fun c_3 => ?_) (fun c_3 => ?_)
    · refine lv_iconst (v := iI 0) hx hb dX0_isPassedBy_40 rfl ?_
      exact z_zret hx hb hr hlocks rfl hP hS dX0_isPassedBy_41 (zb_neg (by unfold wPassed; omega)) rfl (Nat.le_refl _) (Nat.le_refl _)
    · refine lv_iconst (v := iI 1) hx hb dX0_isPassedBy_36 rfl ?_
      refine lv_goto (tgt := 41) hx hb dX0_isPassedBy_37 (by decide) ?_
      exact z_zret hx hb hr hlocks rfl hP hS dX0_isPassedBy_41 (zb_pos (by unfold wPassed; omega)) rfl (Nat.le_refl _) (Nat.le_refl _)
  · by_cases w_4 : p2 = 2
    · refine z_lookup hx hb dX0_isPassedBy_1 (by decide) (x := p2) ⟨by omega, by omega⟩ (off := 41) (tgt := 42) (by rw [w_4]; decide) (by decide) ?_
      refine lv_iload_n hx hb dX0_isPassedBy_42 rfl (lv_at hl 2 rfl) ?_
      refine lv_aload_n hx hb dX0_isPassedBy_43 rfl (lv_at hl 0 rfl) ?_
      have f_5 := hB00 2
      refine va_get (D := D) (ci := 2) (v := .int (iI (S0 0 2))) (C := RX0) (T := TX0) (N := 6) hx hb hts (fun w h => List.mem_cons_of_mem _ (List.mem_append_right _ h)) hown hK hP 0 rfl rfl 2 (by decide) (hts (.fieldLink RX0 22 "MondayFactory$Belt" "latest" "I") (List.mem_of_getElem? (i := 2) rfl)) (fun _ h9 => h9) rfl dX0_isPassedBy_44 ?_
      refine zi_icmp_gt (tgt := 54) hx hb dX0_isPassedBy_47 (by decide) ⟨by omega, by omega⟩ ⟨by omega, by omega⟩ (fun c_6 => ?_) (fun c_6 => ?_)
      · refine lv_iconst (v := iI 0) hx hb dX0_isPassedBy_54 rfl ?_
        exact z_zret hx hb hr hlocks rfl hP hS dX0_isPassedBy_55 (zb_neg (by unfold wPassed; omega)) rfl (Nat.le_refl _) (Nat.le_refl _)
      · refine lv_iconst (v := iI 1) hx hb dX0_isPassedBy_50 rfl ?_
        refine lv_goto (tgt := 55) hx hb dX0_isPassedBy_51 (by decide) ?_
        exact z_zret hx hb hr hlocks rfl hP hS dX0_isPassedBy_55 (zb_pos (by unfold wPassed; omega)) rfl (Nat.le_refl _) (Nat.le_refl _)
    · refine z_lookup hx hb dX0_isPassedBy_1 (by decide) (x := p2) ⟨by omega, by omega⟩ (off := 55) (tgt := 56) (by simp [Op.lookupswitch.offset, Ne.symm w_1, Ne.symm w_4]) (by decide) ?_
      refine lv_iload_n hx hb dX0_isPassedBy_56 rfl (lv_at hl 1 rfl) ?_
      refine lv_aload_n hx hb dX0_isPassedBy_57 rfl (lv_at hl 0 rfl) ?_
      have f_7 := hB00 3
      refine va_get (D := D) (ci := 2) (v := .int (iI (S0 0 3))) (C := RX0) (T := TX0) (N := 6) hx hb hts (fun w h => List.mem_cons_of_mem _ (List.mem_append_right _ h)) hown hK hP 0 rfl rfl 3 (by decide) (hts (.fieldLink RX0 25 "MondayFactory$Belt" "last" "I") (List.mem_of_getElem? (i := 3) rfl)) (fun _ h9 => h9) rfl dX0_isPassedBy_58 ?_
      refine zi_icmp_eq (tgt := 68) hx hb dX0_isPassedBy_61 (by decide) ⟨by omega, by omega⟩ ⟨by omega, by omega⟩ (fun c_8 => ?_) (fun c_8 => ?_)
      · refine lv_iconst (v := iI 0) hx hb dX0_isPassedBy_68 rfl ?_
        exact z_zret hx hb hr hlocks rfl hP hS dX0_isPassedBy_69 (zb_neg (by unfold wPassed; omega)) rfl (Nat.le_refl _) (Nat.le_refl _)
      · refine lv_iconst (v := iI 1) hx hb dX0_isPassedBy_64 rfl ?_
        refine lv_goto (tgt := 69) hx hb dX0_isPassedBy_65 (by decide) ?_
        exact z_zret hx hb hr hlocks rfl hP hS dX0_isPassedBy_69 (zb_pos (by unfold wPassed; omega)) rfl (Nat.le_refl _) (Nat.le_refl _)
set_option maxHeartbeats 4000000 in
set_option maxRecDepth 100000 in
theorem c_X0_blanks (l : Launch) (D : va_G) (k : Nat → ClassId) (a0 : Nat → Nat) (S0 : Nat → Nat → Int) (hB02 : zBf (S0 2)) (hc0 : 0 ≤ S0 1 1 ∧ S0 1 1 ≤ 8) : zMi l yX0_blanks wsX0_blanks ({ frames := 2, cells := 0, slots := 0, locals := 44 } : Room) D k [.ref (a0 0)] (wBelt k a0 S0) (wBlanks (S0 2) (S0 1 1)) (wBelt k a0 S0) 0 0 := by
  refine zMi_of (cc := cX0_blanks) (maxL := 3) (ret := (some .int)) (by decide) rfl (Nat.le_of_ble_eq_true rfl) ?_
  intro p e s m args below meth c A ls hx hb hr hml hown hts hlocks hK hP hD hG hA hS hl
  have hown : s.vm.findClass RX0 = some m.cls := hown
  have hl : lv_has ls 3 [(0, .ref (a0 0))] := hl
  obtain ⟨H, hH⟩ : ∃ z, z = s.heap := ⟨_, rfl⟩
  obtain ⟨locs, hlc⟩ : ∃ z : List Loc, z = [] := ⟨_, rfl⟩
  rw [← hH] at hP
  have hS : va_S A s.heap H locs := by rw [hH, hlc]; exact hS
  rw [← hlc, ← hH]
  clear hlc hH
  refine lv_iconst (v := iI 0) hx hb dX0_blanks_0 rfl ?_
  refine lv_istore_n (lv' := [(1, .int (iI 0)), (0, .ref (a0 0))]) hx hb dX0_blanks_1 rfl hl (by decide) rfl (fun ls hl => ?_)
  refine lv_iconst (v := iI 0) hx hb dX0_blanks_2 rfl ?_
  refine lv_istore_n (lv' := [(2, .int (iI 0)), (1, .int (iI 0)), (0, .ref (a0 0))]) hx hb dX0_blanks_3 rfl hl (by decide) rfl (fun ls hl => ?_)
  have lp4_0 : ∀ (n : Nat) (x1 : Int) (x2 : Int), (8 - x2).toNat < n → (0 ≤ x2) → (x2 ≤ S0 1 1) → (x1 = sumI (fun k => zif (wNum (S0 2) (S0 1 1) k 0 = -1) 1 0) x2) → ∀ (H : Heap) (locs : List Loc) (ls : Array Slot), va_P D vwCl (wBelt k a0 S0) H → va_D A (wBelt k a0 S0) → va_S A s.heap H locs → lv_has ls 3 [(2, .int (iI x2)), (1, .int (iI x1)), (0, .ref (a0 0))] → W p l e ({ frames := 2, cells := 0, slots := 0, locals := 44 } : Room) s m args below meth c H locs 0 0 (MQ below (zQi D A (wBlanks (S0 2) (S0 1 1)) (wBelt k a0 S0)) args s 0 0 A) (F0 m 4 ls []) := by
    intro n4
    induction n4 with
    | zero => intro x1 x2 hm; exact absurd hm (Nat.not_lt_zero _)
    | succ n4 ih4 =>
      intro x1 x2 hm4 i0 i1 iF  H locs ls hP hD hS hl
      refine lv_iload_n hx hb dX0_blanks_4 rfl (lv_at hl 0 rfl) ?_
      refine lv_aload_n hx hb dX0_blanks_5 rfl (lv_at hl 2 rfl) ?_
      refine va_get (D := D) (ci := 2) (v := .ref (a0 1)) (C := RX0) (T := TX0) (N := 6) hx hb hts (fun w h => List.mem_cons_of_mem _ (List.mem_append_left _ (List.mem_append_left _ (List.mem_append_right _ h)))) hown hK hP 0 rfl rfl 0 (by decide) (hts (.fieldLink RX0 12 "MondayFactory$Belt" "row" "LMondayFactory$Row;") (List.mem_of_getElem? (i := 1) rfl)) (fun _ h9 => h9) rfl dX0_blanks_6 ?_
      refine va_get (D := D) (ci := 8) (v := .int (iI (S0 1 1))) (C := RX6) (T := TX6) (N := 2) hx hb hts (fun w h => List.mem_cons_of_mem _ (List.mem_append_left _ (List.mem_append_right _ h))) hown hK hP 1 rfl rfl 1 (by decide) (hts (.fieldLink RX0 38 "MondayFactory$Row" "count" "I") (List.mem_of_getElem? (i := 2) rfl)) (fun _ h9 => h9) rfl dX0_blanks_9 ?_
      refine zi_icmp_ge (tgt := 40) hx hb dX0_blanks_12 (by decide) ⟨by omega, by omega⟩ ⟨by omega, by omega⟩ (fun c_1 => ?_) (fun c_1 => ?_)
      · have v_2 : x1 = wBlanks (S0 2) (S0 1 1) := (by rw [iF, show x2 = S0 1 1 by omega]; rfl)
        rw [v_2] at hl
        refine lv_iload_n hx hb dX0_blanks_40 rfl (lv_at hl 1 rfl) ?_
        exact z_iret hx hb hr hlocks hP hS dX0_blanks_41 rfl rfl (Nat.le_refl _) (Nat.le_refl _)
      · refine lv_iload_n hx hb dX0_blanks_15 rfl (lv_at hl 1 rfl) ?_
        refine lv_aload_n hx hb dX0_blanks_16 rfl (lv_at hl 2 rfl) ?_
        refine va_get (D := D) (ci := 2) (v := .ref (a0 1)) (C := RX0) (T := TX0) (N := 6) hx hb hts (fun w h => List.mem_cons_of_mem _ (List.mem_append_left _ (List.mem_append_left _ (List.mem_append_right _ h)))) hown hK hP 0 rfl rfl 0 (by decide) (hts (.fieldLink RX0 12 "MondayFactory$Belt" "row" "LMondayFactory$Row;") (List.mem_of_getElem? (i := 1) rfl)) (fun _ h9 => h9) rfl dX0_blanks_17 ?_
        refine lv_iload_n hx hb dX0_blanks_20 rfl (lv_at hl 0 rfl) ?_
        refine z_ai0 (va_runV (As := [.int (iI x2)]) (rest := [.int (iI x1)]) ⟨hx, hb, hml, hown, hts⟩ (c_X6_isBlank l D k (subA a0 1) (sub2 S0 1)  x2 hB02 (by have e0 : ((sub2 S0 1) 0 1) = S0 1 1 := rfl; omega) (by omega) _) (cwV 1 hts gX0_blanks_X6_isBlank rfl rfl rfl (by decide +kernel) ⟨(Nat.le_of_ble_eq_true rfl), (Nat.le_of_ble_eq_true rfl)⟩) (z_preV hK hG hA hP hD hS [1, 2] rfl (by decide) 8 rfl rfl) rfl rfl hl.1 rfl (lv_room (Nat.le_of_ble_eq_true rfl)) dX0_blanks_21 ⟨(Nat.le_of_ble_eq_true rfl), (Nat.le_of_ble_eq_true rfl)⟩) hA hP hD hS [1, 2] rfl (fun H locs hP hS => ?_)
        refine z_eqi (z2 := zb (wNum (S0 2) (S0 1 1) x2 0 = -1)) rfl ?_
        refine zi_if_eqB (tgt := 31) hx hb dX0_blanks_24 (by decide) (fun c_3 => ?_) (fun c_3 => ?_)
        · refine lv_iconst (v := iI 0) hx hb dX0_blanks_31 rfl ?_
          refine zi_add hx hb dX0_blanks_32 ?_
          refine lv_istore_n (lv' := [(1, .int (iI (x1 + 0))), (2, .int (iI x2)), (0, .ref (a0 0))]) hx hb dX0_blanks_33 rfl hl (by decide) rfl (fun ls hl => ?_)
          refine lv_iinc (v := iI (x2 + 1)) (lv' := [(2, .int (iI (x2 + 1))), (1, .int (iI (x1 + 0))), (0, .ref (a0 0))]) hx hb dX0_blanks_34 hl (k := 1) rfl (iI_add _ _) (by decide) rfl (fun ls hl => ?_)
          refine lv_goto (tgt := 4) hx hb dX0_blanks_37 (by decide) ?_
          exact ih4 (x1 + 0) (x2 + 1) (by omega) (by omega) (by omega) (by rw [iF]; first | exact sumI_e i0 (zif_pos (by assumption)).symm | exact sumI_e i0 (zif_neg (by assumption)).symm)  H locs ls hP hD hS (lv_sub hl [0, 1, 2] rfl)
        · refine lv_iconst (v := iI 1) hx hb dX0_blanks_27 rfl ?_
          refine lv_goto (tgt := 32) hx hb dX0_blanks_28 (by decide) ?_
          refine zi_add hx hb dX0_blanks_32 ?_
          refine lv_istore_n (lv' := [(1, .int (iI (x1 + 1))), (2, .int (iI x2)), (0, .ref (a0 0))]) hx hb dX0_blanks_33 rfl hl (by decide) rfl (fun ls hl => ?_)
          refine lv_iinc (v := iI (x2 + 1)) (lv' := [(2, .int (iI (x2 + 1))), (1, .int (iI (x1 + 1))), (0, .ref (a0 0))]) hx hb dX0_blanks_34 hl (k := 1) rfl (iI_add _ _) (by decide) rfl (fun ls hl => ?_)
          refine lv_goto (tgt := 4) hx hb dX0_blanks_37 (by decide) ?_
          exact ih4 (x1 + 1) (x2 + 1) (by omega) (by omega) (by omega) (by rw [iF]; first | exact sumI_e i0 (zif_pos (by assumption)).symm | exact sumI_e i0 (zif_neg (by assumption)).symm)  H locs ls hP hD hS (lv_sub hl [0, 1, 2] rfl)
  exact lp4_0 9 0 0 (by omega) (by omega) (by omega) rfl  H locs ls hP hD hS (lv_sub hl [0, 1, 2] rfl)
set_option maxHeartbeats 4000000 in
set_option maxRecDepth 100000 in
theorem c_X0_greys (l : Launch) (D : va_G) (k : Nat → ClassId) (a0 : Nat → Nat) (S0 : Nat → Nat → Int) (hB02 : zBf (S0 2)) (hc0 : 0 ≤ S0 1 1 ∧ S0 1 1 ≤ 8) : zMi l yX0_greys wsX0_greys ({ frames := 2, cells := 0, slots := 0, locals := 44 } : Room) D k [.ref (a0 0)] (wBelt k a0 S0) (wGreys (S0 2) (S0 1 1)) (wBelt k a0 S0) 0 0 := by
  refine zMi_of (cc := cX0_greys) (maxL := 3) (ret := (some .int)) (by decide) rfl (Nat.le_of_ble_eq_true rfl) ?_
  intro p e s m args below meth c A ls hx hb hr hml hown hts hlocks hK hP hD hG hA hS hl
  have hown : s.vm.findClass RX0 = some m.cls := hown
  have hl : lv_has ls 3 [(0, .ref (a0 0))] := hl
  obtain ⟨H, hH⟩ : ∃ z, z = s.heap := ⟨_, rfl⟩
  obtain ⟨locs, hlc⟩ : ∃ z : List Loc, z = [] := ⟨_, rfl⟩
  rw [← hH] at hP
  have hS : va_S A s.heap H locs := by rw [hH, hlc]; exact hS
  rw [← hlc, ← hH]
  clear hlc hH
  refine lv_iconst (v := iI 0) hx hb dX0_greys_0 rfl ?_
  refine lv_istore_n (lv' := [(1, .int (iI 0)), (0, .ref (a0 0))]) hx hb dX0_greys_1 rfl hl (by decide) rfl (fun ls hl => ?_)
  refine lv_iconst (v := iI 0) hx hb dX0_greys_2 rfl ?_
  refine lv_istore_n (lv' := [(2, .int (iI 0)), (1, .int (iI 0)), (0, .ref (a0 0))]) hx hb dX0_greys_3 rfl hl (by decide) rfl (fun ls hl => ?_)
  have lp4_0 : ∀ (n : Nat) (x1 : Int) (x2 : Int), (8 - x2).toNat < n → (0 ≤ x2) → (x2 ≤ S0 1 1) → (x1 = sumI (fun k => zif (wNum (S0 2) (S0 1 1) k 0 = -1) 0 (wNum (S0 2) (S0 1 1) k 0)) x2) → ∀ (H : Heap) (locs : List Loc) (ls : Array Slot), va_P D vwCl (wBelt k a0 S0) H → va_D A (wBelt k a0 S0) → va_S A s.heap H locs → lv_has ls 3 [(2, .int (iI x2)), (1, .int (iI x1)), (0, .ref (a0 0))] → W p l e ({ frames := 2, cells := 0, slots := 0, locals := 44 } : Room) s m args below meth c H locs 0 0 (MQ below (zQi D A (wGreys (S0 2) (S0 1 1)) (wBelt k a0 S0)) args s 0 0 A) (F0 m 4 ls []) := by
    intro n4
    induction n4 with
    | zero => intro x1 x2 hm; exact absurd hm (Nat.not_lt_zero _)
    | succ n4 ih4 =>
      intro x1 x2 hm4 i0 i1 iF  H locs ls hP hD hS hl
      refine lv_iload_n hx hb dX0_greys_4 rfl (lv_at hl 0 rfl) ?_
      refine lv_aload_n hx hb dX0_greys_5 rfl (lv_at hl 2 rfl) ?_
      refine va_get (D := D) (ci := 2) (v := .ref (a0 1)) (C := RX0) (T := TX0) (N := 6) hx hb hts (fun w h => List.mem_cons_of_mem _ (List.mem_append_left _ (List.mem_append_left _ (List.mem_append_right _ h)))) hown hK hP 0 rfl rfl 0 (by decide) (hts (.fieldLink RX0 12 "MondayFactory$Belt" "row" "LMondayFactory$Row;") (List.mem_of_getElem? (i := 1) rfl)) (fun _ h9 => h9) rfl dX0_greys_6 ?_
      refine va_get (D := D) (ci := 8) (v := .int (iI (S0 1 1))) (C := RX6) (T := TX6) (N := 2) hx hb hts (fun w h => List.mem_cons_of_mem _ (List.mem_append_left _ (List.mem_append_right _ h))) hown hK hP 1 rfl rfl 1 (by decide) (hts (.fieldLink RX0 38 "MondayFactory$Row" "count" "I") (List.mem_of_getElem? (i := 2) rfl)) (fun _ h9 => h9) rfl dX0_greys_9 ?_
      refine zi_icmp_ge (tgt := 47) hx hb dX0_greys_12 (by decide) ⟨by omega, by omega⟩ ⟨by omega, by omega⟩ (fun c_1 => ?_) (fun c_1 => ?_)
      · have v_2 : x1 = wGreys (S0 2) (S0 1 1) := (by rw [iF, show x2 = S0 1 1 by omega]; rfl)
        rw [v_2] at hl
        refine lv_iload_n hx hb dX0_greys_47 rfl (lv_at hl 1 rfl) ?_
        exact z_iret hx hb hr hlocks hP hS dX0_greys_48 rfl rfl (Nat.le_refl _) (Nat.le_refl _)
      · refine lv_iload_n hx hb dX0_greys_15 rfl (lv_at hl 1 rfl) ?_
        refine lv_aload_n hx hb dX0_greys_16 rfl (lv_at hl 2 rfl) ?_
        refine va_get (D := D) (ci := 2) (v := .ref (a0 1)) (C := RX0) (T := TX0) (N := 6) hx hb hts (fun w h => List.mem_cons_of_mem _ (List.mem_append_left _ (List.mem_append_left _ (List.mem_append_right _ h)))) hown hK hP 0 rfl rfl 0 (by decide) (hts (.fieldLink RX0 12 "MondayFactory$Belt" "row" "LMondayFactory$Row;") (List.mem_of_getElem? (i := 1) rfl)) (fun _ h9 => h9) rfl dX0_greys_17 ?_
        refine lv_iload_n hx hb dX0_greys_20 rfl (lv_at hl 0 rfl) ?_
        refine z_ai0 (va_runV (As := [.int (iI x2)]) (rest := [.int (iI x1)]) ⟨hx, hb, hml, hown, hts⟩ (c_X6_isBlank l D k (subA a0 1) (sub2 S0 1)  x2 hB02 (by have e0 : ((sub2 S0 1) 0 1) = S0 1 1 := rfl; omega) (by omega) _) (cwV 1 hts gX0_greys_X6_isBlank rfl rfl rfl (by decide +kernel) ⟨(Nat.le_of_ble_eq_true rfl), (Nat.le_of_ble_eq_true rfl)⟩) (z_preV hK hG hA hP hD hS [1, 2] rfl (by decide) 8 rfl rfl) rfl rfl hl.1 rfl (lv_room (Nat.le_of_ble_eq_true rfl)) dX0_greys_21 ⟨(Nat.le_of_ble_eq_true rfl), (Nat.le_of_ble_eq_true rfl)⟩) hA hP hD hS [1, 2] rfl (fun H locs hP hS => ?_)
        refine z_eqi (z2 := zb (wNum (S0 2) (S0 1 1) x2 0 = -1)) rfl ?_
        refine zi_if_eqB (tgt := 31) hx hb dX0_greys_24 (by decide) (fun c_3 => ?_) (fun c_3 => ?_)
        · refine lv_aload_n hx hb dX0_greys_31 rfl (lv_at hl 2 rfl) ?_
          refine va_get (D := D) (ci := 2) (v := .ref (a0 1)) (C := RX0) (T := TX0) (N := 6) hx hb hts (fun w h => List.mem_cons_of_mem _ (List.mem_append_left _ (List.mem_append_left _ (List.mem_append_right _ h)))) hown hK hP 0 rfl rfl 0 (by decide) (hts (.fieldLink RX0 12 "MondayFactory$Belt" "row" "LMondayFactory$Row;") (List.mem_of_getElem? (i := 1) rfl)) (fun _ h9 => h9) rfl dX0_greys_32 ?_
          refine lv_iload_n hx hb dX0_greys_35 rfl (lv_at hl 0 rfl) ?_
          refine z_ai0 (va_runV (As := [.int (iI x2)]) (rest := [.int (iI x1)]) ⟨hx, hb, hml, hown, hts⟩ (c_X6_grey l D k (subA a0 1) (sub2 S0 1)  x2 hB02 (by have e0 : ((sub2 S0 1) 0 1) = S0 1 1 := rfl; omega) (by omega) _) (cwV 1 hts gX0_greys_X6_grey rfl rfl rfl (by decide +kernel) ⟨(Nat.le_of_ble_eq_true rfl), (Nat.le_of_ble_eq_true rfl)⟩) (z_preV hK hG hA hP hD hS [1, 2] rfl (by decide) 8 rfl rfl) rfl rfl hl.1 rfl (lv_room (Nat.le_of_ble_eq_true rfl)) dX0_greys_36 ⟨(Nat.le_of_ble_eq_true rfl), (Nat.le_of_ble_eq_true rfl)⟩) hA hP hD hS [1, 2] rfl (fun H locs hP hS => ?_)
          refine z_eqi (z2 := wNum (S0 2) (S0 1 1) x2 0) rfl ?_
          have q_4 : -1000000000 ≤ wNum (S0 2) (S0 1 1) x2 0 ∧ wNum (S0 2) (S0 1 1) x2 0 ≤ 1000000000 := wNum_bd hB02
          refine zi_add hx hb dX0_greys_39 ?_
          refine lv_istore_n (lv' := [(1, .int (iI (x1 + (wNum (S0 2) (S0 1 1) x2 0)))), (2, .int (iI x2)), (0, .ref (a0 0))]) hx hb dX0_greys_40 rfl hl (by decide) rfl (fun ls hl => ?_)
          refine lv_iinc (v := iI (x2 + 1)) (lv' := [(2, .int (iI (x2 + 1))), (1, .int (iI (x1 + (wNum (S0 2) (S0 1 1) x2 0)))), (0, .ref (a0 0))]) hx hb dX0_greys_41 hl (k := 1) rfl (iI_add _ _) (by decide) rfl (fun ls hl => ?_)
          refine lv_goto (tgt := 4) hx hb dX0_greys_44 (by decide) ?_
          exact ih4 (x1 + (wNum (S0 2) (S0 1 1) x2 0)) (x2 + 1) (by omega) (by omega) (by omega) (by rw [iF]; first | exact sumI_e i0 (zif_pos (by assumption)).symm | exact sumI_e i0 (zif_neg (by assumption)).symm)  H locs ls hP hD hS (lv_sub hl [0, 1, 2] rfl)
        · refine lv_iconst (v := iI 0) hx hb dX0_greys_27 rfl ?_
          refine lv_goto (tgt := 39) hx hb dX0_greys_28 (by decide) ?_
          refine zi_add hx hb dX0_greys_39 ?_
          refine lv_istore_n (lv' := [(1, .int (iI (x1 + 0))), (2, .int (iI x2)), (0, .ref (a0 0))]) hx hb dX0_greys_40 rfl hl (by decide) rfl (fun ls hl => ?_)
          refine lv_iinc (v := iI (x2 + 1)) (lv' := [(2, .int (iI (x2 + 1))), (1, .int (iI (x1 + 0))), (0, .ref (a0 0))]) hx hb dX0_greys_41 hl (k := 1) rfl (iI_add _ _) (by decide) rfl (fun ls hl => ?_)
          refine lv_goto (tgt := 4) hx hb dX0_greys_44 (by decide) ?_
          exact ih4 (x1 + 0) (x2 + 1) (by omega) (by omega) (by omega) (by rw [iF]; first | exact sumI_e i0 (zif_pos (by assumption)).symm | exact sumI_e i0 (zif_neg (by assumption)).symm)  H locs ls hP hD hS (lv_sub hl [0, 1, 2] rfl)
  exact lp4_0 9 0 0 (by omega) (by omega) (by omega) rfl  H locs ls hP hD hS (lv_sub hl [0, 1, 2] rfl)
