/-- a change of scalars, place by place -/
theorem zBk_fr {K : Int} {f g : Nat → Int} (h : zBk K f) (hg : ∀ j, g j = f j ∨ (-K ≤ g j ∧ g j ≤ K)) : zBk K g := by
  intro j
  rcases hg j with e | e
  · rw [e]; exact h j
  · exact e
/-- no belt's inspections are negative -/
def nnP (S : Nat → Nat → Int) : Prop := 0 ≤ S 2 4 ∧ 0 ≤ S 5 4 ∧ 0 ≤ S 8 4
theorem nl1 {f : Nat → Int} {x y : Int} (h : 0 ≤ f 4) : 0 ≤ upZ (upZ (upZ f 3 x) 4 (f 4 + 1)) 5 y 4 := by
  rw [upZ_n (by decide), upZ_s]
  omega
theorem nl2 {f : Nat → Int} {x : Int} (h : 0 ≤ f 4) : 0 ≤ upZ (upZ f 3 x) 4 (f 4 + 1) 4 := by
  rw [upZ_s]
  omega
theorem nl3 {f : Nat → Int} {x y : Int} (h : 0 ≤ f 4) : 0 ≤ upZ (upZ f 1 x) 2 y 4 := by
  rw [upZ_n (by decide), upZ_n (by decide)]
  exact h
theorem ni_0 {S : Nat → Nat → Int} (h : 0 ≤ S 2 4) : 0 ≤ sS0_2_X5_inspectFront_0 S 4 := by
  unfold sS0_2_X5_inspectFront_0
  refine el1 (Q := fun f : Nat → Int => 0 ≤ f 4) (fun _ => h) (fun _ => ?_)
  unfold sS0_2_X5_inspectMonday_0
  exact el1 (Q := fun f : Nat → Int => 0 ≤ f 4) (fun _ => nl1 h) (fun _ => nl2 h)
theorem nc_0 {P : Nat → Nat → Int} {c p1 p2 p3 : Int} (h : 0 ≤ P 2 4) : 0 ≤ wCarry P c p1 p2 p3 2 4 := by
  show 0 ≤ sS0_2_X5_carryOut P c p1 p2 p3 4
  unfold sS0_2_X5_carryOut
  repeat (first | with_reducible exact h | with_reducible exact ni_0 h | with_reducible exact nl3 h | with_reducible refine el1 (Q := fun f : Nat → Int => 0 ≤ f 4) (fun _ => ?_) (fun _ => ?_))
theorem ni_1 {S : Nat → Nat → Int} (h : 0 ≤ S 5 4) : 0 ≤ sS0_5_X5_inspectFront_1 S 4 := by
  unfold sS0_5_X5_inspectFront_1
  refine el1 (Q := fun f : Nat → Int => 0 ≤ f 4) (fun _ => h) (fun _ => ?_)
  unfold sS0_5_X5_inspectMonday_1
  exact el1 (Q := fun f : Nat → Int => 0 ≤ f 4) (fun _ => nl1 h) (fun _ => nl2 h)
theorem nc_1 {P : Nat → Nat → Int} {c p1 p2 p3 : Int} (h : 0 ≤ P 5 4) : 0 ≤ wCarry P c p1 p2 p3 5 4 := by
  show 0 ≤ sS0_5_X5_carryOut P c p1 p2 p3 4
  unfold sS0_5_X5_carryOut
  repeat (first | with_reducible exact h | with_reducible exact ni_1 h | with_reducible exact nl3 h | with_reducible refine el1 (Q := fun f : Nat → Int => 0 ≤ f 4) (fun _ => ?_) (fun _ => ?_))
theorem ni_2 {S : Nat → Nat → Int} (h : 0 ≤ S 8 4) : 0 ≤ sS0_8_X5_inspectFront_2 S 4 := by
  unfold sS0_8_X5_inspectFront_2
  refine el1 (Q := fun f : Nat → Int => 0 ≤ f 4) (fun _ => h) (fun _ => ?_)
  unfold sS0_8_X5_inspectMonday_2
  exact el1 (Q := fun f : Nat → Int => 0 ≤ f 4) (fun _ => nl1 h) (fun _ => nl2 h)
theorem nc_2 {P : Nat → Nat → Int} {c p1 p2 p3 : Int} (h : 0 ≤ P 8 4) : 0 ≤ wCarry P c p1 p2 p3 8 4 := by
  show 0 ≤ sS0_8_X5_carryOut P c p1 p2 p3 4
  unfold sS0_8_X5_carryOut
  repeat (first | with_reducible exact h | with_reducible exact ni_2 h | with_reducible exact nl3 h | with_reducible refine el1 (Q := fun f : Nat → Int => 0 ≤ f 4) (fun _ => ?_) (fun _ => ?_))
theorem nn_carry {P : Nat → Nat → Int} {c p1 p2 p3 : Int} (h : nnP P) : nnP (wCarry P c p1 p2 p3) := ⟨nc_0 h.1, nc_1 h.2.1, nc_2 h.2.2⟩
theorem nn_copy {S P : Nat → Nat → Int} (h : nnP P) : nnP (wCopy S P) := h
theorem nn_tPl {I : Nat → Int} {P : Nat → Nat → Int} (h : nnP P) : ∀ n, nnP (tPl I P n) := by
  intro n
  induction n with
  | zero => exact h
  | succ n ih =>
    rcases Classical.em (iNums (iSign I n) = -2) with z | z
    · rw [tPl_z z]; exact ih
    · rw [tPl_o z]; exact nn_carry ih
theorem nq_up {G : Nat → Nat → Nat → Int} {P : Nat → Nat → Int} {i0 : Nat} (g : ∀ i, i < 8 → nnP (G i)) (h : nnP P) : ∀ i, i < 8 → nnP (upG G i0 (wCopy (G i0) P) i) := by
  intro i hi
  unfold upG
  by_cases z : i = i0
  · rw [if_pos z]; exact nn_copy h
  · rw [if_neg z]; exact g i hi
