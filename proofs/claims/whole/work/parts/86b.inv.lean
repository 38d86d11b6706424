/-- the reference's scalars -/
theorem sc_keeps {K : Int} {S : Nat → Nat → Int} {b : Nat} (h : zBk (4 * K) (S 0)) (hK : 1000 ≤ K) (h5 : 0 ≤ S 0 5 ∧ S 0 5 ≤ 8) : zBk (4 * K) (sS0_0_X8_keeps S b) := by
  unfold sS0_0_X8_keeps
  repeat (first | with_reducible exact h | with_reducible refine el1 (Q := zBk (4 * K)) (fun _ => ?_) (fun _ => ?_) | with_reducible refine zBk.up ?_ ⟨by omega, by omega⟩)
theorem sd_keeps {K : Int} {S : Nat → Nat → Int} {b : Nat} (h1 : zBk K (S 1)) (h2 : zBk K (S 2)) (h4 : zBk K (S 4)) : zBk K (sS0_2_X8_keeps S b) := by
  unfold sS0_2_X8_keeps
  exact el1 (Q := zBk K) (fun _ => el1 (Q := zBk K) (fun _ => el1 (Q := zBk K) (fun _ => h1.cpy (h2.shf _ _ _) _ _ _) (fun _ => h1.cpy h2 _ _ _)) (fun _ => h2)) (fun _ => el1 (Q := zBk K) (fun _ => el1 (Q := zBk K) (fun _ => h4.cpy (h2.shf _ _ _) _ _ _) (fun _ => h4.cpy h2 _ _ _)) (fun _ => h2))
theorem sc_make {K : Int} {R : Nat → Nat → Int} {p0 p1 p2 : Int} (h : zBk (4 * K) (R 0)) (g : zBk K (R 1)) (hK : 1000 ≤ K) (h5 : 0 ≤ R 0 5 ∧ R 0 5 ≤ 8) (h12 : 0 ≤ R 0 12 ∧ R 0 12 ≤ 60) : zBk (4 * K) (sS0_0_X8_make R p0 p1 p2) := by
  have g0 := g 0
  have g1 := g 1
  unfold sS0_0_X8_make
  have hr : ∀ b, zBk (4 * K) (sS0_0_X8_keeps R b) := fun b => sc_keeps (S := R) h hK h5
  have hk : ∀ b, zBk (4 * K) (sS0_0_X8_keeps (upA R 0 (upZ (upZ (R 0) 8 0) 7 0)) b) := fun b => sc_keeps (S := upA R 0 (upZ (upZ (R 0) 8 0) 7 0)) ((h.up ⟨by omega, by omega⟩).up ⟨by omega, by omega⟩) hK h5
  repeat (first | with_reducible exact h | with_reducible exact hk _ | with_reducible exact hr _ | with_reducible refine el1 (Q := zBk (4 * K)) (fun _ => ?_) (fun _ => ?_) | with_reducible refine zBk.up ?_ ⟨by omega, by omega⟩)
theorem sd_make {K : Int} {R : Nat → Nat → Int} {p0 p1 p2 : Int} (h1 : zBk K (R 1)) (h2 : zBk K (R 2)) (h4 : zBk K (R 4)) : zBk K (sS0_2_X8_make R p0 p1 p2) := by
  unfold sS0_2_X8_make
  have hr : ∀ b, zBk K (sS0_2_X8_keeps R b) := fun b => sd_keeps (S := R) h1 h2 h4
  have hk : ∀ b, zBk K (sS0_2_X8_keeps (upA R 0 (upZ (upZ (R 0) 8 0) 7 0)) b) := fun b => sd_keeps (S := upA R 0 (upZ (upZ (R 0) 8 0) 7 0)) h1 h2 h4
  repeat (first | with_reducible exact h2 | with_reducible exact hk _ | with_reducible exact hr _ | with_reducible refine el1 (Q := zBk K) (fun _ => ?_) (fun _ => ?_))
theorem sc_blank {K : Int} {R : Nat → Nat → Int} {p0 : Int} (h : zBk (4 * K) (R 0)) (g : zBk K (R 1)) (hK : 1000 ≤ K) (h5 : 0 ≤ R 0 5 ∧ R 0 5 ≤ 8) (h12 : 0 ≤ R 0 12 ∧ R 0 12 ≤ 60) : zBk (4 * K) (sS0_0_X8_blank R p0) := by
  have g0 := g 0
  have g1 := g 1
  unfold sS0_0_X8_blank
  have hr : ∀ b, zBk (4 * K) (sS0_0_X8_keeps R b) := fun b => sc_keeps (S := R) h hK h5
  have hk : ∀ b, zBk (4 * K) (sS0_0_X8_keeps (upA R 0 (upZ (upZ (R 0) 8 0) 7 0)) b) := fun b => sc_keeps (S := upA R 0 (upZ (upZ (R 0) 8 0) 7 0)) ((h.up ⟨by omega, by omega⟩).up ⟨by omega, by omega⟩) hK h5
  repeat (first | with_reducible exact h | with_reducible exact hk _ | with_reducible exact hr _ | with_reducible refine el1 (Q := zBk (4 * K)) (fun _ => ?_) (fun _ => ?_) | with_reducible refine zBk.up ?_ ⟨by omega, by omega⟩)
theorem sd_blank {K : Int} {R : Nat → Nat → Int} {p0 : Int} (h1 : zBk K (R 1)) (h2 : zBk K (R 2)) (h4 : zBk K (R 4)) : zBk K (sS0_2_X8_blank R p0) := by
  unfold sS0_2_X8_blank
  have hr : ∀ b, zBk K (sS0_2_X8_keeps R b) := fun b => sd_keeps (S := R) h1 h2 h4
  have hk : ∀ b, zBk K (sS0_2_X8_keeps (upA R 0 (upZ (upZ (R 0) 8 0) 7 0)) b) := fun b => sd_keeps (S := upA R 0 (upZ (upZ (R 0) 8 0) 7 0)) h1 h2 h4
  repeat (first | with_reducible exact h2 | with_reducible exact hk _ | with_reducible exact hr _ | with_reducible refine el1 (Q := zBk K) (fun _ => ?_) (fun _ => ?_))
theorem sc_tell {K : Int} {R : Nat → Nat → Int} {p0 p1 p2 : Int} (h : zBk (4 * K) (R 0)) (g : zBk K (R 1)) (hK : 1000 ≤ K) (h5 : 0 ≤ R 0 5 ∧ R 0 5 ≤ 8) (h12 : 0 ≤ R 0 12 ∧ R 0 12 ≤ 60) : zBk (4 * K) (sS0_0_X8_tell R p0 p1 p2) := by
  have g0 := g 0
  have g1 := g 1
  unfold sS0_0_X8_tell
  have hr : ∀ b, zBk (4 * K) (sS0_0_X8_keeps R b) := fun b => sc_keeps (S := R) h hK h5
  have hk : ∀ b, zBk (4 * K) (sS0_0_X8_keeps (upA R 0 (upZ (upZ (R 0) 8 0) 7 0)) b) := fun b => sc_keeps (S := upA R 0 (upZ (upZ (R 0) 8 0) 7 0)) ((h.up ⟨by omega, by omega⟩).up ⟨by omega, by omega⟩) hK h5
  repeat (first | with_reducible exact h | with_reducible exact hk _ | with_reducible exact hr _ | with_reducible refine el1 (Q := zBk (4 * K)) (fun _ => ?_) (fun _ => ?_) | with_reducible refine zBk.up ?_ ⟨by omega, by omega⟩)
theorem sd_tell {K : Int} {R : Nat → Nat → Int} {p0 p1 p2 : Int} (h1 : zBk K (R 1)) (h2 : zBk K (R 2)) (h4 : zBk K (R 4)) : zBk K (sS0_2_X8_tell R p0 p1 p2) := by
  unfold sS0_2_X8_tell
  have hr : ∀ b, zBk K (sS0_2_X8_keeps R b) := fun b => sd_keeps (S := R) h1 h2 h4
  have hk : ∀ b, zBk K (sS0_2_X8_keeps (upA R 0 (upZ (upZ (R 0) 8 0) 7 0)) b) := fun b => sd_keeps (S := upA R 0 (upZ (upZ (R 0) 8 0) 7 0)) h1 h2 h4
  repeat (first | with_reducible exact h2 | with_reducible exact hk _ | with_reducible exact hr _ | with_reducible refine el1 (Q := zBk K) (fun _ => ?_) (fun _ => ?_))
theorem sc_inspect {K : Int} {R : Nat → Nat → Int} {p0 : Int} (h : zBk (4 * K) (R 0)) (g : zBk K (R 1)) (hK : 1000 ≤ K) (h5 : 0 ≤ R 0 5 ∧ R 0 5 ≤ 8) (h12 : 0 ≤ R 0 12 ∧ R 0 12 ≤ 60) : zBk (4 * K) (sS0_0_X8_inspect R p0) := by
  have g0 := g 0
  have g1 := g 1
  unfold sS0_0_X8_inspect
  have hr : ∀ b, zBk (4 * K) (sS0_0_X8_keeps R b) := fun b => sc_keeps (S := R) h hK h5
  have hk : ∀ b, zBk (4 * K) (sS0_0_X8_keeps (upA R 0 (upZ (upZ (R 0) 8 0) 7 0)) b) := fun b => sc_keeps (S := upA R 0 (upZ (upZ (R 0) 8 0) 7 0)) ((h.up ⟨by omega, by omega⟩).up ⟨by omega, by omega⟩) hK h5
  repeat (first | with_reducible exact h | with_reducible exact hk _ | with_reducible exact hr _ | with_reducible refine el1 (Q := zBk (4 * K)) (fun _ => ?_) (fun _ => ?_) | with_reducible refine zBk.up ?_ ⟨by omega, by omega⟩)
theorem sd_inspect {K : Int} {R : Nat → Nat → Int} {p0 : Int} (h1 : zBk K (R 1)) (h2 : zBk K (R 2)) (h4 : zBk K (R 4)) : zBk K (sS0_2_X8_inspect R p0) := by
  unfold sS0_2_X8_inspect
  have hr : ∀ b, zBk K (sS0_2_X8_keeps R b) := fun b => sd_keeps (S := R) h1 h2 h4
  have hk : ∀ b, zBk K (sS0_2_X8_keeps (upA R 0 (upZ (upZ (R 0) 8 0) 7 0)) b) := fun b => sd_keeps (S := upA R 0 (upZ (upZ (R 0) 8 0) 7 0)) h1 h2 h4
  repeat (first | with_reducible exact h2 | with_reducible exact hk _ | with_reducible exact hr _ | with_reducible refine el1 (Q := zBk K) (fun _ => ?_) (fun _ => ?_))
theorem sc_hire {K : Int} {R : Nat → Nat → Int} (h : zBk (4 * K) (R 0)) (g : zBk K (R 1)) (hK : 1000 ≤ K) (h5 : 0 ≤ R 0 5 ∧ R 0 5 ≤ 8) (h12 : 0 ≤ R 0 12 ∧ R 0 12 ≤ 60) : zBk (4 * K) (sS0_0_X8_hire R) := by
  have g0 := g 0
  have g1 := g 1
  unfold sS0_0_X8_hire
  have hr : ∀ b, zBk (4 * K) (sS0_0_X8_keeps R b) := fun b => sc_keeps (S := R) h hK h5
  have hk : ∀ b, zBk (4 * K) (sS0_0_X8_keeps (upA R 0 (upZ (upZ (R 0) 8 0) 7 0)) b) := fun b => sc_keeps (S := upA R 0 (upZ (upZ (R 0) 8 0) 7 0)) ((h.up ⟨by omega, by omega⟩).up ⟨by omega, by omega⟩) hK h5
  repeat (first | with_reducible exact h | with_reducible exact hk _ | with_reducible exact hr _ | with_reducible refine el1 (Q := zBk (4 * K)) (fun _ => ?_) (fun _ => ?_) | with_reducible refine zBk.up ?_ ⟨by omega, by omega⟩)
theorem sd_hire {K : Int} {R : Nat → Nat → Int} (h1 : zBk K (R 1)) (h2 : zBk K (R 2)) (h4 : zBk K (R 4)) : zBk K (sS0_2_X8_hire R) := by
  unfold sS0_2_X8_hire
  have hr : ∀ b, zBk K (sS0_2_X8_keeps R b) := fun b => sd_keeps (S := R) h1 h2 h4
  have hk : ∀ b, zBk K (sS0_2_X8_keeps (upA R 0 (upZ (upZ (R 0) 8 0) 7 0)) b) := fun b => sd_keeps (S := upA R 0 (upZ (upZ (R 0) 8 0) 7 0)) h1 h2 h4
  repeat (first | with_reducible exact h2 | with_reducible exact hk _ | with_reducible exact hr _ | with_reducible refine el1 (Q := zBk K) (fun _ => ?_) (fun _ => ?_))
theorem sc_leave {K : Int} {R : Nat → Nat → Int} {p0 : Int} (h : zBk (4 * K) (R 0)) (g : zBk K (R 1)) (hK : 1000 ≤ K) (h5 : 0 ≤ R 0 5 ∧ R 0 5 ≤ 8) (h12 : 0 ≤ R 0 12 ∧ R 0 12 ≤ 60) : zBk (4 * K) (sS0_0_X8_leave R p0) := by
  have g0 := g 0
  have g1 := g 1
  unfold sS0_0_X8_leave
  have hr : ∀ b, zBk (4 * K) (sS0_0_X8_keeps R b) := fun b => sc_keeps (S := R) h hK h5
  have hk : ∀ b, zBk (4 * K) (sS0_0_X8_keeps (upA R 0 (upZ (upZ (R 0) 8 0) 7 0)) b) := fun b => sc_keeps (S := upA R 0 (upZ (upZ (R 0) 8 0) 7 0)) ((h.up ⟨by omega, by omega⟩).up ⟨by omega, by omega⟩) hK h5
  repeat (first | with_reducible exact h | with_reducible exact hk _ | with_reducible exact hr _ | with_reducible refine el1 (Q := zBk (4 * K)) (fun _ => ?_) (fun _ => ?_) | with_reducible refine zBk.up ?_ ⟨by omega, by omega⟩)
theorem sd_leave {K : Int} {R : Nat → Nat → Int} {p0 : Int} (h1 : zBk K (R 1)) (h2 : zBk K (R 2)) (h4 : zBk K (R 4)) : zBk K (sS0_2_X8_leave R p0) := by
  unfold sS0_2_X8_leave
  have hr : ∀ b, zBk K (sS0_2_X8_keeps R b) := fun b => sd_keeps (S := R) h1 h2 h4
  have hk : ∀ b, zBk K (sS0_2_X8_keeps (upA R 0 (upZ (upZ (R 0) 8 0) 7 0)) b) := fun b => sd_keeps (S := upA R 0 (upZ (upZ (R 0) 8 0) 7 0)) h1 h2 h4
  repeat (first | with_reducible exact h2 | with_reducible exact hk _ | with_reducible exact hr _ | with_reducible refine el1 (Q := zBk K) (fun _ => ?_) (fun _ => ?_))
theorem sc_sell {K : Int} {R : Nat → Nat → Int} {p0 : Int} (h : zBk (4 * K) (R 0)) (g : zBk K (R 1)) (hK : 1000 ≤ K) (h5 : 0 ≤ R 0 5 ∧ R 0 5 ≤ 8) (h12 : 0 ≤ R 0 12 ∧ R 0 12 ≤ 60) : zBk (4 * K) (sS0_0_X8_sell R p0) := by
  have g0 := g 0
  have g1 := g 1
  unfold sS0_0_X8_sell
  have hr : ∀ b, zBk (4 * K) (sS0_0_X8_keeps R b) := fun b => sc_keeps (S := R) h hK h5
  have hk : ∀ b, zBk (4 * K) (sS0_0_X8_keeps (upA R 0 (upZ (upZ (R 0) 8 0) 7 0)) b) := fun b => sc_keeps (S := upA R 0 (upZ (upZ (R 0) 8 0) 7 0)) ((h.up ⟨by omega, by omega⟩).up ⟨by omega, by omega⟩) hK h5
  repeat (first | with_reducible exact h | with_reducible exact hk _ | with_reducible exact hr _ | with_reducible refine el1 (Q := zBk (4 * K)) (fun _ => ?_) (fun _ => ?_) | with_reducible refine zBk.up ?_ ⟨by omega, by omega⟩)
theorem sd_sell {K : Int} {R : Nat → Nat → Int} {p0 : Int} (h1 : zBk K (R 1)) (h2 : zBk K (R 2)) (h4 : zBk K (R 4)) : zBk K (sS0_2_X8_sell R p0) := by
  unfold sS0_2_X8_sell
  have hr : ∀ b, zBk K (sS0_2_X8_keeps R b) := fun b => sd_keeps (S := R) h1 h2 h4
  have hk : ∀ b, zBk K (sS0_2_X8_keeps (upA R 0 (upZ (upZ (R 0) 8 0) 7 0)) b) := fun b => sd_keeps (S := upA R 0 (upZ (upZ (R 0) 8 0) 7 0)) h1 h2 h4
  repeat (first | with_reducible exact h2 | with_reducible exact hk _ | with_reducible exact hr _ | with_reducible refine el1 (Q := zBk K) (fun _ => ?_) (fun _ => ?_))
theorem sc_repair {K : Int} {R : Nat → Nat → Int} {p0 : Int} (h : zBk (4 * K) (R 0)) (g : zBk K (R 1)) (hK : 1000 ≤ K) (h5 : 0 ≤ R 0 5 ∧ R 0 5 ≤ 8) (h12 : 0 ≤ R 0 12 ∧ R 0 12 ≤ 60) : zBk (4 * K) (sS0_0_X8_repair R p0) := by
  have g0 := g 0
  have g1 := g 1
  have gx := g (93 + 4 * p0 + 2).toNat
  unfold sS0_0_X8_repair
  have hr : ∀ b, zBk (4 * K) (sS0_0_X8_keeps R b) := fun b => sc_keeps (S := R) h hK h5
  have hk : ∀ b, zBk (4 * K) (sS0_0_X8_keeps (upA R 0 (upZ (upZ (R 0) 8 0) 7 0)) b) := fun b => sc_keeps (S := upA R 0 (upZ (upZ (R 0) 8 0) 7 0)) ((h.up ⟨by omega, by omega⟩).up ⟨by omega, by omega⟩) hK h5
  repeat (first | with_reducible exact h | with_reducible exact hk _ | with_reducible exact hr _ | with_reducible refine el1 (Q := zBk (4 * K)) (fun _ => ?_) (fun _ => ?_) | with_reducible refine zBk.up ?_ ⟨by omega, by omega⟩)
theorem sd_repair {K : Int} {R : Nat → Nat → Int} {p0 : Int} (h1 : zBk K (R 1)) (h2 : zBk K (R 2)) (h4 : zBk K (R 4)) : zBk K (sS0_2_X8_repair R p0) := by
  unfold sS0_2_X8_repair
  have hr : ∀ b, zBk K (sS0_2_X8_keeps R b) := fun b => sd_keeps (S := R) h1 h2 h4
  have hk : ∀ b, zBk K (sS0_2_X8_keeps (upA R 0 (upZ (upZ (R 0) 8 0) 7 0)) b) := fun b => sd_keeps (S := upA R 0 (upZ (upZ (R 0) 8 0) 7 0)) h1 h2 h4
  repeat (first | with_reducible exact h2 | with_reducible exact hk _ | with_reducible exact hr _ | with_reducible refine el1 (Q := zBk K) (fun _ => ?_) (fun _ => ?_))
theorem sc_week {K : Int} {R : Nat → Nat → Int} (h : zBk (4 * K) (R 0)) (g : zBk K (R 1)) (hK : 1000 ≤ K) (h5 : 0 ≤ R 0 5 ∧ R 0 5 ≤ 8) (h12 : 0 ≤ R 0 12 ∧ R 0 12 ≤ 60) : zBk (4 * K) (sS0_0_X8_week R) := by
  have g0 := g 0
  have g1 := g 1
  unfold sS0_0_X8_week
  have hr : ∀ b, zBk (4 * K) (sS0_0_X8_keeps R b) := fun b => sc_keeps (S := R) h hK h5
  have hk : ∀ b, zBk (4 * K) (sS0_0_X8_keeps (upA R 0 (upZ (upZ (R 0) 8 0) 7 0)) b) := fun b => sc_keeps (S := upA R 0 (upZ (upZ (R 0) 8 0) 7 0)) ((h.up ⟨by omega, by omega⟩).up ⟨by omega, by omega⟩) hK h5
  repeat (first | with_reducible exact h | with_reducible exact hk _ | with_reducible exact hr _ | with_reducible refine el1 (Q := zBk (4 * K)) (fun _ => ?_) (fun _ => ?_) | with_reducible refine zBk.up ?_ ⟨by omega, by omega⟩)
theorem sd_week {K : Int} {R : Nat → Nat → Int} (h1 : zBk K (R 1)) (h2 : zBk K (R 2)) (h4 : zBk K (R 4)) : zBk K (sS0_2_X8_week R) := by
  unfold sS0_2_X8_week
  have hr : ∀ b, zBk K (sS0_2_X8_keeps R b) := fun b => sd_keeps (S := R) h1 h2 h4
  have hk : ∀ b, zBk K (sS0_2_X8_keeps (upA R 0 (upZ (upZ (R 0) 8 0) 7 0)) b) := fun b => sd_keeps (S := upA R 0 (upZ (upZ (R 0) 8 0) 7 0)) h1 h2 h4
  repeat (first | with_reducible exact h2 | with_reducible exact hk _ | with_reducible exact hr _ | with_reducible refine el1 (Q := zBk K) (fun _ => ?_) (fun _ => ?_))
theorem sc_beltOf {K : Int} {R : Nat → Nat → Int} {p0 p1 : Int} (h : zBk (4 * K) (R 0)) (g : zBk K (R 1)) (hK : 1000 ≤ K) (h5 : 0 ≤ R 0 5 ∧ R 0 5 ≤ 8) (h12 : 0 ≤ R 0 12 ∧ R 0 12 ≤ 60) : zBk (4 * K) (sS0_0_X8_beltOf R p0 p1) := by
  have g0 := g 0
  have g1 := g 1
  unfold sS0_0_X8_beltOf
  have hr : ∀ b, zBk (4 * K) (sS0_0_X8_keeps R b) := fun b => sc_keeps (S := R) h hK h5
  have hk : ∀ b, zBk (4 * K) (sS0_0_X8_keeps (upA R 0 (upZ (upZ (R 0) 8 0) 7 0)) b) := fun b => sc_keeps (S := upA R 0 (upZ (upZ (R 0) 8 0) 7 0)) ((h.up ⟨by omega, by omega⟩).up ⟨by omega, by omega⟩) hK h5
  repeat (first | with_reducible exact h | with_reducible exact hk _ | with_reducible exact hr _ | with_reducible refine el1 (Q := zBk (4 * K)) (fun _ => ?_) (fun _ => ?_) | with_reducible refine zBk.up ?_ ⟨by omega, by omega⟩)
theorem sc_carrier {K : Int} {R : Nat → Nat → Int} {p0 p1 p2 : Int} (h : zBk (4 * K) (R 0)) (g : zBk K (R 1)) (hK : 1000 ≤ K) (h5 : 0 ≤ R 0 5 ∧ R 0 5 ≤ 8) (h12 : 0 ≤ R 0 12 ∧ R 0 12 ≤ 60) : zBk (4 * K) (sS0_0_X8_carrier R p0 p1 p2) := by
  have g0 := g 0
  have g1 := g 1
  unfold sS0_0_X8_carrier
  have hr : ∀ b, zBk (4 * K) (sS0_0_X8_keeps R b) := fun b => sc_keeps (S := R) h hK h5
  have hk : ∀ b, zBk (4 * K) (sS0_0_X8_keeps (upA R 0 (upZ (upZ (R 0) 8 0) 7 0)) b) := fun b => sc_keeps (S := upA R 0 (upZ (upZ (R 0) 8 0) 7 0)) ((h.up ⟨by omega, by omega⟩).up ⟨by omega, by omega⟩) hK h5
  repeat (first | with_reducible exact h | with_reducible exact hk _ | with_reducible exact hr _ | with_reducible refine el1 (Q := zBk (4 * K)) (fun _ => ?_) (fun _ => ?_) | with_reducible refine zBk.up ?_ ⟨by omega, by omega⟩)
theorem sc_yawns {K : Int} {R : Nat → Nat → Int} {p0 : Int} (h : zBk (4 * K) (R 0)) (g : zBk K (R 1)) (hK : 1000 ≤ K) (h5 : 0 ≤ R 0 5 ∧ R 0 5 ≤ 8) (h12 : 0 ≤ R 0 12 ∧ R 0 12 ≤ 60) : zBk (4 * K) (sS0_0_X8_yawns R p0) := by
  have g0 := g 0
  have g1 := g 1
  unfold sS0_0_X8_yawns
  have hr : ∀ b, zBk (4 * K) (sS0_0_X8_keeps R b) := fun b => sc_keeps (S := R) h hK h5
  have hk : ∀ b, zBk (4 * K) (sS0_0_X8_keeps (upA R 0 (upZ (upZ (R 0) 8 0) 7 0)) b) := fun b => sc_keeps (S := upA R 0 (upZ (upZ (R 0) 8 0) 7 0)) ((h.up ⟨by omega, by omega⟩).up ⟨by omega, by omega⟩) hK h5
  repeat (first | with_reducible exact h | with_reducible exact hk _ | with_reducible exact hr _ | with_reducible refine el1 (Q := zBk (4 * K)) (fun _ => ?_) (fun _ => ?_) | with_reducible refine zBk.up ?_ ⟨by omega, by omega⟩)
theorem sc_passes {K : Int} {R : Nat → Nat → Int} {p0 p1 p2 : Int} (h : zBk (4 * K) (R 0)) (g : zBk K (R 1)) (hK : 1000 ≤ K) (h5 : 0 ≤ R 0 5 ∧ R 0 5 ≤ 8) (h12 : 0 ≤ R 0 12 ∧ R 0 12 ≤ 60) : zBk (4 * K) (sS0_0_X8_passes R p0 p1 p2) := by
  have g0 := g 0
  have g1 := g 1
  unfold sS0_0_X8_passes
  have hr : ∀ b, zBk (4 * K) (sS0_0_X8_keeps R b) := fun b => sc_keeps (S := R) h hK h5
  have hk : ∀ b, zBk (4 * K) (sS0_0_X8_keeps (upA R 0 (upZ (upZ (R 0) 8 0) 7 0)) b) := fun b => sc_keeps (S := upA R 0 (upZ (upZ (R 0) 8 0) 7 0)) ((h.up ⟨by omega, by omega⟩).up ⟨by omega, by omega⟩) hK h5
  repeat (first | with_reducible exact h | with_reducible exact hk _ | with_reducible exact hr _ | with_reducible refine el1 (Q := zBk (4 * K)) (fun _ => ?_) (fun _ => ?_) | with_reducible refine zBk.up ?_ ⟨by omega, by omega⟩)
theorem sc_wouldFail {K : Int} {R : Nat → Nat → Int} {p0 p1 p2 : Int} (h : zBk (4 * K) (R 0)) (g : zBk K (R 1)) (hK : 1000 ≤ K) (h5 : 0 ≤ R 0 5 ∧ R 0 5 ≤ 8) (h12 : 0 ≤ R 0 12 ∧ R 0 12 ≤ 60) : zBk (4 * K) (sS0_0_X8_wouldFail R p0 p1 p2) := by
  have g0 := g 0
  have g1 := g 1
  unfold sS0_0_X8_wouldFail
  have hr : ∀ b, zBk (4 * K) (sS0_0_X8_keeps R b) := fun b => sc_keeps (S := R) h hK h5
  have hk : ∀ b, zBk (4 * K) (sS0_0_X8_keeps (upA R 0 (upZ (upZ (R 0) 8 0) 7 0)) b) := fun b => sc_keeps (S := upA R 0 (upZ (upZ (R 0) 8 0) 7 0)) ((h.up ⟨by omega, by omega⟩).up ⟨by omega, by omega⟩) hK h5
  repeat (first | with_reducible exact h | with_reducible exact hk _ | with_reducible exact hr _ | with_reducible refine el1 (Q := zBk (4 * K)) (fun _ => ?_) (fun _ => ?_) | with_reducible refine zBk.up ?_ ⟨by omega, by omega⟩)
theorem sc_next {K : Int} {R : Nat → Nat → Int} (h : zBk (4 * K) (R 0)) (g : zBk K (R 1)) (hK : 1000 ≤ K) (h5 : 0 ≤ R 0 5 ∧ R 0 5 ≤ 8) (h12 : 0 ≤ R 0 12 ∧ R 0 12 ≤ 60) : zBk (4 * K) (sS0_0_X8_next R) := by
  have g0 := g 0
  have g1 := g 1
  unfold sS0_0_X8_next
  have hr : ∀ b, zBk (4 * K) (sS0_0_X8_keeps R b) := fun b => sc_keeps (S := R) h hK h5
  have hk : ∀ b, zBk (4 * K) (sS0_0_X8_keeps (upA R 0 (upZ (upZ (R 0) 8 0) 7 0)) b) := fun b => sc_keeps (S := upA R 0 (upZ (upZ (R 0) 8 0) 7 0)) ((h.up ⟨by omega, by omega⟩).up ⟨by omega, by omega⟩) hK h5
  repeat (first | with_reducible exact h | with_reducible exact hk _ | with_reducible exact hr _ | with_reducible refine el1 (Q := zBk (4 * K)) (fun _ => ?_) (fun _ => ?_) | with_reducible refine zBk.up ?_ ⟨by omega, by omega⟩)
theorem sc_rejectOf {K : Int} {R : Nat → Nat → Int} {p0 p1 : Int} (h : zBk (4 * K) (R 0)) (g : zBk K (R 1)) (hK : 1000 ≤ K) (h5 : 0 ≤ R 0 5 ∧ R 0 5 ≤ 8) (h12 : 0 ≤ R 0 12 ∧ R 0 12 ≤ 60) : zBk (4 * K) (sS0_0_X8_rejectOf R p0 p1) := by
  have g0 := g 0
  have g1 := g 1
  unfold sS0_0_X8_rejectOf
  have hr : ∀ b, zBk (4 * K) (sS0_0_X8_keeps R b) := fun b => sc_keeps (S := R) h hK h5
  have hk : ∀ b, zBk (4 * K) (sS0_0_X8_keeps (upA R 0 (upZ (upZ (R 0) 8 0) 7 0)) b) := fun b => sc_keeps (S := upA R 0 (upZ (upZ (R 0) 8 0) 7 0)) ((h.up ⟨by omega, by omega⟩).up ⟨by omega, by omega⟩) hK h5
  repeat (first | with_reducible exact h | with_reducible exact hk _ | with_reducible exact hr _ | with_reducible refine el1 (Q := zBk (4 * K)) (fun _ => ?_) (fun _ => ?_) | with_reducible refine zBk.up ?_ ⟨by omega, by omega⟩)
theorem sc_wouldStamp {K : Int} {R : Nat → Nat → Int} {p0 : Int} (h : zBk (4 * K) (R 0)) (g : zBk K (R 1)) (hK : 1000 ≤ K) (h5 : 0 ≤ R 0 5 ∧ R 0 5 ≤ 8) (h12 : 0 ≤ R 0 12 ∧ R 0 12 ≤ 60) : zBk (4 * K) (sS0_0_X8_wouldStamp R p0) := by
  have g0 := g 0
  have g1 := g 1
  unfold sS0_0_X8_wouldStamp
  have hr : ∀ b, zBk (4 * K) (sS0_0_X8_keeps R b) := fun b => sc_keeps (S := R) h hK h5
  have hk : ∀ b, zBk (4 * K) (sS0_0_X8_keeps (upA R 0 (upZ (upZ (R 0) 8 0) 7 0)) b) := fun b => sc_keeps (S := upA R 0 (upZ (upZ (R 0) 8 0) 7 0)) ((h.up ⟨by omega, by omega⟩).up ⟨by omega, by omega⟩) hK h5
  repeat (first | with_reducible exact h | with_reducible exact hk _ | with_reducible exact hr _ | with_reducible refine el1 (Q := zBk (4 * K)) (fun _ => ?_) (fun _ => ?_) | with_reducible refine zBk.up ?_ ⟨by omega, by omega⟩)
theorem sc_leastGrey {K : Int} {R : Nat → Nat → Int} {p0 : Int} (h : zBk (4 * K) (R 0)) (g : zBk K (R 1)) (hK : 1000 ≤ K) (h5 : 0 ≤ R 0 5 ∧ R 0 5 ≤ 8) (h12 : 0 ≤ R 0 12 ∧ R 0 12 ≤ 60) : zBk (4 * K) (sS0_0_X8_leastGrey R p0) := by
  have g0 := g 0
  have g1 := g 1
  unfold sS0_0_X8_leastGrey
  have hr : ∀ b, zBk (4 * K) (sS0_0_X8_keeps R b) := fun b => sc_keeps (S := R) h hK h5
  have hk : ∀ b, zBk (4 * K) (sS0_0_X8_keeps (upA R 0 (upZ (upZ (R 0) 8 0) 7 0)) b) := fun b => sc_keeps (S := upA R 0 (upZ (upZ (R 0) 8 0) 7 0)) ((h.up ⟨by omega, by omega⟩).up ⟨by omega, by omega⟩) hK h5
  repeat (first | with_reducible exact h | with_reducible exact hk _ | with_reducible exact hr _ | with_reducible refine el1 (Q := zBk (4 * K)) (fun _ => ?_) (fun _ => ?_) | with_reducible refine zBk.up ?_ ⟨by omega, by omega⟩)
theorem sc_best {K : Int} {R : Nat → Nat → Int} (h : zBk (4 * K) (R 0)) (g : zBk K (R 1)) (hK : 1000 ≤ K) (h5 : 0 ≤ R 0 5 ∧ R 0 5 ≤ 8) (h12 : 0 ≤ R 0 12 ∧ R 0 12 ≤ 60) : zBk (4 * K) (sS0_0_X8_best R) := by
  have g0 := g 0
  have g1 := g 1
  unfold sS0_0_X8_best
  have hr : ∀ b, zBk (4 * K) (sS0_0_X8_keeps R b) := fun b => sc_keeps (S := R) h hK h5
  have hk : ∀ b, zBk (4 * K) (sS0_0_X8_keeps (upA R 0 (upZ (upZ (R 0) 8 0) 7 0)) b) := fun b => sc_keeps (S := upA R 0 (upZ (upZ (R 0) 8 0) 7 0)) ((h.up ⟨by omega, by omega⟩).up ⟨by omega, by omega⟩) hK h5
  repeat (first | with_reducible exact h | with_reducible exact hk _ | with_reducible exact hr _ | with_reducible refine el1 (Q := zBk (4 * K)) (fun _ => ?_) (fun _ => ?_) | with_reducible refine zBk.up ?_ ⟨by omega, by omega⟩)
theorem sc_wouldMend {K : Int} {R : Nat → Nat → Int} {p0 : Int} (h : zBk (4 * K) (R 0)) (g : zBk K (R 1)) (hK : 1000 ≤ K) (h5 : 0 ≤ R 0 5 ∧ R 0 5 ≤ 8) (h12 : 0 ≤ R 0 12 ∧ R 0 12 ≤ 60) : zBk (4 * K) (sS0_0_X8_wouldMend R p0) := by
  have g0 := g 0
  have g1 := g 1
  unfold sS0_0_X8_wouldMend
  have hr : ∀ b, zBk (4 * K) (sS0_0_X8_keeps R b) := fun b => sc_keeps (S := R) h hK h5
  have hk : ∀ b, zBk (4 * K) (sS0_0_X8_keeps (upA R 0 (upZ (upZ (R 0) 8 0) 7 0)) b) := fun b => sc_keeps (S := upA R 0 (upZ (upZ (R 0) 8 0) 7 0)) ((h.up ⟨by omega, by omega⟩).up ⟨by omega, by omega⟩) hK h5
  repeat (first | with_reducible exact h | with_reducible exact hk _ | with_reducible exact hr _ | with_reducible refine el1 (Q := zBk (4 * K)) (fun _ => ?_) (fun _ => ?_) | with_reducible refine zBk.up ?_ ⟨by omega, by omega⟩)
theorem sc_character {K : Int} {R : Nat → Nat → Int} {p0 : Int} (h : zBk (4 * K) (R 0)) (g : zBk K (R 1)) (hK : 1000 ≤ K) (h5 : 0 ≤ R 0 5 ∧ R 0 5 ≤ 8) (h12 : 0 ≤ R 0 12 ∧ R 0 12 ≤ 60) : zBk (4 * K) (sS0_0_X8_character R p0) := by
  have g0 := g 0
  have g1 := g 1
  unfold sS0_0_X8_character
  have hr : ∀ b, zBk (4 * K) (sS0_0_X8_keeps R b) := fun b => sc_keeps (S := R) h hK h5
  have hk : ∀ b, zBk (4 * K) (sS0_0_X8_keeps (upA R 0 (upZ (upZ (R 0) 8 0) 7 0)) b) := fun b => sc_keeps (S := upA R 0 (upZ (upZ (R 0) 8 0) 7 0)) ((h.up ⟨by omega, by omega⟩).up ⟨by omega, by omega⟩) hK h5
  repeat (first | with_reducible exact h | with_reducible exact hk _ | with_reducible exact hr _ | with_reducible refine el1 (Q := zBk (4 * K)) (fun _ => ?_) (fun _ => ?_) | with_reducible refine zBk.up ?_ ⟨by omega, by omega⟩)
theorem sc_append {K : Int} {R : Nat → Nat → Int} {p0 : Int} (h : zBk (4 * K) (R 0)) (g : zBk K (R 1)) (hK : 1000 ≤ K) (h5 : 0 ≤ R 0 5 ∧ R 0 5 ≤ 8) (h12 : 0 ≤ R 0 12 ∧ R 0 12 ≤ 60) : zBk (4 * K) (sS0_0_X8_append R p0) := by
  have g0 := g 0
  have g1 := g 1
  unfold sS0_0_X8_append
  have hr : ∀ b, zBk (4 * K) (sS0_0_X8_keeps R b) := fun b => sc_keeps (S := R) h hK h5
  have hk : ∀ b, zBk (4 * K) (sS0_0_X8_keeps (upA R 0 (upZ (upZ (R 0) 8 0) 7 0)) b) := fun b => sc_keeps (S := upA R 0 (upZ (upZ (R 0) 8 0) 7 0)) ((h.up ⟨by omega, by omega⟩).up ⟨by omega, by omega⟩) hK h5
  repeat (first | with_reducible exact h | with_reducible exact hk _ | with_reducible exact hr _ | with_reducible refine el1 (Q := zBk (4 * K)) (fun _ => ?_) (fun _ => ?_) | with_reducible refine zBk.up ?_ ⟨by omega, by omega⟩)
theorem sc_refusal {K : Int} {R : Nat → Nat → Int} {p0 : Int} (h : zBk (4 * K) (R 0)) (g : zBk K (R 1)) (hK : 1000 ≤ K) (h5 : 0 ≤ R 0 5 ∧ R 0 5 ≤ 8) (h12 : 0 ≤ R 0 12 ∧ R 0 12 ≤ 60) : zBk (4 * K) (sS0_0_X8_refusal R p0) := by
  have g0 := g 0
  have g1 := g 1
  unfold sS0_0_X8_refusal
  have hr : ∀ b, zBk (4 * K) (sS0_0_X8_keeps R b) := fun b => sc_keeps (S := R) h hK h5
  have hk : ∀ b, zBk (4 * K) (sS0_0_X8_keeps (upA R 0 (upZ (upZ (R 0) 8 0) 7 0)) b) := fun b => sc_keeps (S := upA R 0 (upZ (upZ (R 0) 8 0) 7 0)) ((h.up ⟨by omega, by omega⟩).up ⟨by omega, by omega⟩) hK h5
  repeat (first | with_reducible exact h | with_reducible exact hk _ | with_reducible exact hr _ | with_reducible refine el1 (Q := zBk (4 * K)) (fun _ => ?_) (fun _ => ?_) | with_reducible refine zBk.up ?_ ⟨by omega, by omega⟩)
theorem sc_account {K : Int} {R : Nat → Nat → Int} {p0 : Int} (h : zBk (4 * K) (R 0)) (g : zBk K (R 1)) (hK : 1000 ≤ K) (h5 : 0 ≤ R 0 5 ∧ R 0 5 ≤ 8) (h12 : 0 ≤ R 0 12 ∧ R 0 12 ≤ 60) : zBk (4 * K) (sS0_0_X8_account R p0) := by
  have g0 := g 0
  have g1 := g 1
  unfold sS0_0_X8_account
  have hr : ∀ b, zBk (4 * K) (sS0_0_X8_keeps R b) := fun b => sc_keeps (S := R) h hK h5
  have hk : ∀ b, zBk (4 * K) (sS0_0_X8_keeps (upA R 0 (upZ (upZ (R 0) 8 0) 7 0)) b) := fun b => sc_keeps (S := upA R 0 (upZ (upZ (R 0) 8 0) 7 0)) ((h.up ⟨by omega, by omega⟩).up ⟨by omega, by omega⟩) hK h5
  repeat (first | with_reducible exact h | with_reducible exact hk _ | with_reducible exact hr _ | with_reducible refine el1 (Q := zBk (4 * K)) (fun _ => ?_) (fun _ => ?_) | with_reducible refine zBk.up ?_ ⟨by omega, by omega⟩)
theorem sc_isWell {K : Int} {R : Nat → Nat → Int} (h : zBk (4 * K) (R 0)) (g : zBk K (R 1)) (hK : 1000 ≤ K) (h5 : 0 ≤ R 0 5 ∧ R 0 5 ≤ 8) (h12 : 0 ≤ R 0 12 ∧ R 0 12 ≤ 60) : zBk (4 * K) (sS0_0_X8_isWell R) := by
  have g0 := g 0
  have g1 := g 1
  unfold sS0_0_X8_isWell
  have hr : ∀ b, zBk (4 * K) (sS0_0_X8_keeps R b) := fun b => sc_keeps (S := R) h hK h5
  have hk : ∀ b, zBk (4 * K) (sS0_0_X8_keeps (upA R 0 (upZ (upZ (R 0) 8 0) 7 0)) b) := fun b => sc_keeps (S := upA R 0 (upZ (upZ (R 0) 8 0) 7 0)) ((h.up ⟨by omega, by omega⟩).up ⟨by omega, by omega⟩) hK h5
  repeat (first | with_reducible exact h | with_reducible exact hk _ | with_reducible exact hr _ | with_reducible refine el1 (Q := zBk (4 * K)) (fun _ => ?_) (fun _ => ?_) | with_reducible refine zBk.up ?_ ⟨by omega, by omega⟩)
theorem sc_undo {K : Int} {R : Nat → Nat → Int} (h : zBk (4 * K) (R 0)) (g : zBk K (R 1)) (hK : 1000 ≤ K) (h5 : 0 ≤ R 0 5 ∧ R 0 5 ≤ 8) (h12 : 0 ≤ R 0 12 ∧ R 0 12 ≤ 60) : zBk (4 * K) (sS0_0_X8_undo R) := by
  have g0 := g 0
  have g1 := g 1
  unfold sS0_0_X8_undo
  have hr : ∀ b, zBk (4 * K) (sS0_0_X8_keeps R b) := fun b => sc_keeps (S := R) h hK h5
  have hk : ∀ b, zBk (4 * K) (sS0_0_X8_keeps (upA R 0 (upZ (upZ (R 0) 8 0) 7 0)) b) := fun b => sc_keeps (S := upA R 0 (upZ (upZ (R 0) 8 0) 7 0)) ((h.up ⟨by omega, by omega⟩).up ⟨by omega, by omega⟩) hK h5
  repeat (first | with_reducible exact h | with_reducible exact hk _ | with_reducible exact hr _ | with_reducible refine el1 (Q := zBk (4 * K)) (fun _ => ?_) (fun _ => ?_) | with_reducible refine zBk.up ?_ ⟨by omega, by omega⟩)
theorem sc_restore {K : Int} {R : Nat → Nat → Int} (h : zBk (4 * K) (R 0)) (g : zBk K (R 1)) (hK : 1000 ≤ K) (h5 : 0 ≤ R 0 5 ∧ R 0 5 ≤ 8) (h12 : 0 ≤ R 0 12 ∧ R 0 12 ≤ 60) : zBk (4 * K) (sS0_0_X8_restore R) := by
  have g0 := g 0
  have g1 := g 1
  unfold sS0_0_X8_restore
  have hr : ∀ b, zBk (4 * K) (sS0_0_X8_keeps R b) := fun b => sc_keeps (S := R) h hK h5
  have hk : ∀ b, zBk (4 * K) (sS0_0_X8_keeps (upA R 0 (upZ (upZ (R 0) 8 0) 7 0)) b) := fun b => sc_keeps (S := upA R 0 (upZ (upZ (R 0) 8 0) 7 0)) ((h.up ⟨by omega, by omega⟩).up ⟨by omega, by omega⟩) hK h5
  repeat (first | with_reducible exact h | with_reducible exact hk _ | with_reducible exact hr _ | with_reducible refine el1 (Q := zBk (4 * K)) (fun _ => ?_) (fun _ => ?_) | with_reducible refine zBk.up ?_ ⟨by omega, by omega⟩)
theorem sc_fresh {K : Int} {R : Nat → Nat → Int} {p0 : Int} (h : zBk (4 * K) (R 0)) (g : zBk K (R 1)) (hK : 1000 ≤ K) (h5 : 0 ≤ R 0 5 ∧ R 0 5 ≤ 8) (h12 : 0 ≤ R 0 12 ∧ R 0 12 ≤ 60) : zBk (4 * K) (sS0_0_X8_fresh R p0) := by
  have key : ∀ (n : Nat) (x : Int), zBk (4 * K) (sS0_0_X8_fresh_L2 R p0 n x) := by
    intro n
    induction n with
    | zero => intro x j; show -(4 * K) ≤ (0 : Int) ∧ (0 : Int) ≤ 4 * K; exact ⟨by omega, by omega⟩
    | succ n ih =>
      intro x
      unfold sS0_0_X8_fresh_L2
      exact el1 (Q := zBk (4 * K)) (fun _ => h.up ⟨by omega, by omega⟩) (fun _ => el1 (Q := zBk (4 * K)) (fun _ => h.up ⟨by omega, by omega⟩) (fun _ => ih (x + 1)))
  exact key 5 0
theorem sc_greyest {K : Int} {R : Nat → Nat → Int} {p0 : Int} (h : zBk (4 * K) (R 0)) (g : zBk K (R 1)) (hK : 1000 ≤ K) (h5 : 0 ≤ R 0 5 ∧ R 0 5 ≤ 8) (h12 : 0 ≤ R 0 12 ∧ R 0 12 ≤ 60) : zBk (4 * K) (sS0_0_X8_greyest R p0) := by
  have key : ∀ (n : Nat) (x : Int), zBk (4 * K) (sS0_0_X8_greyest_L2 R p0 n x) := by
    intro n
    induction n with
    | zero => intro x j; show -(4 * K) ≤ (0 : Int) ∧ (0 : Int) ≤ 4 * K; exact ⟨by omega, by omega⟩
    | succ n ih =>
      intro x
      unfold sS0_0_X8_greyest_L2
      exact el1 (Q := zBk (4 * K)) (fun _ => h.up ⟨by omega, by omega⟩) (fun _ => el1 (Q := zBk (4 * K)) (fun _ => h.up ⟨by omega, by omega⟩) (fun _ => ih (x + 1)))
  exact key 4 0
theorem sc_line {K : Int} {R : Nat → Nat → Int} {p0 : Int} (h : zBk (4 * K) (R 0)) (hK : 1000 ≤ K) (hl : 0 ≤ p0 ∧ p0 ≤ 2 → 0 ≤ (rLine (R 1) p0 (R 6)).2 ∧ (rLine (R 1) p0 (R 6)).2 ≤ 60) : zBk (4 * K) (sS0_0_X8_line R p0) := by
  unfold sS0_0_X8_line
  refine el1 (Q := zBk (4 * K)) (fun c => ?_) (fun _ => ?_)
  · have l := hl c
    exact ((h.up ⟨by omega, by omega⟩).up ⟨by omega, by omega⟩).up ⟨by omega, by omega⟩
  · exact (h.up ⟨by omega, by omega⟩).up ⟨by omega, by omega⟩
