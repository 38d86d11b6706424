/-! what is done in thought -/
theorem zif_or2 (P : Prop) (a b : Int) : zif P a b = a ∨ zif P a b = b := zif_or P a b
theorem upA_eq {S : Nat → Nat → Int} {c : Nat} {f : Nat → Int} : upA S c f c = f := if_pos rfl
theorem upA_ne {S : Nat → Nat → Int} {c d : Nat} {f : Nat → Int} (h : d ≠ c) : upA S c f d = S d := if_neg h
/-- the last of a row of changes that bears on a component decides -/
theorem zBk_upA {K : Int} {S : Nat → Nat → Int} {c d : Nat} {f : Nat → Int} (h1 : d = c → zBk K f) (h2 : d ≠ c → zBk K (S d)) : zBk K (upA S c f d) := by
  rcases Classical.em (d = c) with h | h
  · rw [h, upA_eq]; exact h1 h
  · rw [upA_ne h]; exact h2 h
theorem zBk_wadd {K : Int} {N : Nat → Int} (h : zBk K N) {c p0 p1 p2 p3 : Int} (h0 : -K ≤ p0 ∧ p0 ≤ K) (h1 : -K ≤ p1 ∧ p1 ≤ K) (h2 : -K ≤ p2 ∧ p2 ≤ K) (h3 : -K ≤ p3 ∧ p3 ≤ K) : zBk K (wAdd N c p0 p1 p2 p3) := (((h.up h0).up h1).up h2).up h3
theorem zBk_wcut {K : Int} {N : Nat → Int} (h : zBk K N) {c p q : Int} : zBk K (wCutN N c p q) := zBk.zif (h.cpy h _ _ _) h
theorem zBk_wtire {K : Int} {N : Nat → Int} (h : zBk K N) (hK : 9 ≤ K) {c p q : Int} : zBk K (wTire N c p q) := zBk.zif (h.up (by omega)) h
theorem wNum_k {K : Int} {N : Nat → Int} (h : zBk K N) (hK : 1 ≤ K) {c p q : Int} : -K ≤ wNum N c p q ∧ wNum N c p q ≤ K := by
  unfold wNum
  exact el1 (Q := fun z => -K ≤ z ∧ z ≤ K) (fun _ => h _) (fun _ => by omega)
theorem wInsp0_a {S : Nat → Nat → Int} (h : aOK S) : aOK (wInsp0 S) := by
  intro c hc
  have f := fun a b d => ffail_rng (sub2 S 2) a b d
  have n := fun q => wNum_k (h 4 (by omega)) (by decide) (c := S 3 1) (p := 0) (q := q)
  unfold wInsp0
  refine zBk_upA (fun _ => ?_) (fun _ => zBk_upA (fun _ => ?_) (fun _ => zBk_upA (fun _ => by omega) (fun _ => zBk_upA (fun _ => ?_) (fun _ => zBk_upA (fun _ => by omega) (fun _ => zBk_upA (fun _ => by omega) (fun _ => zBk_upA (fun _ => by omega) (fun _ => h c hc)))))))
  · unfold sS0_14_X5_inspectFront_0 sS0_14_X5_inspectMonday_0
    exact zBk.zif (zBk_wtire (h 14 (by omega)) (by decide)) (zBk.zif (zBk_wtire (h 14 (by omega)) (by decide)) (zBk_wtire (h 14 (by omega)) (by decide)))
  · unfold sS0_12_X5_inspectFront_0 sS0_12_X5_inspectMonday_0 sS0_12_X5_reject_0
    exact zBk.zif (h 12 (by omega)) (zBk.zif (h 12 (by omega)) (zBk.zif (h 12 (by omega)) (zBk_wadd (h 12 (by omega)) (n 0) (n 1) (n 2) (by have := f (wNum (S 4) (S 3 1) 0 0) (wNum (S 4) (S 3 1) 0 1) (wYaw (S 14) (S 13 1) (sp_X1_freshAt (sub2 S 13) 0)); omega))))
  · unfold sS0_4_X5_inspectFront_0
    exact zBk.zif (zBk_wcut (h 4 (by omega))) (zBk_wcut (h 4 (by omega)))
theorem wInsp0_k {K : Int} {S : Nat → Nat → Int} (h : pK K S) (hK : 9 ≤ K) : pK (K + 1) (wInsp0 S) := by
  have f := fun a b d => ffail_rng (sub2 S 2) a b d
  have n := fun q => wNum_k (h.1 4 (by decide)) (by omega) (c := S 3 1) (p := 0) (q := q)
  have g : ∀ c, c ≤ 14 → zBk (K + 1) (S c) := fun c hc => (h.1 c hc).mono (by omega)
  have hs := h.2
  have kc := wCutK_rng (c := S 3 1) (p := 0) (q := 1) (by omega)
  have f9 := f (wNum (S 4) (S 3 1) 0 0) (wNum (S 4) (S 3 1) 0 1) (wYaw (S 14) (S 13 1) (sp_X1_freshAt (sub2 S 13) 0))
  have n0 := n 0
  have n1 := n 1
  have n2 := n 2
  have q6 := (h.1 0 (by decide)) 6
  have q7 := (h.1 0 (by decide)) 7
  have q4 := (h.1 2 (by decide)) 4
  have q5 := (h.1 2 (by decide)) 5
  have e11 : wInsp0 S 11 = sS0_11_X5_inspectFront_0 S := rfl
  have e3 : wInsp0 S 3 = sS0_3_X5_inspectFront_0 S := rfl
  refine ⟨fun c hc => ?_, ?_⟩
  · unfold wInsp0
    refine zBk_upA (fun _ => ?_) (fun _ => zBk_upA (fun _ => ?_) (fun _ => zBk_upA (fun _ => ?_) (fun _ => zBk_upA (fun _ => ?_) (fun _ => zBk_upA (fun _ => ?_) (fun _ => zBk_upA (fun _ => ?_) (fun _ => zBk_upA (fun _ => ?_) (fun _ => g c hc)))))))
    · unfold sS0_14_X5_inspectFront_0 sS0_14_X5_inspectMonday_0
      exact zBk.zif (zBk_wtire (g 14 (by decide)) (by omega)) (zBk.zif (zBk_wtire (g 14 (by decide)) (by omega)) (zBk_wtire (g 14 (by decide)) (by omega)))
    · unfold sS0_12_X5_inspectFront_0 sS0_12_X5_inspectMonday_0 sS0_12_X5_reject_0
      exact zBk.zif (g 12 (by decide)) (zBk.zif (g 12 (by decide)) (zBk.zif (g 12 (by decide)) (zBk_wadd (g 12 (by decide)) (by show -(K + 1) ≤ wNum (S 4) (S 3 1) 0 0 ∧ wNum (S 4) (S 3 1) 0 0 ≤ K + 1; omega) (by show -(K + 1) ≤ wNum (S 4) (S 3 1) 0 1 ∧ wNum (S 4) (S 3 1) 0 1 ≤ K + 1; omega) (by show -(K + 1) ≤ wNum (S 4) (S 3 1) 0 2 ∧ wNum (S 4) (S 3 1) 0 2 ≤ K + 1; omega) (by omega))))
    · unfold sS0_11_X5_inspectFront_0 sS0_11_X5_inspectMonday_0 sS0_11_X5_reject_0
      exact zBk.zif (g 11 (by decide)) (zBk.zif (g 11 (by decide)) (zBk.zif (g 11 (by decide)) ((g 11 (by decide)).up (by show -(K + 1) ≤ S 11 1 + 1 ∧ S 11 1 + 1 ≤ K + 1; omega))))
    · unfold sS0_4_X5_inspectFront_0
      exact zBk.zif (zBk_wcut (g 4 (by decide))) (zBk_wcut (g 4 (by decide)))
    · unfold sS0_3_X5_inspectFront_0
      exact zBk.zif ((g 3 (by decide)).up (by omega)) ((g 3 (by decide)).up (by omega))
    · unfold sS0_2_X5_inspectFront_0 sS0_2_X5_inspectMonday_0
      exact zBk.zif (g 2 (by decide)) (zBk.zif ((((g 2 (by decide)).up (by omega)).up (by omega)).up (by omega)) (((g 2 (by decide)).up (by omega)).up (by omega)))
    · unfold sS0_0_X5_inspectFront_0 sS0_0_X5_inspectMonday_0 sS0_0_X5_reject_0
      exact zBk.zif (g 0 (by decide)) (zBk.zif (g 0 (by decide)) (zBk.zif (((g 0 (by decide)).up (by show -(K + 1) ≤ S 0 6 + 1 ∧ S 0 6 + 1 ≤ K + 1; omega)).up (by show -(K + 1) ≤ S 0 7 + 1 ∧ S 0 7 + 1 ≤ K + 1; omega)) ((g 0 (by decide)).up (by show -(K + 1) ≤ S 0 6 + 1 ∧ S 0 6 + 1 ≤ K + 1; omega))))
  · have c3 : 0 ≤ wInsp0 S 3 1 ∧ wInsp0 S 3 1 ≤ 5 := by
      rw [e3]
      unfold sS0_3_X5_inspectFront_0
      exact el1 (Q := fun z : Nat → Int => 0 ≤ z 1 ∧ z 1 ≤ 5) (fun _ => by rw [upZ_s]; omega) (fun _ => by rw [upZ_s]; omega)
    have c11 : 0 ≤ wInsp0 S 11 1 ∧ wInsp0 S 11 1 ≤ 8 := by
      rw [e11]
      unfold sS0_11_X5_inspectFront_0 sS0_11_X5_inspectMonday_0 sS0_11_X5_reject_0
      refine el1 (Q := fun z : Nat → Int => 0 ≤ z 1 ∧ z 1 ≤ 8) (fun _ => by omega) (fun _ => el1 (Q := fun z : Nat → Int => 0 ≤ z 1 ∧ z 1 ≤ 8) (fun _ => by omega) (fun _ => el1 (Q := fun z : Nat → Int => 0 ≤ z 1 ∧ z 1 ≤ 8) (fun _ => by show 0 ≤ S 11 1 ∧ S 11 1 ≤ 8; omega) (fun h9 => ?_)))
      have h9 : ¬ 8 ≤ S 11 1 := h9
      rw [upZ_s]
      show 0 ≤ S 11 1 + 1 ∧ S 11 1 + 1 ≤ 8
      omega
    exact ⟨c3, hs.2.1, hs.2.2.1, c11, hs.2.2.2.2⟩
noncomputable def wInspN0 (S : Nat → Nat → Int) : Nat → (Nat → Nat → Int)
  | 0 => S
  | n + 1 => wInsp0 (wInspN0 S n)
theorem wInspN0_s {S : Nat → Nat → Int} {x : Int} (hx : 0 ≤ x) : wInsp0 (wInspN0 S x.toNat) = wInspN0 S (x + 1).toNat := by
  rw [show (x + 1).toNat = x.toNat + 1 by omega]
  rfl
theorem wInsp1_a {S : Nat → Nat → Int} (h : aOK S) : aOK (wInsp1 S) := by
  intro c hc
  have f := fun a b d => ffail_rng (sub2 S 5) a b d
  have n := fun q => wNum_k (h 7 (by omega)) (by decide) (c := S 6 1) (p := 0) (q := q)
  unfold wInsp1
  refine zBk_upA (fun _ => ?_) (fun _ => zBk_upA (fun _ => ?_) (fun _ => zBk_upA (fun _ => by omega) (fun _ => zBk_upA (fun _ => ?_) (fun _ => zBk_upA (fun _ => by omega) (fun _ => zBk_upA (fun _ => by omega) (fun _ => zBk_upA (fun _ => by omega) (fun _ => h c hc)))))))
  · unfold sS0_14_X5_inspectFront_1 sS0_14_X5_inspectMonday_1
    exact zBk.zif (zBk_wtire (h 14 (by omega)) (by decide)) (zBk.zif (zBk_wtire (h 14 (by omega)) (by decide)) (zBk_wtire (h 14 (by omega)) (by decide)))
  · unfold sS0_12_X5_inspectFront_1 sS0_12_X5_inspectMonday_1 sS0_12_X5_reject_1
    exact zBk.zif (h 12 (by omega)) (zBk.zif (h 12 (by omega)) (zBk.zif (h 12 (by omega)) (zBk_wadd (h 12 (by omega)) (n 0) (n 1) (n 2) (by have := f (wNum (S 7) (S 6 1) 0 0) (wNum (S 7) (S 6 1) 0 1) (wYaw (S 14) (S 13 1) (sp_X1_freshAt (sub2 S 13) 0)); omega))))
  · unfold sS0_7_X5_inspectFront_1
    exact zBk.zif (zBk_wcut (h 7 (by omega))) (zBk_wcut (h 7 (by omega)))
theorem wInsp1_k {K : Int} {S : Nat → Nat → Int} (h : pK K S) (hK : 9 ≤ K) : pK (K + 1) (wInsp1 S) := by
  have f := fun a b d => ffail_rng (sub2 S 5) a b d
  have n := fun q => wNum_k (h.1 7 (by decide)) (by omega) (c := S 6 1) (p := 0) (q := q)
  have g : ∀ c, c ≤ 14 → zBk (K + 1) (S c) := fun c hc => (h.1 c hc).mono (by omega)
  have hs := h.2
  have kc := wCutK_rng (c := S 6 1) (p := 0) (q := 1) (by omega)
  have f9 := f (wNum (S 7) (S 6 1) 0 0) (wNum (S 7) (S 6 1) 0 1) (wYaw (S 14) (S 13 1) (sp_X1_freshAt (sub2 S 13) 0))
  have n0 := n 0
  have n1 := n 1
  have n2 := n 2
  have q6 := (h.1 0 (by decide)) 6
  have q7 := (h.1 0 (by decide)) 7
  have q4 := (h.1 5 (by decide)) 4
  have q5 := (h.1 5 (by decide)) 5
  have e11 : wInsp1 S 11 = sS0_11_X5_inspectFront_1 S := rfl
  have e3 : wInsp1 S 6 = sS0_6_X5_inspectFront_1 S := rfl
  refine ⟨fun c hc => ?_, ?_⟩
  · unfold wInsp1
    refine zBk_upA (fun _ => ?_) (fun _ => zBk_upA (fun _ => ?_) (fun _ => zBk_upA (fun _ => ?_) (fun _ => zBk_upA (fun _ => ?_) (fun _ => zBk_upA (fun _ => ?_) (fun _ => zBk_upA (fun _ => ?_) (fun _ => zBk_upA (fun _ => ?_) (fun _ => g c hc)))))))
    · unfold sS0_14_X5_inspectFront_1 sS0_14_X5_inspectMonday_1
      exact zBk.zif (zBk_wtire (g 14 (by decide)) (by omega)) (zBk.zif (zBk_wtire (g 14 (by decide)) (by omega)) (zBk_wtire (g 14 (by decide)) (by omega)))
    · unfold sS0_12_X5_inspectFront_1 sS0_12_X5_inspectMonday_1 sS0_12_X5_reject_1
      exact zBk.zif (g 12 (by decide)) (zBk.zif (g 12 (by decide)) (zBk.zif (g 12 (by decide)) (zBk_wadd (g 12 (by decide)) (by show -(K + 1) ≤ wNum (S 7) (S 6 1) 0 0 ∧ wNum (S 7) (S 6 1) 0 0 ≤ K + 1; omega) (by show -(K + 1) ≤ wNum (S 7) (S 6 1) 0 1 ∧ wNum (S 7) (S 6 1) 0 1 ≤ K + 1; omega) (by show -(K + 1) ≤ wNum (S 7) (S 6 1) 0 2 ∧ wNum (S 7) (S 6 1) 0 2 ≤ K + 1; omega) (by omega))))
    · unfold sS0_11_X5_inspectFront_1 sS0_11_X5_inspectMonday_1 sS0_11_X5_reject_1
      exact zBk.zif (g 11 (by decide)) (zBk.zif (g 11 (by decide)) (zBk.zif (g 11 (by decide)) ((g 11 (by decide)).up (by show -(K + 1) ≤ S 11 1 + 1 ∧ S 11 1 + 1 ≤ K + 1; omega))))
    · unfold sS0_7_X5_inspectFront_1
      exact zBk.zif (zBk_wcut (g 7 (by decide))) (zBk_wcut (g 7 (by decide)))
    · unfold sS0_6_X5_inspectFront_1
      exact zBk.zif ((g 6 (by decide)).up (by omega)) ((g 6 (by decide)).up (by omega))
    · unfold sS0_5_X5_inspectFront_1 sS0_5_X5_inspectMonday_1
      exact zBk.zif (g 5 (by decide)) (zBk.zif ((((g 5 (by decide)).up (by omega)).up (by omega)).up (by omega)) (((g 5 (by decide)).up (by omega)).up (by omega)))
    · unfold sS0_0_X5_inspectFront_1 sS0_0_X5_inspectMonday_1 sS0_0_X5_reject_1
      exact zBk.zif (g 0 (by decide)) (zBk.zif (g 0 (by decide)) (zBk.zif (((g 0 (by decide)).up (by show -(K + 1) ≤ S 0 6 + 1 ∧ S 0 6 + 1 ≤ K + 1; omega)).up (by show -(K + 1) ≤ S 0 7 + 1 ∧ S 0 7 + 1 ≤ K + 1; omega)) ((g 0 (by decide)).up (by show -(K + 1) ≤ S 0 6 + 1 ∧ S 0 6 + 1 ≤ K + 1; omega))))
  · have c3 : 0 ≤ wInsp1 S 6 1 ∧ wInsp1 S 6 1 ≤ 5 := by
      rw [e3]
      unfold sS0_6_X5_inspectFront_1
      exact el1 (Q := fun z : Nat → Int => 0 ≤ z 1 ∧ z 1 ≤ 5) (fun _ => by rw [upZ_s]; omega) (fun _ => by rw [upZ_s]; omega)
    have c11 : 0 ≤ wInsp1 S 11 1 ∧ wInsp1 S 11 1 ≤ 8 := by
      rw [e11]
      unfold sS0_11_X5_inspectFront_1 sS0_11_X5_inspectMonday_1 sS0_11_X5_reject_1
      refine el1 (Q := fun z : Nat → Int => 0 ≤ z 1 ∧ z 1 ≤ 8) (fun _ => by omega) (fun _ => el1 (Q := fun z : Nat → Int => 0 ≤ z 1 ∧ z 1 ≤ 8) (fun _ => by omega) (fun _ => el1 (Q := fun z : Nat → Int => 0 ≤ z 1 ∧ z 1 ≤ 8) (fun _ => by show 0 ≤ S 11 1 ∧ S 11 1 ≤ 8; omega) (fun h9 => ?_)))
      have h9 : ¬ 8 ≤ S 11 1 := h9
      rw [upZ_s]
      show 0 ≤ S 11 1 + 1 ∧ S 11 1 + 1 ≤ 8
      omega
    exact ⟨hs.1, c3, hs.2.2.1, c11, hs.2.2.2.2⟩
noncomputable def wInspN1 (S : Nat → Nat → Int) : Nat → (Nat → Nat → Int)
  | 0 => S
  | n + 1 => wInsp1 (wInspN1 S n)
theorem wInspN1_s {S : Nat → Nat → Int} {x : Int} (hx : 0 ≤ x) : wInsp1 (wInspN1 S x.toNat) = wInspN1 S (x + 1).toNat := by
  rw [show (x + 1).toNat = x.toNat + 1 by omega]
  rfl
theorem wInsp2_a {S : Nat → Nat → Int} (h : aOK S) : aOK (wInsp2 S) := by
  intro c hc
  have f := fun a b d => ffail_rng (sub2 S 8) a b d
  have n := fun q => wNum_k (h 10 (by omega)) (by decide) (c := S 9 1) (p := 0) (q := q)
  unfold wInsp2
  refine zBk_upA (fun _ => ?_) (fun _ => zBk_upA (fun _ => ?_) (fun _ => zBk_upA (fun _ => by omega) (fun _ => zBk_upA (fun _ => ?_) (fun _ => zBk_upA (fun _ => by omega) (fun _ => zBk_upA (fun _ => by omega) (fun _ => zBk_upA (fun _ => by omega) (fun _ => h c hc)))))))
  · unfold sS0_14_X5_inspectFront_2 sS0_14_X5_inspectMonday_2
    exact zBk.zif (zBk_wtire (h 14 (by omega)) (by decide)) (zBk.zif (zBk_wtire (h 14 (by omega)) (by decide)) (zBk_wtire (h 14 (by omega)) (by decide)))
  · unfold sS0_12_X5_inspectFront_2 sS0_12_X5_inspectMonday_2 sS0_12_X5_reject_2
    exact zBk.zif (h 12 (by omega)) (zBk.zif (h 12 (by omega)) (zBk.zif (h 12 (by omega)) (zBk_wadd (h 12 (by omega)) (n 0) (n 1) (n 2) (by have := f (wNum (S 10) (S 9 1) 0 0) (wNum (S 10) (S 9 1) 0 1) (wYaw (S 14) (S 13 1) (sp_X1_freshAt (sub2 S 13) 0)); omega))))
  · unfold sS0_10_X5_inspectFront_2
    exact zBk.zif (zBk_wcut (h 10 (by omega))) (zBk_wcut (h 10 (by omega)))
theorem wInsp2_k {K : Int} {S : Nat → Nat → Int} (h : pK K S) (hK : 9 ≤ K) : pK (K + 1) (wInsp2 S) := by
  have f := fun a b d => ffail_rng (sub2 S 8) a b d
  have n := fun q => wNum_k (h.1 10 (by decide)) (by omega) (c := S 9 1) (p := 0) (q := q)
  have g : ∀ c, c ≤ 14 → zBk (K + 1) (S c) := fun c hc => (h.1 c hc).mono (by omega)
  have hs := h.2
  have kc := wCutK_rng (c := S 9 1) (p := 0) (q := 1) (by omega)
  have f9 := f (wNum (S 10) (S 9 1) 0 0) (wNum (S 10) (S 9 1) 0 1) (wYaw (S 14) (S 13 1) (sp_X1_freshAt (sub2 S 13) 0))
  have n0 := n 0
  have n1 := n 1
  have n2 := n 2
  have q6 := (h.1 0 (by decide)) 6
  have q7 := (h.1 0 (by decide)) 7
  have q4 := (h.1 8 (by decide)) 4
  have q5 := (h.1 8 (by decide)) 5
  have e11 : wInsp2 S 11 = sS0_11_X5_inspectFront_2 S := rfl
  have e3 : wInsp2 S 9 = sS0_9_X5_inspectFront_2 S := rfl
  refine ⟨fun c hc => ?_, ?_⟩
  · unfold wInsp2
    refine zBk_upA (fun _ => ?_) (fun _ => zBk_upA (fun _ => ?_) (fun _ => zBk_upA (fun _ => ?_) (fun _ => zBk_upA (fun _ => ?_) (fun _ => zBk_upA (fun _ => ?_) (fun _ => zBk_upA (fun _ => ?_) (fun _ => zBk_upA (fun _ => ?_) (fun _ => g c hc)))))))
    · unfold sS0_14_X5_inspectFront_2 sS0_14_X5_inspectMonday_2
      exact zBk.zif (zBk_wtire (g 14 (by decide)) (by omega)) (zBk.zif (zBk_wtire (g 14 (by decide)) (by omega)) (zBk_wtire (g 14 (by decide)) (by omega)))
    · unfold sS0_12_X5_inspectFront_2 sS0_12_X5_inspectMonday_2 sS0_12_X5_reject_2
      exact zBk.zif (g 12 (by decide)) (zBk.zif (g 12 (by decide)) (zBk.zif (g 12 (by decide)) (zBk_wadd (g 12 (by decide)) (by show -(K + 1) ≤ wNum (S 10) (S 9 1) 0 0 ∧ wNum (S 10) (S 9 1) 0 0 ≤ K + 1; omega) (by show -(K + 1) ≤ wNum (S 10) (S 9 1) 0 1 ∧ wNum (S 10) (S 9 1) 0 1 ≤ K + 1; omega) (by show -(K + 1) ≤ wNum (S 10) (S 9 1) 0 2 ∧ wNum (S 10) (S 9 1) 0 2 ≤ K + 1; omega) (by omega))))
    · unfold sS0_11_X5_inspectFront_2 sS0_11_X5_inspectMonday_2 sS0_11_X5_reject_2
      exact zBk.zif (g 11 (by decide)) (zBk.zif (g 11 (by decide)) (zBk.zif (g 11 (by decide)) ((g 11 (by decide)).up (by show -(K + 1) ≤ S 11 1 + 1 ∧ S 11 1 + 1 ≤ K + 1; omega))))
    · unfold sS0_10_X5_inspectFront_2
      exact zBk.zif (zBk_wcut (g 10 (by decide))) (zBk_wcut (g 10 (by decide)))
    · unfold sS0_9_X5_inspectFront_2
      exact zBk.zif ((g 9 (by decide)).up (by omega)) ((g 9 (by decide)).up (by omega))
    · unfold sS0_8_X5_inspectFront_2 sS0_8_X5_inspectMonday_2
      exact zBk.zif (g 8 (by decide)) (zBk.zif ((((g 8 (by decide)).up (by omega)).up (by omega)).up (by omega)) (((g 8 (by decide)).up (by omega)).up (by omega)))
    · unfold sS0_0_X5_inspectFront_2 sS0_0_X5_inspectMonday_2 sS0_0_X5_reject_2
      exact zBk.zif (g 0 (by decide)) (zBk.zif (g 0 (by decide)) (zBk.zif (((g 0 (by decide)).up (by show -(K + 1) ≤ S 0 6 + 1 ∧ S 0 6 + 1 ≤ K + 1; omega)).up (by show -(K + 1) ≤ S 0 7 + 1 ∧ S 0 7 + 1 ≤ K + 1; omega)) ((g 0 (by decide)).up (by show -(K + 1) ≤ S 0 6 + 1 ∧ S 0 6 + 1 ≤ K + 1; omega))))
  · have c3 : 0 ≤ wInsp2 S 9 1 ∧ wInsp2 S 9 1 ≤ 5 := by
      rw [e3]
      unfold sS0_9_X5_inspectFront_2
      exact el1 (Q := fun z : Nat → Int => 0 ≤ z 1 ∧ z 1 ≤ 5) (fun _ => by rw [upZ_s]; omega) (fun _ => by rw [upZ_s]; omega)
    have c11 : 0 ≤ wInsp2 S 11 1 ∧ wInsp2 S 11 1 ≤ 8 := by
      rw [e11]
      unfold sS0_11_X5_inspectFront_2 sS0_11_X5_inspectMonday_2 sS0_11_X5_reject_2
      refine el1 (Q := fun z : Nat → Int => 0 ≤ z 1 ∧ z 1 ≤ 8) (fun _ => by omega) (fun _ => el1 (Q := fun z : Nat → Int => 0 ≤ z 1 ∧ z 1 ≤ 8) (fun _ => by omega) (fun _ => el1 (Q := fun z : Nat → Int => 0 ≤ z 1 ∧ z 1 ≤ 8) (fun _ => by show 0 ≤ S 11 1 ∧ S 11 1 ≤ 8; omega) (fun h9 => ?_)))
      have h9 : ¬ 8 ≤ S 11 1 := h9
      rw [upZ_s]
      show 0 ≤ S 11 1 + 1 ∧ S 11 1 + 1 ≤ 8
      omega
    exact ⟨hs.1, hs.2.1, c3, c11, hs.2.2.2.2⟩
noncomputable def wInspN2 (S : Nat → Nat → Int) : Nat → (Nat → Nat → Int)
  | 0 => S
  | n + 1 => wInsp2 (wInspN2 S n)
theorem wInspN2_s {S : Nat → Nat → Int} {x : Int} (hx : 0 ≤ x) : wInsp2 (wInspN2 S x.toNat) = wInspN2 S (x + 1).toNat := by
  rw [show (x + 1).toNat = x.toNat + 1 by omega]
  rfl
theorem foldN_rng {f : Int → Int → Int} (hf : ∀ k a, f k a = a ∨ f k a = k) : ∀ n : Nat, 1 ≤ n → 0 ≤ foldN f 0 n ∧ foldN f 0 n < n := by
  intro n
  induction n with
  | zero => intro h; omega
  | succ n ih =>
    intro _
    rcases Nat.eq_zero_or_pos n with h | h
    · subst h
      show 0 ≤ f 0 0 ∧ f 0 0 < ((0 + 1 : Nat) : Int)
      rcases hf 0 0 with q | q <;> (rw [q]; omega)
    · have a := ih h
      show 0 ≤ f n (foldN f 0 n) ∧ f n (foldN f 0 n) < ((n + 1 : Nat) : Int)
      rcases hf n (foldN f 0 n) with q | q <;> (rw [q]; omega)
theorem wBest_rng {N : Nat → Int} {c d : Int} (h : 1 ≤ c) : 0 ≤ wBest N c d ∧ wBest N c d < c := by
  have a := foldN_rng (f := wBestF N c d) (fun k a => zif_or2 _ _ _) (max 1 c).toNat (by omega)
  unfold wBest foldI
  omega
/-- the plant behind n sales, each of the reject that f tells -/
noncomputable def wSellN (f : (Nat → Nat → Int) → Int) (S : Nat → Nat → Int) : Nat → (Nat → Nat → Int)
  | 0 => S
  | n + 1 => wSell (wSellN f S n) (f (wSellN f S n))
/-- .. and what they bring -/
noncomputable def wSellV (f : (Nat → Nat → Int) → Int) (S : Nat → Nat → Int) : Nat → Int
  | 0 => 0
  | n + 1 => wSellV f S n + wWorth (wSellN f S n 12) (wSellN f S n 11 1) (f (wSellN f S n)) (wSellN f S n 0 9)
abbrev wFirst : (Nat → Nat → Int) → Int := fun _ => 0
noncomputable abbrev wDear : (Nat → Nat → Int) → Int := fun S => wBest (S 12) (S 11 1) (S 0 9)
theorem wSellN_s {f : (Nat → Nat → Int) → Int} {S : Nat → Nat → Int} {x : Int} (hx : 0 ≤ x) : wSell (wSellN f S x.toNat) (f (wSellN f S x.toNat)) = wSellN f S (x + 1).toNat := by
  rw [show (x + 1).toNat = x.toNat + 1 by omega]
  rfl
theorem wSellV_s {f : (Nat → Nat → Int) → Int} {S : Nat → Nat → Int} {x : Int} (hx : 0 ≤ x) : wSellV f S x.toNat + wWorth (wSellN f S x.toNat 12) (wSellN f S x.toNat 11 1) (f (wSellN f S x.toNat)) (wSellN f S x.toNat 0 9) = wSellV f S (x + 1).toNat := by
  rw [show (x + 1).toNat = x.toNat + 1 by omega]
  rfl
theorem wSell_12 {S : Nat → Nat → Int} {p : Int} : wSell S p 12 = wCutN (S 12) (S 11 1) p 1 := rfl
theorem wSell_9 {S : Nat → Nat → Int} {p : Int} : wSell S p 0 9 = S 0 9 + 1 := rfl
theorem wSell_11 {S : Nat → Nat → Int} {p : Int} (h : 0 ≤ p ∧ p < S 11 1) : wSell S p 11 1 = S 11 1 - 1 := by
  show wCutK (S 11 1) p 1 = _
  exact zif_pos (by omega)
theorem wSell_a {S : Nat → Nat → Int} (h : aOK S) {p : Int} : aOK (wSell S p) := by
  intro c hc
  rcases hc with rfl | rfl | rfl | rfl | rfl
  · exact h 4 (by omega)
  · exact h 7 (by omega)
  · exact h 10 (by omega)
  · exact zBk_wcut (h 12 (by omega))
  · exact h 14 (by omega)
noncomputable def wByPlaces (N : Nat → Int) (c d : Int) : Int := sumI (fun k => max 1 (wPrice N c k - d - k)) c
theorem wSellN_an {f : (Nat → Nat → Int) → Int} {S : Nat → Nat → Int} (h : aOK S) : ∀ n, aOK (wSellN f S n) := by
  intro n
  induction n with
  | zero => exact h
  | succ n ih => exact wSell_a ih
theorem wSellN_a {f : (Nat → Nat → Int) → Int} {S T : Nat → Nat → Int} (hS : aOK S) (hT : pOK T) {n : Nat} : aOK (wSellN f (wCopy S T) n) := wSellN_an (pOK_a (pOK_copy hS hT)) n
set_option maxHeartbeats 4000000 in
set_option maxRecDepth 100000 in
theorem c_X7_failInThought_0 (l : Launch) (D : va_G) (k : Nat → ClassId) (a0 : Nat → Nat) (S0 : Nat → Nat → Int) (S1 : Nat → Nat → Int) (S2 : Nat → Nat → Int) (p1 : Int) (hp : pOK S1) (hat : aOK S2) (h1 : -2147483648 ≤ p1 ∧ p1 < 2147483648) (hc : 0 ≤ p1 ∧ p1 < S1 3 1) : zMi l yX7_failInThought wsX7_failInThought ({ frames := 4, cells := 0, slots := 0, locals := 104 } : Room) D k [.ref (a0 0), .int (iI 0), .int (iI p1)] (wFac k a0 S0 ++ (wPlant k (subA a0 1) S1 ++ wPlant k (subA a0 16) S2)) (sp_X5_inspectFront_0 (upA (upA ((wCopy S2 S1)) 3 (upZ ((((wCopy S2 S1)) 3)) 1 (wCutK (((((wCopy S2 S1)) 3) 1)) 0 p1))) 4 (wCutN ((((wCopy S2 S1)) 4)) (((((wCopy S2 S1)) 3) 1)) 0 p1))) (wFac k a0 S0 ++ (wPlant k (subA a0 1) S1 ++ wPlant k (subA a0 16) ((wInsp0 (upA (upA ((wCopy S2 S1)) 3 (upZ ((((wCopy S2 S1)) 3)) 1 (wCutK (((((wCopy S2 S1)) 3) 1)) 0 p1))) 4 (wCutN ((((wCopy S2 S1)) 4)) (((((wCopy S2 S1)) 3) 1)) 0 p1)))))) 0 0 := by
  refine zMi_of (cc := cX7_failInThought) (maxL := 3) (ret := (some .int)) (by decide) rfl (Nat.le_of_ble_eq_true rfl) ?_
  intro p e s m args below meth c A ls hx hb hr hml hown hts hlocks hK hP hD hG hA hS hl
  have hown : s.vm.findClass RX7 = some m.cls := hown
  have hl : lv_has ls 3 [(0, .ref (a0 0)), (1, .int (iI 0)), (2, .int (iI p1))] := hl
  obtain ⟨H, hH⟩ : ∃ z, z = s.heap := ⟨_, rfl⟩
  obtain ⟨locs, hlc⟩ : ∃ z : List Loc, z = [] := ⟨_, rfl⟩
  rw [← hH] at hP
  have hS : va_S A s.heap H locs := by rw [hH, hlc]; exact hS
  rw [← hlc, ← hH]
  clear hlc hH
  have kp := hp.2
  refine lv_aload_n hx hb dX7_failInThought_0 rfl (lv_at hl 0 rfl) ?_
  refine va_get (D := D) (ci := 9) (v := .ref ((subA a0 16) 0)) (C := RX7) (T := TX7) (N := 11) hx hb hts (fun w h => List.mem_cons_of_mem _ (List.mem_append_left _ (List.mem_append_left _ (List.mem_append_left _ (List.mem_append_left _ (List.mem_append_left _ (List.mem_append_right _ h))))))) hown hK hP 0 rfl rfl 1 (by decide) (hts (.fieldLink RX7 16 "MondayFactory" "thought" "LMondayFactory$Plant;") (List.mem_of_getElem? (i := 1) rfl)) (fun _ h9 => h9) rfl dX7_failInThought_1 ?_
  refine lv_aload_n hx hb dX7_failInThought_4 rfl (lv_at hl 0 rfl) ?_
  refine va_get (D := D) (ci := 9) (v := .ref ((subA a0 1) 0)) (C := RX7) (T := TX7) (N := 11) hx hb hts (fun w h => List.mem_cons_of_mem _ (List.mem_append_left _ (List.mem_append_left _ (List.mem_append_left _ (List.mem_append_left _ (List.mem_append_left _ (List.mem_append_right _ h))))))) hown hK hP 0 rfl rfl 0 (by decide) (hts (.fieldLink RX7 10 "MondayFactory" "plant" "LMondayFactory$Plant;") (List.mem_of_getElem? (i := 2) rfl)) (fun _ h9 => h9) rfl dX7_failInThought_5 ?_
  refine z_av (va_runV (As := [.ref ((subA a0 1) 0)]) (rest := []) ⟨hx, hb, hml, hown, hts⟩ (c_X5_copyW l D k ((subA a0 16)) S2 ((subA a0 1)) S1   (by omega) (by omega) (by omega) (by omega) _) (cwV 1 hts gX7_failInThought_X5_copyFrom rfl rfl rfl (by decide +kernel) ⟨(Nat.le_of_ble_eq_true rfl), (Nat.le_of_ble_eq_true rfl)⟩) (z_preV hK hG hA hP hD hS (zrg 16 15 ++ zrg 1 15) (z_mcat (z_sk (n := 1) (off := 15) (m := 15) rfl (z_sk (n := 15) (off := 0) (m := 15) rfl (z_hdl (n := 15) rfl))) (z_sk (n := 1) (off := 0) (m := 15) rfl (z_hd (n := 15) rfl))) (by decide +kernel) 7 rfl rfl) rfl rfl hl.1 rfl (lv_room (Nat.le_of_ble_eq_true rfl)) dX7_failInThought_8 ⟨(Nat.le_of_ble_eq_true rfl), (Nat.le_of_ble_eq_true rfl)⟩) hA hP hD hS (zrg 16 15 ++ zrg 1 15) (z_mcat (z_sk (n := 1) (off := 15) (m := 15) rfl (z_sk (n := 15) (off := 0) (m := 15) rfl (z_hdl (n := 15) rfl))) (z_sk (n := 1) (off := 0) (m := 15) rfl (z_hd (n := 15) rfl))) (z_mfst rfl rfl) (fun H locs hP hD hS => ?_)
  have hz_2 : zset (wFac k a0 S0 ++ (wPlant k (subA a0 1) S1 ++ wPlant k (subA a0 16) S2)) (zrg 16 15) (wPlant k (subA a0 16) ((wCopy S2 S1))) = wFac k a0 S0 ++ (wPlant k (subA a0 1) S1 ++ wPlant k (subA a0 16) ((wCopy S2 S1))) := (z_zsk (n := 1) (off := 15) (m := 15) rfl (z_zsk (n := 15) (off := 0) (m := 15) rfl (z_zhl (n := 15) rfl rfl)))
  have hz_3 : zset (wFac k a0 S0 ++ (wPlant k (subA a0 1) S1 ++ wPlant k (subA a0 16) ((wCopy S2 S1)))) (zrg 1 15) (wPlant k (subA a0 1) S1) = wFac k a0 S0 ++ (wPlant k (subA a0 1) S1 ++ wPlant k (subA a0 16) ((wCopy S2 S1))) := (z_zsk (n := 1) (off := 0) (m := 15) rfl (z_zhd (n := 15) rfl rfl))
  have hE_1 : zset (wFac k a0 S0 ++ (wPlant k (subA a0 1) S1 ++ wPlant k (subA a0 16) S2)) (zrg 16 15 ++ zrg 1 15) (wPlant k (subA a0 16) ((wCopy S2 S1)) ++ wPlant k (subA a0 1) S1) = wFac k a0 S0 ++ (wPlant k (subA a0 1) S1 ++ wPlant k (subA a0 16) ((wCopy S2 S1))) := (z_zcat rfl hz_2 hz_3)
  have hP : va_P D vwCl (wFac k a0 S0 ++ (wPlant k (subA a0 1) S1 ++ wPlant k (subA a0 16) ((wCopy S2 S1)))) H := z_to hE_1 hP
  have hD : va_D A (wFac k a0 S0 ++ (wPlant k (subA a0 1) S1 ++ wPlant k (subA a0 16) ((wCopy S2 S1)))) := z_to2 hE_1 hD
  have ob_4 : pOK ((wCopy S2 S1)) := pOK_copy hat hp
  have ob_4k := ob_4.2
  refine lv_aload_n hx hb dX7_failInThought_11 rfl (lv_at hl 0 rfl) ?_
  refine va_get (D := D) (ci := 9) (v := .ref ((subA a0 16) 0)) (C := RX7) (T := TX7) (N := 11) hx hb hts (fun w h => List.mem_cons_of_mem _ (List.mem_append_left _ (List.mem_append_left _ (List.mem_append_left _ (List.mem_append_left _ (List.mem_append_left _ (List.mem_append_right _ h))))))) hown hK hP 0 rfl rfl 1 (by decide) (hts (.fieldLink RX7 16 "MondayFactory" "thought" "LMondayFactory$Plant;") (List.mem_of_getElem? (i := 1) rfl)) (fun _ h9 => h9) rfl dX7_failInThought_12 ?_
  refine va_get (D := D) (ci := 7) (v := .ref ((subA a0 16) 1)) (C := RX5) (T := TX5) (N := 11) hx hb hts (fun w h => List.mem_cons_of_mem _ (List.mem_append_left _ (List.mem_append_left _ (List.mem_append_left _ (List.mem_append_left _ (List.mem_append_right _ h)))))) hown hK hP 16 rfl rfl 0 (by decide) (hts (.fieldLink RX7 72 "MondayFactory$Plant" "belts" "[LMondayFactory$Belt;") (List.mem_of_getElem? (i := 3) rfl)) (fun _ h9 => h9) rfl dX7_failInThought_15 ?_
  refine lv_iload_n hx hb dX7_failInThought_18 rfl (lv_at hl 1 rfl) ?_
  refine z_aald hx hb hK hP 17 2 (f := fun j => some ((subA a0 16) (2 + 3 * j))) (q := (subA a0 16) 2) rfl rfl (i := 0) (by omega) (by omega) (by decide) rfl dX7_failInThought_19 ?_
  refine va_get (D := D) (ci := 2) (v := .ref ((subA a0 16) 3)) (C := RX0) (T := TX0) (N := 6) hx hb hts (fun w h => List.mem_cons_of_mem _ (List.mem_append_left _ (List.mem_append_left _ (List.mem_append_left _ (List.mem_append_right _ h))))) hown hK hP 18 rfl rfl 0 (by decide) (hts (.fieldLink RX7 76 "MondayFactory$Belt" "row" "LMondayFactory$Row;") (List.mem_of_getElem? (i := 4) rfl)) (fun _ h9 => h9) rfl dX7_failInThought_20 ?_
  refine lv_iconst (v := iI 0) hx hb dX7_failInThought_23 rfl ?_
  refine lv_iload_n hx hb dX7_failInThought_24 rfl (lv_at hl 2 rfl) ?_
  refine z_av (va_runV (As := [.int (iI 0), .int (iI p1)]) (rest := []) ⟨hx, hb, hml, hown, hts⟩ (c_X6_cut l D k (subA (subA a0 16) 3) (sub2 ((wCopy S2 S1)) 3)  0 p1 (by have e0 : ((sub2 ((wCopy S2 S1)) 3) 0 1) = (((wCopy S2 S1)) 3) 1 := rfl; omega) (by omega) (by omega) _) (cwV 2 hts gX7_failInThought_X6_cut rfl rfl rfl (by decide +kernel) ⟨(Nat.le_of_ble_eq_true rfl), (Nat.le_of_ble_eq_true rfl)⟩) (z_preV hK hG hA hP hD hS [19, 20] rfl (by decide) 8 rfl rfl) rfl rfl hl.1 rfl (lv_room (Nat.le_of_ble_eq_true rfl)) dX7_failInThought_25 ⟨(Nat.le_of_ble_eq_true rfl), (Nat.le_of_ble_eq_true rfl)⟩) hA hP hD hS [19, 20] rfl rfl (fun H locs hP hD hS => ?_)
  have hP : va_P D vwCl (wFac k a0 S0 ++ (wPlant k (subA a0 1) S1 ++ wPlant k (subA a0 16) (upA (upA ((wCopy S2 S1)) 3 (upZ ((((wCopy S2 S1)) 3)) 1 (wCutK (((((wCopy S2 S1)) 3) 1)) 0 p1))) 4 (wCutN ((((wCopy S2 S1)) 4)) (((((wCopy S2 S1)) 3) 1)) 0 p1)))) H := hP
  have hD : va_D A (wFac k a0 S0 ++ (wPlant k (subA a0 1) S1 ++ wPlant k (subA a0 16) (upA (upA ((wCopy S2 S1)) 3 (upZ ((((wCopy S2 S1)) 3)) 1 (wCutK (((((wCopy S2 S1)) 3) 1)) 0 p1))) 4 (wCutN ((((wCopy S2 S1)) 4)) (((((wCopy S2 S1)) 3) 1)) 0 p1)))) := hD
  have q_5 : 0 ≤ wCutK (((((wCopy S2 S1)) 3) 1)) 0 p1 ∧ wCutK (((((wCopy S2 S1)) 3) 1)) 0 p1 ≤ ((((wCopy S2 S1)) 3) 1) := wCutK_rng (by have e0 : ((sub2 ((wCopy S2 S1)) 3) 0 1) = (((wCopy S2 S1)) 3) 1 := rfl; omega)
  refine lv_aload_n hx hb dX7_failInThought_28 rfl (lv_at hl 0 rfl) ?_
  refine va_get (D := D) (ci := 9) (v := .ref ((subA a0 16) 0)) (C := RX7) (T := TX7) (N := 11) hx hb hts (fun w h => List.mem_cons_of_mem _ (List.mem_append_left _ (List.mem_append_left _ (List.mem_append_left _ (List.mem_append_left _ (List.mem_append_left _ (List.mem_append_right _ h))))))) hown hK hP 0 rfl rfl 1 (by decide) (hts (.fieldLink RX7 16 "MondayFactory" "thought" "LMondayFactory$Plant;") (List.mem_of_getElem? (i := 1) rfl)) (fun _ h9 => h9) rfl dX7_failInThought_29 ?_
  refine lv_iload_n hx hb dX7_failInThought_32 rfl (lv_at hl 1 rfl) ?_
  refine z_ai (va_runV (As := [.int (iI 0)]) (rest := []) ⟨hx, hb, hml, hown, hts⟩ (c_X5_inspW0 l D k ((subA a0 16)) (upA (upA ((wCopy S2 S1)) 3 (upZ ((((wCopy S2 S1)) 3)) 1 (wCutK (((((wCopy S2 S1)) 3) 1)) 0 p1))) 4 (wCutN ((((wCopy S2 S1)) 4)) (((((wCopy S2 S1)) 3) 1)) 0 p1))   (pOK_b ob_4 2 (by decide)) (zBf.wcut (pOK_b ob_4 4 (by decide)) ) (pOK_b ob_4 14 (by decide)) (by have e0 : ((upA (upA ((wCopy S2 S1)) 3 (upZ ((((wCopy S2 S1)) 3)) 1 (wCutK (((((wCopy S2 S1)) 3) 1)) 0 p1))) 4 (wCutN ((((wCopy S2 S1)) 4)) (((((wCopy S2 S1)) 3) 1)) 0 p1)) 3 1) = wCutK (((((wCopy S2 S1)) 3) 1)) 0 p1 := (show (upZ ((((wCopy S2 S1)) 3)) 1 (wCutK (((((wCopy S2 S1)) 3) 1)) 0 p1)) 1 = wCutK (((((wCopy S2 S1)) 3) 1)) 0 p1 from (Eq.trans upZ_s rfl)); omega) (by have e0 : ((upA (upA ((wCopy S2 S1)) 3 (upZ ((((wCopy S2 S1)) 3)) 1 (wCutK (((((wCopy S2 S1)) 3) 1)) 0 p1))) 4 (wCutN ((((wCopy S2 S1)) 4)) (((((wCopy S2 S1)) 3) 1)) 0 p1)) 11 1) = (((wCopy S2 S1)) 11) 1 := rfl; omega) (by have e0 : ((upA (upA ((wCopy S2 S1)) 3 (upZ ((((wCopy S2 S1)) 3)) 1 (wCutK (((((wCopy S2 S1)) 3) 1)) 0 p1))) 4 (wCutN ((((wCopy S2 S1)) 4)) (((((wCopy S2 S1)) 3) 1)) 0 p1)) 13 1) = (((wCopy S2 S1)) 13) 1 := rfl; omega) _) (cwV 1 hts gX7_failInThought_X5_inspectFront rfl rfl rfl (by decide +kernel) ⟨(Nat.le_of_ble_eq_true rfl), (Nat.le_of_ble_eq_true rfl)⟩) (z_preV hK hG hA hP hD hS (zrg 16 15) (z_sk (n := 1) (off := 15) (m := 15) rfl (z_sk (n := 15) (off := 0) (m := 15) rfl (z_hdl (n := 15) rfl))) (by decide +kernel) 7 rfl rfl) rfl rfl hl.1 rfl (lv_room (Nat.le_of_ble_eq_true rfl)) dX7_failInThought_33 ⟨(Nat.le_of_ble_eq_true rfl), (Nat.le_of_ble_eq_true rfl)⟩) hA hP hD hS (zrg 16 15) (z_sk (n := 1) (off := 15) (m := 15) rfl (z_sk (n := 15) (off := 0) (m := 15) rfl (z_hdl (n := 15) rfl))) rfl (fun H locs hP hD hS => ?_)
  have hz_7 : zset (wFac k a0 S0 ++ (wPlant k (subA a0 1) S1 ++ wPlant k (subA a0 16) (upA (upA ((wCopy S2 S1)) 3 (upZ ((((wCopy S2 S1)) 3)) 1 (wCutK (((((wCopy S2 S1)) 3) 1)) 0 p1))) 4 (wCutN ((((wCopy S2 S1)) 4)) (((((wCopy S2 S1)) 3) 1)) 0 p1)))) (zrg 16 15) (wPlant k (subA a0 16) ((wInsp0 (upA (upA ((wCopy S2 S1)) 3 (upZ ((((wCopy S2 S1)) 3)) 1 (wCutK (((((wCopy S2 S1)) 3) 1)) 0 p1))) 4 (wCutN ((((wCopy S2 S1)) 4)) (((((wCopy S2 S1)) 3) 1)) 0 p1))))) = wFac k a0 S0 ++ (wPlant k (subA a0 1) S1 ++ wPlant k (subA a0 16) ((wInsp0 (upA (upA ((wCopy S2 S1)) 3 (upZ ((((wCopy S2 S1)) 3)) 1 (wCutK (((((wCopy S2 S1)) 3) 1)) 0 p1))) 4 (wCutN ((((wCopy S2 S1)) 4)) (((((wCopy S2 S1)) 3) 1)) 0 p1))))) := (z_zsk (n := 1) (off := 15) (m := 15) rfl (z_zsk (n := 15) (off := 0) (m := 15) rfl (z_zhl (n := 15) rfl rfl)))
  have hE_6 : zset (wFac k a0 S0 ++ (wPlant k (subA a0 1) S1 ++ wPlant k (subA a0 16) (upA (upA ((wCopy S2 S1)) 3 (upZ ((((wCopy S2 S1)) 3)) 1 (wCutK (((((wCopy S2 S1)) 3) 1)) 0 p1))) 4 (wCutN ((((wCopy S2 S1)) 4)) (((((wCopy S2 S1)) 3) 1)) 0 p1)))) (zrg 16 15) (wPlant k (subA a0 16) ((wInsp0 (upA (upA ((wCopy S2 S1)) 3 (upZ ((((wCopy S2 S1)) 3)) 1 (wCutK (((((wCopy S2 S1)) 3) 1)) 0 p1))) 4 (wCutN ((((wCopy S2 S1)) 4)) (((((wCopy S2 S1)) 3) 1)) 0 p1))))) = wFac k a0 S0 ++ (wPlant k (subA a0 1) S1 ++ wPlant k (subA a0 16) ((wInsp0 (upA (upA ((wCopy S2 S1)) 3 (upZ ((((wCopy S2 S1)) 3)) 1 (wCutK (((((wCopy S2 S1)) 3) 1)) 0 p1))) 4 (wCutN ((((wCopy S2 S1)) 4)) (((((wCopy S2 S1)) 3) 1)) 0 p1))))) := hz_7
  have hP : va_P D vwCl (wFac k a0 S0 ++ (wPlant k (subA a0 1) S1 ++ wPlant k (subA a0 16) ((wInsp0 (upA (upA ((wCopy S2 S1)) 3 (upZ ((((wCopy S2 S1)) 3)) 1 (wCutK (((((wCopy S2 S1)) 3) 1)) 0 p1))) 4 (wCutN ((((wCopy S2 S1)) 4)) (((((wCopy S2 S1)) 3) 1)) 0 p1)))))) H := z_to hE_6 hP
  have hD : va_D A (wFac k a0 S0 ++ (wPlant k (subA a0 1) S1 ++ wPlant k (subA a0 16) ((wInsp0 (upA (upA ((wCopy S2 S1)) 3 (upZ ((((wCopy S2 S1)) 3)) 1 (wCutK (((((wCopy S2 S1)) 3) 1)) 0 p1))) 4 (wCutN ((((wCopy S2 S1)) 4)) (((((wCopy S2 S1)) 3) 1)) 0 p1)))))) := z_to2 hE_6 hD
  refine z_eqi (z2 := sp_X5_inspectFront_0 (upA (upA ((wCopy S2 S1)) 3 (upZ ((((wCopy S2 S1)) 3)) 1 (wCutK (((((wCopy S2 S1)) 3) 1)) 0 p1))) 4 (wCutN ((((wCopy S2 S1)) 4)) (((((wCopy S2 S1)) 3) 1)) 0 p1))) rfl ?_
  exact z_iret hx hb hr hlocks hP hS dX7_failInThought_36 rfl rfl (Nat.le_refl _) (Nat.le_refl _)
noncomputable def sp_X7_failBackwards_0 (S0 : Nat → Nat → Int) (S1 : Nat → Nat → Int) (p1 : Int) : Int := zif (wNum (S1 4) (S1 3 1) p1 0 = -1)
  (0)
  (zif (wPassed (S1 2) (wNum (S1 4) (S1 3 1) p1 0) (wNum (S1 4) (S1 3 1) p1 1) 3)
    (zif (wPassed (S1 2) (wNum (S1 4) (S1 3 1) p1 0) (wNum (S1 4) (S1 3 1) p1 1) 2)
      (zif (wPassed (S1 2) (wNum (S1 4) (S1 3 1) p1 0) (wNum (S1 4) (S1 3 1) p1 1) 1)
        (0)
        (zif (wLeft 1 (wYaw (S1 14) (S1 13 1) (sp_X1_freshAt (sub2 S1 13) 0)))
          (0)
          (1)))
      (zif (wLeft 2 (wYaw (S1 14) (S1 13 1) (sp_X1_freshAt (sub2 S1 13) 0)))
        (zif (wPassed (S1 2) (wNum (S1 4) (S1 3 1) p1 0) (wNum (S1 4) (S1 3 1) p1 1) 1)
          (0)
          (zif (wLeft 1 (wYaw (S1 14) (S1 13 1) (sp_X1_freshAt (sub2 S1 13) 0)))
            (0)
            (1)))
        (zif (wPassed (S1 2) (wNum (S1 4) (S1 3 1) p1 0) (wNum (S1 4) (S1 3 1) p1 1) 1)
          (2)
          (zif (wLeft 1 (wYaw (S1 14) (S1 13 1) (sp_X1_freshAt (sub2 S1 13) 0)))
            (2)
            (1)))))
    (zif (wLeft 3 (wYaw (S1 14) (S1 13 1) (sp_X1_freshAt (sub2 S1 13) 0)))
      (zif (wPassed (S1 2) (wNum (S1 4) (S1 3 1) p1 0) (wNum (S1 4) (S1 3 1) p1 1) 2)
        (zif (wPassed (S1 2) (wNum (S1 4) (S1 3 1) p1 0) (wNum (S1 4) (S1 3 1) p1 1) 1)
          (0)
          (zif (wLeft 1 (wYaw (S1 14) (S1 13 1) (sp_X1_freshAt (sub2 S1 13) 0)))
            (0)
            (1)))
        (zif (wLeft 2 (wYaw (S1 14) (S1 13 1) (sp_X1_freshAt (sub2 S1 13) 0)))
          (zif (wPassed (S1 2) (wNum (S1 4) (S1 3 1) p1 0) (wNum (S1 4) (S1 3 1) p1 1) 1)
            (0)
            (zif (wLeft 1 (wYaw (S1 14) (S1 13 1) (sp_X1_freshAt (sub2 S1 13) 0)))
              (0)
              (1)))
          (zif (wPassed (S1 2) (wNum (S1 4) (S1 3 1) p1 0) (wNum (S1 4) (S1 3 1) p1 1) 1)
            (2)
            (zif (wLeft 1 (wYaw (S1 14) (S1 13 1) (sp_X1_freshAt (sub2 S1 13) 0)))
              (2)
              (1)))))
      (zif (wPassed (S1 2) (wNum (S1 4) (S1 3 1) p1 0) (wNum (S1 4) (S1 3 1) p1 1) 2)
        (zif (wPassed (S1 2) (wNum (S1 4) (S1 3 1) p1 0) (wNum (S1 4) (S1 3 1) p1 1) 1)
          (3)
          (zif (wLeft 1 (wYaw (S1 14) (S1 13 1) (sp_X1_freshAt (sub2 S1 13) 0)))
            (3)
            (1)))
        (zif (wLeft 2 (wYaw (S1 14) (S1 13 1) (sp_X1_freshAt (sub2 S1 13) 0)))
          (zif (wPassed (S1 2) (wNum (S1 4) (S1 3 1) p1 0) (wNum (S1 4) (S1 3 1) p1 1) 1)
            (3)
            (zif (wLeft 1 (wYaw (S1 14) (S1 13 1) (sp_X1_freshAt (sub2 S1 13) 0)))
              (3)
              (1)))
          (zif (wPassed (S1 2) (wNum (S1 4) (S1 3 1) p1 0) (wNum (S1 4) (S1 3 1) p1 1) 1)
            (2)
            (zif (wLeft 1 (wYaw (S1 14) (S1 13 1) (sp_X1_freshAt (sub2 S1 13) 0)))
              (2)
              (1)))))))
set_option maxHeartbeats 4000000 in
set_option maxRecDepth 100000 in
theorem c_X7_failBackwards_0 (l : Launch) (D : va_G) (k : Nat → ClassId) (a0 : Nat → Nat) (S0 : Nat → Nat → Int) (S1 : Nat → Nat → Int) (p1 : Int) (hp : pOK S1) (h1 : -2147483648 ≤ p1 ∧ p1 < 2147483648) (hc : 0 ≤ p1 ∧ p1 < S1 3 1) : zMi l yX7_failBackwards wsX7_failBackwards ({ frames := 2, cells := 0, slots := 0, locals := 47 } : Room) D k [.ref (a0 0), .int (iI 0), .int (iI p1)] (wFac k a0 S0 ++ wPlant k (subA a0 1) S1) (sp_X7_failBackwards_0 S0 S1 p1) (wFac k a0 S0 ++ wPlant k (subA a0 1) S1) 0 0 := by
  refine zMi_of (cc := cX7_failBackwards) (maxL := 9) (ret := (some .int)) (by decide) rfl (Nat.le_of_ble_eq_true rfl) ?_
  intro p e s m args below meth c A ls hx hb hr hml hown hts hlocks hK hP hD hG hA hS hl
  have hown : s.vm.findClass RX7 = some m.cls := hown
  have hl : lv_has ls 9 [(0, .ref (a0 0)), (1, .int (iI 0)), (2, .int (iI p1))] := hl
  obtain ⟨H, hH⟩ : ∃ z, z = s.heap := ⟨_, rfl⟩
  obtain ⟨locs, hlc⟩ : ∃ z : List Loc, z = [] := ⟨_, rfl⟩
  rw [← hH] at hP
  have hS : va_S A s.heap H locs := by rw [hH, hlc]; exact hS
  rw [← hlc, ← hH]
  clear hlc hH
  have kp := hp.2
  refine lv_aload_n hx hb dX7_failBackwards_0 rfl (lv_at hl 0 rfl) ?_
  refine va_get (D := D) (ci := 9) (v := .ref ((subA a0 1) 0)) (C := RX7) (T := TX7) (N := 11) hx hb hts (fun w h => List.mem_cons_of_mem _ (List.mem_append_left _ (List.mem_append_left _ (List.mem_append_left _ (List.mem_append_left _ (List.mem_append_left _ (List.mem_append_right _ h))))))) hown hK hP 0 rfl rfl 0 (by decide) (hts (.fieldLink RX7 10 "MondayFactory" "plant" "LMondayFactory$Plant;") (List.mem_of_getElem? (i := 1) rfl)) (fun _ h9 => h9) rfl dX7_failBackwards_1 ?_
  refine va_get (D := D) (ci := 7) (v := .ref ((subA a0 1) 1)) (C := RX5) (T := TX5) (N := 11) hx hb hts (fun w h => List.mem_cons_of_mem _ (List.mem_append_left _ (List.mem_append_left _ (List.mem_append_left _ (List.mem_append_left _ (List.mem_append_right _ h)))))) hown hK hP 1 rfl rfl 0 (by decide) (hts (.fieldLink RX7 72 "MondayFactory$Plant" "belts" "[LMondayFactory$Belt;") (List.mem_of_getElem? (i := 2) rfl)) (fun _ h9 => h9) rfl dX7_failBackwards_4 ?_
  refine lv_iload_n hx hb dX7_failBackwards_7 rfl (lv_at hl 1 rfl) ?_
  refine z_aald hx hb hK hP 2 2 (f := fun j => some ((subA a0 1) (2 + 3 * j))) (q := (subA a0 1) 2) rfl rfl (i := 0) (by omega) (by omega) (by decide) rfl dX7_failBackwards_8 ?_
  refine lv_astore_n (lv' := [(3, .ref ((subA a0 1) 2)), (0, .ref (a0 0)), (1, .int (iI 0)), (2, .int (iI p1))]) hx hb dX7_failBackwards_9 rfl hl (by decide) rfl (fun ls hl => ?_)
  refine lv_aload_n hx hb dX7_failBackwards_10 rfl (lv_at hl 0 rfl) ?_
  refine va_get (D := D) (ci := 2) (v := .ref ((subA a0 1) 3)) (C := RX0) (T := TX0) (N := 6) hx hb hts (fun w h => List.mem_cons_of_mem _ (List.mem_append_left _ (List.mem_append_left _ (List.mem_append_left _ (List.mem_append_right _ h))))) hown hK hP 3 rfl rfl 0 (by decide) (hts (.fieldLink RX7 76 "MondayFactory$Belt" "row" "LMondayFactory$Row;") (List.mem_of_getElem? (i := 3) rfl)) (fun _ h9 => h9) rfl dX7_failBackwards_11 ?_
  refine lv_iload_n hx hb dX7_failBackwards_14 rfl (lv_at hl 3 rfl) ?_
  refine z_ai0 (va_runV (As := [.int (iI p1)]) (rest := []) ⟨hx, hb, hml, hown, hts⟩ (c_X6_isBlank l D k (subA (subA a0 1) 3) (sub2 S1 3)  p1 (pOK_b hp 4 (by decide)) (by have e0 : ((sub2 S1 3) 0 1) = S1 3 1 := rfl; omega) (by omega) _) (cwV 1 hts gX7_failBackwards_X6_isBlank rfl rfl rfl (by decide +kernel) ⟨(Nat.le_of_ble_eq_true rfl), (Nat.le_of_ble_eq_true rfl)⟩) (z_preV hK hG hA hP hD hS [4, 5] rfl (by decide) 8 rfl rfl) rfl rfl hl.1 rfl (lv_room (Nat.le_of_ble_eq_true rfl)) dX7_failBackwards_15 ⟨(Nat.le_of_ble_eq_true rfl), (Nat.le_of_ble_eq_true rfl)⟩) hA hP hD hS [4, 5] rfl (fun H locs hP hS => ?_)
  refine z_eqi (z2 := zb (wNum (S1 4) (S1 3 1) p1 0 = -1)) rfl ?_
  have f_1 : -1000000000 ≤ S1 3 1 ∧ S1 3 1 ≤ 1000000000 := (pOK_b hp 3 (by decide)) 1
  refine zi_if_eqB (tgt := 23) hx hb dX7_failBackwards_18 (by decide) (fun c_2 => ?_) (fun c_2 => ?_)
  · refine lv_aload_n hx hb dX7_failBackwards_23 rfl (lv_at hl 0 rfl) ?_
    refine va_get (D := D) (ci := 2) (v := .ref ((subA a0 1) 3)) (C := RX0) (T := TX0) (N := 6) hx hb hts (fun w h => List.mem_cons_of_mem _ (List.mem_append_left _ (List.mem_append_left _ (List.mem_append_left _ (List.mem_append_right _ h))))) hown hK hP 3 rfl rfl 0 (by decide) (hts (.fieldLink RX7 76 "MondayFactory$Belt" "row" "LMondayFactory$Row;") (List.mem_of_getElem? (i := 3) rfl)) (fun _ h9 => h9) rfl dX7_failBackwards_24 ?_
    refine lv_iload_n hx hb dX7_failBackwards_27 rfl (lv_at hl 3 rfl) ?_
    refine z_ai0 (va_runV (As := [.int (iI p1)]) (rest := []) ⟨hx, hb, hml, hown, hts⟩ (c_X6_grey l D k (subA (subA a0 1) 3) (sub2 S1 3)  p1 (pOK_b hp 4 (by decide)) (by have e0 : ((sub2 S1 3) 0 1) = S1 3 1 := rfl; omega) (by omega) _) (cwV 1 hts gX7_failBackwards_X6_grey rfl rfl rfl (by decide +kernel) ⟨(Nat.le_of_ble_eq_true rfl), (Nat.le_of_ble_eq_true rfl)⟩) (z_preV hK hG hA hP hD hS [4, 5] rfl (by decide) 8 rfl rfl) rfl rfl hl.1 rfl (lv_room (Nat.le_of_ble_eq_true rfl)) dX7_failBackwards_28 ⟨(Nat.le_of_ble_eq_true rfl), (Nat.le_of_ble_eq_true rfl)⟩) hA hP hD hS [4, 5] rfl (fun H locs hP hS => ?_)
    refine z_eqi (z2 := wNum (S1 4) (S1 3 1) p1 0) rfl ?_
    have q_3 : -1000000000 ≤ wNum (S1 4) (S1 3 1) p1 0 ∧ wNum (S1 4) (S1 3 1) p1 0 ≤ 1000000000 := wNum_bd (pOK_b hp 4 (by decide))
    refine lv_istore (lv' := [(4, .int (iI (wNum (S1 4) (S1 3 1) p1 0))), (3, .ref ((subA a0 1) 2)), (0, .ref (a0 0)), (1, .int (iI 0)), (2, .int (iI p1))]) hx hb dX7_failBackwards_31 hl (by decide) rfl (fun ls hl => ?_)
    refine lv_aload_n hx hb dX7_failBackwards_33 rfl (lv_at hl 1 rfl) ?_
    refine va_get (D := D) (ci := 2) (v := .ref ((subA a0 1) 3)) (C := RX0) (T := TX0) (N := 6) hx hb hts (fun w h => List.mem_cons_of_mem _ (List.mem_append_left _ (List.mem_append_left _ (List.mem_append_left _ (List.mem_append_right _ h))))) hown hK hP 3 rfl rfl 0 (by decide) (hts (.fieldLink RX7 76 "MondayFactory$Belt" "row" "LMondayFactory$Row;") (List.mem_of_getElem? (i := 3) rfl)) (fun _ h9 => h9) rfl dX7_failBackwards_34 ?_
    refine lv_iload_n hx hb dX7_failBackwards_37 rfl (lv_at hl 4 rfl) ?_
    refine z_ai0 (va_runV (As := [.int (iI p1)]) (rest := []) ⟨hx, hb, hml, hown, hts⟩ (c_X6_alarm l D k (subA (subA a0 1) 3) (sub2 S1 3)  p1 (pOK_b hp 4 (by decide)) (by have e0 : ((sub2 S1 3) 0 1) = S1 3 1 := rfl; omega) (by omega) _) (cwV 1 hts gX7_failBackwards_X6_alarm rfl rfl rfl (by decide +kernel) ⟨(Nat.le_of_ble_eq_true rfl), (Nat.le_of_ble_eq_true rfl)⟩) (z_preV hK hG hA hP hD hS [4, 5] rfl (by decide) 8 rfl rfl) rfl rfl hl.1 rfl (lv_room (Nat.le_of_ble_eq_true rfl)) dX7_failBackwards_38 ⟨(Nat.le_of_ble_eq_true rfl), (Nat.le_of_ble_eq_true rfl)⟩) hA hP hD hS [4, 5] rfl (fun H locs hP hS => ?_)
    refine z_eqi (z2 := wNum (S1 4) (S1 3 1) p1 1) rfl ?_
    have q_4 : -1000000000 ≤ wNum (S1 4) (S1 3 1) p1 1 ∧ wNum (S1 4) (S1 3 1) p1 1 ≤ 1000000000 := wNum_bd (pOK_b hp 4 (by decide))
    refine lv_istore (lv' := [(5, .int (iI (wNum (S1 4) (S1 3 1) p1 1))), (4, .int (iI (wNum (S1 4) (S1 3 1) p1 0))), (3, .ref ((subA a0 1) 2)), (0, .ref (a0 0)), (1, .int (iI 0)), (2, .int (iI p1))]) hx hb dX7_failBackwards_41 hl (by decide) rfl (fun ls hl => ?_)
    refine lv_aload_n hx hb dX7_failBackwards_43 rfl (lv_at hl 3 rfl) ?_
    refine va_get (D := D) (ci := 9) (v := .ref ((subA a0 1) 0)) (C := RX7) (T := TX7) (N := 11) hx hb hts (fun w h => List.mem_cons_of_mem _ (List.mem_append_left _ (List.mem_append_left _ (List.mem_append_left _ (List.mem_append_left _ (List.mem_append_left _ (List.mem_append_right _ h))))))) hown hK hP 0 rfl rfl 0 (by decide) (hts (.fieldLink RX7 10 "MondayFactory" "plant" "LMondayFactory$Plant;") (List.mem_of_getElem? (i := 1) rfl)) (fun _ h9 => h9) rfl dX7_failBackwards_44 ?_
    refine va_get (D := D) (ci := 7) (v := .ref ((subA a0 1) 13)) (C := RX5) (T := TX5) (N := 11) hx hb hts (fun w h => List.mem_cons_of_mem _ (List.mem_append_left _ (List.mem_append_left _ (List.mem_append_left _ (List.mem_append_left _ (List.mem_append_right _ h)))))) hown hK hP 1 rfl rfl 2 (by decide) (hts (.fieldLink RX7 117 "MondayFactory$Plant" "crew" "LMondayFactory$Crew;") (List.mem_of_getElem? (i := 4) rfl)) (fun _ h9 => h9) rfl dX7_failBackwards_47 ?_
    refine lv_aload_n hx hb dX7_failBackwards_50 rfl (lv_at hl 3 rfl) ?_
    refine va_get (D := D) (ci := 9) (v := .ref ((subA a0 1) 0)) (C := RX7) (T := TX7) (N := 11) hx hb hts (fun w h => List.mem_cons_of_mem _ (List.mem_append_left _ (List.mem_append_left _ (List.mem_append_left _ (List.mem_append_left _ (List.mem_append_left _ (List.mem_append_right _ h))))))) hown hK hP 0 rfl rfl 0 (by decide) (hts (.fieldLink RX7 10 "MondayFactory" "plant" "LMondayFactory$Plant;") (List.mem_of_getElem? (i := 1) rfl)) (fun _ h9 => h9) rfl dX7_failBackwards_51 ?_
    refine va_get (D := D) (ci := 7) (v := .ref ((subA a0 1) 13)) (C := RX5) (T := TX5) (N := 11) hx hb hts (fun w h => List.mem_cons_of_mem _ (List.mem_append_left _ (List.mem_append_left _ (List.mem_append_left _ (List.mem_append_left _ (List.mem_append_right _ h)))))) hown hK hP 1 rfl rfl 2 (by decide) (hts (.fieldLink RX7 117 "MondayFactory$Plant" "crew" "LMondayFactory$Crew;") (List.mem_of_getElem? (i := 4) rfl)) (fun _ h9 => h9) rfl dX7_failBackwards_54 ?_
    refine lv_iconst (v := iI 0) hx hb dX7_failBackwards_57 rfl ?_
    refine z_ai0 (va_runV (As := [.int (iI 0)]) (rest := [.ref ((subA a0 1) 13)]) ⟨hx, hb, hml, hown, hts⟩ (c_X1_freshAt l D k (subA (subA a0 1) 13) (sub2 S1 13)  0 (pOK_b hp 14 (by decide)) (by have e0 : ((sub2 S1 13) 0 1) = S1 13 1 := rfl; omega) (by omega) _) (cwV 1 hts gX7_failBackwards_X1_freshAt rfl rfl rfl (by decide +kernel) ⟨(Nat.le_of_ble_eq_true rfl), (Nat.le_of_ble_eq_true rfl)⟩) (z_preV hK hG hA hP hD hS [14, 15] rfl (by decide) 3 rfl rfl) rfl rfl hl.1 rfl (lv_room (Nat.le_of_ble_eq_true rfl)) dX7_failBackwards_58 ⟨(Nat.le_of_ble_eq_true rfl), (Nat.le_of_ble_eq_true rfl)⟩) hA hP hD hS [14, 15] rfl (fun H locs hP hS => ?_)
    refine z_eqi (z2 := sp_X1_freshAt (sub2 S1 13) 0) rfl ?_
    have q_5 : -1 ≤ sp_X1_freshAt (sub2 S1 13) 0 ∧ sp_X1_freshAt (sub2 S1 13) 0 ≤ 3 := fresh_rng (sub2 S1 13) 0 (by have e0 : ((sub2 S1 13) 0 1) = S1 13 1 := rfl; omega)
    refine z_ai0 (va_runV (As := [.int (iI (sp_X1_freshAt (sub2 S1 13) 0))]) (rest := []) ⟨hx, hb, hml, hown, hts⟩ (c_X1_yawned l D k (subA (subA a0 1) 13) (sub2 S1 13)  (sp_X1_freshAt (sub2 S1 13) 0) (pOK_b hp 14 (by decide)) (by have e0 : ((sub2 S1 13) 0 1) = S1 13 1 := rfl; omega) (by omega) _) (cwV 1 hts gX7_failBackwards_X1_yawned rfl rfl rfl (by decide +kernel) ⟨(Nat.le_of_ble_eq_true rfl), (Nat.le_of_ble_eq_true rfl)⟩) (z_preV hK hG hA hP hD hS [14, 15] rfl (by decide) 3 rfl rfl) rfl rfl hl.1 rfl (lv_room (Nat.le_of_ble_eq_true rfl)) dX7_failBackwards_61 ⟨(Nat.le_of_ble_eq_true rfl), (Nat.le_of_ble_eq_true rfl)⟩) hA hP hD hS [14, 15] rfl (fun H locs hP hS => ?_)
    refine z_eqi (z2 := wYaw (S1 14) (S1 13 1) (sp_X1_freshAt (sub2 S1 13) 0)) rfl ?_
    have f_6 : -1000000000 ≤ S1 13 1 ∧ S1 13 1 ≤ 1000000000 := (pOK_b hp 13 (by decide)) 1
    have q_7 : -1000000000 ≤ wYaw (S1 14) (S1 13 1) (sp_X1_freshAt (sub2 S1 13) 0) ∧ wYaw (S1 14) (S1 13 1) (sp_X1_freshAt (sub2 S1 13) 0) ≤ 1000000000 := wYaw_bd (pOK_b hp 14 (by decide))
    refine lv_istore (lv' := [(6, .int (iI (wYaw (S1 14) (S1 13 1) (sp_X1_freshAt (sub2 S1 13) 0)))), (5, .int (iI (wNum (S1 4) (S1 3 1) p1 1))), (4, .int (iI (wNum (S1 4) (S1 3 1) p1 0))), (3, .ref ((subA a0 1) 2)), (0, .ref (a0 0)), (1, .int (iI 0)), (2, .int (iI p1))]) hx hb dX7_failBackwards_64 hl (by decide) rfl (fun ls hl => ?_)
    refine lv_iconst (v := iI 0) hx hb dX7_failBackwards_66 rfl ?_
    refine lv_istore (lv' := [(7, .int (iI 0)), (6, .int (iI (wYaw (S1 14) (S1 13 1) (sp_X1_freshAt (sub2 S1 13) 0)))), (5, .int (iI (wNum (S1 4) (S1 3 1) p1 1))), (4, .int (iI (wNum (S1 4) (S1 3 1) p1 0))), (3, .ref ((subA a0 1) 2)), (0, .ref (a0 0)), (1, .int (iI 0)), (2, .int (iI p1))]) hx hb dX7_failBackwards_67 hl (by decide) rfl (fun ls hl => ?_)
    refine lv_iconst (v := iI 3) hx hb dX7_failBackwards_69 rfl ?_
    refine lv_istore (lv' := [(8, .int (iI 3)), (7, .int (iI 0)), (6, .int (iI (wYaw (S1 14) (S1 13 1) (sp_X1_freshAt (sub2 S1 13) 0)))), (5, .int (iI (wNum (S1 4) (S1 3 1) p1 1))), (4, .int (iI (wNum (S1 4) (S1 3 1) p1 0))), (3, .ref ((subA a0 1) 2)), (0, .ref (a0 0)), (1, .int (iI 0)), (2, .int (iI p1))]) hx hb dX7_failBackwards_70 hl (by decide) rfl (fun ls hl => ?_)
    refine lv_iload hx hb dX7_failBackwards_72 (lv_at hl 0 rfl) ?_
    refine lv_iconst (v := iI 1) hx hb dX7_failBackwards_74 rfl ?_
    refine zi_icmp_lt (tgt := 111) hx hb dX7_failBackwards_75 (by decide) ⟨by omega, by omega⟩ ⟨by omega, by omega⟩ (fun c_8 => absurd c_8 (by omega)) (fun _ => ?_)
    refine lv_aload_n hx hb dX7_failBackwards_78 rfl (lv_at hl 5 rfl) ?_
    refine lv_iload hx hb dX7_failBackwards_79 (lv_at hl 4 rfl) ?_
    refine lv_iload hx hb dX7_failBackwards_81 (lv_at hl 3 rfl) ?_
    refine lv_iload hx hb dX7_failBackwards_83 (lv_at hl 0 rfl) ?_
    refine z_ai0 (va_runV (As := [.int (iI (wNum (S1 4) (S1 3 1) p1 0)), .int (iI (wNum (S1 4) (S1 3 1) p1 1)), .int (iI 3)]) (rest := []) ⟨hx, hb, hml, hown, hts⟩ (c_X0_isPassedBy l D k (subA (subA a0 1) 2) (sub2 S1 2)  (wNum (S1 4) (S1 3 1) p1 0) (wNum (S1 4) (S1 3 1) p1 1) 3 (pOK_b hp 2 (by decide)) (by omega) (by omega) (by omega) _) (cwV 3 hts gX7_failBackwards_X0_isPassedBy rfl rfl rfl (by decide +kernel) ⟨(Nat.le_of_ble_eq_true rfl), (Nat.le_of_ble_eq_true rfl)⟩) (z_preV hK hG hA hP hD hS [3, 4, 5] rfl (by decide) 2 rfl rfl) rfl rfl hl.1 rfl (lv_room (Nat.le_of_ble_eq_true rfl)) dX7_failBackwards_85 ⟨(Nat.le_of_ble_eq_true rfl), (Nat.le_of_ble_eq_true rfl)⟩) hA hP hD hS [3, 4, 5] rfl (fun H locs hP hS => ?_)
    refine z_eqi (z2 := zb (wPassed (S1 2) (wNum (S1 4) (S1 3 1) p1 0) (wNum (S1 4) (S1 3 1) p1 1) 3)) rfl ?_
    refine zi_if_neB (tgt := 105) hx hb dX7_failBackwards_88 (by decide) (fun c_9 => ?_) (fun c_9 => ?_)
    · refine lv_iinc (v := iI (2)) (lv' := [(8, .int (iI 2)), (7, .int (iI 0)), (6, .int (iI (wYaw (S1 14) (S1 13 1) (sp_X1_freshAt (sub2 S1 13) 0)))), (5, .int (iI (wNum (S1 4) (S1 3 1) p1 1))), (4, .int (iI (wNum (S1 4) (S1 3 1) p1 0))), (3, .ref ((subA a0 1) 2)), (0, .ref (a0 0)), (1, .int (iI 0)), (2, .int (iI p1))]) hx hb dX7_failBackwards_105 hl (k := 0) rfl (iI_add 3 (-1)) (by decide) rfl (fun ls hl => ?_)
      refine lv_goto (tgt := 72) hx hb dX7_failBackwards_108 (by decide) ?_
      refine lv_iload hx hb dX7_failBackwards_72 (lv_at hl 0 rfl) ?_
      refine lv_iconst (v := iI 1) hx hb dX7_failBackwards_74 rfl ?_
      refine zi_icmp_lt (tgt := 111) hx hb dX7_failBackwards_75 (by decide) ⟨by omega, by omega⟩ ⟨by omega, by omega⟩ (fun c_10 => absurd c_10 (by omega)) (fun _ => ?_)
      refine lv_aload_n hx hb dX7_failBackwards_78 rfl (lv_at hl 5 rfl) ?_
      refine lv_iload hx hb dX7_failBackwards_79 (lv_at hl 4 rfl) ?_
      refine lv_iload hx hb dX7_failBackwards_81 (lv_at hl 3 rfl) ?_
      refine lv_iload hx hb dX7_failBackwards_83 (lv_at hl 0 rfl) ?_
      refine z_ai0 (va_runV (As := [.int (iI (wNum (S1 4) (S1 3 1) p1 0)), .int (iI (wNum (S1 4) (S1 3 1) p1 1)), .int (iI 2)]) (rest := []) ⟨hx, hb, hml, hown, hts⟩ (c_X0_isPassedBy l D k (subA (subA a0 1) 2) (sub2 S1 2)  (wNum (S1 4) (S1 3 1) p1 0) (wNum (S1 4) (S1 3 1) p1 1) 2 (pOK_b hp 2 (by decide)) (by omega) (by omega) (by omega) _) (cwV 3 hts gX7_failBackwards_X0_isPassedBy rfl rfl rfl (by decide +kernel) ⟨(Nat.le_of_ble_eq_true rfl), (Nat.le_of_ble_eq_true rfl)⟩) (z_preV hK hG hA hP hD hS [3, 4, 5] rfl (by decide) 2 rfl rfl) rfl rfl hl.1 rfl (lv_room (Nat.le_of_ble_eq_true rfl)) dX7_failBackwards_85 ⟨(Nat.le_of_ble_eq_true rfl), (Nat.le_of_ble_eq_true rfl)⟩) hA hP hD hS [3, 4, 5] rfl (fun H locs hP hS => ?_)
      refine z_eqi (z2 := zb (wPassed (S1 2) (wNum (S1 4) (S1 3 1) p1 0) (wNum (S1 4) (S1 3 1) p1 1) 2)) rfl ?_
      refine zi_if_neB (tgt := 105) hx hb dX7_failBackwards_88 (by decide) (fun c_11 => ?_) (fun c_11 => ?_)
      · refine lv_iinc (v := iI (1)) (lv' := [(8, .int (iI 1)), (7, .int (iI 0)), (6, .int (iI (wYaw (S1 14) (S1 13 1) (sp_X1_freshAt (sub2 S1 13) 0)))), (5, .int (iI (wNum (S1 4) (S1 3 1) p1 1))), (4, .int (iI (wNum (S1 4) (S1 3 1) p1 0))), (3, .ref ((subA a0 1) 2)), (0, .ref (a0 0)), (1, .int (iI 0)), (2, .int (iI p1))]) hx hb dX7_failBackwards_105 hl (k := 0) rfl (iI_add 2 (-1)) (by decide) rfl (fun ls hl => ?_)
        refine lv_goto (tgt := 72) hx hb dX7_failBackwards_108 (by decide) ?_
        refine lv_iload hx hb dX7_failBackwards_72 (lv_at hl 0 rfl) ?_
        refine lv_iconst (v := iI 1) hx hb dX7_failBackwards_74 rfl ?_
        refine zi_icmp_lt (tgt := 111) hx hb dX7_failBackwards_75 (by decide) ⟨by omega, by omega⟩ ⟨by omega, by omega⟩ (fun c_12 => absurd c_12 (by omega)) (fun _ => ?_)
        refine lv_aload_n hx hb dX7_failBackwards_78 rfl (lv_at hl 5 rfl) ?_
        refine lv_iload hx hb dX7_failBackwards_79 (lv_at hl 4 rfl) ?_
        refine lv_iload hx hb dX7_failBackwards_81 (lv_at hl 3 rfl) ?_
        refine lv_iload hx hb dX7_failBackwards_83 (lv_at hl 0 rfl) ?_
        refine z_ai0 (va_runV (As := [.int (iI (wNum (S1 4) (S1 3 1) p1 0)), .int (iI (wNum (S1 4) (S1 3 1) p1 1)), .int (iI 1)]) (rest := []) ⟨hx, hb, hml, hown, hts⟩ (c_X0_isPassedBy l D k (subA (subA a0 1) 2) (sub2 S1 2)  (wNum (S1 4) (S1 3 1) p1 0) (wNum (S1 4) (S1 3 1) p1 1) 1 (pOK_b hp 2 (by decide)) (by omega) (by omega) (by omega) _) (cwV 3 hts gX7_failBackwards_X0_isPassedBy rfl rfl rfl (by decide +kernel) ⟨(Nat.le_of_ble_eq_true rfl), (Nat.le_of_ble_eq_true rfl)⟩) (z_preV hK hG hA hP hD hS [3, 4, 5] rfl (by decide) 2 rfl rfl) rfl rfl hl.1 rfl (lv_room (Nat.le_of_ble_eq_true rfl)) dX7_failBackwards_85 ⟨(Nat.le_of_ble_eq_true rfl), (Nat.le_of_ble_eq_true rfl)⟩) hA hP hD hS [3, 4, 5] rfl (fun H locs hP hS => ?_)
        refine z_eqi (z2 := zb (wPassed (S1 2) (wNum (S1 4) (S1 3 1) p1 0) (wNum (S1 4) (S1 3 1) p1 1) 1)) rfl ?_
        refine zi_if_neB (tgt := 105) hx hb dX7_failBackwards_88 (by decide) (fun c_13 => ?_) (fun c_13 => ?_)
        · refine lv_iinc (v := iI (0)) (lv' := [(8, .int (iI 0)), (7, .int (iI 0)), (6, .int (iI (wYaw (S1 14) (S1 13 1) (sp_X1_freshAt (sub2 S1 13) 0)))), (5, .int (iI (wNum (S1 4) (S1 3 1) p1 1))), (4, .int (iI (wNum (S1 4) (S1 3 1) p1 0))), (3, .ref ((subA a0 1) 2)), (0, .ref (a0 0)), (1, .int (iI 0)), (2, .int (iI p1))]) hx hb dX7_failBackwards_105 hl (k := 0) rfl (iI_add 1 (-1)) (by decide) rfl (fun ls hl => ?_)
          refine lv_goto (tgt := 72) hx hb dX7_failBackwards_108 (by decide) ?_
          refine lv_iload hx hb dX7_failBackwards_72 (lv_at hl 0 rfl) ?_
          refine lv_iconst (v := iI 1) hx hb dX7_failBackwards_74 rfl ?_
          refine zi_icmp_lt (tgt := 111) hx hb dX7_failBackwards_75 (by decide) ⟨by omega, by omega⟩ ⟨by omega, by omega⟩ (fun _ => ?_) (fun c_14 => absurd c_14 (by omega))
          refine lv_iload hx hb dX7_failBackwards_111 (lv_at hl 1 rfl) ?_
          exact z_iret hx hb hr hlocks hP hS dX7_failBackwards_113 (Eq.trans (zif_neg c_2) (Eq.trans (zif_pos c_9) (Eq.trans (zif_pos c_11) (Eq.trans (zif_pos c_13) rfl)))) rfl (Nat.le_refl _) (Nat.le_refl _)
        · refine lv_iload hx hb dX7_failBackwards_91 (lv_at hl 0 rfl) ?_
          refine lv_iload hx hb dX7_failBackwards_93 (lv_at hl 2 rfl) ?_
          refine z_ai0 (va_runS (As := [.int (iI 1), .int (iI (wYaw (S1 14) (S1 13 1) (sp_X1_freshAt (sub2 S1 13) 0)))]) (rest := []) ⟨hx, hb, hml, hown, hts⟩ (c_X1_isLeftOut l D k   1 (wYaw (S1 14) (S1 13 1) (sp_X1_freshAt (sub2 S1 13) 0)) (by omega) (by omega) _) (va_cwS 2 hts gX7_failBackwards_X1_isLeftOut rfl rfl rfl (by decide +kernel) ⟨(Nat.le_of_ble_eq_true rfl), (Nat.le_of_ble_eq_true rfl)⟩) (z_preS hK hG hA hP hD hS [] rfl (by decide)) rfl rfl hl.1 rfl (lv_room (Nat.le_of_ble_eq_true rfl)) dX7_failBackwards_95 ⟨(Nat.le_of_ble_eq_true rfl), (Nat.le_of_ble_eq_true rfl)⟩) hA hP hD hS [] rfl (fun H locs hP hS => ?_)
          refine zi_if_neB (tgt := 105) hx hb dX7_failBackwards_98 (by decide) (fun c_15 => ?_) (fun c_15 => ?_)
          · refine lv_iinc (v := iI (0)) (lv' := [(8, .int (iI 0)), (7, .int (iI 0)), (6, .int (iI (wYaw (S1 14) (S1 13 1) (sp_X1_freshAt (sub2 S1 13) 0)))), (5, .int (iI (wNum (S1 4) (S1 3 1) p1 1))), (4, .int (iI (wNum (S1 4) (S1 3 1) p1 0))), (3, .ref ((subA a0 1) 2)), (0, .ref (a0 0)), (1, .int (iI 0)), (2, .int (iI p1))]) hx hb dX7_failBackwards_105 hl (k := 0) rfl (iI_add 1 (-1)) (by decide) rfl (fun ls hl => ?_)
            refine lv_goto (tgt := 72) hx hb dX7_failBackwards_108 (by decide) ?_
            refine lv_iload hx hb dX7_failBackwards_72 (lv_at hl 0 rfl) ?_
            refine lv_iconst (v := iI 1) hx hb dX7_failBackwards_74 rfl ?_
            refine zi_icmp_lt (tgt := 111) hx hb dX7_failBackwards_75 (by decide) ⟨by omega, by omega⟩ ⟨by omega, by omega⟩ (fun _ => ?_) (fun c_16 => absurd c_16 (by omega))
            refine lv_iload hx hb dX7_failBackwards_111 (lv_at hl 1 rfl) ?_
            exact z_iret hx hb hr hlocks hP hS dX7_failBackwards_113 (Eq.trans (zif_neg c_2) (Eq.trans (zif_pos c_9) (Eq.trans (zif_pos c_11) (Eq.trans (zif_neg c_13) (Eq.trans (zif_pos c_15) rfl))))) rfl (Nat.le_refl _) (Nat.le_refl _)
          · refine lv_iload hx hb dX7_failBackwards_101 (lv_at hl 0 rfl) ?_
            refine lv_istore (lv' := [(7, .int (iI 1)), (8, .int (iI 1)), (6, .int (iI (wYaw (S1 14) (S1 13 1) (sp_X1_freshAt (sub2 S1 13) 0)))), (5, .int (iI (wNum (S1 4) (S1 3 1) p1 1))), (4, .int (iI (wNum (S1 4) (S1 3 1) p1 0))), (3, .ref ((subA a0 1) 2)), (0, .ref (a0 0)), (1, .int (iI 0)), (2, .int (iI p1))]) hx hb dX7_failBackwards_103 hl (by decide) rfl (fun ls hl => ?_)
            refine lv_iinc (v := iI (0)) (lv' := [(8, .int (iI 0)), (7, .int (iI 1)), (6, .int (iI (wYaw (S1 14) (S1 13 1) (sp_X1_freshAt (sub2 S1 13) 0)))), (5, .int (iI (wNum (S1 4) (S1 3 1) p1 1))), (4, .int (iI (wNum (S1 4) (S1 3 1) p1 0))), (3, .ref ((subA a0 1) 2)), (0, .ref (a0 0)), (1, .int (iI 0)), (2, .int (iI p1))]) hx hb dX7_failBackwards_105 hl (k := 1) rfl (iI_add 1 (-1)) (by decide) rfl (fun ls hl => ?_)
            refine lv_goto (tgt := 72) hx hb dX7_failBackwards_108 (by decide) ?_
            refine lv_iload hx hb dX7_failBackwards_72 (lv_at hl 0 rfl) ?_
            refine lv_iconst (v := iI 1) hx hb dX7_failBackwards_74 rfl ?_
            refine zi_icmp_lt (tgt := 111) hx hb dX7_failBackwards_75 (by decide) ⟨by omega, by omega⟩ ⟨by omega, by omega⟩ (fun _ => ?_) (fun c_17 => absurd c_17 (by omega))
            refine lv_iload hx hb dX7_failBackwards_111 (lv_at hl 1 rfl) ?_
            exact z_iret hx hb hr hlocks hP hS dX7_failBackwards_113 (Eq.trans (zif_neg c_2) (Eq.trans (zif_pos c_9) (Eq.trans (zif_pos c_11) (Eq.trans (zif_neg c_13) (Eq.trans (zif_neg c_15) rfl))))) rfl (Nat.le_refl _) (Nat.le_refl _)
      · refine lv_iload hx hb dX7_failBackwards_91 (lv_at hl 0 rfl) ?_
        refine lv_iload hx hb dX7_failBackwards_93 (lv_at hl 2 rfl) ?_
        refine z_ai0 (va_runS (As := [.int (iI 2), .int (iI (wYaw (S1 14) (S1 13 1) (sp_X1_freshAt (sub2 S1 13) 0)))]) (rest := []) ⟨hx, hb, hml, hown, hts⟩ (c_X1_isLeftOut l D k   2 (wYaw (S1 14) (S1 13 1) (sp_X1_freshAt (sub2 S1 13) 0)) (by omega) (by omega) _) (va_cwS 2 hts gX7_failBackwards_X1_isLeftOut rfl rfl rfl (by decide +kernel) ⟨(Nat.le_of_ble_eq_true rfl), (Nat.le_of_ble_eq_true rfl)⟩) (z_preS hK hG hA hP hD hS [] rfl (by decide)) rfl rfl hl.1 rfl (lv_room (Nat.le_of_ble_eq_true rfl)) dX7_failBackwards_95 ⟨(Nat.le_of_ble_eq_true rfl), (Nat.le_of_ble_eq_true rfl)⟩) hA hP hD hS [] rfl (fun H locs hP hS => ?_)
        refine zi_if_neB (tgt := 105) hx hb dX7_failBackwards_98 (by decide) (fun c_18 => ?_) (fun c_18 => ?_)
        · refine lv_iinc (v := iI (1)) (lv' := [(8, .int (iI 1)), (7, .int (iI 0)), (6, .int (iI (wYaw (S1 14) (S1 13 1) (sp_X1_freshAt (sub2 S1 13) 0)))), (5, .int (iI (wNum (S1 4) (S1 3 1) p1 1))), (4, .int (iI (wNum (S1 4) (S1 3 1) p1 0))), (3, .ref ((subA a0 1) 2)), (0, .ref (a0 0)), (1, .int (iI 0)), (2, .int (iI p1))]) hx hb dX7_failBackwards_105 hl (k := 0) rfl (iI_add 2 (-1)) (by decide) rfl (fun ls hl => ?_)
          refine lv_goto (tgt := 72) hx hb dX7_failBackwards_108 (by decide) ?_
          refine lv_iload hx hb dX7_failBackwards_72 (lv_at hl 0 rfl) ?_
          refine lv_iconst (v := iI 1) hx hb dX7_failBackwards_74 rfl ?_
          refine zi_icmp_lt (tgt := 111) hx hb dX7_failBackwards_75 (by decide) ⟨by omega, by omega⟩ ⟨by omega, by omega⟩ (fun c_19 => absurd c_19 (by omega)) (fun _ => ?_)
          refine lv_aload_n hx hb dX7_failBackwards_78 rfl (lv_at hl 5 rfl) ?_
          refine lv_iload hx hb dX7_failBackwards_79 (lv_at hl 4 rfl) ?_
          refine lv_iload hx hb dX7_failBackwards_81 (lv_at hl 3 rfl) ?_
          refine lv_iload hx hb dX7_failBackwards_83 (lv_at hl 0 rfl) ?_
          refine z_ai0 (va_runV (As := [.int (iI (wNum (S1 4) (S1 3 1) p1 0)), .int (iI (wNum (S1 4) (S1 3 1) p1 1)), .int (iI 1)]) (rest := []) ⟨hx, hb, hml, hown, hts⟩ (c_X0_isPassedBy l D k (subA (subA a0 1) 2) (sub2 S1 2)  (wNum (S1 4) (S1 3 1) p1 0) (wNum (S1 4) (S1 3 1) p1 1) 1 (pOK_b hp 2 (by decide)) (by omega) (by omega) (by omega) _) (cwV 3 hts gX7_failBackwards_X0_isPassedBy rfl rfl rfl (by decide +kernel) ⟨(Nat.le_of_ble_eq_true rfl), (Nat.le_of_ble_eq_true rfl)⟩) (z_preV hK hG hA hP hD hS [3, 4, 5] rfl (by decide) 2 rfl rfl) rfl rfl hl.1 rfl (lv_room (Nat.le_of_ble_eq_true rfl)) dX7_failBackwards_85 ⟨(Nat.le_of_ble_eq_true rfl), (Nat.le_of_ble_eq_true rfl)⟩) hA hP hD hS [3, 4, 5] rfl (fun H locs hP hS => ?_)
          refine z_eqi (z2 := zb (wPassed (S1 2) (wNum (S1 4) (S1 3 1) p1 0) (wNum (S1 4) (S1 3 1) p1 1) 1)) rfl ?_
          refine zi_if_neB (tgt := 105) hx hb dX7_failBackwards_88 (by decide) (fun c_20 => ?_) (fun c_20 => ?_)
          · refine lv_iinc (v := iI (0)) (lv' := [(8, .int (iI 0)), (7, .int (iI 0)), (6, .int (iI (wYaw (S1 14) (S1 13 1) (sp_X1_freshAt (sub2 S1 13) 0)))), (5, .int (iI (wNum (S1 4) (S1 3 1) p1 1))), (4, .int (iI (wNum (S1 4) (S1 3 1) p1 0))), (3, .ref ((subA a0 1) 2)), (0, .ref (a0 0)), (1, .int (iI 0)), (2, .int (iI p1))]) hx hb dX7_failBackwards_105 hl (k := 0) rfl (iI_add 1 (-1)) (by decide) rfl (fun ls hl => ?_)
            refine lv_goto (tgt := 72) hx hb dX7_failBackwards_108 (by decide) ?_
            refine lv_iload hx hb dX7_failBackwards_72 (lv_at hl 0 rfl) ?_
            refine lv_iconst (v := iI 1) hx hb dX7_failBackwards_74 rfl ?_
            refine zi_icmp_lt (tgt := 111) hx hb dX7_failBackwards_75 (by decide) ⟨by omega, by omega⟩ ⟨by omega, by omega⟩ (fun _ => ?_) (fun c_21 => absurd c_21 (by omega))
            refine lv_iload hx hb dX7_failBackwards_111 (lv_at hl 1 rfl) ?_
            exact z_iret hx hb hr hlocks hP hS dX7_failBackwards_113 (Eq.trans (zif_neg c_2) (Eq.trans (zif_pos c_9) (Eq.trans (zif_neg c_11) (Eq.trans (zif_pos c_18) (Eq.trans (zif_pos c_20) rfl))))) rfl (Nat.le_refl _) (Nat.le_refl _)
          · refine lv_iload hx hb dX7_failBackwards_91 (lv_at hl 0 rfl) ?_
            refine lv_iload hx hb dX7_failBackwards_93 (lv_at hl 2 rfl) ?_
            refine z_ai0 (va_runS (As := [.int (iI 1), .int (iI (wYaw (S1 14) (S1 13 1) (sp_X1_freshAt (sub2 S1 13) 0)))]) (rest := []) ⟨hx, hb, hml, hown, hts⟩ (c_X1_isLeftOut l D k   1 (wYaw (S1 14) (S1 13 1) (sp_X1_freshAt (sub2 S1 13) 0)) (by omega) (by omega) _) (va_cwS 2 hts gX7_failBackwards_X1_isLeftOut rfl rfl rfl (by decide +kernel) ⟨(Nat.le_of_ble_eq_true rfl), (Nat.le_of_ble_eq_true rfl)⟩) (z_preS hK hG hA hP hD hS [] rfl (by decide)) rfl rfl hl.1 rfl (lv_room (Nat.le_of_ble_eq_true rfl)) dX7_failBackwards_95 ⟨(Nat.le_of_ble_eq_true rfl), (Nat.le_of_ble_eq_true rfl)⟩) hA hP hD hS [] rfl (fun H locs hP hS => ?_)
            refine zi_if_neB (tgt := 105) hx hb dX7_failBackwards_98 (by decide) (fun c_22 => ?_) (fun c_22 => ?_)
            · refine lv_iinc (v := iI (0)) (lv' := [(8, .int (iI 0)), (7, .int (iI 0)), (6, .int (iI (wYaw (S1 14) (S1 13 1) (sp_X1_freshAt (sub2 S1 13) 0)))), (5, .int (iI (wNum (S1 4) (S1 3 1) p1 1))), (4, .int (iI (wNum (S1 4) (S1 3 1) p1 0))), (3, .ref ((subA a0 1) 2)), (0, .ref (a0 0)), (1, .int (iI 0)), (2, .int (iI p1))]) hx hb dX7_failBackwards_105 hl (k := 0) rfl (iI_add 1 (-1)) (by decide) rfl (fun ls hl => ?_)
              refine lv_goto (tgt := 72) hx hb dX7_failBackwards_108 (by decide) ?_
              refine lv_iload hx hb dX7_failBackwards_72 (lv_at hl 0 rfl) ?_
              refine lv_iconst (v := iI 1) hx hb dX7_failBackwards_74 rfl ?_
              refine zi_icmp_lt (tgt := 111) hx hb dX7_failBackwards_75 (by decide) ⟨by omega, by omega⟩ ⟨by omega, by omega⟩ (fun _ => ?_) (fun c_23 => absurd c_23 (by omega))
              refine lv_iload hx hb dX7_failBackwards_111 (lv_at hl 1 rfl) ?_
              exact z_iret hx hb hr hlocks hP hS dX7_failBackwards_113 (Eq.trans (zif_neg c_2) (Eq.trans (zif_pos c_9) (Eq.trans (zif_neg c_11) (Eq.trans (zif_pos c_18) (Eq.trans (zif_neg c_20) (Eq.trans (zif_pos c_22) rfl)))))) rfl (Nat.le_refl _) (Nat.le_refl _)
            · refine lv_iload hx hb dX7_failBackwards_101 (lv_at hl 0 rfl) ?_
              refine lv_istore (lv' := [(7, .int (iI 1)), (8, .int (iI 1)), (6, .int (iI (wYaw (S1 14) (S1 13 1) (sp_X1_freshAt (sub2 S1 13) 0)))), (5, .int (iI (wNum (S1 4) (S1 3 1) p1 1))), (4, .int (iI (wNum (S1 4) (S1 3 1) p1 0))), (3, .ref ((subA a0 1) 2)), (0, .ref (a0 0)), (1, .int (iI 0)), (2, .int (iI p1))]) hx hb dX7_failBackwards_103 hl (by decide) rfl (fun ls hl => ?_)
              refine lv_iinc (v := iI (0)) (lv' := [(8, .int (iI 0)), (7, .int (iI 1)), (6, .int (iI (wYaw (S1 14) (S1 13 1) (sp_X1_freshAt (sub2 S1 13) 0)))), (5, .int (iI (wNum (S1 4) (S1 3 1) p1 1))), (4, .int (iI (wNum (S1 4) (S1 3 1) p1 0))), (3, .ref ((subA a0 1) 2)), (0, .ref (a0 0)), (1, .int (iI 0)), (2, .int (iI p1))]) hx hb dX7_failBackwards_105 hl (k := 1) rfl (iI_add 1 (-1)) (by decide) rfl (fun ls hl => ?_)
              refine lv_goto (tgt := 72) hx hb dX7_failBackwards_108 (by decide) ?_
              refine lv_iload hx hb dX7_failBackwards_72 (lv_at hl 0 rfl) ?_
              refine lv_iconst (v := iI 1) hx hb dX7_failBackwards_74 rfl ?_
              refine zi_icmp_lt (tgt := 111) hx hb dX7_failBackwards_75 (by decide) ⟨by omega, by omega⟩ ⟨by omega, by omega⟩ (fun _ => ?_) (fun c_24 => absurd c_24 (by omega))
              refine lv_iload hx hb dX7_failBackwards_111 (lv_at hl 1 rfl) ?_
              exact z_iret hx hb hr hlocks hP hS dX7_failBackwards_113 (Eq.trans (zif_neg c_2) (Eq.trans (zif_pos c_9) (Eq.trans (zif_neg c_11) (Eq.trans (zif_pos c_18) (Eq.trans (zif_neg c_20) (Eq.trans (zif_neg c_22) rfl)))))) rfl (Nat.le_refl _) (Nat.le_refl _)
        · refine lv_iload hx hb dX7_failBackwards_101 (lv_at hl 0 rfl) ?_
          refine lv_istore (lv' := [(7, .int (iI 2)), (8, .int (iI 2)), (6, .int (iI (wYaw (S1 14) (S1 13 1) (sp_X1_freshAt (sub2 S1 13) 0)))), (5, .int (iI (wNum (S1 4) (S1 3 1) p1 1))), (4, .int (iI (wNum (S1 4) (S1 3 1) p1 0))), (3, .ref ((subA a0 1) 2)), (0, .ref (a0 0)), (1, .int (iI 0)), (2, .int (iI p1))]) hx hb dX7_failBackwards_103 hl (by decide) rfl (fun ls hl => ?_)
          refine lv_iinc (v := iI (1)) (lv' := [(8, .int (iI 1)), (7, .int (iI 2)), (6, .int (iI (wYaw (S1 14) (S1 13 1) (sp_X1_freshAt (sub2 S1 13) 0)))), (5, .int (iI (wNum (S1 4) (S1 3 1) p1 1))), (4, .int (iI (wNum (S1 4) (S1 3 1) p1 0))), (3, .ref ((subA a0 1) 2)), (0, .ref (a0 0)), (1, .int (iI 0)), (2, .int (iI p1))]) hx hb dX7_failBackwards_105 hl (k := 1) rfl (iI_add 2 (-1)) (by decide) rfl (fun ls hl => ?_)
          refine lv_goto (tgt := 72) hx hb dX7_failBackwards_108 (by decide) ?_
          refine lv_iload hx hb dX7_failBackwards_72 (lv_at hl 0 rfl) ?_
          refine lv_iconst (v := iI 1) hx hb dX7_failBackwards_74 rfl ?_
          refine zi_icmp_lt (tgt := 111) hx hb dX7_failBackwards_75 (by decide) ⟨by omega, by omega⟩ ⟨by omega, by omega⟩ (fun c_25 => absurd c_25 (by omega)) (fun _ => ?_)
          refine lv_aload_n hx hb dX7_failBackwards_78 rfl (lv_at hl 5 rfl) ?_
          refine lv_iload hx hb dX7_failBackwards_79 (lv_at hl 4 rfl) ?_
          refine lv_iload hx hb dX7_failBackwards_81 (lv_at hl 3 rfl) ?_
          refine lv_iload hx hb dX7_failBackwards_83 (lv_at hl 0 rfl) ?_
          refine z_ai0 (va_runV (As := [.int (iI (wNum (S1 4) (S1 3 1) p1 0)), .int (iI (wNum (S1 4) (S1 3 1) p1 1)), .int (iI 1)]) (rest := []) ⟨hx, hb, hml, hown, hts⟩ (c_X0_isPassedBy l D k (subA (subA a0 1) 2) (sub2 S1 2)  (wNum (S1 4) (S1 3 1) p1 0) (wNum (S1 4) (S1 3 1) p1 1) 1 (pOK_b hp 2 (by decide)) (by omega) (by omega) (by omega) _) (cwV 3 hts gX7_failBackwards_X0_isPassedBy rfl rfl rfl (by decide +kernel) ⟨(Nat.le_of_ble_eq_true rfl), (Nat.le_of_ble_eq_true rfl)⟩) (z_preV hK hG hA hP hD hS [3, 4, 5] rfl (by decide) 2 rfl rfl) rfl rfl hl.1 rfl (lv_room (Nat.le_of_ble_eq_true rfl)) dX7_failBackwards_85 ⟨(Nat.le_of_ble_eq_true rfl), (Nat.le_of_ble_eq_true rfl)⟩) hA hP hD hS [3, 4, 5] rfl (fun H locs hP hS => ?_)
          refine z_eqi (z2 := zb (wPassed (S1 2) (wNum (S1 4) (S1 3 1) p1 0) (wNum (S1 4) (S1 3 1) p1 1) 1)) rfl ?_
          refine zi_if_neB (tgt := 105) hx hb dX7_failBackwards_88 (by decide) (fun c_26 => ?_) (fun c_26 => ?_)
          · refine lv_iinc (v := iI (0)) (lv' := [(8, .int (iI 0)), (7, .int (iI 2)), (6, .int (iI (wYaw (S1 14) (S1 13 1) (sp_X1_freshAt (sub2 S1 13) 0)))), (5, .int (iI (wNum (S1 4) (S1 3 1) p1 1))), (4, .int (iI (wNum (S1 4) (S1 3 1) p1 0))), (3, .ref ((subA a0 1) 2)), (0, .ref (a0 0)), (1, .int (iI 0)), (2, .int (iI p1))]) hx hb dX7_failBackwards_105 hl (k := 0) rfl (iI_add 1 (-1)) (by decide) rfl (fun ls hl => ?_)
            refine lv_goto (tgt := 72) hx hb dX7_failBackwards_108 (by decide) ?_
            refine lv_iload hx hb dX7_failBackwards_72 (lv_at hl 0 rfl) ?_
            refine lv_iconst (v := iI 1) hx hb dX7_failBackwards_74 rfl ?_
            refine zi_icmp_lt (tgt := 111) hx hb dX7_failBackwards_75 (by decide) ⟨by omega, by omega⟩ ⟨by omega, by omega⟩ (fun _ => ?_) (fun c_27 => absurd c_27 (by omega))
            refine lv_iload hx hb dX7_failBackwards_111 (lv_at hl 1 rfl) ?_
            exact z_iret hx hb hr hlocks hP hS dX7_failBackwards_113 (Eq.trans (zif_neg c_2) (Eq.trans (zif_pos c_9) (Eq.trans (zif_neg c_11) (Eq.trans (zif_neg c_18) (Eq.trans (zif_pos c_26) rfl))))) rfl (Nat.le_refl _) (Nat.le_refl _)
          · refine lv_iload hx hb dX7_failBackwards_91 (lv_at hl 0 rfl) ?_
            refine lv_iload hx hb dX7_failBackwards_93 (lv_at hl 2 rfl) ?_
            refine z_ai0 (va_runS (As := [.int (iI 1), .int (iI (wYaw (S1 14) (S1 13 1) (sp_X1_freshAt (sub2 S1 13) 0)))]) (rest := []) ⟨hx, hb, hml, hown, hts⟩ (c_X1_isLeftOut l D k   1 (wYaw (S1 14) (S1 13 1) (sp_X1_freshAt (sub2 S1 13) 0)) (by omega) (by omega) _) (va_cwS 2 hts gX7_failBackwards_X1_isLeftOut rfl rfl rfl (by decide +kernel) ⟨(Nat.le_of_ble_eq_true rfl), (Nat.le_of_ble_eq_true rfl)⟩) (z_preS hK hG hA hP hD hS [] rfl (by decide)) rfl rfl hl.1 rfl (lv_room (Nat.le_of_ble_eq_true rfl)) dX7_failBackwards_95 ⟨(Nat.le_of_ble_eq_true rfl), (Nat.le_of_ble_eq_true rfl)⟩) hA hP hD hS [] rfl (fun H locs hP hS => ?_)
            refine zi_if_neB (tgt := 105) hx hb dX7_failBackwards_98 (by decide) (fun c_28 => ?_) (fun c_28 => ?_)
            · refine lv_iinc (v := iI (0)) (lv' := [(8, .int (iI 0)), (7, .int (iI 2)), (6, .int (iI (wYaw (S1 14) (S1 13 1) (sp_X1_freshAt (sub2 S1 13) 0)))), (5, .int (iI (wNum (S1 4) (S1 3 1) p1 1))), (4, .int (iI (wNum (S1 4) (S1 3 1) p1 0))), (3, .ref ((subA a0 1) 2)), (0, .ref (a0 0)), (1, .int (iI 0)), (2, .int (iI p1))]) hx hb dX7_failBackwards_105 hl (k := 0) rfl (iI_add 1 (-1)) (by decide) rfl (fun ls hl => ?_)
              refine lv_goto (tgt := 72) hx hb dX7_failBackwards_108 (by decide) ?_
              refine lv_iload hx hb dX7_failBackwards_72 (lv_at hl 0 rfl) ?_
              refine lv_iconst (v := iI 1) hx hb dX7_failBackwards_74 rfl ?_
              refine zi_icmp_lt (tgt := 111) hx hb dX7_failBackwards_75 (by decide) ⟨by omega, by omega⟩ ⟨by omega, by omega⟩ (fun _ => ?_) (fun c_29 => absurd c_29 (by omega))
              refine lv_iload hx hb dX7_failBackwards_111 (lv_at hl 1 rfl) ?_
              exact z_iret hx hb hr hlocks hP hS dX7_failBackwards_113 (Eq.trans (zif_neg c_2) (Eq.trans (zif_pos c_9) (Eq.trans (zif_neg c_11) (Eq.trans (zif_neg c_18) (Eq.trans (zif_neg c_26) (Eq.trans (zif_pos c_28) rfl)))))) rfl (Nat.le_refl _) (Nat.le_refl _)
            · refine lv_iload hx hb dX7_failBackwards_101 (lv_at hl 0 rfl) ?_
              refine lv_istore (lv' := [(7, .int (iI 1)), (8, .int (iI 1)), (6, .int (iI (wYaw (S1 14) (S1 13 1) (sp_X1_freshAt (sub2 S1 13) 0)))), (5, .int (iI (wNum (S1 4) (S1 3 1) p1 1))), (4, .int (iI (wNum (S1 4) (S1 3 1) p1 0))), (3, .ref ((subA a0 1) 2)), (0, .ref (a0 0)), (1, .int (iI 0)), (2, .int (iI p1))]) hx hb dX7_failBackwards_103 hl (by decide) rfl (fun ls hl => ?_)
              refine lv_iinc (v := iI (0)) (lv' := [(8, .int (iI 0)), (7, .int (iI 1)), (6, .int (iI (wYaw (S1 14) (S1 13 1) (sp_X1_freshAt (sub2 S1 13) 0)))), (5, .int (iI (wNum (S1 4) (S1 3 1) p1 1))), (4, .int (iI (wNum (S1 4) (S1 3 1) p1 0))), (3, .ref ((subA a0 1) 2)), (0, .ref (a0 0)), (1, .int (iI 0)), (2, .int (iI p1))]) hx hb dX7_failBackwards_105 hl (k := 1) rfl (iI_add 1 (-1)) (by decide) rfl (fun ls hl => ?_)
              refine lv_goto (tgt := 72) hx hb dX7_failBackwards_108 (by decide) ?_
              refine lv_iload hx hb dX7_failBackwards_72 (lv_at hl 0 rfl) ?_
              refine lv_iconst (v := iI 1) hx hb dX7_failBackwards_74 rfl ?_
              refine zi_icmp_lt (tgt := 111) hx hb dX7_failBackwards_75 (by decide) ⟨by omega, by omega⟩ ⟨by omega, by omega⟩ (fun _ => ?_) (fun c_30 => absurd c_30 (by omega))
              refine lv_iload hx hb dX7_failBackwards_111 (lv_at hl 1 rfl) ?_
              exact z_iret hx hb hr hlocks hP hS dX7_failBackwards_113 (Eq.trans (zif_neg c_2) (Eq.trans (zif_pos c_9) (Eq.trans (zif_neg c_11) (Eq.trans (zif_neg c_18) (Eq.trans (zif_neg c_26) (Eq.trans (zif_neg c_28) rfl)))))) rfl (Nat.le_refl _) (Nat.le_refl _)
    · refine lv_iload hx hb dX7_failBackwards_91 (lv_at hl 0 rfl) ?_
      refine lv_iload hx hb dX7_failBackwards_93 (lv_at hl 2 rfl) ?_
      refine z_ai0 (va_runS (As := [.int (iI 3), .int (iI (wYaw (S1 14) (S1 13 1) (sp_X1_freshAt (sub2 S1 13) 0)))]) (rest := []) ⟨hx, hb, hml, hown, hts⟩ (c_X1_isLeftOut l D k   3 (wYaw (S1 14) (S1 13 1) (sp_X1_freshAt (sub2 S1 13) 0)) (by omega) (by omega) _) (va_cwS 2 hts gX7_failBackwards_X1_isLeftOut rfl rfl rfl (by decide +kernel) ⟨(Nat.le_of_ble_eq_true rfl), (Nat.le_of_ble_eq_true rfl)⟩) (z_preS hK hG hA hP hD hS [] rfl (by decide)) rfl rfl hl.1 rfl (lv_room (Nat.le_of_ble_eq_true rfl)) dX7_failBackwards_95 ⟨(Nat.le_of_ble_eq_true rfl), (Nat.le_of_ble_eq_true rfl)⟩) hA hP hD hS [] rfl (fun H locs hP hS => ?_)
      refine zi_if_neB (tgt := 105) hx hb dX7_failBackwards_98 (by decide) (fun c_31 => ?_) (fun c_31 => ?_)
      · refine lv_iinc (v := iI (2)) (lv' := [(8, .int (iI 2)), (7, .int (iI 0)), (6, .int (iI (wYaw (S1 14) (S1 13 1) (sp_X1_freshAt (sub2 S1 13) 0)))), (5, .int (iI (wNum (S1 4) (S1 3 1) p1 1))), (4, .int (iI (wNum (S1 4) (S1 3 1) p1 0))), (3, .ref ((subA a0 1) 2)), (0, .ref (a0 0)), (1, .int (iI 0)), (2, .int (iI p1))]) hx hb dX7_failBackwards_105 hl (k := 0) rfl (iI_add 3 (-1)) (by decide) rfl (fun ls hl => ?_)
        refine lv_goto (tgt := 72) hx hb dX7_failBackwards_108 (by decide) ?_
        refine lv_iload hx hb dX7_failBackwards_72 (lv_at hl 0 rfl) ?_
        refine lv_iconst (v := iI 1) hx hb dX7_failBackwards_74 rfl ?_
        refine zi_icmp_lt (tgt := 111) hx hb dX7_failBackwards_75 (by decide) ⟨by omega, by omega⟩ ⟨by omega, by omega⟩ (fun c_32 => absurd c_32 (by omega)) (fun _ => ?_)
        refine lv_aload_n hx hb dX7_failBackwards_78 rfl (lv_at hl 5 rfl) ?_
        refine lv_iload hx hb dX7_failBackwards_79 (lv_at hl 4 rfl) ?_
        refine lv_iload hx hb dX7_failBackwards_81 (lv_at hl 3 rfl) ?_
        refine lv_iload hx hb dX7_failBackwards_83 (lv_at hl 0 rfl) ?_
        refine z_ai0 (va_runV (As := [.int (iI (wNum (S1 4) (S1 3 1) p1 0)), .int (iI (wNum (S1 4) (S1 3 1) p1 1)), .int (iI 2)]) (rest := []) ⟨hx, hb, hml, hown, hts⟩ (c_X0_isPassedBy l D k (subA (subA a0 1) 2) (sub2 S1 2)  (wNum (S1 4) (S1 3 1) p1 0) (wNum (S1 4) (S1 3 1) p1 1) 2 (pOK_b hp 2 (by decide)) (by omega) (by omega) (by omega) _) (cwV 3 hts gX7_failBackwards_X0_isPassedBy rfl rfl rfl (by decide +kernel) ⟨(Nat.le_of_ble_eq_true rfl), (Nat.le_of_ble_eq_true rfl)⟩) (z_preV hK hG hA hP hD hS [3, 4, 5] rfl (by decide) 2 rfl rfl) rfl rfl hl.1 rfl (lv_room (Nat.le_of_ble_eq_true rfl)) dX7_failBackwards_85 ⟨(Nat.le_of_ble_eq_true rfl), (Nat.le_of_ble_eq_true rfl)⟩) hA hP hD hS [3, 4, 5] rfl (fun H locs hP hS => ?_)
        refine z_eqi (z2 := zb (wPassed (S1 2) (wNum (S1 4) (S1 3 1) p1 0) (wNum (S1 4) (S1 3 1) p1 1) 2)) rfl ?_
        refine zi_if_neB (tgt := 105) hx hb dX7_failBackwards_88 (by decide) (fun c_33 => ?_) (fun c_33 => ?_)
        · refine lv_iinc (v := iI (1)) (lv' := [(8, .int (iI 1)), (7, .int (iI 0)), (6, .int (iI (wYaw (S1 14) (S1 13 1) (sp_X1_freshAt (sub2 S1 13) 0)))), (5, .int (iI (wNum (S1 4) (S1 3 1) p1 1))), (4, .int (iI (wNum (S1 4) (S1 3 1) p1 0))), (3, .ref ((subA a0 1) 2)), (0, .ref (a0 0)), (1, .int (iI 0)), (2, .int (iI p1))]) hx hb dX7_failBackwards_105 hl (k := 0) rfl (iI_add 2 (-1)) (by decide) rfl (fun ls hl => ?_)
          refine lv_goto (tgt := 72) hx hb dX7_failBackwards_108 (by decide) ?_
          refine lv_iload hx hb dX7_failBackwards_72 (lv_at hl 0 rfl) ?_
          refine lv_iconst (v := iI 1) hx hb dX7_failBackwards_74 rfl ?_
          refine zi_icmp_lt (tgt := 111) hx hb dX7_failBackwards_75 (by decide) ⟨by omega, by omega⟩ ⟨by omega, by omega⟩ (fun c_34 => absurd c_34 (by omega)) (fun _ => ?_)
          refine lv_aload_n hx hb dX7_failBackwards_78 rfl (lv_at hl 5 rfl) ?_
          refine lv_iload hx hb dX7_failBackwards_79 (lv_at hl 4 rfl) ?_
          refine lv_iload hx hb dX7_failBackwards_81 (lv_at hl 3 rfl) ?_
          refine lv_iload hx hb dX7_failBackwards_83 (lv_at hl 0 rfl) ?_
          refine z_ai0 (va_runV (As := [.int (iI (wNum (S1 4) (S1 3 1) p1 0)), .int (iI (wNum (S1 4) (S1 3 1) p1 1)), .int (iI 1)]) (rest := []) ⟨hx, hb, hml, hown, hts⟩ (c_X0_isPassedBy l D k (subA (subA a0 1) 2) (sub2 S1 2)  (wNum (S1 4) (S1 3 1) p1 0) (wNum (S1 4) (S1 3 1) p1 1) 1 (pOK_b hp 2 (by decide)) (by omega) (by omega) (by omega) _) (cwV 3 hts gX7_failBackwards_X0_isPassedBy rfl rfl rfl (by decide +kernel) ⟨(Nat.le_of_ble_eq_true rfl), (Nat.le_of_ble_eq_true rfl)⟩) (z_preV hK hG hA hP hD hS [3, 4, 5] rfl (by decide) 2 rfl rfl) rfl rfl hl.1 rfl (lv_room (Nat.le_of_ble_eq_true rfl)) dX7_failBackwards_85 ⟨(Nat.le_of_ble_eq_true rfl), (Nat.le_of_ble_eq_true rfl)⟩) hA hP hD hS [3, 4, 5] rfl (fun H locs hP hS => ?_)
          refine z_eqi (z2 := zb (wPassed (S1 2) (wNum (S1 4) (S1 3 1) p1 0) (wNum (S1 4) (S1 3 1) p1 1) 1)) rfl ?_
          refine zi_if_neB (tgt := 105) hx hb dX7_failBackwards_88 (by decide) (fun c_35 => ?_) (fun c_35 => ?_)
          · refine lv_iinc (v := iI (0)) (lv' := [(8, .int (iI 0)), (7, .int (iI 0)), (6, .int (iI (wYaw (S1 14) (S1 13 1) (sp_X1_freshAt (sub2 S1 13) 0)))), (5, .int (iI (wNum (S1 4) (S1 3 1) p1 1))), (4, .int (iI (wNum (S1 4) (S1 3 1) p1 0))), (3, .ref ((subA a0 1) 2)), (0, .ref (a0 0)), (1, .int (iI 0)), (2, .int (iI p1))]) hx hb dX7_failBackwards_105 hl (k := 0) rfl (iI_add 1 (-1)) (by decide) rfl (fun ls hl => ?_)
            refine lv_goto (tgt := 72) hx hb dX7_failBackwards_108 (by decide) ?_
            refine lv_iload hx hb dX7_failBackwards_72 (lv_at hl 0 rfl) ?_
            refine lv_iconst (v := iI 1) hx hb dX7_failBackwards_74 rfl ?_
            refine zi_icmp_lt (tgt := 111) hx hb dX7_failBackwards_75 (by decide) ⟨by omega, by omega⟩ ⟨by omega, by omega⟩ (fun _ => ?_) (fun c_36 => absurd c_36 (by omega))
            refine lv_iload hx hb dX7_failBackwards_111 (lv_at hl 1 rfl) ?_
            exact z_iret hx hb hr hlocks hP hS dX7_failBackwards_113 (Eq.trans (zif_neg c_2) (Eq.trans (zif_neg c_9) (Eq.trans (zif_pos c_31) (Eq.trans (zif_pos c_33) (Eq.trans (zif_pos c_35) rfl))))) rfl (Nat.le_refl _) (Nat.le_refl _)
          · refine lv_iload hx hb dX7_failBackwards_91 (lv_at hl 0 rfl) ?_
            refine lv_iload hx hb dX7_failBackwards_93 (lv_at hl 2 rfl) ?_
            refine z_ai0 (va_runS (As := [.int (iI 1), .int (iI (wYaw (S1 14) (S1 13 1) (sp_X1_freshAt (sub2 S1 13) 0)))]) (rest := []) ⟨hx, hb, hml, hown, hts⟩ (c_X1_isLeftOut l D k   1 (wYaw (S1 14) (S1 13 1) (sp_X1_freshAt (sub2 S1 13) 0)) (by omega) (by omega) _) (va_cwS 2 hts gX7_failBackwards_X1_isLeftOut rfl rfl rfl (by decide +kernel) ⟨(Nat.le_of_ble_eq_true rfl), (Nat.le_of_ble_eq_true rfl)⟩) (z_preS hK hG hA hP hD hS [] rfl (by decide)) rfl rfl hl.1 rfl (lv_room (Nat.le_of_ble_eq_true rfl)) dX7_failBackwards_95 ⟨(Nat.le_of_ble_eq_true rfl), (Nat.le_of_ble_eq_true rfl)⟩) hA hP hD hS [] rfl (fun H locs hP hS => ?_)
            refine zi_if_neB (tgt := 105) hx hb dX7_failBackwards_98 (by decide) (fun c_37 => ?_) (fun c_37 => ?_)
            · refine lv_iinc (v := iI (0)) (lv' := [(8, .int (iI 0)), (7, .int (iI 0)), (6, .int (iI (wYaw (S1 14) (S1 13 1) (sp_X1_freshAt (sub2 S1 13) 0)))), (5, .int (iI (wNum (S1 4) (S1 3 1) p1 1))), (4, .int (iI (wNum (S1 4) (S1 3 1) p1 0))), (3, .ref ((subA a0 1) 2)), (0, .ref (a0 0)), (1, .int (iI 0)), (2, .int (iI p1))]) hx hb dX7_failBackwards_105 hl (k := 0) rfl (iI_add 1 (-1)) (by decide) rfl (fun ls hl => ?_)
              refine lv_goto (tgt := 72) hx hb dX7_failBackwards_108 (by decide) ?_
              refine lv_iload hx hb dX7_failBackwards_72 (lv_at hl 0 rfl) ?_
              refine lv_iconst (v := iI 1) hx hb dX7_failBackwards_74 rfl ?_
              refine zi_icmp_lt (tgt := 111) hx hb dX7_failBackwards_75 (by decide) ⟨by omega, by omega⟩ ⟨by omega, by omega⟩ (fun _ => ?_) (fun c_38 => absurd c_38 (by omega))
              refine lv_iload hx hb dX7_failBackwards_111 (lv_at hl 1 rfl) ?_
              exact z_iret hx hb hr hlocks hP hS dX7_failBackwards_113 (Eq.trans (zif_neg c_2) (Eq.trans (zif_neg c_9) (Eq.trans (zif_pos c_31) (Eq.trans (zif_pos c_33) (Eq.trans (zif_neg c_35) (Eq.trans (zif_pos c_37) rfl)))))) rfl (Nat.le_refl _) (Nat.le_refl _)
            · refine lv_iload hx hb dX7_failBackwards_101 (lv_at hl 0 rfl) ?_
              refine lv_istore (lv' := [(7, .int (iI 1)), (8, .int (iI 1)), (6, .int (iI (wYaw (S1 14) (S1 13 1) (sp_X1_freshAt (sub2 S1 13) 0)))), (5, .int (iI (wNum (S1 4) (S1 3 1) p1 1))), (4, .int (iI (wNum (S1 4) (S1 3 1) p1 0))), (3, .ref ((subA a0 1) 2)), (0, .ref (a0 0)), (1, .int (iI 0)), (2, .int (iI p1))]) hx hb dX7_failBackwards_103 hl (by decide) rfl (fun ls hl => ?_)
              refine lv_iinc (v := iI (0)) (lv' := [(8, .int (iI 0)), (7, .int (iI 1)), (6, .int (iI (wYaw (S1 14) (S1 13 1) (sp_X1_freshAt (sub2 S1 13) 0)))), (5, .int (iI (wNum (S1 4) (S1 3 1) p1 1))), (4, .int (iI (wNum (S1 4) (S1 3 1) p1 0))), (3, .ref ((subA a0 1) 2)), (0, .ref (a0 0)), (1, .int (iI 0)), (2, .int (iI p1))]) hx hb dX7_failBackwards_105 hl (k := 1) rfl (iI_add 1 (-1)) (by decide) rfl (fun ls hl => ?_)
              refine lv_goto (tgt := 72) hx hb dX7_failBackwards_108 (by decide) ?_
              refine lv_iload hx hb dX7_failBackwards_72 (lv_at hl 0 rfl) ?_
              refine lv_iconst (v := iI 1) hx hb dX7_failBackwards_74 rfl ?_
              refine zi_icmp_lt (tgt := 111) hx hb dX7_failBackwards_75 (by decide) ⟨by omega, by omega⟩ ⟨by omega, by omega⟩ (fun _ => ?_) (fun c_39 => absurd c_39 (by omega))
              refine lv_iload hx hb dX7_failBackwards_111 (lv_at hl 1 rfl) ?_
              exact z_iret hx hb hr hlocks hP hS dX7_failBackwards_113 (Eq.trans (zif_neg c_2) (Eq.trans (zif_neg c_9) (Eq.trans (zif_pos c_31) (Eq.trans (zif_pos c_33) (Eq.trans (zif_neg c_35) (Eq.trans (zif_neg c_37) rfl)))))) rfl (Nat.le_refl _) (Nat.le_refl _)
        · refine lv_iload hx hb dX7_failBackwards_91 (lv_at hl 0 rfl) ?_
          refine lv_iload hx hb dX7_failBackwards_93 (lv_at hl 2 rfl) ?_
          refine z_ai0 (va_runS (As := [.int (iI 2), .int (iI (wYaw (S1 14) (S1 13 1) (sp_X1_freshAt (sub2 S1 13) 0)))]) (rest := []) ⟨hx, hb, hml, hown, hts⟩ (c_X1_isLeftOut l D k   2 (wYaw (S1 14) (S1 13 1) (sp_X1_freshAt (sub2 S1 13) 0)) (by omega) (by omega) _) (va_cwS 2 hts gX7_failBackwards_X1_isLeftOut rfl rfl rfl (by decide +kernel) ⟨(Nat.le_of_ble_eq_true rfl), (Nat.le_of_ble_eq_true rfl)⟩) (z_preS hK hG hA hP hD hS [] rfl (by decide)) rfl rfl hl.1 rfl (lv_room (Nat.le_of_ble_eq_true rfl)) dX7_failBackwards_95 ⟨(Nat.le_of_ble_eq_true rfl), (Nat.le_of_ble_eq_true rfl)⟩) hA hP hD hS [] rfl (fun H locs hP hS => ?_)
          refine zi_if_neB (tgt := 105) hx hb dX7_failBackwards_98 (by decide) (fun c_40 => ?_) (fun c_40 => ?_)
          · refine lv_iinc (v := iI (1)) (lv' := [(8, .int (iI 1)), (7, .int (iI 0)), (6, .int (iI (wYaw (S1 14) (S1 13 1) (sp_X1_freshAt (sub2 S1 13) 0)))), (5, .int (iI (wNum (S1 4) (S1 3 1) p1 1))), (4, .int (iI (wNum (S1 4) (S1 3 1) p1 0))), (3, .ref ((subA a0 1) 2)), (0, .ref (a0 0)), (1, .int (iI 0)), (2, .int (iI p1))]) hx hb dX7_failBackwards_105 hl (k := 0) rfl (iI_add 2 (-1)) (by decide) rfl (fun ls hl => ?_)
            refine lv_goto (tgt := 72) hx hb dX7_failBackwards_108 (by decide) ?_
            refine lv_iload hx hb dX7_failBackwards_72 (lv_at hl 0 rfl) ?_
            refine lv_iconst (v := iI 1) hx hb dX7_failBackwards_74 rfl ?_
            refine zi_icmp_lt (tgt := 111) hx hb dX7_failBackwards_75 (by decide) ⟨by omega, by omega⟩ ⟨by omega, by omega⟩ (fun c_41 => absurd c_41 (by omega)) (fun _ => ?_)
            refine lv_aload_n hx hb dX7_failBackwards_78 rfl (lv_at hl 5 rfl) ?_
            refine lv_iload hx hb dX7_failBackwards_79 (lv_at hl 4 rfl) ?_
            refine lv_iload hx hb dX7_failBackwards_81 (lv_at hl 3 rfl) ?_
            refine lv_iload hx hb dX7_failBackwards_83 (lv_at hl 0 rfl) ?_
            refine z_ai0 (va_runV (As := [.int (iI (wNum (S1 4) (S1 3 1) p1 0)), .int (iI (wNum (S1 4) (S1 3 1) p1 1)), .int (iI 1)]) (rest := []) ⟨hx, hb, hml, hown, hts⟩ (c_X0_isPassedBy l D k (subA (subA a0 1) 2) (sub2 S1 2)  (wNum (S1 4) (S1 3 1) p1 0) (wNum (S1 4) (S1 3 1) p1 1) 1 (pOK_b hp 2 (by decide)) (by omega) (by omega) (by omega) _) (cwV 3 hts gX7_failBackwards_X0_isPassedBy rfl rfl rfl (by decide +kernel) ⟨(Nat.le_of_ble_eq_true rfl), (Nat.le_of_ble_eq_true rfl)⟩) (z_preV hK hG hA hP hD hS [3, 4, 5] rfl (by decide) 2 rfl rfl) rfl rfl hl.1 rfl (lv_room (Nat.le_of_ble_eq_true rfl)) dX7_failBackwards_85 ⟨(Nat.le_of_ble_eq_true rfl), (Nat.le_of_ble_eq_true rfl)⟩) hA hP hD hS [3, 4, 5] rfl (fun H locs hP hS => ?_)
            refine z_eqi (z2 := zb (wPassed (S1 2) (wNum (S1 4) (S1 3 1) p1 0) (wNum (S1 4) (S1 3 1) p1 1) 1)) rfl ?_
            refine zi_if_neB (tgt := 105) hx hb dX7_failBackwards_88 (by decide) (fun c_42 => ?_) (fun c_42 => ?_)
            · refine lv_iinc (v := iI (0)) (lv' := [(8, .int (iI 0)), (7, .int (iI 0)), (6, .int (iI (wYaw (S1 14) (S1 13 1) (sp_X1_freshAt (sub2 S1 13) 0)))), (5, .int (iI (wNum (S1 4) (S1 3 1) p1 1))), (4, .int (iI (wNum (S1 4) (S1 3 1) p1 0))), (3, .ref ((subA a0 1) 2)), (0, .ref (a0 0)), (1, .int (iI 0)), (2, .int (iI p1))]) hx hb dX7_failBackwards_105 hl (k := 0) rfl (iI_add 1 (-1)) (by decide) rfl (fun ls hl => ?_)
              refine lv_goto (tgt := 72) hx hb dX7_failBackwards_108 (by decide) ?_
              refine lv_iload hx hb dX7_failBackwards_72 (lv_at hl 0 rfl) ?_
              refine lv_iconst (v := iI 1) hx hb dX7_failBackwards_74 rfl ?_
              refine zi_icmp_lt (tgt := 111) hx hb dX7_failBackwards_75 (by decide) ⟨by omega, by omega⟩ ⟨by omega, by omega⟩ (fun _ => ?_) (fun c_43 => absurd c_43 (by omega))
              refine lv_iload hx hb dX7_failBackwards_111 (lv_at hl 1 rfl) ?_
              exact z_iret hx hb hr hlocks hP hS dX7_failBackwards_113 (Eq.trans (zif_neg c_2) (Eq.trans (zif_neg c_9) (Eq.trans (zif_pos c_31) (Eq.trans (zif_neg c_33) (Eq.trans (zif_pos c_40) (Eq.trans (zif_pos c_42) rfl)))))) rfl (Nat.le_refl _) (Nat.le_refl _)
            · refine lv_iload hx hb dX7_failBackwards_91 (lv_at hl 0 rfl) ?_
              refine lv_iload hx hb dX7_failBackwards_93 (lv_at hl 2 rfl) ?_
              refine z_ai0 (va_runS (As := [.int (iI 1), .int (iI (wYaw (S1 14) (S1 13 1) (sp_X1_freshAt (sub2 S1 13) 0)))]) (rest := []) ⟨hx, hb, hml, hown, hts⟩ (c_X1_isLeftOut l D k   1 (wYaw (S1 14) (S1 13 1) (sp_X1_freshAt (sub2 S1 13) 0)) (by omega) (by omega) _) (va_cwS 2 hts gX7_failBackwards_X1_isLeftOut rfl rfl rfl (by decide +kernel) ⟨(Nat.le_of_ble_eq_true rfl), (Nat.le_of_ble_eq_true rfl)⟩) (z_preS hK hG hA hP hD hS [] rfl (by decide)) rfl rfl hl.1 rfl (lv_room (Nat.le_of_ble_eq_true rfl)) dX7_failBackwards_95 ⟨(Nat.le_of_ble_eq_true rfl), (Nat.le_of_ble_eq_true rfl)⟩) hA hP hD hS [] rfl (fun H locs hP hS => ?_)
              refine zi_if_neB (tgt := 105) hx hb dX7_failBackwards_98 (by decide) (fun c_44 => ?_) (fun c_44 => ?_)
              · refine lv_iinc (v := iI (0)) (lv' := [(8, .int (iI 0)), (7, .int (iI 0)), (6, .int (iI (wYaw (S1 14) (S1 13 1) (sp_X1_freshAt (sub2 S1 13) 0)))), (5, .int (iI (wNum (S1 4) (S1 3 1) p1 1))), (4, .int (iI (wNum (S1 4) (S1 3 1) p1 0))), (3, .ref ((subA a0 1) 2)), (0, .ref (a0 0)), (1, .int (iI 0)), (2, .int (iI p1))]) hx hb dX7_failBackwards_105 hl (k := 0) rfl (iI_add 1 (-1)) (by decide) rfl (fun ls hl => ?_)
                refine lv_goto (tgt := 72) hx hb dX7_failBackwards_108 (by decide) ?_
                refine lv_iload hx hb dX7_failBackwards_72 (lv_at hl 0 rfl) ?_
                refine lv_iconst (v := iI 1) hx hb dX7_failBackwards_74 rfl ?_
                refine zi_icmp_lt (tgt := 111) hx hb dX7_failBackwards_75 (by decide) ⟨by omega, by omega⟩ ⟨by omega, by omega⟩ (fun _ => ?_) (fun c_45 => absurd c_45 (by omega))
                refine lv_iload hx hb dX7_failBackwards_111 (lv_at hl 1 rfl) ?_
                exact z_iret hx hb hr hlocks hP hS dX7_failBackwards_113 (Eq.trans (zif_neg c_2) (Eq.trans (zif_neg c_9) (Eq.trans (zif_pos c_31) (Eq.trans (zif_neg c_33) (Eq.trans (zif_pos c_40) (Eq.trans (zif_neg c_42) (Eq.trans (zif_pos c_44) rfl))))))) rfl (Nat.le_refl _) (Nat.le_refl _)
              · refine lv_iload hx hb dX7_failBackwards_101 (lv_at hl 0 rfl) ?_
                refine lv_istore (lv' := [(7, .int (iI 1)), (8, .int (iI 1)), (6, .int (iI (wYaw (S1 14) (S1 13 1) (sp_X1_freshAt (sub2 S1 13) 0)))), (5, .int (iI (wNum (S1 4) (S1 3 1) p1 1))), (4, .int (iI (wNum (S1 4) (S1 3 1) p1 0))), (3, .ref ((subA a0 1) 2)), (0, .ref (a0 0)), (1, .int (iI 0)), (2, .int (iI p1))]) hx hb dX7_failBackwards_103 hl (by decide) rfl (fun ls hl => ?_)
                refine lv_iinc (v := iI (0)) (lv' := [(8, .int (iI 0)), (7, .int (iI 1)), (6, .int (iI (wYaw (S1 14) (S1 13 1) (sp_X1_freshAt (sub2 S1 13) 0)))), (5, .int (iI (wNum (S1 4) (S1 3 1) p1 1))), (4, .int (iI (wNum (S1 4) (S1 3 1) p1 0))), (3, .ref ((subA a0 1) 2)), (0, .ref (a0 0)), (1, .int (iI 0)), (2, .int (iI p1))]) hx hb dX7_failBackwards_105 hl (k := 1) rfl (iI_add 1 (-1)) (by decide) rfl (fun ls hl => ?_)
                refine lv_goto (tgt := 72) hx hb dX7_failBackwards_108 (by decide) ?_
                refine lv_iload hx hb dX7_failBackwards_72 (lv_at hl 0 rfl) ?_
                refine lv_iconst (v := iI 1) hx hb dX7_failBackwards_74 rfl ?_
                refine zi_icmp_lt (tgt := 111) hx hb dX7_failBackwards_75 (by decide) ⟨by omega, by omega⟩ ⟨by omega, by omega⟩ (fun _ => ?_) (fun c_46 => absurd c_46 (by omega))
                refine lv_iload hx hb dX7_failBackwards_111 (lv_at hl 1 rfl) ?_
                exact z_iret hx hb hr hlocks hP hS dX7_failBackwards_113 (Eq.trans (zif_neg c_2) (Eq.trans (zif_neg c_9) (Eq.trans (zif_pos c_31) (Eq.trans (zif_neg c_33) (Eq.trans (zif_pos c_40) (Eq.trans (zif_neg c_42) (Eq.trans (zif_neg c_44) rfl))))))) rfl (Nat.le_refl _) (Nat.le_refl _)
          · refine lv_iload hx hb dX7_failBackwards_101 (lv_at hl 0 rfl) ?_
            refine lv_istore (lv' := [(7, .int (iI 2)), (8, .int (iI 2)), (6, .int (iI (wYaw (S1 14) (S1 13 1) (sp_X1_freshAt (sub2 S1 13) 0)))), (5, .int (iI (wNum (S1 4) (S1 3 1) p1 1))), (4, .int (iI (wNum (S1 4) (S1 3 1) p1 0))), (3, .ref ((subA a0 1) 2)), (0, .ref (a0 0)), (1, .int (iI 0)), (2, .int (iI p1))]) hx hb dX7_failBackwards_103 hl (by decide) rfl (fun ls hl => ?_)
            refine lv_iinc (v := iI (1)) (lv' := [(8, .int (iI 1)), (7, .int (iI 2)), (6, .int (iI (wYaw (S1 14) (S1 13 1) (sp_X1_freshAt (sub2 S1 13) 0)))), (5, .int (iI (wNum (S1 4) (S1 3 1) p1 1))), (4, .int (iI (wNum (S1 4) (S1 3 1) p1 0))), (3, .ref ((subA a0 1) 2)), (0, .ref (a0 0)), (1, .int (iI 0)), (2, .int (iI p1))]) hx hb dX7_failBackwards_105 hl (k := 1) rfl (iI_add 2 (-1)) (by decide) rfl (fun ls hl => ?_)
            refine lv_goto (tgt := 72) hx hb dX7_failBackwards_108 (by decide) ?_
            refine lv_iload hx hb dX7_failBackwards_72 (lv_at hl 0 rfl) ?_
            refine lv_iconst (v := iI 1) hx hb dX7_failBackwards_74 rfl ?_
            refine zi_icmp_lt (tgt := 111) hx hb dX7_failBackwards_75 (by decide) ⟨by omega, by omega⟩ ⟨by omega, by omega⟩ (fun c_47 => absurd c_47 (by omega)) (fun _ => ?_)
            refine lv_aload_n hx hb dX7_failBackwards_78 rfl (lv_at hl 5 rfl) ?_
            refine lv_iload hx hb dX7_failBackwards_79 (lv_at hl 4 rfl) ?_
            refine lv_iload hx hb dX7_failBackwards_81 (lv_at hl 3 rfl) ?_
            refine lv_iload hx hb dX7_failBackwards_83 (lv_at hl 0 rfl) ?_
            refine z_ai0 (va_runV (As := [.int (iI (wNum (S1 4) (S1 3 1) p1 0)), .int (iI (wNum (S1 4) (S1 3 1) p1 1)), .int (iI 1)]) (rest := []) ⟨hx, hb, hml, hown, hts⟩ (c_X0_isPassedBy l D k (subA (subA a0 1) 2) (sub2 S1 2)  (wNum (S1 4) (S1 3 1) p1 0) (wNum (S1 4) (S1 3 1) p1 1) 1 (pOK_b hp 2 (by decide)) (by omega) (by omega) (by omega) _) (cwV 3 hts gX7_failBackwards_X0_isPassedBy rfl rfl rfl (by decide +kernel) ⟨(Nat.le_of_ble_eq_true rfl), (Nat.le_of_ble_eq_true rfl)⟩) (z_preV hK hG hA hP hD hS [3, 4, 5] rfl (by decide) 2 rfl rfl) rfl rfl hl.1 rfl (lv_room (Nat.le_of_ble_eq_true rfl)) dX7_failBackwards_85 ⟨(Nat.le_of_ble_eq_true rfl), (Nat.le_of_ble_eq_true rfl)⟩) hA hP hD hS [3, 4, 5] rfl (fun H locs hP hS => ?_)
            refine z_eqi (z2 := zb (wPassed (S1 2) (wNum (S1 4) (S1 3 1) p1 0) (wNum (S1 4) (S1 3 1) p1 1) 1)) rfl ?_
            refine zi_if_neB (tgt := 105) hx hb dX7_failBackwards_88 (by decide) (fun c_48 => ?_) (fun c_48 => ?_)
            · refine lv_iinc (v := iI (0)) (lv' := [(8, .int (iI 0)), (7, .int (iI 2)), (6, .int (iI (wYaw (S1 14) (S1 13 1) (sp_X1_freshAt (sub2 S1 13) 0)))), (5, .int (iI (wNum (S1 4) (S1 3 1) p1 1))), (4, .int (iI (wNum (S1 4) (S1 3 1) p1 0))), (3, .ref ((subA a0 1) 2)), (0, .ref (a0 0)), (1, .int (iI 0)), (2, .int (iI p1))]) hx hb dX7_failBackwards_105 hl (k := 0) rfl (iI_add 1 (-1)) (by decide) rfl (fun ls hl => ?_)
              refine lv_goto (tgt := 72) hx hb dX7_failBackwards_108 (by decide) ?_
              refine lv_iload hx hb dX7_failBackwards_72 (lv_at hl 0 rfl) ?_
              refine lv_iconst (v := iI 1) hx hb dX7_failBackwards_74 rfl ?_
              refine zi_icmp_lt (tgt := 111) hx hb dX7_failBackwards_75 (by decide) ⟨by omega, by omega⟩ ⟨by omega, by omega⟩ (fun _ => ?_) (fun c_49 => absurd c_49 (by omega))
              refine lv_iload hx hb dX7_failBackwards_111 (lv_at hl 1 rfl) ?_
              exact z_iret hx hb hr hlocks hP hS dX7_failBackwards_113 (Eq.trans (zif_neg c_2) (Eq.trans (zif_neg c_9) (Eq.trans (zif_pos c_31) (Eq.trans (zif_neg c_33) (Eq.trans (zif_neg c_40) (Eq.trans (zif_pos c_48) rfl)))))) rfl (Nat.le_refl _) (Nat.le_refl _)
            · refine lv_iload hx hb dX7_failBackwards_91 (lv_at hl 0 rfl) ?_
              refine lv_iload hx hb dX7_failBackwards_93 (lv_at hl 2 rfl) ?_
              refine z_ai0 (va_runS (As := [.int (iI 1), .int (iI (wYaw (S1 14) (S1 13 1) (sp_X1_freshAt (sub2 S1 13) 0)))]) (rest := []) ⟨hx, hb, hml, hown, hts⟩ (c_X1_isLeftOut l D k   1 (wYaw (S1 14) (S1 13 1) (sp_X1_freshAt (sub2 S1 13) 0)) (by omega) (by omega) _) (va_cwS 2 hts gX7_failBackwards_X1_isLeftOut rfl rfl rfl (by decide +kernel) ⟨(Nat.le_of_ble_eq_true rfl), (Nat.le_of_ble_eq_true rfl)⟩) (z_preS hK hG hA hP hD hS [] rfl (by decide)) rfl rfl hl.1 rfl (lv_room (Nat.le_of_ble_eq_true rfl)) dX7_failBackwards_95 ⟨(Nat.le_of_ble_eq_true rfl), (Nat.le_of_ble_eq_true rfl)⟩) hA hP hD hS [] rfl (fun H locs hP hS => ?_)
              refine zi_if_neB (tgt := 105) hx hb dX7_failBackwards_98 (by decide) (fun c_50 => ?_) (fun c_50 => ?_)
              · refine lv_iinc (v := iI (0)) (lv' := [(8, .int (iI 0)), (7, .int (iI 2)), (6, .int (iI (wYaw (S1 14) (S1 13 1) (sp_X1_freshAt (sub2 S1 13) 0)))), (5, .int (iI (wNum (S1 4) (S1 3 1) p1 1))), (4, .int (iI (wNum (S1 4) (S1 3 1) p1 0))), (3, .ref ((subA a0 1) 2)), (0, .ref (a0 0)), (1, .int (iI 0)), (2, .int (iI p1))]) hx hb dX7_failBackwards_105 hl (k := 0) rfl (iI_add 1 (-1)) (by decide) rfl (fun ls hl => ?_)
                refine lv_goto (tgt := 72) hx hb dX7_failBackwards_108 (by decide) ?_
                refine lv_iload hx hb dX7_failBackwards_72 (lv_at hl 0 rfl) ?_
                refine lv_iconst (v := iI 1) hx hb dX7_failBackwards_74 rfl ?_
                refine zi_icmp_lt (tgt := 111) hx hb dX7_failBackwards_75 (by decide) ⟨by omega, by omega⟩ ⟨by omega, by omega⟩ (fun _ => ?_) (fun c_51 => absurd c_51 (by omega))
                refine lv_iload hx hb dX7_failBackwards_111 (lv_at hl 1 rfl) ?_
                exact z_iret hx hb hr hlocks hP hS dX7_failBackwards_113 (Eq.trans (zif_neg c_2) (Eq.trans (zif_neg c_9) (Eq.trans (zif_pos c_31) (Eq.trans (zif_neg c_33) (Eq.trans (zif_neg c_40) (Eq.trans (zif_neg c_48) (Eq.trans (zif_pos c_50) rfl))))))) rfl (Nat.le_refl _) (Nat.le_refl _)
              · refine lv_iload hx hb dX7_failBackwards_101 (lv_at hl 0 rfl) ?_
                refine lv_istore (lv' := [(7, .int (iI 1)), (8, .int (iI 1)), (6, .int (iI (wYaw (S1 14) (S1 13 1) (sp_X1_freshAt (sub2 S1 13) 0)))), (5, .int (iI (wNum (S1 4) (S1 3 1) p1 1))), (4, .int (iI (wNum (S1 4) (S1 3 1) p1 0))), (3, .ref ((subA a0 1) 2)), (0, .ref (a0 0)), (1, .int (iI 0)), (2, .int (iI p1))]) hx hb dX7_failBackwards_103 hl (by decide) rfl (fun ls hl => ?_)
                refine lv_iinc (v := iI (0)) (lv' := [(8, .int (iI 0)), (7, .int (iI 1)), (6, .int (iI (wYaw (S1 14) (S1 13 1) (sp_X1_freshAt (sub2 S1 13) 0)))), (5, .int (iI (wNum (S1 4) (S1 3 1) p1 1))), (4, .int (iI (wNum (S1 4) (S1 3 1) p1 0))), (3, .ref ((subA a0 1) 2)), (0, .ref (a0 0)), (1, .int (iI 0)), (2, .int (iI p1))]) hx hb dX7_failBackwards_105 hl (k := 1) rfl (iI_add 1 (-1)) (by decide) rfl (fun ls hl => ?_)
                refine lv_goto (tgt := 72) hx hb dX7_failBackwards_108 (by decide) ?_
                refine lv_iload hx hb dX7_failBackwards_72 (lv_at hl 0 rfl) ?_
                refine lv_iconst (v := iI 1) hx hb dX7_failBackwards_74 rfl ?_
                refine zi_icmp_lt (tgt := 111) hx hb dX7_failBackwards_75 (by decide) ⟨by omega, by omega⟩ ⟨by omega, by omega⟩ (fun _ => ?_) (fun c_52 => absurd c_52 (by omega))
                refine lv_iload hx hb dX7_failBackwards_111 (lv_at hl 1 rfl) ?_
                exact z_iret hx hb hr hlocks hP hS dX7_failBackwards_113 (Eq.trans (zif_neg c_2) (Eq.trans (zif_neg c_9) (Eq.trans (zif_pos c_31) (Eq.trans (zif_neg c_33) (Eq.trans (zif_neg c_40) (Eq.trans (zif_neg c_48) (Eq.trans (zif_neg c_50) rfl))))))) rfl (Nat.le_refl _) (Nat.le_refl _)
      · refine lv_iload hx hb dX7_failBackwards_101 (lv_at hl 0 rfl) ?_
        refine lv_istore (lv' := [(7, .int (iI 3)), (8, .int (iI 3)), (6, .int (iI (wYaw (S1 14) (S1 13 1) (sp_X1_freshAt (sub2 S1 13) 0)))), (5, .int (iI (wNum (S1 4) (S1 3 1) p1 1))), (4, .int (iI (wNum (S1 4) (S1 3 1) p1 0))), (3, .ref ((subA a0 1) 2)), (0, .ref (a0 0)), (1, .int (iI 0)), (2, .int (iI p1))]) hx hb dX7_failBackwards_103 hl (by decide) rfl (fun ls hl => ?_)
        refine lv_iinc (v := iI (2)) (lv' := [(8, .int (iI 2)), (7, .int (iI 3)), (6, .int (iI (wYaw (S1 14) (S1 13 1) (sp_X1_freshAt (sub2 S1 13) 0)))), (5, .int (iI (wNum (S1 4) (S1 3 1) p1 1))), (4, .int (iI (wNum (S1 4) (S1 3 1) p1 0))), (3, .ref ((subA a0 1) 2)), (0, .ref (a0 0)), (1, .int (iI 0)), (2, .int (iI p1))]) hx hb dX7_failBackwards_105 hl (k := 1) rfl (iI_add 3 (-1)) (by decide) rfl (fun ls hl => ?_)
        refine lv_goto (tgt := 72) hx hb dX7_failBackwards_108 (by decide) ?_
        refine lv_iload hx hb dX7_failBackwards_72 (lv_at hl 0 rfl) ?_
        refine lv_iconst (v := iI 1) hx hb dX7_failBackwards_74 rfl ?_
        refine zi_icmp_lt (tgt := 111) hx hb dX7_failBackwards_75 (by decide) ⟨by omega, by omega⟩ ⟨by omega, by omega⟩ (fun c_53 => absurd c_53 (by omega)) (fun _ => ?_)
        refine lv_aload_n hx hb dX7_failBackwards_78 rfl (lv_at hl 5 rfl) ?_
        refine lv_iload hx hb dX7_failBackwards_79 (lv_at hl 4 rfl) ?_
        refine lv_iload hx hb dX7_failBackwards_81 (lv_at hl 3 rfl) ?_
        refine lv_iload hx hb dX7_failBackwards_83 (lv_at hl 0 rfl) ?_
        refine z_ai0 (va_runV (As := [.int (iI (wNum (S1 4) (S1 3 1) p1 0)), .int (iI (wNum (S1 4) (S1 3 1) p1 1)), .int (iI 2)]) (rest := []) ⟨hx, hb, hml, hown, hts⟩ (c_X0_isPassedBy l D k (subA (subA a0 1) 2) (sub2 S1 2)  (wNum (S1 4) (S1 3 1) p1 0) (wNum (S1 4) (S1 3 1) p1 1) 2 (pOK_b hp 2 (by decide)) (by omega) (by omega) (by omega) _) (cwV 3 hts gX7_failBackwards_X0_isPassedBy rfl rfl rfl (by decide +kernel) ⟨(Nat.le_of_ble_eq_true rfl), (Nat.le_of_ble_eq_true rfl)⟩) (z_preV hK hG hA hP hD hS [3, 4, 5] rfl (by decide) 2 rfl rfl) rfl rfl hl.1 rfl (lv_room (Nat.le_of_ble_eq_true rfl)) dX7_failBackwards_85 ⟨(Nat.le_of_ble_eq_true rfl), (Nat.le_of_ble_eq_true rfl)⟩) hA hP hD hS [3, 4, 5] rfl (fun H locs hP hS => ?_)
        refine z_eqi (z2 := zb (wPassed (S1 2) (wNum (S1 4) (S1 3 1) p1 0) (wNum (S1 4) (S1 3 1) p1 1) 2)) rfl ?_
        refine zi_if_neB (tgt := 105) hx hb dX7_failBackwards_88 (by decide) (fun c_54 => ?_) (fun c_54 => ?_)
        · refine lv_iinc (v := iI (1)) (lv' := [(8, .int (iI 1)), (7, .int (iI 3)), (6, .int (iI (wYaw (S1 14) (S1 13 1) (sp_X1_freshAt (sub2 S1 13) 0)))), (5, .int (iI (wNum (S1 4) (S1 3 1) p1 1))), (4, .int (iI (wNum (S1 4) (S1 3 1) p1 0))), (3, .ref ((subA a0 1) 2)), (0, .ref (a0 0)), (1, .int (iI 0)), (2, .int (iI p1))]) hx hb dX7_failBackwards_105 hl (k := 0) rfl (iI_add 2 (-1)) (by decide) rfl (fun ls hl => ?_)
          refine lv_goto (tgt := 72) hx hb dX7_failBackwards_108 (by decide) ?_
          refine lv_iload hx hb dX7_failBackwards_72 (lv_at hl 0 rfl) ?_
          refine lv_iconst (v := iI 1) hx hb dX7_failBackwards_74 rfl ?_
          refine zi_icmp_lt (tgt := 111) hx hb dX7_failBackwards_75 (by decide) ⟨by omega, by omega⟩ ⟨by omega, by omega⟩ (fun c_55 => absurd c_55 (by omega)) (fun _ => ?_)
          refine lv_aload_n hx hb dX7_failBackwards_78 rfl (lv_at hl 5 rfl) ?_
          refine lv_iload hx hb dX7_failBackwards_79 (lv_at hl 4 rfl) ?_
          refine lv_iload hx hb dX7_failBackwards_81 (lv_at hl 3 rfl) ?_
          refine lv_iload hx hb dX7_failBackwards_83 (lv_at hl 0 rfl) ?_
          refine z_ai0 (va_runV (As := [.int (iI (wNum (S1 4) (S1 3 1) p1 0)), .int (iI (wNum (S1 4) (S1 3 1) p1 1)), .int (iI 1)]) (rest := []) ⟨hx, hb, hml, hown, hts⟩ (c_X0_isPassedBy l D k (subA (subA a0 1) 2) (sub2 S1 2)  (wNum (S1 4) (S1 3 1) p1 0) (wNum (S1 4) (S1 3 1) p1 1) 1 (pOK_b hp 2 (by decide)) (by omega) (by omega) (by omega) _) (cwV 3 hts gX7_failBackwards_X0_isPassedBy rfl rfl rfl (by decide +kernel) ⟨(Nat.le_of_ble_eq_true rfl), (Nat.le_of_ble_eq_true rfl)⟩) (z_preV hK hG hA hP hD hS [3, 4, 5] rfl (by decide) 2 rfl rfl) rfl rfl hl.1 rfl (lv_room (Nat.le_of_ble_eq_true rfl)) dX7_failBackwards_85 ⟨(Nat.le_of_ble_eq_true rfl), (Nat.le_of_ble_eq_true rfl)⟩) hA hP hD hS [3, 4, 5] rfl (fun H locs hP hS => ?_)
          refine z_eqi (z2 := zb (wPassed (S1 2) (wNum (S1 4) (S1 3 1) p1 0) (wNum (S1 4) (S1 3 1) p1 1) 1)) rfl ?_
          refine zi_if_neB (tgt := 105) hx hb dX7_failBackwards_88 (by decide) (fun c_56 => ?_) (fun c_56 => ?_)
          · refine lv_iinc (v := iI (0)) (lv' := [(8, .int (iI 0)), (7, .int (iI 3)), (6, .int (iI (wYaw (S1 14) (S1 13 1) (sp_X1_freshAt (sub2 S1 13) 0)))), (5, .int (iI (wNum (S1 4) (S1 3 1) p1 1))), (4, .int (iI (wNum (S1 4) (S1 3 1) p1 0))), (3, .ref ((subA a0 1) 2)), (0, .ref (a0 0)), (1, .int (iI 0)), (2, .int (iI p1))]) hx hb dX7_failBackwards_105 hl (k := 0) rfl (iI_add 1 (-1)) (by decide) rfl (fun ls hl => ?_)
            refine lv_goto (tgt := 72) hx hb dX7_failBackwards_108 (by decide) ?_
            refine lv_iload hx hb dX7_failBackwards_72 (lv_at hl 0 rfl) ?_
            refine lv_iconst (v := iI 1) hx hb dX7_failBackwards_74 rfl ?_
            refine zi_icmp_lt (tgt := 111) hx hb dX7_failBackwards_75 (by decide) ⟨by omega, by omega⟩ ⟨by omega, by omega⟩ (fun _ => ?_) (fun c_57 => absurd c_57 (by omega))
            refine lv_iload hx hb dX7_failBackwards_111 (lv_at hl 1 rfl) ?_
            exact z_iret hx hb hr hlocks hP hS dX7_failBackwards_113 (Eq.trans (zif_neg c_2) (Eq.trans (zif_neg c_9) (Eq.trans (zif_neg c_31) (Eq.trans (zif_pos c_54) (Eq.trans (zif_pos c_56) rfl))))) rfl (Nat.le_refl _) (Nat.le_refl _)
          · refine lv_iload hx hb dX7_failBackwards_91 (lv_at hl 0 rfl) ?_
            refine lv_iload hx hb dX7_failBackwards_93 (lv_at hl 2 rfl) ?_
            refine z_ai0 (va_runS (As := [.int (iI 1), .int (iI (wYaw (S1 14) (S1 13 1) (sp_X1_freshAt (sub2 S1 13) 0)))]) (rest := []) ⟨hx, hb, hml, hown, hts⟩ (c_X1_isLeftOut l D k   1 (wYaw (S1 14) (S1 13 1) (sp_X1_freshAt (sub2 S1 13) 0)) (by omega) (by omega) _) (va_cwS 2 hts gX7_failBackwards_X1_isLeftOut rfl rfl rfl (by decide +kernel) ⟨(Nat.le_of_ble_eq_true rfl), (Nat.le_of_ble_eq_true rfl)⟩) (z_preS hK hG hA hP hD hS [] rfl (by decide)) rfl rfl hl.1 rfl (lv_room (Nat.le_of_ble_eq_true rfl)) dX7_failBackwards_95 ⟨(Nat.le_of_ble_eq_true rfl), (Nat.le_of_ble_eq_true rfl)⟩) hA hP hD hS [] rfl (fun H locs hP hS => ?_)
            refine zi_if_neB (tgt := 105) hx hb dX7_failBackwards_98 (by decide) (fun c_58 => ?_) (fun c_58 => ?_)
            · refine lv_iinc (v := iI (0)) (lv' := [(8, .int (iI 0)), (7, .int (iI 3)), (6, .int (iI (wYaw (S1 14) (S1 13 1) (sp_X1_freshAt (sub2 S1 13) 0)))), (5, .int (iI (wNum (S1 4) (S1 3 1) p1 1))), (4, .int (iI (wNum (S1 4) (S1 3 1) p1 0))), (3, .ref ((subA a0 1) 2)), (0, .ref (a0 0)), (1, .int (iI 0)), (2, .int (iI p1))]) hx hb dX7_failBackwards_105 hl (k := 0) rfl (iI_add 1 (-1)) (by decide) rfl (fun ls hl => ?_)
              refine lv_goto (tgt := 72) hx hb dX7_failBackwards_108 (by decide) ?_
              refine lv_iload hx hb dX7_failBackwards_72 (lv_at hl 0 rfl) ?_
              refine lv_iconst (v := iI 1) hx hb dX7_failBackwards_74 rfl ?_
              refine zi_icmp_lt (tgt := 111) hx hb dX7_failBackwards_75 (by decide) ⟨by omega, by omega⟩ ⟨by omega, by omega⟩ (fun _ => ?_) (fun c_59 => absurd c_59 (by omega))
              refine lv_iload hx hb dX7_failBackwards_111 (lv_at hl 1 rfl) ?_
              exact z_iret hx hb hr hlocks hP hS dX7_failBackwards_113 (Eq.trans (zif_neg c_2) (Eq.trans (zif_neg c_9) (Eq.trans (zif_neg c_31) (Eq.trans (zif_pos c_54) (Eq.trans (zif_neg c_56) (Eq.trans (zif_pos c_58) rfl)))))) rfl (Nat.le_refl _) (Nat.le_refl _)
            · refine lv_iload hx hb dX7_failBackwards_101 (lv_at hl 0 rfl) ?_
              refine lv_istore (lv' := [(7, .int (iI 1)), (8, .int (iI 1)), (6, .int (iI (wYaw (S1 14) (S1 13 1) (sp_X1_freshAt (sub2 S1 13) 0)))), (5, .int (iI (wNum (S1 4) (S1 3 1) p1 1))), (4, .int (iI (wNum (S1 4) (S1 3 1) p1 0))), (3, .ref ((subA a0 1) 2)), (0, .ref (a0 0)), (1, .int (iI 0)), (2, .int (iI p1))]) hx hb dX7_failBackwards_103 hl (by decide) rfl (fun ls hl => ?_)
              refine lv_iinc (v := iI (0)) (lv' := [(8, .int (iI 0)), (7, .int (iI 1)), (6, .int (iI (wYaw (S1 14) (S1 13 1) (sp_X1_freshAt (sub2 S1 13) 0)))), (5, .int (iI (wNum (S1 4) (S1 3 1) p1 1))), (4, .int (iI (wNum (S1 4) (S1 3 1) p1 0))), (3, .ref ((subA a0 1) 2)), (0, .ref (a0 0)), (1, .int (iI 0)), (2, .int (iI p1))]) hx hb dX7_failBackwards_105 hl (k := 1) rfl (iI_add 1 (-1)) (by decide) rfl (fun ls hl => ?_)
              refine lv_goto (tgt := 72) hx hb dX7_failBackwards_108 (by decide) ?_
              refine lv_iload hx hb dX7_failBackwards_72 (lv_at hl 0 rfl) ?_
              refine lv_iconst (v := iI 1) hx hb dX7_failBackwards_74 rfl ?_
              refine zi_icmp_lt (tgt := 111) hx hb dX7_failBackwards_75 (by decide) ⟨by omega, by omega⟩ ⟨by omega, by omega⟩ (fun _ => ?_) (fun c_60 => absurd c_60 (by omega))
              refine lv_iload hx hb dX7_failBackwards_111 (lv_at hl 1 rfl) ?_
              exact z_iret hx hb hr hlocks hP hS dX7_failBackwards_113 (Eq.trans (zif_neg c_2) (Eq.trans (zif_neg c_9) (Eq.trans (zif_neg c_31) (Eq.trans (zif_pos c_54) (Eq.trans (zif_neg c_56) (Eq.trans (zif_neg c_58) rfl)))))) rfl (Nat.le_refl _) (Nat.le_refl _)
        · refine lv_iload hx hb dX7_failBackwards_91 (lv_at hl 0 rfl) ?_
          refine lv_iload hx hb dX7_failBackwards_93 (lv_at hl 2 rfl) ?_
          refine z_ai0 (va_runS (As := [.int (iI 2), .int (iI (wYaw (S1 14) (S1 13 1) (sp_X1_freshAt (sub2 S1 13) 0)))]) (rest := []) ⟨hx, hb, hml, hown, hts⟩ (c_X1_isLeftOut l D k   2 (wYaw (S1 14) (S1 13 1) (sp_X1_freshAt (sub2 S1 13) 0)) (by omega) (by omega) _) (va_cwS 2 hts gX7_failBackwards_X1_isLeftOut rfl rfl rfl (by decide +kernel) ⟨(Nat.le_of_ble_eq_true rfl), (Nat.le_of_ble_eq_true rfl)⟩) (z_preS hK hG hA hP hD hS [] rfl (by decide)) rfl rfl hl.1 rfl (lv_room (Nat.le_of_ble_eq_true rfl)) dX7_failBackwards_95 ⟨(Nat.le_of_ble_eq_true rfl), (Nat.le_of_ble_eq_true rfl)⟩) hA hP hD hS [] rfl (fun H locs hP hS => ?_)
          refine zi_if_neB (tgt := 105) hx hb dX7_failBackwards_98 (by decide) (fun c_61 => ?_) (fun c_61 => ?_)
          · refine lv_iinc (v := iI (1)) (lv' := [(8, .int (iI 1)), (7, .int (iI 3)), (6, .int (iI (wYaw (S1 14) (S1 13 1) (sp_X1_freshAt (sub2 S1 13) 0)))), (5, .int (iI (wNum (S1 4) (S1 3 1) p1 1))), (4, .int (iI (wNum (S1 4) (S1 3 1) p1 0))), (3, .ref ((subA a0 1) 2)), (0, .ref (a0 0)), (1, .int (iI 0)), (2, .int (iI p1))]) hx hb dX7_failBackwards_105 hl (k := 0) rfl (iI_add 2 (-1)) (by decide) rfl (fun ls hl => ?_)
            refine lv_goto (tgt := 72) hx hb dX7_failBackwards_108 (by decide) ?_
            refine lv_iload hx hb dX7_failBackwards_72 (lv_at hl 0 rfl) ?_
            refine lv_iconst (v := iI 1) hx hb dX7_failBackwards_74 rfl ?_
            refine zi_icmp_lt (tgt := 111) hx hb dX7_failBackwards_75 (by decide) ⟨by omega, by omega⟩ ⟨by omega, by omega⟩ (fun c_62 => absurd c_62 (by omega)) (fun _ => ?_)
            refine lv_aload_n hx hb dX7_failBackwards_78 rfl (lv_at hl 5 rfl) ?_
            refine lv_iload hx hb dX7_failBackwards_79 (lv_at hl 4 rfl) ?_
            refine lv_iload hx hb dX7_failBackwards_81 (lv_at hl 3 rfl) ?_
            refine lv_iload hx hb dX7_failBackwards_83 (lv_at hl 0 rfl) ?_
            refine z_ai0 (va_runV (As := [.int (iI (wNum (S1 4) (S1 3 1) p1 0)), .int (iI (wNum (S1 4) (S1 3 1) p1 1)), .int (iI 1)]) (rest := []) ⟨hx, hb, hml, hown, hts⟩ (c_X0_isPassedBy l D k (subA (subA a0 1) 2) (sub2 S1 2)  (wNum (S1 4) (S1 3 1) p1 0) (wNum (S1 4) (S1 3 1) p1 1) 1 (pOK_b hp 2 (by decide)) (by omega) (by omega) (by omega) _) (cwV 3 hts gX7_failBackwards_X0_isPassedBy rfl rfl rfl (by decide +kernel) ⟨(Nat.le_of_ble_eq_true rfl), (Nat.le_of_ble_eq_true rfl)⟩) (z_preV hK hG hA hP hD hS [3, 4, 5] rfl (by decide) 2 rfl rfl) rfl rfl hl.1 rfl (lv_room (Nat.le_of_ble_eq_true rfl)) dX7_failBackwards_85 ⟨(Nat.le_of_ble_eq_true rfl), (Nat.le_of_ble_eq_true rfl)⟩) hA hP hD hS [3, 4, 5] rfl (fun H locs hP hS => ?_)
            refine z_eqi (z2 := zb (wPassed (S1 2) (wNum (S1 4) (S1 3 1) p1 0) (wNum (S1 4) (S1 3 1) p1 1) 1)) rfl ?_
            refine zi_if_neB (tgt := 105) hx hb dX7_failBackwards_88 (by decide) (fun c_63 => ?_) (fun c_63 => ?_)
            · refine lv_iinc (v := iI (0)) (lv' := [(8, .int (iI 0)), (7, .int (iI 3)), (6, .int (iI (wYaw (S1 14) (S1 13 1) (sp_X1_freshAt (sub2 S1 13) 0)))), (5, .int (iI (wNum (S1 4) (S1 3 1) p1 1))), (4, .int (iI (wNum (S1 4) (S1 3 1) p1 0))), (3, .ref ((subA a0 1) 2)), (0, .ref (a0 0)), (1, .int (iI 0)), (2, .int (iI p1))]) hx hb dX7_failBackwards_105 hl (k := 0) rfl (iI_add 1 (-1)) (by decide) rfl (fun ls hl => ?_)
              refine lv_goto (tgt := 72) hx hb dX7_failBackwards_108 (by decide) ?_
              refine lv_iload hx hb dX7_failBackwards_72 (lv_at hl 0 rfl) ?_
              refine lv_iconst (v := iI 1) hx hb dX7_failBackwards_74 rfl ?_
              refine zi_icmp_lt (tgt := 111) hx hb dX7_failBackwards_75 (by decide) ⟨by omega, by omega⟩ ⟨by omega, by omega⟩ (fun _ => ?_) (fun c_64 => absurd c_64 (by omega))
              refine lv_iload hx hb dX7_failBackwards_111 (lv_at hl 1 rfl) ?_
              exact z_iret hx hb hr hlocks hP hS dX7_failBackwards_113 (Eq.trans (zif_neg c_2) (Eq.trans (zif_neg c_9) (Eq.trans (zif_neg c_31) (Eq.trans (zif_neg c_54) (Eq.trans (zif_pos c_61) (Eq.trans (zif_pos c_63) rfl)))))) rfl (Nat.le_refl _) (Nat.le_refl _)
            · refine lv_iload hx hb dX7_failBackwards_91 (lv_at hl 0 rfl) ?_
              refine lv_iload hx hb dX7_failBackwards_93 (lv_at hl 2 rfl) ?_
              refine z_ai0 (va_runS (As := [.int (iI 1), .int (iI (wYaw (S1 14) (S1 13 1) (sp_X1_freshAt (sub2 S1 13) 0)))]) (rest := []) ⟨hx, hb, hml, hown, hts⟩ (c_X1_isLeftOut l D k   1 (wYaw (S1 14) (S1 13 1) (sp_X1_freshAt (sub2 S1 13) 0)) (by omega) (by omega) _) (va_cwS 2 hts gX7_failBackwards_X1_isLeftOut rfl rfl rfl (by decide +kernel) ⟨(Nat.le_of_ble_eq_true rfl), (Nat.le_of_ble_eq_true rfl)⟩) (z_preS hK hG hA hP hD hS [] rfl (by decide)) rfl rfl hl.1 rfl (lv_room (Nat.le_of_ble_eq_true rfl)) dX7_failBackwards_95 ⟨(Nat.le_of_ble_eq_true rfl), (Nat.le_of_ble_eq_true rfl)⟩) hA hP hD hS [] rfl (fun H locs hP hS => ?_)
              refine zi_if_neB (tgt := 105) hx hb dX7_failBackwards_98 (by decide) (fun c_65 => ?_) (fun c_65 => ?_)
              · refine lv_iinc (v := iI (0)) (lv' := [(8, .int (iI 0)), (7, .int (iI 3)), (6, .int (iI (wYaw (S1 14) (S1 13 1) (sp_X1_freshAt (sub2 S1 13) 0)))), (5, .int (iI (wNum (S1 4) (S1 3 1) p1 1))), (4, .int (iI (wNum (S1 4) (S1 3 1) p1 0))), (3, .ref ((subA a0 1) 2)), (0, .ref (a0 0)), (1, .int (iI 0)), (2, .int (iI p1))]) hx hb dX7_failBackwards_105 hl (k := 0) rfl (iI_add 1 (-1)) (by decide) rfl (fun ls hl => ?_)
                refine lv_goto (tgt := 72) hx hb dX7_failBackwards_108 (by decide) ?_
                refine lv_iload hx hb dX7_failBackwards_72 (lv_at hl 0 rfl) ?_
                refine lv_iconst (v := iI 1) hx hb dX7_failBackwards_74 rfl ?_
                refine zi_icmp_lt (tgt := 111) hx hb dX7_failBackwards_75 (by decide) ⟨by omega, by omega⟩ ⟨by omega, by omega⟩ (fun _ => ?_) (fun c_66 => absurd c_66 (by omega))
                refine lv_iload hx hb dX7_failBackwards_111 (lv_at hl 1 rfl) ?_
                exact z_iret hx hb hr hlocks hP hS dX7_failBackwards_113 (Eq.trans (zif_neg c_2) (Eq.trans (zif_neg c_9) (Eq.trans (zif_neg c_31) (Eq.trans (zif_neg c_54) (Eq.trans (zif_pos c_61) (Eq.trans (zif_neg c_63) (Eq.trans (zif_pos c_65) rfl))))))) rfl (Nat.le_refl _) (Nat.le_refl _)
              · refine lv_iload hx hb dX7_failBackwards_101 (lv_at hl 0 rfl) ?_
                refine lv_istore (lv' := [(7, .int (iI 1)), (8, .int (iI 1)), (6, .int (iI (wYaw (S1 14) (S1 13 1) (sp_X1_freshAt (sub2 S1 13) 0)))), (5, .int (iI (wNum (S1 4) (S1 3 1) p1 1))), (4, .int (iI (wNum (S1 4) (S1 3 1) p1 0))), (3, .ref ((subA a0 1) 2)), (0, .ref (a0 0)), (1, .int (iI 0)), (2, .int (iI p1))]) hx hb dX7_failBackwards_103 hl (by decide) rfl (fun ls hl => ?_)
                refine lv_iinc (v := iI (0)) (lv' := [(8, .int (iI 0)), (7, .int (iI 1)), (6, .int (iI (wYaw (S1 14) (S1 13 1) (sp_X1_freshAt (sub2 S1 13) 0)))), (5, .int (iI (wNum (S1 4) (S1 3 1) p1 1))), (4, .int (iI (wNum (S1 4) (S1 3 1) p1 0))), (3, .ref ((subA a0 1) 2)), (0, .ref (a0 0)), (1, .int (iI 0)), (2, .int (iI p1))]) hx hb dX7_failBackwards_105 hl (k := 1) rfl (iI_add 1 (-1)) (by decide) rfl (fun ls hl => ?_)
                refine lv_goto (tgt := 72) hx hb dX7_failBackwards_108 (by decide) ?_
                refine lv_iload hx hb dX7_failBackwards_72 (lv_at hl 0 rfl) ?_
                refine lv_iconst (v := iI 1) hx hb dX7_failBackwards_74 rfl ?_
                refine zi_icmp_lt (tgt := 111) hx hb dX7_failBackwards_75 (by decide) ⟨by omega, by omega⟩ ⟨by omega, by omega⟩ (fun _ => ?_) (fun c_67 => absurd c_67 (by omega))
                refine lv_iload hx hb dX7_failBackwards_111 (lv_at hl 1 rfl) ?_
                exact z_iret hx hb hr hlocks hP hS dX7_failBackwards_113 (Eq.trans (zif_neg c_2) (Eq.trans (zif_neg c_9) (Eq.trans (zif_neg c_31) (Eq.trans (zif_neg c_54) (Eq.trans (zif_pos c_61) (Eq.trans (zif_neg c_63) (Eq.trans (zif_neg c_65) rfl))))))) rfl (Nat.le_refl _) (Nat.le_refl _)
          · refine lv_iload hx hb dX7_failBackwards_101 (lv_at hl 0 rfl) ?_
            refine lv_istore (lv' := [(7, .int (iI 2)), (8, .int (iI 2)), (6, .int (iI (wYaw (S1 14) (S1 13 1) (sp_X1_freshAt (sub2 S1 13) 0)))), (5, .int (iI (wNum (S1 4) (S1 3 1) p1 1))), (4, .int (iI (wNum (S1 4) (S1 3 1) p1 0))), (3, .ref ((subA a0 1) 2)), (0, .ref (a0 0)), (1, .int (iI 0)), (2, .int (iI p1))]) hx hb dX7_failBackwards_103 hl (by decide) rfl (fun ls hl => ?_)
            refine lv_iinc (v := iI (1)) (lv' := [(8, .int (iI 1)), (7, .int (iI 2)), (6, .int (iI (wYaw (S1 14) (S1 13 1) (sp_X1_freshAt (sub2 S1 13) 0)))), (5, .int (iI (wNum (S1 4) (S1 3 1) p1 1))), (4, .int (iI (wNum (S1 4) (S1 3 1) p1 0))), (3, .ref ((subA a0 1) 2)), (0, .ref (a0 0)), (1, .int (iI 0)), (2, .int (iI p1))]) hx hb dX7_failBackwards_105 hl (k := 1) rfl (iI_add 2 (-1)) (by decide) rfl (fun ls hl => ?_)
            refine lv_goto (tgt := 72) hx hb dX7_failBackwards_108 (by decide) ?_
            refine lv_iload hx hb dX7_failBackwards_72 (lv_at hl 0 rfl) ?_
            refine lv_iconst (v := iI 1) hx hb dX7_failBackwards_74 rfl ?_
            refine zi_icmp_lt (tgt := 111) hx hb dX7_failBackwards_75 (by decide) ⟨by omega, by omega⟩ ⟨by omega, by omega⟩ (fun c_68 => absurd c_68 (by omega)) (fun _ => ?_)
            refine lv_aload_n hx hb dX7_failBackwards_78 rfl (lv_at hl 5 rfl) ?_
            refine lv_iload hx hb dX7_failBackwards_79 (lv_at hl 4 rfl) ?_
            refine lv_iload hx hb dX7_failBackwards_81 (lv_at hl 3 rfl) ?_
            refine lv_iload hx hb dX7_failBackwards_83 (lv_at hl 0 rfl) ?_
            refine z_ai0 (va_runV (As := [.int (iI (wNum (S1 4) (S1 3 1) p1 0)), .int (iI (wNum (S1 4) (S1 3 1) p1 1)), .int (iI 1)]) (rest := []) ⟨hx, hb, hml, hown, hts⟩ (c_X0_isPassedBy l D k (subA (subA a0 1) 2) (sub2 S1 2)  (wNum (S1 4) (S1 3 1) p1 0) (wNum (S1 4) (S1 3 1) p1 1) 1 (pOK_b hp 2 (by decide)) (by omega) (by omega) (by omega) _) (cwV 3 hts gX7_failBackwards_X0_isPassedBy rfl rfl rfl (by decide +kernel) ⟨(Nat.le_of_ble_eq_true rfl), (Nat.le_of_ble_eq_true rfl)⟩) (z_preV hK hG hA hP hD hS [3, 4, 5] rfl (by decide) 2 rfl rfl) rfl rfl hl.1 rfl (lv_room (Nat.le_of_ble_eq_true rfl)) dX7_failBackwards_85 ⟨(Nat.le_of_ble_eq_true rfl), (Nat.le_of_ble_eq_true rfl)⟩) hA hP hD hS [3, 4, 5] rfl (fun H locs hP hS => ?_)
            refine z_eqi (z2 := zb (wPassed (S1 2) (wNum (S1 4) (S1 3 1) p1 0) (wNum (S1 4) (S1 3 1) p1 1) 1)) rfl ?_
            refine zi_if_neB (tgt := 105) hx hb dX7_failBackwards_88 (by decide) (fun c_69 => ?_) (fun c_69 => ?_)
            · refine lv_iinc (v := iI (0)) (lv' := [(8, .int (iI 0)), (7, .int (iI 2)), (6, .int (iI (wYaw (S1 14) (S1 13 1) (sp_X1_freshAt (sub2 S1 13) 0)))), (5, .int (iI (wNum (S1 4) (S1 3 1) p1 1))), (4, .int (iI (wNum (S1 4) (S1 3 1) p1 0))), (3, .ref ((subA a0 1) 2)), (0, .ref (a0 0)), (1, .int (iI 0)), (2, .int (iI p1))]) hx hb dX7_failBackwards_105 hl (k := 0) rfl (iI_add 1 (-1)) (by decide) rfl (fun ls hl => ?_)
              refine lv_goto (tgt := 72) hx hb dX7_failBackwards_108 (by decide) ?_
              refine lv_iload hx hb dX7_failBackwards_72 (lv_at hl 0 rfl) ?_
              refine lv_iconst (v := iI 1) hx hb dX7_failBackwards_74 rfl ?_
              refine zi_icmp_lt (tgt := 111) hx hb dX7_failBackwards_75 (by decide) ⟨by omega, by omega⟩ ⟨by omega, by omega⟩ (fun _ => ?_) (fun c_70 => absurd c_70 (by omega))
              refine lv_iload hx hb dX7_failBackwards_111 (lv_at hl 1 rfl) ?_
              exact z_iret hx hb hr hlocks hP hS dX7_failBackwards_113 (Eq.trans (zif_neg c_2) (Eq.trans (zif_neg c_9) (Eq.trans (zif_neg c_31) (Eq.trans (zif_neg c_54) (Eq.trans (zif_neg c_61) (Eq.trans (zif_pos c_69) rfl)))))) rfl (Nat.le_refl _) (Nat.le_refl _)
            · refine lv_iload hx hb dX7_failBackwards_91 (lv_at hl 0 rfl) ?_
              refine lv_iload hx hb dX7_failBackwards_93 (lv_at hl 2 rfl) ?_
              refine z_ai0 (va_runS (As := [.int (iI 1), .int (iI (wYaw (S1 14) (S1 13 1) (sp_X1_freshAt (sub2 S1 13) 0)))]) (rest := []) ⟨hx, hb, hml, hown, hts⟩ (c_X1_isLeftOut l D k   1 (wYaw (S1 14) (S1 13 1) (sp_X1_freshAt (sub2 S1 13) 0)) (by omega) (by omega) _) (va_cwS 2 hts gX7_failBackwards_X1_isLeftOut rfl rfl rfl (by decide +kernel) ⟨(Nat.le_of_ble_eq_true rfl), (Nat.le_of_ble_eq_true rfl)⟩) (z_preS hK hG hA hP hD hS [] rfl (by decide)) rfl rfl hl.1 rfl (lv_room (Nat.le_of_ble_eq_true rfl)) dX7_failBackwards_95 ⟨(Nat.le_of_ble_eq_true rfl), (Nat.le_of_ble_eq_true rfl)⟩) hA hP hD hS [] rfl (fun H locs hP hS => ?_)
              refine zi_if_neB (tgt := 105) hx hb dX7_failBackwards_98 (by decide) (fun c_71 => ?_) (fun c_71 => ?_)
              · refine lv_iinc (v := iI (0)) (lv' := [(8, .int (iI 0)), (7, .int (iI 2)), (6, .int (iI (wYaw (S1 14) (S1 13 1) (sp_X1_freshAt (sub2 S1 13) 0)))), (5, .int (iI (wNum (S1 4) (S1 3 1) p1 1))), (4, .int (iI (wNum (S1 4) (S1 3 1) p1 0))), (3, .ref ((subA a0 1) 2)), (0, .ref (a0 0)), (1, .int (iI 0)), (2, .int (iI p1))]) hx hb dX7_failBackwards_105 hl (k := 0) rfl (iI_add 1 (-1)) (by decide) rfl (fun ls hl => ?_)
                refine lv_goto (tgt := 72) hx hb dX7_failBackwards_108 (by decide) ?_
                refine lv_iload hx hb dX7_failBackwards_72 (lv_at hl 0 rfl) ?_
                refine lv_iconst (v := iI 1) hx hb dX7_failBackwards_74 rfl ?_
                refine zi_icmp_lt (tgt := 111) hx hb dX7_failBackwards_75 (by decide) ⟨by omega, by omega⟩ ⟨by omega, by omega⟩ (fun _ => ?_) (fun c_72 => absurd c_72 (by omega))
                refine lv_iload hx hb dX7_failBackwards_111 (lv_at hl 1 rfl) ?_
                exact z_iret hx hb hr hlocks hP hS dX7_failBackwards_113 (Eq.trans (zif_neg c_2) (Eq.trans (zif_neg c_9) (Eq.trans (zif_neg c_31) (Eq.trans (zif_neg c_54) (Eq.trans (zif_neg c_61) (Eq.trans (zif_neg c_69) (Eq.trans (zif_pos c_71) rfl))))))) rfl (Nat.le_refl _) (Nat.le_refl _)
              · refine lv_iload hx hb dX7_failBackwards_101 (lv_at hl 0 rfl) ?_
                refine lv_istore (lv' := [(7, .int (iI 1)), (8, .int (iI 1)), (6, .int (iI (wYaw (S1 14) (S1 13 1) (sp_X1_freshAt (sub2 S1 13) 0)))), (5, .int (iI (wNum (S1 4) (S1 3 1) p1 1))), (4, .int (iI (wNum (S1 4) (S1 3 1) p1 0))), (3, .ref ((subA a0 1) 2)), (0, .ref (a0 0)), (1, .int (iI 0)), (2, .int (iI p1))]) hx hb dX7_failBackwards_103 hl (by decide) rfl (fun ls hl => ?_)
                refine lv_iinc (v := iI (0)) (lv' := [(8, .int (iI 0)), (7, .int (iI 1)), (6, .int (iI (wYaw (S1 14) (S1 13 1) (sp_X1_freshAt (sub2 S1 13) 0)))), (5, .int (iI (wNum (S1 4) (S1 3 1) p1 1))), (4, .int (iI (wNum (S1 4) (S1 3 1) p1 0))), (3, .ref ((subA a0 1) 2)), (0, .ref (a0 0)), (1, .int (iI 0)), (2, .int (iI p1))]) hx hb dX7_failBackwards_105 hl (k := 1) rfl (iI_add 1 (-1)) (by decide) rfl (fun ls hl => ?_)
                refine lv_goto (tgt := 72) hx hb dX7_failBackwards_108 (by decide) ?_
                refine lv_iload hx hb dX7_failBackwards_72 (lv_at hl 0 rfl) ?_
                refine lv_iconst (v := iI 1) hx hb dX7_failBackwards_74 rfl ?_
                refine zi_icmp_lt (tgt := 111) hx hb dX7_failBackwards_75 (by decide) ⟨by omega, by omega⟩ ⟨by omega, by omega⟩ (fun _ => ?_) (fun c_73 => absurd c_73 (by omega))
                refine lv_iload hx hb dX7_failBackwards_111 (lv_at hl 1 rfl) ?_
                exact z_iret hx hb hr hlocks hP hS dX7_failBackwards_113 (Eq.trans (zif_neg c_2) (Eq.trans (zif_neg c_9) (Eq.trans (zif_neg c_31) (Eq.trans (zif_neg c_54) (Eq.trans (zif_neg c_61) (Eq.trans (zif_neg c_69) (Eq.trans (zif_neg c_71) rfl))))))) rfl (Nat.le_refl _) (Nat.le_refl _)
  · refine lv_iconst (v := iI 0) hx hb dX7_failBackwards_21 rfl ?_
    exact z_iret hx hb hr hlocks hP hS dX7_failBackwards_22 (Eq.trans (zif_pos c_2) rfl) rfl (Nat.le_refl _) (Nat.le_refl _)
set_option maxHeartbeats 4000000 in
set_option maxRecDepth 100000 in
theorem c_X7_failInThought_1 (l : Launch) (D : va_G) (k : Nat → ClassId) (a0 : Nat → Nat) (S0 : Nat → Nat → Int) (S1 : Nat → Nat → Int) (S2 : Nat → Nat → Int) (p1 : Int) (hp : pOK S1) (hat : aOK S2) (h1 : -2147483648 ≤ p1 ∧ p1 < 2147483648) (hc : 0 ≤ p1 ∧ p1 < S1 6 1) : zMi l yX7_failInThought wsX7_failInThought ({ frames := 4, cells := 0, slots := 0, locals := 104 } : Room) D k [.ref (a0 0), .int (iI 1), .int (iI p1)] (wFac k a0 S0 ++ (wPlant k (subA a0 1) S1 ++ wPlant k (subA a0 16) S2)) (sp_X5_inspectFront_1 (upA (upA ((wCopy S2 S1)) 6 (upZ ((((wCopy S2 S1)) 6)) 1 (wCutK (((((wCopy S2 S1)) 6) 1)) 0 p1))) 7 (wCutN ((((wCopy S2 S1)) 7)) (((((wCopy S2 S1)) 6) 1)) 0 p1))) (wFac k a0 S0 ++ (wPlant k (subA a0 1) S1 ++ wPlant k (subA a0 16) ((wInsp1 (upA (upA ((wCopy S2 S1)) 6 (upZ ((((wCopy S2 S1)) 6)) 1 (wCutK (((((wCopy S2 S1)) 6) 1)) 0 p1))) 7 (wCutN ((((wCopy S2 S1)) 7)) (((((wCopy S2 S1)) 6) 1)) 0 p1)))))) 0 0 := by
  refine zMi_of (cc := cX7_failInThought) (maxL := 3) (ret := (some .int)) (by decide) rfl (Nat.le_of_ble_eq_true rfl) ?_
  intro p e s m args below meth c A ls hx hb hr hml hown hts hlocks hK hP hD hG hA hS hl
  have hown : s.vm.findClass RX7 = some m.cls := hown
  have hl : lv_has ls 3 [(0, .ref (a0 0)), (1, .int (iI 1)), (2, .int (iI p1))] := hl
  obtain ⟨H, hH⟩ : ∃ z, z = s.heap := ⟨_, rfl⟩
  obtain ⟨locs, hlc⟩ : ∃ z : List Loc, z = [] := ⟨_, rfl⟩
  rw [← hH] at hP
  have hS : va_S A s.heap H locs := by rw [hH, hlc]; exact hS
  rw [← hlc, ← hH]
  clear hlc hH
  have kp := hp.2
  refine lv_aload_n hx hb dX7_failInThought_0 rfl (lv_at hl 0 rfl) ?_
  refine va_get (D := D) (ci := 9) (v := .ref ((subA a0 16) 0)) (C := RX7) (T := TX7) (N := 11) hx hb hts (fun w h => List.mem_cons_of_mem _ (List.mem_append_left _ (List.mem_append_left _ (List.mem_append_left _ (List.mem_append_left _ (List.mem_append_left _ (List.mem_append_right _ h))))))) hown hK hP 0 rfl rfl 1 (by decide) (hts (.fieldLink RX7 16 "MondayFactory" "thought" "LMondayFactory$Plant;") (List.mem_of_getElem? (i := 1) rfl)) (fun _ h9 => h9) rfl dX7_failInThought_1 ?_
  refine lv_aload_n hx hb dX7_failInThought_4 rfl (lv_at hl 0 rfl) ?_
  refine va_get (D := D) (ci := 9) (v := .ref ((subA a0 1) 0)) (C := RX7) (T := TX7) (N := 11) hx hb hts (fun w h => List.mem_cons_of_mem _ (List.mem_append_left _ (List.mem_append_left _ (List.mem_append_left _ (List.mem_append_left _ (List.mem_append_left _ (List.mem_append_right _ h))))))) hown hK hP 0 rfl rfl 0 (by decide) (hts (.fieldLink RX7 10 "MondayFactory" "plant" "LMondayFactory$Plant;") (List.mem_of_getElem? (i := 2) rfl)) (fun _ h9 => h9) rfl dX7_failInThought_5 ?_
  refine z_av (va_runV (As := [.ref ((subA a0 1) 0)]) (rest := []) ⟨hx, hb, hml, hown, hts⟩ (c_X5_copyW l D k ((subA a0 16)) S2 ((subA a0 1)) S1   (by omega) (by omega) (by omega) (by omega) _) (cwV 1 hts gX7_failInThought_X5_copyFrom rfl rfl rfl (by decide +kernel) ⟨(Nat.le_of_ble_eq_true rfl), (Nat.le_of_ble_eq_true rfl)⟩) (z_preV hK hG hA hP hD hS (zrg 16 15 ++ zrg 1 15) (z_mcat (z_sk (n := 1) (off := 15) (m := 15) rfl (z_sk (n := 15) (off := 0) (m := 15) rfl (z_hdl (n := 15) rfl))) (z_sk (n := 1) (off := 0) (m := 15) rfl (z_hd (n := 15) rfl))) (by decide +kernel) 7 rfl rfl) rfl rfl hl.1 rfl (lv_room (Nat.le_of_ble_eq_true rfl)) dX7_failInThought_8 ⟨(Nat.le_of_ble_eq_true rfl), (Nat.le_of_ble_eq_true rfl)⟩) hA hP hD hS (zrg 16 15 ++ zrg 1 15) (z_mcat (z_sk (n := 1) (off := 15) (m := 15) rfl (z_sk (n := 15) (off := 0) (m := 15) rfl (z_hdl (n := 15) rfl))) (z_sk (n := 1) (off := 0) (m := 15) rfl (z_hd (n := 15) rfl))) (z_mfst rfl rfl) (fun H locs hP hD hS => ?_)
  have hz_2 : zset (wFac k a0 S0 ++ (wPlant k (subA a0 1) S1 ++ wPlant k (subA a0 16) S2)) (zrg 16 15) (wPlant k (subA a0 16) ((wCopy S2 S1))) = wFac k a0 S0 ++ (wPlant k (subA a0 1) S1 ++ wPlant k (subA a0 16) ((wCopy S2 S1))) := (z_zsk (n := 1) (off := 15) (m := 15) rfl (z_zsk (n := 15) (off := 0) (m := 15) rfl (z_zhl (n := 15) rfl rfl)))
  have hz_3 : zset (wFac k a0 S0 ++ (wPlant k (subA a0 1) S1 ++ wPlant k (subA a0 16) ((wCopy S2 S1)))) (zrg 1 15) (wPlant k (subA a0 1) S1) = wFac k a0 S0 ++ (wPlant k (subA a0 1) S1 ++ wPlant k (subA a0 16) ((wCopy S2 S1))) := (z_zsk (n := 1) (off := 0) (m := 15) rfl (z_zhd (n := 15) rfl rfl))
  have hE_1 : zset (wFac k a0 S0 ++ (wPlant k (subA a0 1) S1 ++ wPlant k (subA a0 16) S2)) (zrg 16 15 ++ zrg 1 15) (wPlant k (subA a0 16) ((wCopy S2 S1)) ++ wPlant k (subA a0 1) S1) = wFac k a0 S0 ++ (wPlant k (subA a0 1) S1 ++ wPlant k (subA a0 16) ((wCopy S2 S1))) := (z_zcat rfl hz_2 hz_3)
  have hP : va_P D vwCl (wFac k a0 S0 ++ (wPlant k (subA a0 1) S1 ++ wPlant k (subA a0 16) ((wCopy S2 S1)))) H := z_to hE_1 hP
  have hD : va_D A (wFac k a0 S0 ++ (wPlant k (subA a0 1) S1 ++ wPlant k (subA a0 16) ((wCopy S2 S1)))) := z_to2 hE_1 hD
  have ob_4 : pOK ((wCopy S2 S1)) := pOK_copy hat hp
  have ob_4k := ob_4.2
  refine lv_aload_n hx hb dX7_failInThought_11 rfl (lv_at hl 0 rfl) ?_
  refine va_get (D := D) (ci := 9) (v := .ref ((subA a0 16) 0)) (C := RX7) (T := TX7) (N := 11) hx hb hts (fun w h => List.mem_cons_of_mem _ (List.mem_append_left _ (List.mem_append_left _ (List.mem_append_left _ (List.mem_append_left _ (List.mem_append_left _ (List.mem_append_right _ h))))))) hown hK hP 0 rfl rfl 1 (by decide) (hts (.fieldLink RX7 16 "MondayFactory" "thought" "LMondayFactory$Plant;") (List.mem_of_getElem? (i := 1) rfl)) (fun _ h9 => h9) rfl dX7_failInThought_12 ?_
  refine va_get (D := D) (ci := 7) (v := .ref ((subA a0 16) 1)) (C := RX5) (T := TX5) (N := 11) hx hb hts (fun w h => List.mem_cons_of_mem _ (List.mem_append_left _ (List.mem_append_left _ (List.mem_append_left _ (List.mem_append_left _ (List.mem_append_right _ h)))))) hown hK hP 16 rfl rfl 0 (by decide) (hts (.fieldLink RX7 72 "MondayFactory$Plant" "belts" "[LMondayFactory$Belt;") (List.mem_of_getElem? (i := 3) rfl)) (fun _ h9 => h9) rfl dX7_failInThought_15 ?_
  refine lv_iload_n hx hb dX7_failInThought_18 rfl (lv_at hl 1 rfl) ?_
  refine z_aald hx hb hK hP 17 2 (f := fun j => some ((subA a0 16) (2 + 3 * j))) (q := (subA a0 16) 5) rfl rfl (i := 1) (by omega) (by omega) (by decide) rfl dX7_failInThought_19 ?_
  refine va_get (D := D) (ci := 2) (v := .ref ((subA a0 16) 6)) (C := RX0) (T := TX0) (N := 6) hx hb hts (fun w h => List.mem_cons_of_mem _ (List.mem_append_left _ (List.mem_append_left _ (List.mem_append_left _ (List.mem_append_right _ h))))) hown hK hP 21 rfl rfl 0 (by decide) (hts (.fieldLink RX7 76 "MondayFactory$Belt" "row" "LMondayFactory$Row;") (List.mem_of_getElem? (i := 4) rfl)) (fun _ h9 => h9) rfl dX7_failInThought_20 ?_
  refine lv_iconst (v := iI 0) hx hb dX7_failInThought_23 rfl ?_
  refine lv_iload_n hx hb dX7_failInThought_24 rfl (lv_at hl 2 rfl) ?_
  refine z_av (va_runV (As := [.int (iI 0), .int (iI p1)]) (rest := []) ⟨hx, hb, hml, hown, hts⟩ (c_X6_cut l D k (subA (subA a0 16) 6) (sub2 ((wCopy S2 S1)) 6)  0 p1 (by have e0 : ((sub2 ((wCopy S2 S1)) 6) 0 1) = (((wCopy S2 S1)) 6) 1 := rfl; omega) (by omega) (by omega) _) (cwV 2 hts gX7_failInThought_X6_cut rfl rfl rfl (by decide +kernel) ⟨(Nat.le_of_ble_eq_true rfl), (Nat.le_of_ble_eq_true rfl)⟩) (z_preV hK hG hA hP hD hS [22, 23] rfl (by decide) 8 rfl rfl) rfl rfl hl.1 rfl (lv_room (Nat.le_of_ble_eq_true rfl)) dX7_failInThought_25 ⟨(Nat.le_of_ble_eq_true rfl), (Nat.le_of_ble_eq_true rfl)⟩) hA hP hD hS [22, 23] rfl rfl (fun H locs hP hD hS => ?_)
  have hP : va_P D vwCl (wFac k a0 S0 ++ (wPlant k (subA a0 1) S1 ++ wPlant k (subA a0 16) (upA (upA ((wCopy S2 S1)) 6 (upZ ((((wCopy S2 S1)) 6)) 1 (wCutK (((((wCopy S2 S1)) 6) 1)) 0 p1))) 7 (wCutN ((((wCopy S2 S1)) 7)) (((((wCopy S2 S1)) 6) 1)) 0 p1)))) H := hP
  have hD : va_D A (wFac k a0 S0 ++ (wPlant k (subA a0 1) S1 ++ wPlant k (subA a0 16) (upA (upA ((wCopy S2 S1)) 6 (upZ ((((wCopy S2 S1)) 6)) 1 (wCutK (((((wCopy S2 S1)) 6) 1)) 0 p1))) 7 (wCutN ((((wCopy S2 S1)) 7)) (((((wCopy S2 S1)) 6) 1)) 0 p1)))) := hD
  have q_5 : 0 ≤ wCutK (((((wCopy S2 S1)) 6) 1)) 0 p1 ∧ wCutK (((((wCopy S2 S1)) 6) 1)) 0 p1 ≤ ((((wCopy S2 S1)) 6) 1) := wCutK_rng (by have e0 : ((sub2 ((wCopy S2 S1)) 6) 0 1) = (((wCopy S2 S1)) 6) 1 := rfl; omega)
  refine lv_aload_n hx hb dX7_failInThought_28 rfl (lv_at hl 0 rfl) ?_
  refine va_get (D := D) (ci := 9) (v := .ref ((subA a0 16) 0)) (C := RX7) (T := TX7) (N := 11) hx hb hts (fun w h => List.mem_cons_of_mem _ (List.mem_append_left _ (List.mem_append_left _ (List.mem_append_left _ (List.mem_append_left _ (List.mem_append_left _ (List.mem_append_right _ h))))))) hown hK hP 0 rfl rfl 1 (by decide) (hts (.fieldLink RX7 16 "MondayFactory" "thought" "LMondayFactory$Plant;") (List.mem_of_getElem? (i := 1) rfl)) (fun _ h9 => h9) rfl dX7_failInThought_29 ?_
  refine lv_iload_n hx hb dX7_failInThought_32 rfl (lv_at hl 1 rfl) ?_
  refine z_ai (va_runV (As := [.int (iI 1)]) (rest := []) ⟨hx, hb, hml, hown, hts⟩ (c_X5_inspW1 l D k ((subA a0 16)) (upA (upA ((wCopy S2 S1)) 6 (upZ ((((wCopy S2 S1)) 6)) 1 (wCutK (((((wCopy S2 S1)) 6) 1)) 0 p1))) 7 (wCutN ((((wCopy S2 S1)) 7)) (((((wCopy S2 S1)) 6) 1)) 0 p1))   (pOK_b ob_4 5 (by decide)) (zBf.wcut (pOK_b ob_4 7 (by decide)) ) (pOK_b ob_4 14 (by decide)) (by have e0 : ((upA (upA ((wCopy S2 S1)) 6 (upZ ((((wCopy S2 S1)) 6)) 1 (wCutK (((((wCopy S2 S1)) 6) 1)) 0 p1))) 7 (wCutN ((((wCopy S2 S1)) 7)) (((((wCopy S2 S1)) 6) 1)) 0 p1)) 6 1) = wCutK (((((wCopy S2 S1)) 6) 1)) 0 p1 := (show (upZ ((((wCopy S2 S1)) 6)) 1 (wCutK (((((wCopy S2 S1)) 6) 1)) 0 p1)) 1 = wCutK (((((wCopy S2 S1)) 6) 1)) 0 p1 from (Eq.trans upZ_s rfl)); omega) (by have e0 : ((upA (upA ((wCopy S2 S1)) 6 (upZ ((((wCopy S2 S1)) 6)) 1 (wCutK (((((wCopy S2 S1)) 6) 1)) 0 p1))) 7 (wCutN ((((wCopy S2 S1)) 7)) (((((wCopy S2 S1)) 6) 1)) 0 p1)) 11 1) = (((wCopy S2 S1)) 11) 1 := rfl; omega) (by have e0 : ((upA (upA ((wCopy S2 S1)) 6 (upZ ((((wCopy S2 S1)) 6)) 1 (wCutK (((((wCopy S2 S1)) 6) 1)) 0 p1))) 7 (wCutN ((((wCopy S2 S1)) 7)) (((((wCopy S2 S1)) 6) 1)) 0 p1)) 13 1) = (((wCopy S2 S1)) 13) 1 := rfl; omega) _) (cwV 1 hts gX7_failInThought_X5_inspectFront rfl rfl rfl (by decide +kernel) ⟨(Nat.le_of_ble_eq_true rfl), (Nat.le_of_ble_eq_true rfl)⟩) (z_preV hK hG hA hP hD hS (zrg 16 15) (z_sk (n := 1) (off := 15) (m := 15) rfl (z_sk (n := 15) (off := 0) (m := 15) rfl (z_hdl (n := 15) rfl))) (by decide +kernel) 7 rfl rfl) rfl rfl hl.1 rfl (lv_room (Nat.le_of_ble_eq_true rfl)) dX7_failInThought_33 ⟨(Nat.le_of_ble_eq_true rfl), (Nat.le_of_ble_eq_true rfl)⟩) hA hP hD hS (zrg 16 15) (z_sk (n := 1) (off := 15) (m := 15) rfl (z_sk (n := 15) (off := 0) (m := 15) rfl (z_hdl (n := 15) rfl))) rfl (fun H locs hP hD hS => ?_)
  have hz_7 : zset (wFac k a0 S0 ++ (wPlant k (subA a0 1) S1 ++ wPlant k (subA a0 16) (upA (upA ((wCopy S2 S1)) 6 (upZ ((((wCopy S2 S1)) 6)) 1 (wCutK (((((wCopy S2 S1)) 6) 1)) 0 p1))) 7 (wCutN ((((wCopy S2 S1)) 7)) (((((wCopy S2 S1)) 6) 1)) 0 p1)))) (zrg 16 15) (wPlant k (subA a0 16) ((wInsp1 (upA (upA ((wCopy S2 S1)) 6 (upZ ((((wCopy S2 S1)) 6)) 1 (wCutK (((((wCopy S2 S1)) 6) 1)) 0 p1))) 7 (wCutN ((((wCopy S2 S1)) 7)) (((((wCopy S2 S1)) 6) 1)) 0 p1))))) = wFac k a0 S0 ++ (wPlant k (subA a0 1) S1 ++ wPlant k (subA a0 16) ((wInsp1 (upA (upA ((wCopy S2 S1)) 6 (upZ ((((wCopy S2 S1)) 6)) 1 (wCutK (((((wCopy S2 S1)) 6) 1)) 0 p1))) 7 (wCutN ((((wCopy S2 S1)) 7)) (((((wCopy S2 S1)) 6) 1)) 0 p1))))) := (z_zsk (n := 1) (off := 15) (m := 15) rfl (z_zsk (n := 15) (off := 0) (m := 15) rfl (z_zhl (n := 15) rfl rfl)))
  have hE_6 : zset (wFac k a0 S0 ++ (wPlant k (subA a0 1) S1 ++ wPlant k (subA a0 16) (upA (upA ((wCopy S2 S1)) 6 (upZ ((((wCopy S2 S1)) 6)) 1 (wCutK (((((wCopy S2 S1)) 6) 1)) 0 p1))) 7 (wCutN ((((wCopy S2 S1)) 7)) (((((wCopy S2 S1)) 6) 1)) 0 p1)))) (zrg 16 15) (wPlant k (subA a0 16) ((wInsp1 (upA (upA ((wCopy S2 S1)) 6 (upZ ((((wCopy S2 S1)) 6)) 1 (wCutK (((((wCopy S2 S1)) 6) 1)) 0 p1))) 7 (wCutN ((((wCopy S2 S1)) 7)) (((((wCopy S2 S1)) 6) 1)) 0 p1))))) = wFac k a0 S0 ++ (wPlant k (subA a0 1) S1 ++ wPlant k (subA a0 16) ((wInsp1 (upA (upA ((wCopy S2 S1)) 6 (upZ ((((wCopy S2 S1)) 6)) 1 (wCutK (((((wCopy S2 S1)) 6) 1)) 0 p1))) 7 (wCutN ((((wCopy S2 S1)) 7)) (((((wCopy S2 S1)) 6) 1)) 0 p1))))) := hz_7
  have hP : va_P D vwCl (wFac k a0 S0 ++ (wPlant k (subA a0 1) S1 ++ wPlant k (subA a0 16) ((wInsp1 (upA (upA ((wCopy S2 S1)) 6 (upZ ((((wCopy S2 S1)) 6)) 1 (wCutK (((((wCopy S2 S1)) 6) 1)) 0 p1))) 7 (wCutN ((((wCopy S2 S1)) 7)) (((((wCopy S2 S1)) 6) 1)) 0 p1)))))) H := z_to hE_6 hP
  have hD : va_D A (wFac k a0 S0 ++ (wPlant k (subA a0 1) S1 ++ wPlant k (subA a0 16) ((wInsp1 (upA (upA ((wCopy S2 S1)) 6 (upZ ((((wCopy S2 S1)) 6)) 1 (wCutK (((((wCopy S2 S1)) 6) 1)) 0 p1))) 7 (wCutN ((((wCopy S2 S1)) 7)) (((((wCopy S2 S1)) 6) 1)) 0 p1)))))) := z_to2 hE_6 hD
  refine z_eqi (z2 := sp_X5_inspectFront_1 (upA (upA ((wCopy S2 S1)) 6 (upZ ((((wCopy S2 S1)) 6)) 1 (wCutK (((((wCopy S2 S1)) 6) 1)) 0 p1))) 7 (wCutN ((((wCopy S2 S1)) 7)) (((((wCopy S2 S1)) 6) 1)) 0 p1))) rfl ?_
  exact z_iret hx hb hr hlocks hP hS dX7_failInThought_36 rfl rfl (Nat.le_refl _) (Nat.le_refl _)
noncomputable def sp_X7_failBackwards_1 (S0 : Nat → Nat → Int) (S1 : Nat → Nat → Int) (p1 : Int) : Int := zif (wNum (S1 7) (S1 6 1) p1 0 = -1)
  (0)
  (zif (wPassed (S1 5) (wNum (S1 7) (S1 6 1) p1 0) (wNum (S1 7) (S1 6 1) p1 1) 3)
    (zif (wPassed (S1 5) (wNum (S1 7) (S1 6 1) p1 0) (wNum (S1 7) (S1 6 1) p1 1) 2)
      (zif (wPassed (S1 5) (wNum (S1 7) (S1 6 1) p1 0) (wNum (S1 7) (S1 6 1) p1 1) 1)
        (0)
        (zif (wLeft 1 (wYaw (S1 14) (S1 13 1) (sp_X1_freshAt (sub2 S1 13) 0)))
          (0)
          (1)))
      (zif (wLeft 2 (wYaw (S1 14) (S1 13 1) (sp_X1_freshAt (sub2 S1 13) 0)))
        (zif (wPassed (S1 5) (wNum (S1 7) (S1 6 1) p1 0) (wNum (S1 7) (S1 6 1) p1 1) 1)
          (0)
          (zif (wLeft 1 (wYaw (S1 14) (S1 13 1) (sp_X1_freshAt (sub2 S1 13) 0)))
            (0)
            (1)))
        (zif (wPassed (S1 5) (wNum (S1 7) (S1 6 1) p1 0) (wNum (S1 7) (S1 6 1) p1 1) 1)
          (2)
          (zif (wLeft 1 (wYaw (S1 14) (S1 13 1) (sp_X1_freshAt (sub2 S1 13) 0)))
            (2)
            (1)))))
    (zif (wLeft 3 (wYaw (S1 14) (S1 13 1) (sp_X1_freshAt (sub2 S1 13) 0)))
      (zif (wPassed (S1 5) (wNum (S1 7) (S1 6 1) p1 0) (wNum (S1 7) (S1 6 1) p1 1) 2)
        (zif (wPassed (S1 5) (wNum (S1 7) (S1 6 1) p1 0) (wNum (S1 7) (S1 6 1) p1 1) 1)
          (0)
          (zif (wLeft 1 (wYaw (S1 14) (S1 13 1) (sp_X1_freshAt (sub2 S1 13) 0)))
            (0)
            (1)))
        (zif (wLeft 2 (wYaw (S1 14) (S1 13 1) (sp_X1_freshAt (sub2 S1 13) 0)))
          (zif (wPassed (S1 5) (wNum (S1 7) (S1 6 1) p1 0) (wNum (S1 7) (S1 6 1) p1 1) 1)
            (0)
            (zif (wLeft 1 (wYaw (S1 14) (S1 13 1) (sp_X1_freshAt (sub2 S1 13) 0)))
              (0)
              (1)))
          (zif (wPassed (S1 5) (wNum (S1 7) (S1 6 1) p1 0) (wNum (S1 7) (S1 6 1) p1 1) 1)
            (2)
            (zif (wLeft 1 (wYaw (S1 14) (S1 13 1) (sp_X1_freshAt (sub2 S1 13) 0)))
              (2)
              (1)))))
      (zif (wPassed (S1 5) (wNum (S1 7) (S1 6 1) p1 0) (wNum (S1 7) (S1 6 1) p1 1) 2)
        (zif (wPassed (S1 5) (wNum (S1 7) (S1 6 1) p1 0) (wNum (S1 7) (S1 6 1) p1 1) 1)
          (3)
          (zif (wLeft 1 (wYaw (S1 14) (S1 13 1) (sp_X1_freshAt (sub2 S1 13) 0)))
            (3)
            (1)))
        (zif (wLeft 2 (wYaw (S1 14) (S1 13 1) (sp_X1_freshAt (sub2 S1 13) 0)))
          (zif (wPassed (S1 5) (wNum (S1 7) (S1 6 1) p1 0) (wNum (S1 7) (S1 6 1) p1 1) 1)
            (3)
            (zif (wLeft 1 (wYaw (S1 14) (S1 13 1) (sp_X1_freshAt (sub2 S1 13) 0)))
              (3)
              (1)))
          (zif (wPassed (S1 5) (wNum (S1 7) (S1 6 1) p1 0) (wNum (S1 7) (S1 6 1) p1 1) 1)
            (2)
            (zif (wLeft 1 (wYaw (S1 14) (S1 13 1) (sp_X1_freshAt (sub2 S1 13) 0)))
              (2)
              (1)))))))
set_option maxHeartbeats 4000000 in
set_option maxRecDepth 100000 in
theorem c_X7_failBackwards_1 (l : Launch) (D : va_G) (k : Nat → ClassId) (a0 : Nat → Nat) (S0 : Nat → Nat → Int) (S1 : Nat → Nat → Int) (p1 : Int) (hp : pOK S1) (h1 : -2147483648 ≤ p1 ∧ p1 < 2147483648) (hc : 0 ≤ p1 ∧ p1 < S1 6 1) : zMi l yX7_failBackwards wsX7_failBackwards ({ frames := 2, cells := 0, slots := 0, locals := 47 } : Room) D k [.ref (a0 0), .int (iI 1), .int (iI p1)] (wFac k a0 S0 ++ wPlant k (subA a0 1) S1) (sp_X7_failBackwards_1 S0 S1 p1) (wFac k a0 S0 ++ wPlant k (subA a0 1) S1) 0 0 := by
  refine zMi_of (cc := cX7_failBackwards) (maxL := 9) (ret := (some .int)) (by decide) rfl (Nat.le_of_ble_eq_true rfl) ?_
  intro p e s m args below meth c A ls hx hb hr hml hown hts hlocks hK hP hD hG hA hS hl
  have hown : s.vm.findClass RX7 = some m.cls := hown
  have hl : lv_has ls 9 [(0, .ref (a0 0)), (1, .int (iI 1)), (2, .int (iI p1))] := hl
  obtain ⟨H, hH⟩ : ∃ z, z = s.heap := ⟨_, rfl⟩
  obtain ⟨locs, hlc⟩ : ∃ z : List Loc, z = [] := ⟨_, rfl⟩
  rw [← hH] at hP
  have hS : va_S A s.heap H locs := by rw [hH, hlc]; exact hS
  rw [← hlc, ← hH]
  clear hlc hH
  have kp := hp.2
  refine lv_aload_n hx hb dX7_failBackwards_0 rfl (lv_at hl 0 rfl) ?_
  refine va_get (D := D) (ci := 9) (v := .ref ((subA a0 1) 0)) (C := RX7) (T := TX7) (N := 11) hx hb hts (fun w h => List.mem_cons_of_mem _ (List.mem_append_left _ (List.mem_append_left _ (List.mem_append_left _ (List.mem_append_left _ (List.mem_append_left _ (List.mem_append_right _ h))))))) hown hK hP 0 rfl rfl 0 (by decide) (hts (.fieldLink RX7 10 "MondayFactory" "plant" "LMondayFactory$Plant;") (List.mem_of_getElem? (i := 1) rfl)) (fun _ h9 => h9) rfl dX7_failBackwards_1 ?_
  refine va_get (D := D) (ci := 7) (v := .ref ((subA a0 1) 1)) (C := RX5) (T := TX5) (N := 11) hx hb hts (fun w h => List.mem_cons_of_mem _ (List.mem_append_left _ (List.mem_append_left _ (List.mem_append_left _ (List.mem_append_left _ (List.mem_append_right _ h)))))) hown hK hP 1 rfl rfl 0 (by decide) (hts (.fieldLink RX7 72 "MondayFactory$Plant" "belts" "[LMondayFactory$Belt;") (List.mem_of_getElem? (i := 2) rfl)) (fun _ h9 => h9) rfl dX7_failBackwards_4 ?_
  refine lv_iload_n hx hb dX7_failBackwards_7 rfl (lv_at hl 1 rfl) ?_
  refine z_aald hx hb hK hP 2 2 (f := fun j => some ((subA a0 1) (2 + 3 * j))) (q := (subA a0 1) 5) rfl rfl (i := 1) (by omega) (by omega) (by decide) rfl dX7_failBackwards_8 ?_
  refine lv_astore_n (lv' := [(3, .ref ((subA a0 1) 5)), (0, .ref (a0 0)), (1, .int (iI 1)), (2, .int (iI p1))]) hx hb dX7_failBackwards_9 rfl hl (by decide) rfl (fun ls hl => ?_)
  refine lv_aload_n hx hb dX7_failBackwards_10 rfl (lv_at hl 0 rfl) ?_
  refine va_get (D := D) (ci := 2) (v := .ref ((subA a0 1) 6)) (C := RX0) (T := TX0) (N := 6) hx hb hts (fun w h => List.mem_cons_of_mem _ (List.mem_append_left _ (List.mem_append_left _ (List.mem_append_left _ (List.mem_append_right _ h))))) hown hK hP 6 rfl rfl 0 (by decide) (hts (.fieldLink RX7 76 "MondayFactory$Belt" "row" "LMondayFactory$Row;") (List.mem_of_getElem? (i := 3) rfl)) (fun _ h9 => h9) rfl dX7_failBackwards_11 ?_
  refine lv_iload_n hx hb dX7_failBackwards_14 rfl (lv_at hl 3 rfl) ?_
  refine z_ai0 (va_runV (As := [.int (iI p1)]) (rest := []) ⟨hx, hb, hml, hown, hts⟩ (c_X6_isBlank l D k (subA (subA a0 1) 6) (sub2 S1 6)  p1 (pOK_b hp 7 (by decide)) (by have e0 : ((sub2 S1 6) 0 1) = S1 6 1 := rfl; omega) (by omega) _) (cwV 1 hts gX7_failBackwards_X6_isBlank rfl rfl rfl (by decide +kernel) ⟨(Nat.le_of_ble_eq_true rfl), (Nat.le_of_ble_eq_true rfl)⟩) (z_preV hK hG hA hP hD hS [7, 8] rfl (by decide) 8 rfl rfl) rfl rfl hl.1 rfl (lv_room (Nat.le_of_ble_eq_true rfl)) dX7_failBackwards_15 ⟨(Nat.le_of_ble_eq_true rfl), (Nat.le_of_ble_eq_true rfl)⟩) hA hP hD hS [7, 8] rfl (fun H locs hP hS => ?_)
  refine z_eqi (z2 := zb (wNum (S1 7) (S1 6 1) p1 0 = -1)) rfl ?_
  have f_1 : -1000000000 ≤ S1 6 1 ∧ S1 6 1 ≤ 1000000000 := (pOK_b hp 6 (by decide)) 1
  refine zi_if_eqB (tgt := 23) hx hb dX7_failBackwards_18 (by decide) (fun c_2 => ?_) (fun c_2 => ?_)
  · refine lv_aload_n hx hb dX7_failBackwards_23 rfl (lv_at hl 0 rfl) ?_
    refine va_get (D := D) (ci := 2) (v := .ref ((subA a0 1) 6)) (C := RX0) (T := TX0) (N := 6) hx hb hts (fun w h => List.mem_cons_of_mem _ (List.mem_append_left _ (List.mem_append_left _ (List.mem_append_left _ (List.mem_append_right _ h))))) hown hK hP 6 rfl rfl 0 (by decide) (hts (.fieldLink RX7 76 "MondayFactory$Belt" "row" "LMondayFactory$Row;") (List.mem_of_getElem? (i := 3) rfl)) (fun _ h9 => h9) rfl dX7_failBackwards_24 ?_
    refine lv_iload_n hx hb dX7_failBackwards_27 rfl (lv_at hl 3 rfl) ?_
    refine z_ai0 (va_runV (As := [.int (iI p1)]) (rest := []) ⟨hx, hb, hml, hown, hts⟩ (c_X6_grey l D k (subA (subA a0 1) 6) (sub2 S1 6)  p1 (pOK_b hp 7 (by decide)) (by have e0 : ((sub2 S1 6) 0 1) = S1 6 1 := rfl; omega) (by omega) _) (cwV 1 hts gX7_failBackwards_X6_grey rfl rfl rfl (by decide +kernel) ⟨(Nat.le_of_ble_eq_true rfl), (Nat.le_of_ble_eq_true rfl)⟩) (z_preV hK hG hA hP hD hS [7, 8] rfl (by decide) 8 rfl rfl) rfl rfl hl.1 rfl (lv_room (Nat.le_of_ble_eq_true rfl)) dX7_failBackwards_28 ⟨(Nat.le_of_ble_eq_true rfl), (Nat.le_of_ble_eq_true rfl)⟩) hA hP hD hS [7, 8] rfl (fun H locs hP hS => ?_)
    refine z_eqi (z2 := wNum (S1 7) (S1 6 1) p1 0) rfl ?_
    have q_3 : -1000000000 ≤ wNum (S1 7) (S1 6 1) p1 0 ∧ wNum (S1 7) (S1 6 1) p1 0 ≤ 1000000000 := wNum_bd (pOK_b hp 7 (by decide))
    refine lv_istore (lv' := [(4, .int (iI (wNum (S1 7) (S1 6 1) p1 0))), (3, .ref ((subA a0 1) 5)), (0, .ref (a0 0)), (1, .int (iI 1)), (2, .int (iI p1))]) hx hb dX7_failBackwards_31 hl (by decide) rfl (fun ls hl => ?_)
    refine lv_aload_n hx hb dX7_failBackwards_33 rfl (lv_at hl 1 rfl) ?_
    refine va_get (D := D) (ci := 2) (v := .ref ((subA a0 1) 6)) (C := RX0) (T := TX0) (N := 6) hx hb hts (fun w h => List.mem_cons_of_mem _ (List.mem_append_left _ (List.mem_append_left _ (List.mem_append_left _ (List.mem_append_right _ h))))) hown hK hP 6 rfl rfl 0 (by decide) (hts (.fieldLink RX7 76 "MondayFactory$Belt" "row" "LMondayFactory$Row;") (List.mem_of_getElem? (i := 3) rfl)) (fun _ h9 => h9) rfl dX7_failBackwards_34 ?_
    refine lv_iload_n hx hb dX7_failBackwards_37 rfl (lv_at hl 4 rfl) ?_
    refine z_ai0 (va_runV (As := [.int (iI p1)]) (rest := []) ⟨hx, hb, hml, hown, hts⟩ (c_X6_alarm l D k (subA (subA a0 1) 6) (sub2 S1 6)  p1 (pOK_b hp 7 (by decide)) (by have e0 : ((sub2 S1 6) 0 1) = S1 6 1 := rfl; omega) (by omega) _) (cwV 1 hts gX7_failBackwards_X6_alarm rfl rfl rfl (by decide +kernel) ⟨(Nat.le_of_ble_eq_true rfl), (Nat.le_of_ble_eq_true rfl)⟩) (z_preV hK hG hA hP hD hS [7, 8] rfl (by decide) 8 rfl rfl) rfl rfl hl.1 rfl (lv_room (Nat.le_of_ble_eq_true rfl)) dX7_failBackwards_38 ⟨(Nat.le_of_ble_eq_true rfl), (Nat.le_of_ble_eq_true rfl)⟩) hA hP hD hS [7, 8] rfl (fun H locs hP hS => ?_)
    refine z_eqi (z2 := wNum (S1 7) (S1 6 1) p1 1) rfl ?_
    have q_4 : -1000000000 ≤ wNum (S1 7) (S1 6 1) p1 1 ∧ wNum (S1 7) (S1 6 1) p1 1 ≤ 1000000000 := wNum_bd (pOK_b hp 7 (by decide))
    refine lv_istore (lv' := [(5, .int (iI (wNum (S1 7) (S1 6 1) p1 1))), (4, .int (iI (wNum (S1 7) (S1 6 1) p1 0))), (3, .ref ((subA a0 1) 5)), (0, .ref (a0 0)), (1, .int (iI 1)), (2, .int (iI p1))]) hx hb dX7_failBackwards_41 hl (by decide) rfl (fun ls hl => ?_)
    refine lv_aload_n hx hb dX7_failBackwards_43 rfl (lv_at hl 3 rfl) ?_
    refine va_get (D := D) (ci := 9) (v := .ref ((subA a0 1) 0)) (C := RX7) (T := TX7) (N := 11) hx hb hts (fun w h => List.mem_cons_of_mem _ (List.mem_append_left _ (List.mem_append_left _ (List.mem_append_left _ (List.mem_append_left _ (List.mem_append_left _ (List.mem_append_right _ h))))))) hown hK hP 0 rfl rfl 0 (by decide) (hts (.fieldLink RX7 10 "MondayFactory" "plant" "LMondayFactory$Plant;") (List.mem_of_getElem? (i := 1) rfl)) (fun _ h9 => h9) rfl dX7_failBackwards_44 ?_
    refine va_get (D := D) (ci := 7) (v := .ref ((subA a0 1) 13)) (C := RX5) (T := TX5) (N := 11) hx hb hts (fun w h => List.mem_cons_of_mem _ (List.mem_append_left _ (List.mem_append_left _ (List.mem_append_left _ (List.mem_append_left _ (List.mem_append_right _ h)))))) hown hK hP 1 rfl rfl 2 (by decide) (hts (.fieldLink RX7 117 "MondayFactory$Plant" "crew" "LMondayFactory$Crew;") (List.mem_of_getElem? (i := 4) rfl)) (fun _ h9 => h9) rfl dX7_failBackwards_47 ?_
    refine lv_aload_n hx hb dX7_failBackwards_50 rfl (lv_at hl 3 rfl) ?_
    refine va_get (D := D) (ci := 9) (v := .ref ((subA a0 1) 0)) (C := RX7) (T := TX7) (N := 11) hx hb hts (fun w h => List.mem_cons_of_mem _ (List.mem_append_left _ (List.mem_append_left _ (List.mem_append_left _ (List.mem_append_left _ (List.mem_append_left _ (List.mem_append_right _ h))))))) hown hK hP 0 rfl rfl 0 (by decide) (hts (.fieldLink RX7 10 "MondayFactory" "plant" "LMondayFactory$Plant;") (List.mem_of_getElem? (i := 1) rfl)) (fun _ h9 => h9) rfl dX7_failBackwards_51 ?_
    refine va_get (D := D) (ci := 7) (v := .ref ((subA a0 1) 13)) (C := RX5) (T := TX5) (N := 11) hx hb hts (fun w h => List.mem_cons_of_mem _ (List.mem_append_left _ (List.mem_append_left _ (List.mem_append_left _ (List.mem_append_left _ (List.mem_append_right _ h)))))) hown hK hP 1 rfl rfl 2 (by decide) (hts (.fieldLink RX7 117 "MondayFactory$Plant" "crew" "LMondayFactory$Crew;") (List.mem_of_getElem? (i := 4) rfl)) (fun _ h9 => h9) rfl dX7_failBackwards_54 ?_
    refine lv_iconst (v := iI 0) hx hb dX7_failBackwards_57 rfl ?_
    refine z_ai0 (va_runV (As := [.int (iI 0)]) (rest := [.ref ((subA a0 1) 13)]) ⟨hx, hb, hml, hown, hts⟩ (c_X1_freshAt l D k (subA (subA a0 1) 13) (sub2 S1 13)  0 (pOK_b hp 14 (by decide)) (by have e0 : ((sub2 S1 13) 0 1) = S1 13 1 := rfl; omega) (by omega) _) (cwV 1 hts gX7_failBackwards_X1_freshAt rfl rfl rfl (by decide +kernel) ⟨(Nat.le_of_ble_eq_true rfl), (Nat.le_of_ble_eq_true rfl)⟩) (z_preV hK hG hA hP hD hS [14, 15] rfl (by decide) 3 rfl rfl) rfl rfl hl.1 rfl (lv_room (Nat.le_of_ble_eq_true rfl)) dX7_failBackwards_58 ⟨(Nat.le_of_ble_eq_true rfl), (Nat.le_of_ble_eq_true rfl)⟩) hA hP hD hS [14, 15] rfl (fun H locs hP hS => ?_)
    refine z_eqi (z2 := sp_X1_freshAt (sub2 S1 13) 0) rfl ?_
    have q_5 : -1 ≤ sp_X1_freshAt (sub2 S1 13) 0 ∧ sp_X1_freshAt (sub2 S1 13) 0 ≤ 3 := fresh_rng (sub2 S1 13) 0 (by have e0 : ((sub2 S1 13) 0 1) = S1 13 1 := rfl; omega)
    refine z_ai0 (va_runV (As := [.int (iI (sp_X1_freshAt (sub2 S1 13) 0))]) (rest := []) ⟨hx, hb, hml, hown, hts⟩ (c_X1_yawned l D k (subA (subA a0 1) 13) (sub2 S1 13)  (sp_X1_freshAt (sub2 S1 13) 0) (pOK_b hp 14 (by decide)) (by have e0 : ((sub2 S1 13) 0 1) = S1 13 1 := rfl; omega) (by omega) _) (cwV 1 hts gX7_failBackwards_X1_yawned rfl rfl rfl (by decide +kernel) ⟨(Nat.le_of_ble_eq_true rfl), (Nat.le_of_ble_eq_true rfl)⟩) (z_preV hK hG hA hP hD hS [14, 15] rfl (by decide) 3 rfl rfl) rfl rfl hl.1 rfl (lv_room (Nat.le_of_ble_eq_true rfl)) dX7_failBackwards_61 ⟨(Nat.le_of_ble_eq_true rfl), (Nat.le_of_ble_eq_true rfl)⟩) hA hP hD hS [14, 15] rfl (fun H locs hP hS => ?_)
    refine z_eqi (z2 := wYaw (S1 14) (S1 13 1) (sp_X1_freshAt (sub2 S1 13) 0)) rfl ?_
    have f_6 : -1000000000 ≤ S1 13 1 ∧ S1 13 1 ≤ 1000000000 := (pOK_b hp 13 (by decide)) 1
    have q_7 : -1000000000 ≤ wYaw (S1 14) (S1 13 1) (sp_X1_freshAt (sub2 S1 13) 0) ∧ wYaw (S1 14) (S1 13 1) (sp_X1_freshAt (sub2 S1 13) 0) ≤ 1000000000 := wYaw_bd (pOK_b hp 14 (by decide))
    refine lv_istore (lv' := [(6, .int (iI (wYaw (S1 14) (S1 13 1) (sp_X1_freshAt (sub2 S1 13) 0)))), (5, .int (iI (wNum (S1 7) (S1 6 1) p1 1))), (4, .int (iI (wNum (S1 7) (S1 6 1) p1 0))), (3, .ref ((subA a0 1) 5)), (0, .ref (a0 0)), (1, .int (iI 1)), (2, .int (iI p1))]) hx hb dX7_failBackwards_64 hl (by decide) rfl (fun ls hl => ?_)
    refine lv_iconst (v := iI 0) hx hb dX7_failBackwards_66 rfl ?_
    refine lv_istore (lv' := [(7, .int (iI 0)), (6, .int (iI (wYaw (S1 14) (S1 13 1) (sp_X1_freshAt (sub2 S1 13) 0)))), (5, .int (iI (wNum (S1 7) (S1 6 1) p1 1))), (4, .int (iI (wNum (S1 7) (S1 6 1) p1 0))), (3, .ref ((subA a0 1) 5)), (0, .ref (a0 0)), (1, .int (iI 1)), (2, .int (iI p1))]) hx hb dX7_failBackwards_67 hl (by decide) rfl (fun ls hl => ?_)
    refine lv_iconst (v := iI 3) hx hb dX7_failBackwards_69 rfl ?_
    refine lv_istore (lv' := [(8, .int (iI 3)), (7, .int (iI 0)), (6, .int (iI (wYaw (S1 14) (S1 13 1) (sp_X1_freshAt (sub2 S1 13) 0)))), (5, .int (iI (wNum (S1 7) (S1 6 1) p1 1))), (4, .int (iI (wNum (S1 7) (S1 6 1) p1 0))), (3, .ref ((subA a0 1) 5)), (0, .ref (a0 0)), (1, .int (iI 1)), (2, .int (iI p1))]) hx hb dX7_failBackwards_70 hl (by decide) rfl (fun ls hl => ?_)
    refine lv_iload hx hb dX7_failBackwards_72 (lv_at hl 0 rfl) ?_
    refine lv_iconst (v := iI 1) hx hb dX7_failBackwards_74 rfl ?_
    refine zi_icmp_lt (tgt := 111) hx hb dX7_failBackwards_75 (by decide) ⟨by omega, by omega⟩ ⟨by omega, by omega⟩ (fun c_8 => absurd c_8 (by omega)) (fun _ => ?_)
    refine lv_aload_n hx hb dX7_failBackwards_78 rfl (lv_at hl 5 rfl) ?_
    refine lv_iload hx hb dX7_failBackwards_79 (lv_at hl 4 rfl) ?_
    refine lv_iload hx hb dX7_failBackwards_81 (lv_at hl 3 rfl) ?_
    refine lv_iload hx hb dX7_failBackwards_83 (lv_at hl 0 rfl) ?_
    refine z_ai0 (va_runV (As := [.int (iI (wNum (S1 7) (S1 6 1) p1 0)), .int (iI (wNum (S1 7) (S1 6 1) p1 1)), .int (iI 3)]) (rest := []) ⟨hx, hb, hml, hown, hts⟩ (c_X0_isPassedBy l D k (subA (subA a0 1) 5) (sub2 S1 5)  (wNum (S1 7) (S1 6 1) p1 0) (wNum (S1 7) (S1 6 1) p1 1) 3 (pOK_b hp 5 (by decide)) (by omega) (by omega) (by omega) _) (cwV 3 hts gX7_failBackwards_X0_isPassedBy rfl rfl rfl (by decide +kernel) ⟨(Nat.le_of_ble_eq_true rfl), (Nat.le_of_ble_eq_true rfl)⟩) (z_preV hK hG hA hP hD hS [6, 7, 8] rfl (by decide) 2 rfl rfl) rfl rfl hl.1 rfl (lv_room (Nat.le_of_ble_eq_true rfl)) dX7_failBackwards_85 ⟨(Nat.le_of_ble_eq_true rfl), (Nat.le_of_ble_eq_true rfl)⟩) hA hP hD hS [6, 7, 8] rfl (fun H locs hP hS => ?_)
    refine z_eqi (z2 := zb (wPassed (S1 5) (wNum (S1 7) (S1 6 1) p1 0) (wNum (S1 7) (S1 6 1) p1 1) 3)) rfl ?_
    refine zi_if_neB (tgt := 105) hx hb dX7_failBackwards_88 (by decide) (fun c_9 => ?_) (fun c_9 => ?_)
    · refine lv_iinc (v := iI (2)) (lv' := [(8, .int (iI 2)), (7, .int (iI 0)), (6, .int (iI (wYaw (S1 14) (S1 13 1) (sp_X1_freshAt (sub2 S1 13) 0)))), (5, .int (iI (wNum (S1 7) (S1 6 1) p1 1))), (4, .int (iI (wNum (S1 7) (S1 6 1) p1 0))), (3, .ref ((subA a0 1) 5)), (0, .ref (a0 0)), (1, .int (iI 1)), (2, .int (iI p1))]) hx hb dX7_failBackwards_105 hl (k := 0) rfl (iI_add 3 (-1)) (by decide) rfl (fun ls hl => ?_)
      refine lv_goto (tgt := 72) hx hb dX7_failBackwards_108 (by decide) ?_
      refine lv_iload hx hb dX7_failBackwards_72 (lv_at hl 0 rfl) ?_
      refine lv_iconst (v := iI 1) hx hb dX7_failBackwards_74 rfl ?_
      refine zi_icmp_lt (tgt := 111) hx hb dX7_failBackwards_75 (by decide) ⟨by omega, by omega⟩ ⟨by omega, by omega⟩ (fun c_10 => absurd c_10 (by omega)) (fun _ => ?_)
      refine lv_aload_n hx hb dX7_failBackwards_78 rfl (lv_at hl 5 rfl) ?_
      refine lv_iload hx hb dX7_failBackwards_79 (lv_at hl 4 rfl) ?_
      refine lv_iload hx hb dX7_failBackwards_81 (lv_at hl 3 rfl) ?_
      refine lv_iload hx hb dX7_failBackwards_83 (lv_at hl 0 rfl) ?_
      refine z_ai0 (va_runV (As := [.int (iI (wNum (S1 7) (S1 6 1) p1 0)), .int (iI (wNum (S1 7) (S1 6 1) p1 1)), .int (iI 2)]) (rest := []) ⟨hx, hb, hml, hown, hts⟩ (c_X0_isPassedBy l D k (subA (subA a0 1) 5) (sub2 S1 5)  (wNum (S1 7) (S1 6 1) p1 0) (wNum (S1 7) (S1 6 1) p1 1) 2 (pOK_b hp 5 (by decide)) (by omega) (by omega) (by omega) _) (cwV 3 hts gX7_failBackwards_X0_isPassedBy rfl rfl rfl (by decide +kernel) ⟨(Nat.le_of_ble_eq_true rfl), (Nat.le_of_ble_eq_true rfl)⟩) (z_preV hK hG hA hP hD hS [6, 7, 8] rfl (by decide) 2 rfl rfl) rfl rfl hl.1 rfl (lv_room (Nat.le_of_ble_eq_true rfl)) dX7_failBackwards_85 ⟨(Nat.le_of_ble_eq_true rfl), (Nat.le_of_ble_eq_true rfl)⟩) hA hP hD hS [6, 7, 8] rfl (fun H locs hP hS => ?_)
      refine z_eqi (z2 := zb (wPassed (S1 5) (wNum (S1 7) (S1 6 1) p1 0) (wNum (S1 7) (S1 6 1) p1 1) 2)) rfl ?_
      refine zi_if_neB (tgt := 105) hx hb dX7_failBackwards_88 (by decide) (fun c_11 => ?_) (fun c_11 => ?_)
      · refine lv_iinc (v := iI (1)) (lv' := [(8, .int (iI 1)), (7, .int (iI 0)), (6, .int (iI (wYaw (S1 14) (S1 13 1) (sp_X1_freshAt (sub2 S1 13) 0)))), (5, .int (iI (wNum (S1 7) (S1 6 1) p1 1))), (4, .int (iI (wNum (S1 7) (S1 6 1) p1 0))), (3, .ref ((subA a0 1) 5)), (0, .ref (a0 0)), (1, .int (iI 1)), (2, .int (iI p1))]) hx hb dX7_failBackwards_105 hl (k := 0) rfl (iI_add 2 (-1)) (by decide) rfl (fun ls hl => ?_)
        refine lv_goto (tgt := 72) hx hb dX7_failBackwards_108 (by decide) ?_
        refine lv_iload hx hb dX7_failBackwards_72 (lv_at hl 0 rfl) ?_
        refine lv_iconst (v := iI 1) hx hb dX7_failBackwards_74 rfl ?_
        refine zi_icmp_lt (tgt := 111) hx hb dX7_failBackwards_75 (by decide) ⟨by omega, by omega⟩ ⟨by omega, by omega⟩ (fun c_12 => absurd c_12 (by omega)) (fun _ => ?_)
        refine lv_aload_n hx hb dX7_failBackwards_78 rfl (lv_at hl 5 rfl) ?_
        refine lv_iload hx hb dX7_failBackwards_79 (lv_at hl 4 rfl) ?_
        refine lv_iload hx hb dX7_failBackwards_81 (lv_at hl 3 rfl) ?_
        refine lv_iload hx hb dX7_failBackwards_83 (lv_at hl 0 rfl) ?_
        refine z_ai0 (va_runV (As := [.int (iI (wNum (S1 7) (S1 6 1) p1 0)), .int (iI (wNum (S1 7) (S1 6 1) p1 1)), .int (iI 1)]) (rest := []) ⟨hx, hb, hml, hown, hts⟩ (c_X0_isPassedBy l D k (subA (subA a0 1) 5) (sub2 S1 5)  (wNum (S1 7) (S1 6 1) p1 0) (wNum (S1 7) (S1 6 1) p1 1) 1 (pOK_b hp 5 (by decide)) (by omega) (by omega) (by omega) _) (cwV 3 hts gX7_failBackwards_X0_isPassedBy rfl rfl rfl (by decide +kernel) ⟨(Nat.le_of_ble_eq_true rfl), (Nat.le_of_ble_eq_true rfl)⟩) (z_preV hK hG hA hP hD hS [6, 7, 8] rfl (by decide) 2 rfl rfl) rfl rfl hl.1 rfl (lv_room (Nat.le_of_ble_eq_true rfl)) dX7_failBackwards_85 ⟨(Nat.le_of_ble_eq_true rfl), (Nat.le_of_ble_eq_true rfl)⟩) hA hP hD hS [6, 7, 8] rfl (fun H locs hP hS => ?_)
        refine z_eqi (z2 := zb (wPassed (S1 5) (wNum (S1 7) (S1 6 1) p1 0) (wNum (S1 7) (S1 6 1) p1 1) 1)) rfl ?_
        refine zi_if_neB (tgt := 105) hx hb dX7_failBackwards_88 (by decide) (fun c_13 => ?_) (fun c_13 => ?_)
        · refine lv_iinc (v := iI (0)) (lv' := [(8, .int (iI 0)), (7, .int (iI 0)), (6, .int (iI (wYaw (S1 14) (S1 13 1) (sp_X1_freshAt (sub2 S1 13) 0)))), (5, .int (iI (wNum (S1 7) (S1 6 1) p1 1))), (4, .int (iI (wNum (S1 7) (S1 6 1) p1 0))), (3, .ref ((subA a0 1) 5)), (0, .ref (a0 0)), (1, .int (iI 1)), (2, .int (iI p1))]) hx hb dX7_failBackwards_105 hl (k := 0) rfl (iI_add 1 (-1)) (by decide) rfl (fun ls hl => ?_)
          refine lv_goto (tgt := 72) hx hb dX7_failBackwards_108 (by decide) ?_
          refine lv_iload hx hb dX7_failBackwards_72 (lv_at hl 0 rfl) ?_
          refine lv_iconst (v := iI 1) hx hb dX7_failBackwards_74 rfl ?_
          refine zi_icmp_lt (tgt := 111) hx hb dX7_failBackwards_75 (by decide) ⟨by omega, by omega⟩ ⟨by omega, by omega⟩ (fun _ => ?_) (fun c_14 => absurd c_14 (by omega))
          refine lv_iload hx hb dX7_failBackwards_111 (lv_at hl 1 rfl) ?_
          exact z_iret hx hb hr hlocks hP hS dX7_failBackwards_113 (Eq.trans (zif_neg c_2) (Eq.trans (zif_pos c_9) (Eq.trans (zif_pos c_11) (Eq.trans (zif_pos c_13) rfl)))) rfl (Nat.le_refl _) (Nat.le_refl _)
        · refine lv_iload hx hb dX7_failBackwards_91 (lv_at hl 0 rfl) ?_
          refine lv_iload hx hb dX7_failBackwards_93 (lv_at hl 2 rfl) ?_
          refine z_ai0 (va_runS (As := [.int (iI 1), .int (iI (wYaw (S1 14) (S1 13 1) (sp_X1_freshAt (sub2 S1 13) 0)))]) (rest := []) ⟨hx, hb, hml, hown, hts⟩ (c_X1_isLeftOut l D k   1 (wYaw (S1 14) (S1 13 1) (sp_X1_freshAt (sub2 S1 13) 0)) (by omega) (by omega) _) (va_cwS 2 hts gX7_failBackwards_X1_isLeftOut rfl rfl rfl (by decide +kernel) ⟨(Nat.le_of_ble_eq_true rfl), (Nat.le_of_ble_eq_true rfl)⟩) (z_preS hK hG hA hP hD hS [] rfl (by decide)) rfl rfl hl.1 rfl (lv_room (Nat.le_of_ble_eq_true rfl)) dX7_failBackwards_95 ⟨(Nat.le_of_ble_eq_true rfl), (Nat.le_of_ble_eq_true rfl)⟩) hA hP hD hS [] rfl (fun H locs hP hS => ?_)
          refine zi_if_neB (tgt := 105) hx hb dX7_failBackwards_98 (by decide) (fun c_15 => ?_) (fun c_15 => ?_)
          · refine lv_iinc (v := iI (0)) (lv' := [(8, .int (iI 0)), (7, .int (iI 0)), (6, .int (iI (wYaw (S1 14) (S1 13 1) (sp_X1_freshAt (sub2 S1 13) 0)))), (5, .int (iI (wNum (S1 7) (S1 6 1) p1 1))), (4, .int (iI (wNum (S1 7) (S1 6 1) p1 0))), (3, .ref ((subA a0 1) 5)), (0, .ref (a0 0)), (1, .int (iI 1)), (2, .int (iI p1))]) hx hb dX7_failBackwards_105 hl (k := 0) rfl (iI_add 1 (-1)) (by decide) rfl (fun ls hl => ?_)
            refine lv_goto (tgt := 72) hx hb dX7_failBackwards_108 (by decide) ?_
            refine lv_iload hx hb dX7_failBackwards_72 (lv_at hl 0 rfl) ?_
            refine lv_iconst (v := iI 1) hx hb dX7_failBackwards_74 rfl ?_
            refine zi_icmp_lt (tgt := 111) hx hb dX7_failBackwards_75 (by decide) ⟨by omega, by omega⟩ ⟨by omega, by omega⟩ (fun _ => ?_) (fun c_16 => absurd c_16 (by omega))
            refine lv_iload hx hb dX7_failBackwards_111 (lv_at hl 1 rfl) ?_
            exact z_iret hx hb hr hlocks hP hS dX7_failBackwards_113 (Eq.trans (zif_neg c_2) (Eq.trans (zif_pos c_9) (Eq.trans (zif_pos c_11) (Eq.trans (zif_neg c_13) (Eq.trans (zif_pos c_15) rfl))))) rfl (Nat.le_refl _) (Nat.le_refl _)
          · refine lv_iload hx hb dX7_failBackwards_101 (lv_at hl 0 rfl) ?_
            refine lv_istore (lv' := [(7, .int (iI 1)), (8, .int (iI 1)), (6, .int (iI (wYaw (S1 14) (S1 13 1) (sp_X1_freshAt (sub2 S1 13) 0)))), (5, .int (iI (wNum (S1 7) (S1 6 1) p1 1))), (4, .int (iI (wNum (S1 7) (S1 6 1) p1 0))), (3, .ref ((subA a0 1) 5)), (0, .ref (a0 0)), (1, .int (iI 1)), (2, .int (iI p1))]) hx hb dX7_failBackwards_103 hl (by decide) rfl (fun ls hl => ?_)
            refine lv_iinc (v := iI (0)) (lv' := [(8, .int (iI 0)), (7, .int (iI 1)), (6, .int (iI (wYaw (S1 14) (S1 13 1) (sp_X1_freshAt (sub2 S1 13) 0)))), (5, .int (iI (wNum (S1 7) (S1 6 1) p1 1))), (4, .int (iI (wNum (S1 7) (S1 6 1) p1 0))), (3, .ref ((subA a0 1) 5)), (0, .ref (a0 0)), (1, .int (iI 1)), (2, .int (iI p1))]) hx hb dX7_failBackwards_105 hl (k := 1) rfl (iI_add 1 (-1)) (by decide) rfl (fun ls hl => ?_)
            refine lv_goto (tgt := 72) hx hb dX7_failBackwards_108 (by decide) ?_
            refine lv_iload hx hb dX7_failBackwards_72 (lv_at hl 0 rfl) ?_
            refine lv_iconst (v := iI 1) hx hb dX7_failBackwards_74 rfl ?_
            refine zi_icmp_lt (tgt := 111) hx hb dX7_failBackwards_75 (by decide) ⟨by omega, by omega⟩ ⟨by omega, by omega⟩ (fun _ => ?_) (fun c_17 => absurd c_17 (by omega))
            refine lv_iload hx hb dX7_failBackwards_111 (lv_at hl 1 rfl) ?_
            exact z_iret hx hb hr hlocks hP hS dX7_failBackwards_113 (Eq.trans (zif_neg c_2) (Eq.trans (zif_pos c_9) (Eq.trans (zif_pos c_11) (Eq.trans (zif_neg c_13) (Eq.trans (zif_neg c_15) rfl))))) rfl (Nat.le_refl _) (Nat.le_refl _)
      · refine lv_iload hx hb dX7_failBackwards_91 (lv_at hl 0 rfl) ?_
        refine lv_iload hx hb dX7_failBackwards_93 (lv_at hl 2 rfl) ?_
        refine z_ai0 (va_runS (As := [.int (iI 2), .int (iI (wYaw (S1 14) (S1 13 1) (sp_X1_freshAt (sub2 S1 13) 0)))]) (rest := []) ⟨hx, hb, hml, hown, hts⟩ (c_X1_isLeftOut l D k   2 (wYaw (S1 14) (S1 13 1) (sp_X1_freshAt (sub2 S1 13) 0)) (by omega) (by omega) _) (va_cwS 2 hts gX7_failBackwards_X1_isLeftOut rfl rfl rfl (by decide +kernel) ⟨(Nat.le_of_ble_eq_true rfl), (Nat.le_of_ble_eq_true rfl)⟩) (z_preS hK hG hA hP hD hS [] rfl (by decide)) rfl rfl hl.1 rfl (lv_room (Nat.le_of_ble_eq_true rfl)) dX7_failBackwards_95 ⟨(Nat.le_of_ble_eq_true rfl), (Nat.le_of_ble_eq_true rfl)⟩) hA hP hD hS [] rfl (fun H locs hP hS => ?_)
        refine zi_if_neB (tgt := 105) hx hb dX7_failBackwards_98 (by decide) (fun c_18 => ?_) (fun c_18 => ?_)
        · refine lv_iinc (v := iI (1)) (lv' := [(8, .int (iI 1)), (7, .int (iI 0)), (6, .int (iI (wYaw (S1 14) (S1 13 1) (sp_X1_freshAt (sub2 S1 13) 0)))), (5, .int (iI (wNum (S1 7) (S1 6 1) p1 1))), (4, .int (iI (wNum (S1 7) (S1 6 1) p1 0))), (3, .ref ((subA a0 1) 5)), (0, .ref (a0 0)), (1, .int (iI 1)), (2, .int (iI p1))]) hx hb dX7_failBackwards_105 hl (k := 0) rfl (iI_add 2 (-1)) (by decide) rfl (fun ls hl => ?_)
          refine lv_goto (tgt := 72) hx hb dX7_failBackwards_108 (by decide) ?_
          refine lv_iload hx hb dX7_failBackwards_72 (lv_at hl 0 rfl) ?_
          refine lv_iconst (v := iI 1) hx hb dX7_failBackwards_74 rfl ?_
          refine zi_icmp_lt (tgt := 111) hx hb dX7_failBackwards_75 (by decide) ⟨by omega, by omega⟩ ⟨by omega, by omega⟩ (fun c_19 => absurd c_19 (by omega)) (fun _ => ?_)
          refine lv_aload_n hx hb dX7_failBackwards_78 rfl (lv_at hl 5 rfl) ?_
          refine lv_iload hx hb dX7_failBackwards_79 (lv_at hl 4 rfl) ?_
          refine lv_iload hx hb dX7_failBackwards_81 (lv_at hl 3 rfl) ?_
          refine lv_iload hx hb dX7_failBackwards_83 (lv_at hl 0 rfl) ?_
          refine z_ai0 (va_runV (As := [.int (iI (wNum (S1 7) (S1 6 1) p1 0)), .int (iI (wNum (S1 7) (S1 6 1) p1 1)), .int (iI 1)]) (rest := []) ⟨hx, hb, hml, hown, hts⟩ (c_X0_isPassedBy l D k (subA (subA a0 1) 5) (sub2 S1 5)  (wNum (S1 7) (S1 6 1) p1 0) (wNum (S1 7) (S1 6 1) p1 1) 1 (pOK_b hp 5 (by decide)) (by omega) (by omega) (by omega) _) (cwV 3 hts gX7_failBackwards_X0_isPassedBy rfl rfl rfl (by decide +kernel) ⟨(Nat.le_of_ble_eq_true rfl), (Nat.le_of_ble_eq_true rfl)⟩) (z_preV hK hG hA hP hD hS [6, 7, 8] rfl (by decide) 2 rfl rfl) rfl rfl hl.1 rfl (lv_room (Nat.le_of_ble_eq_true rfl)) dX7_failBackwards_85 ⟨(Nat.le_of_ble_eq_true rfl), (Nat.le_of_ble_eq_true rfl)⟩) hA hP hD hS [6, 7, 8] rfl (fun H locs hP hS => ?_)
          refine z_eqi (z2 := zb (wPassed (S1 5) (wNum (S1 7) (S1 6 1) p1 0) (wNum (S1 7) (S1 6 1) p1 1) 1)) rfl ?_
          refine zi_if_neB (tgt := 105) hx hb dX7_failBackwards_88 (by decide) (fun c_20 => ?_) (fun c_20 => ?_)
          · refine lv_iinc (v := iI (0)) (lv' := [(8, .int (iI 0)), (7, .int (iI 0)), (6, .int (iI (wYaw (S1 14) (S1 13 1) (sp_X1_freshAt (sub2 S1 13) 0)))), (5, .int (iI (wNum (S1 7) (S1 6 1) p1 1))), (4, .int (iI (wNum (S1 7) (S1 6 1) p1 0))), (3, .ref ((subA a0 1) 5)), (0, .ref (a0 0)), (1, .int (iI 1)), (2, .int (iI p1))]) hx hb dX7_failBackwards_105 hl (k := 0) rfl (iI_add 1 (-1)) (by decide) rfl (fun ls hl => ?_)
            refine lv_goto (tgt := 72) hx hb dX7_failBackwards_108 (by decide) ?_
            refine lv_iload hx hb dX7_failBackwards_72 (lv_at hl 0 rfl) ?_
            refine lv_iconst (v := iI 1) hx hb dX7_failBackwards_74 rfl ?_
            refine zi_icmp_lt (tgt := 111) hx hb dX7_failBackwards_75 (by decide) ⟨by omega, by omega⟩ ⟨by omega, by omega⟩ (fun _ => ?_) (fun c_21 => absurd c_21 (by omega))
            refine lv_iload hx hb dX7_failBackwards_111 (lv_at hl 1 rfl) ?_
            exact z_iret hx hb hr hlocks hP hS dX7_failBackwards_113 (Eq.trans (zif_neg c_2) (Eq.trans (zif_pos c_9) (Eq.trans (zif_neg c_11) (Eq.trans (zif_pos c_18) (Eq.trans (zif_pos c_20) rfl))))) rfl (Nat.le_refl _) (Nat.le_refl _)
          · refine lv_iload hx hb dX7_failBackwards_91 (lv_at hl 0 rfl) ?_
            refine lv_iload hx hb dX7_failBackwards_93 (lv_at hl 2 rfl) ?_
            refine z_ai0 (va_runS (As := [.int (iI 1), .int (iI (wYaw (S1 14) (S1 13 1) (sp_X1_freshAt (sub2 S1 13) 0)))]) (rest := []) ⟨hx, hb, hml, hown, hts⟩ (c_X1_isLeftOut l D k   1 (wYaw (S1 14) (S1 13 1) (sp_X1_freshAt (sub2 S1 13) 0)) (by omega) (by omega) _) (va_cwS 2 hts gX7_failBackwards_X1_isLeftOut rfl rfl rfl (by decide +kernel) ⟨(Nat.le_of_ble_eq_true rfl), (Nat.le_of_ble_eq_true rfl)⟩) (z_preS hK hG hA hP hD hS [] rfl (by decide)) rfl rfl hl.1 rfl (lv_room (Nat.le_of_ble_eq_true rfl)) dX7_failBackwards_95 ⟨(Nat.le_of_ble_eq_true rfl), (Nat.le_of_ble_eq_true rfl)⟩) hA hP hD hS [] rfl (fun H locs hP hS => ?_)
            refine zi_if_neB (tgt := 105) hx hb dX7_failBackwards_98 (by decide) (fun c_22 => ?_) (fun c_22 => ?_)
            · refine lv_iinc (v := iI (0)) (lv' := [(8, .int (iI 0)), (7, .int (iI 0)), (6, .int (iI (wYaw (S1 14) (S1 13 1) (sp_X1_freshAt (sub2 S1 13) 0)))), (5, .int (iI (wNum (S1 7) (S1 6 1) p1 1))), (4, .int (iI (wNum (S1 7) (S1 6 1) p1 0))), (3, .ref ((subA a0 1) 5)), (0, .ref (a0 0)), (1, .int (iI 1)), (2, .int (iI p1))]) hx hb dX7_failBackwards_105 hl (k := 0) rfl (iI_add 1 (-1)) (by decide) rfl (fun ls hl => ?_)
              refine lv_goto (tgt := 72) hx hb dX7_failBackwards_108 (by decide) ?_
              refine lv_iload hx hb dX7_failBackwards_72 (lv_at hl 0 rfl) ?_
              refine lv_iconst (v := iI 1) hx hb dX7_failBackwards_74 rfl ?_
              refine zi_icmp_lt (tgt := 111) hx hb dX7_failBackwards_75 (by decide) ⟨by omega, by omega⟩ ⟨by omega, by omega⟩ (fun _ => ?_) (fun c_23 => absurd c_23 (by omega))
              refine lv_iload hx hb dX7_failBackwards_111 (lv_at hl 1 rfl) ?_
              exact z_iret hx hb hr hlocks hP hS dX7_failBackwards_113 (Eq.trans (zif_neg c_2) (Eq.trans (zif_pos c_9) (Eq.trans (zif_neg c_11) (Eq.trans (zif_pos c_18) (Eq.trans (zif_neg c_20) (Eq.trans (zif_pos c_22) rfl)))))) rfl (Nat.le_refl _) (Nat.le_refl _)
            · refine lv_iload hx hb dX7_failBackwards_101 (lv_at hl 0 rfl) ?_
              refine lv_istore (lv' := [(7, .int (iI 1)), (8, .int (iI 1)), (6, .int (iI (wYaw (S1 14) (S1 13 1) (sp_X1_freshAt (sub2 S1 13) 0)))), (5, .int (iI (wNum (S1 7) (S1 6 1) p1 1))), (4, .int (iI (wNum (S1 7) (S1 6 1) p1 0))), (3, .ref ((subA a0 1) 5)), (0, .ref (a0 0)), (1, .int (iI 1)), (2, .int (iI p1))]) hx hb dX7_failBackwards_103 hl (by decide) rfl (fun ls hl => ?_)
              refine lv_iinc (v := iI (0)) (lv' := [(8, .int (iI 0)), (7, .int (iI 1)), (6, .int (iI (wYaw (S1 14) (S1 13 1) (sp_X1_freshAt (sub2 S1 13) 0)))), (5, .int (iI (wNum (S1 7) (S1 6 1) p1 1))), (4, .int (iI (wNum (S1 7) (S1 6 1) p1 0))), (3, .ref ((subA a0 1) 5)), (0, .ref (a0 0)), (1, .int (iI 1)), (2, .int (iI p1))]) hx hb dX7_failBackwards_105 hl (k := 1) rfl (iI_add 1 (-1)) (by decide) rfl (fun ls hl => ?_)
              refine lv_goto (tgt := 72) hx hb dX7_failBackwards_108 (by decide) ?_
              refine lv_iload hx hb dX7_failBackwards_72 (lv_at hl 0 rfl) ?_
              refine lv_iconst (v := iI 1) hx hb dX7_failBackwards_74 rfl ?_
              refine zi_icmp_lt (tgt := 111) hx hb dX7_failBackwards_75 (by decide) ⟨by omega, by omega⟩ ⟨by omega, by omega⟩ (fun _ => ?_) (fun c_24 => absurd c_24 (by omega))
              refine lv_iload hx hb dX7_failBackwards_111 (lv_at hl 1 rfl) ?_
              exact z_iret hx hb hr hlocks hP hS dX7_failBackwards_113 (Eq.trans (zif_neg c_2) (Eq.trans (zif_pos c_9) (Eq.trans (zif_neg c_11) (Eq.trans (zif_pos c_18) (Eq.trans (zif_neg c_20) (Eq.trans (zif_neg c_22) rfl)))))) rfl (Nat.le_refl _) (Nat.le_refl _)
        · refine lv_iload hx hb dX7_failBackwards_101 (lv_at hl 0 rfl) ?_
          refine lv_istore (lv' := [(7, .int (iI 2)), (8, .int (iI 2)), (6, .int (iI (wYaw (S1 14) (S1 13 1) (sp_X1_freshAt (sub2 S1 13) 0)))), (5, .int (iI (wNum (S1 7) (S1 6 1) p1 1))), (4, .int (iI (wNum (S1 7) (S1 6 1) p1 0))), (3, .ref ((subA a0 1) 5)), (0, .ref (a0 0)), (1, .int (iI 1)), (2, .int (iI p1))]) hx hb dX7_failBackwards_103 hl (by decide) rfl (fun ls hl => ?_)
          refine lv_iinc (v := iI (1)) (lv' := [(8, .int (iI 1)), (7, .int (iI 2)), (6, .int (iI (wYaw (S1 14) (S1 13 1) (sp_X1_freshAt (sub2 S1 13) 0)))), (5, .int (iI (wNum (S1 7) (S1 6 1) p1 1))), (4, .int (iI (wNum (S1 7) (S1 6 1) p1 0))), (3, .ref ((subA a0 1) 5)), (0, .ref (a0 0)), (1, .int (iI 1)), (2, .int (iI p1))]) hx hb dX7_failBackwards_105 hl (k := 1) rfl (iI_add 2 (-1)) (by decide) rfl (fun ls hl => ?_)
          refine lv_goto (tgt := 72) hx hb dX7_failBackwards_108 (by decide) ?_
          refine lv_iload hx hb dX7_failBackwards_72 (lv_at hl 0 rfl) ?_
          refine lv_iconst (v := iI 1) hx hb dX7_failBackwards_74 rfl ?_
          refine zi_icmp_lt (tgt := 111) hx hb dX7_failBackwards_75 (by decide) ⟨by omega, by omega⟩ ⟨by omega, by omega⟩ (fun c_25 => absurd c_25 (by omega)) (fun _ => ?_)
          refine lv_aload_n hx hb dX7_failBackwards_78 rfl (lv_at hl 5 rfl) ?_
          refine lv_iload hx hb dX7_failBackwards_79 (lv_at hl 4 rfl) ?_
          refine lv_iload hx hb dX7_failBackwards_81 (lv_at hl 3 rfl) ?_
          refine lv_iload hx hb dX7_failBackwards_83 (lv_at hl 0 rfl) ?_
          refine z_ai0 (va_runV (As := [.int (iI (wNum (S1 7) (S1 6 1) p1 0)), .int (iI (wNum (S1 7) (S1 6 1) p1 1)), .int (iI 1)]) (rest := []) ⟨hx, hb, hml, hown, hts⟩ (c_X0_isPassedBy l D k (subA (subA a0 1) 5) (sub2 S1 5)  (wNum (S1 7) (S1 6 1) p1 0) (wNum (S1 7) (S1 6 1) p1 1) 1 (pOK_b hp 5 (by decide)) (by omega) (by omega) (by omega) _) (cwV 3 hts gX7_failBackwards_X0_isPassedBy rfl rfl rfl (by decide +kernel) ⟨(Nat.le_of_ble_eq_true rfl), (Nat.le_of_ble_eq_true rfl)⟩) (z_preV hK hG hA hP hD hS [6, 7, 8] rfl (by decide) 2 rfl rfl) rfl rfl hl.1 rfl (lv_room (Nat.le_of_ble_eq_true rfl)) dX7_failBackwards_85 ⟨(Nat.le_of_ble_eq_true rfl), (Nat.le_of_ble_eq_true rfl)⟩) hA hP hD hS [6, 7, 8] rfl (fun H locs hP hS => ?_)
          refine z_eqi (z2 := zb (wPassed (S1 5) (wNum (S1 7) (S1 6 1) p1 0) (wNum (S1 7) (S1 6 1) p1 1) 1)) rfl ?_
          refine zi_if_neB (tgt := 105) hx hb dX7_failBackwards_88 (by decide) (fun c_26 => ?_) (fun c_26 => ?_)
          · refine lv_iinc (v := iI (0)) (lv' := [(8, .int (iI 0)), (7, .int (iI 2)), (6, .int (iI (wYaw (S1 14) (S1 13 1) (sp_X1_freshAt (sub2 S1 13) 0)))), (5, .int (iI (wNum (S1 7) (S1 6 1) p1 1))), (4, .int (iI (wNum (S1 7) (S1 6 1) p1 0))), (3, .ref ((subA a0 1) 5)), (0, .ref (a0 0)), (1, .int (iI 1)), (2, .int (iI p1))]) hx hb dX7_failBackwards_105 hl (k := 0) rfl (iI_add 1 (-1)) (by decide) rfl (fun ls hl => ?_)
            refine lv_goto (tgt := 72) hx hb dX7_failBackwards_108 (by decide) ?_
            refine lv_iload hx hb dX7_failBackwards_72 (lv_at hl 0 rfl) ?_
            refine lv_iconst (v := iI 1) hx hb dX7_failBackwards_74 rfl ?_
            refine zi_icmp_lt (tgt := 111) hx hb dX7_failBackwards_75 (by decide) ⟨by omega, by omega⟩ ⟨by omega, by omega⟩ (fun _ => ?_) (fun c_27 => absurd c_27 (by omega))
            refine lv_iload hx hb dX7_failBackwards_111 (lv_at hl 1 rfl) ?_
            exact z_iret hx hb hr hlocks hP hS dX7_failBackwards_113 (Eq.trans (zif_neg c_2) (Eq.trans (zif_pos c_9) (Eq.trans (zif_neg c_11) (Eq.trans (zif_neg c_18) (Eq.trans (zif_pos c_26) rfl))))) rfl (Nat.le_refl _) (Nat.le_refl _)
          · refine lv_iload hx hb dX7_failBackwards_91 (lv_at hl 0 rfl) ?_
            refine lv_iload hx hb dX7_failBackwards_93 (lv_at hl 2 rfl) ?_
            refine z_ai0 (va_runS (As := [.int (iI 1), .int (iI (wYaw (S1 14) (S1 13 1) (sp_X1_freshAt (sub2 S1 13) 0)))]) (rest := []) ⟨hx, hb, hml, hown, hts⟩ (c_X1_isLeftOut l D k   1 (wYaw (S1 14) (S1 13 1) (sp_X1_freshAt (sub2 S1 13) 0)) (by omega) (by omega) _) (va_cwS 2 hts gX7_failBackwards_X1_isLeftOut rfl rfl rfl (by decide +kernel) ⟨(Nat.le_of_ble_eq_true rfl), (Nat.le_of_ble_eq_true rfl)⟩) (z_preS hK hG hA hP hD hS [] rfl (by decide)) rfl rfl hl.1 rfl (lv_room (Nat.le_of_ble_eq_true rfl)) dX7_failBackwards_95 ⟨(Nat.le_of_ble_eq_true rfl), (Nat.le_of_ble_eq_true rfl)⟩) hA hP hD hS [] rfl (fun H locs hP hS => ?_)
            refine zi_if_neB (tgt := 105) hx hb dX7_failBackwards_98 (by decide) (fun c_28 => ?_) (fun c_28 => ?_)
            · refine lv_iinc (v := iI (0)) (lv' := [(8, .int (iI 0)), (7, .int (iI 2)), (6, .int (iI (wYaw (S1 14) (S1 13 1) (sp_X1_freshAt (sub2 S1 13) 0)))), (5, .int (iI (wNum (S1 7) (S1 6 1) p1 1))), (4, .int (iI (wNum (S1 7) (S1 6 1) p1 0))), (3, .ref ((subA a0 1) 5)), (0, .ref (a0 0)), (1, .int (iI 1)), (2, .int (iI p1))]) hx hb dX7_failBackwards_105 hl (k := 0) rfl (iI_add 1 (-1)) (by decide) rfl (fun ls hl => ?_)
              refine lv_goto (tgt := 72) hx hb dX7_failBackwards_108 (by decide) ?_
              refine lv_iload hx hb dX7_failBackwards_72 (lv_at hl 0 rfl) ?_
              refine lv_iconst (v := iI 1) hx hb dX7_failBackwards_74 rfl ?_
              refine zi_icmp_lt (tgt := 111) hx hb dX7_failBackwards_75 (by decide) ⟨by omega, by omega⟩ ⟨by omega, by omega⟩ (fun _ => ?_) (fun c_29 => absurd c_29 (by omega))
              refine lv_iload hx hb dX7_failBackwards_111 (lv_at hl 1 rfl) ?_
              exact z_iret hx hb hr hlocks hP hS dX7_failBackwards_113 (Eq.trans (zif_neg c_2) (Eq.trans (zif_pos c_9) (Eq.trans (zif_neg c_11) (Eq.trans (zif_neg c_18) (Eq.trans (zif_neg c_26) (Eq.trans (zif_pos c_28) rfl)))))) rfl (Nat.le_refl _) (Nat.le_refl _)
            · refine lv_iload hx hb dX7_failBackwards_101 (lv_at hl 0 rfl) ?_
              refine lv_istore (lv' := [(7, .int (iI 1)), (8, .int (iI 1)), (6, .int (iI (wYaw (S1 14) (S1 13 1) (sp_X1_freshAt (sub2 S1 13) 0)))), (5, .int (iI (wNum (S1 7) (S1 6 1) p1 1))), (4, .int (iI (wNum (S1 7) (S1 6 1) p1 0))), (3, .ref ((subA a0 1) 5)), (0, .ref (a0 0)), (1, .int (iI 1)), (2, .int (iI p1))]) hx hb dX7_failBackwards_103 hl (by decide) rfl (fun ls hl => ?_)
              refine lv_iinc (v := iI (0)) (lv' := [(8, .int (iI 0)), (7, .int (iI 1)), (6, .int (iI (wYaw (S1 14) (S1 13 1) (sp_X1_freshAt (sub2 S1 13) 0)))), (5, .int (iI (wNum (S1 7) (S1 6 1) p1 1))), (4, .int (iI (wNum (S1 7) (S1 6 1) p1 0))), (3, .ref ((subA a0 1) 5)), (0, .ref (a0 0)), (1, .int (iI 1)), (2, .int (iI p1))]) hx hb dX7_failBackwards_105 hl (k := 1) rfl (iI_add 1 (-1)) (by decide) rfl (fun ls hl => ?_)
              refine lv_goto (tgt := 72) hx hb dX7_failBackwards_108 (by decide) ?_
              refine lv_iload hx hb dX7_failBackwards_72 (lv_at hl 0 rfl) ?_
              refine lv_iconst (v := iI 1) hx hb dX7_failBackwards_74 rfl ?_
              refine zi_icmp_lt (tgt := 111) hx hb dX7_failBackwards_75 (by decide) ⟨by omega, by omega⟩ ⟨by omega, by omega⟩ (fun _ => ?_) (fun c_30 => absurd c_30 (by omega))
              refine lv_iload hx hb dX7_failBackwards_111 (lv_at hl 1 rfl) ?_
              exact z_iret hx hb hr hlocks hP hS dX7_failBackwards_113 (Eq.trans (zif_neg c_2) (Eq.trans (zif_pos c_9) (Eq.trans (zif_neg c_11) (Eq.trans (zif_neg c_18) (Eq.trans (zif_neg c_26) (Eq.trans (zif_neg c_28) rfl)))))) rfl (Nat.le_refl _) (Nat.le_refl _)
    · refine lv_iload hx hb dX7_failBackwards_91 (lv_at hl 0 rfl) ?_
      refine lv_iload hx hb dX7_failBackwards_93 (lv_at hl 2 rfl) ?_
      refine z_ai0 (va_runS (As := [.int (iI 3), .int (iI (wYaw (S1 14) (S1 13 1) (sp_X1_freshAt (sub2 S1 13) 0)))]) (rest := []) ⟨hx, hb, hml, hown, hts⟩ (c_X1_isLeftOut l D k   3 (wYaw (S1 14) (S1 13 1) (sp_X1_freshAt (sub2 S1 13) 0)) (by omega) (by omega) _) (va_cwS 2 hts gX7_failBackwards_X1_isLeftOut rfl rfl rfl (by decide +kernel) ⟨(Nat.le_of_ble_eq_true rfl), (Nat.le_of_ble_eq_true rfl)⟩) (z_preS hK hG hA hP hD hS [] rfl (by decide)) rfl rfl hl.1 rfl (lv_room (Nat.le_of_ble_eq_true rfl)) dX7_failBackwards_95 ⟨(Nat.le_of_ble_eq_true rfl), (Nat.le_of_ble_eq_true rfl)⟩) hA hP hD hS [] rfl (fun H locs hP hS => ?_)
      refine zi_if_neB (tgt := 105) hx hb dX7_failBackwards_98 (by decide) (fun c_31 => ?_) (fun c_31 => ?_)
      · refine lv_iinc (v := iI (2)) (lv' := [(8, .int (iI 2)), (7, .int (iI 0)), (6, .int (iI (wYaw (S1 14) (S1 13 1) (sp_X1_freshAt (sub2 S1 13) 0)))), (5, .int (iI (wNum (S1 7) (S1 6 1) p1 1))), (4, .int (iI (wNum (S1 7) (S1 6 1) p1 0))), (3, .ref ((subA a0 1) 5)), (0, .ref (a0 0)), (1, .int (iI 1)), (2, .int (iI p1))]) hx hb dX7_failBackwards_105 hl (k := 0) rfl (iI_add 3 (-1)) (by decide) rfl (fun ls hl => ?_)
        refine lv_goto (tgt := 72) hx hb dX7_failBackwards_108 (by decide) ?_
        refine lv_iload hx hb dX7_failBackwards_72 (lv_at hl 0 rfl) ?_
        refine lv_iconst (v := iI 1) hx hb dX7_failBackwards_74 rfl ?_
        refine zi_icmp_lt (tgt := 111) hx hb dX7_failBackwards_75 (by decide) ⟨by omega, by omega⟩ ⟨by omega, by omega⟩ (fun c_32 => absurd c_32 (by omega)) (fun _ => ?_)
        refine lv_aload_n hx hb dX7_failBackwards_78 rfl (lv_at hl 5 rfl) ?_
        refine lv_iload hx hb dX7_failBackwards_79 (lv_at hl 4 rfl) ?_
        refine lv_iload hx hb dX7_failBackwards_81 (lv_at hl 3 rfl) ?_
        refine lv_iload hx hb dX7_failBackwards_83 (lv_at hl 0 rfl) ?_
        refine z_ai0 (va_runV (As := [.int (iI (wNum (S1 7) (S1 6 1) p1 0)), .int (iI (wNum (S1 7) (S1 6 1) p1 1)), .int (iI 2)]) (rest := []) ⟨hx, hb, hml, hown, hts⟩ (c_X0_isPassedBy l D k (subA (subA a0 1) 5) (sub2 S1 5)  (wNum (S1 7) (S1 6 1) p1 0) (wNum (S1 7) (S1 6 1) p1 1) 2 (pOK_b hp 5 (by decide)) (by omega) (by omega) (by omega) _) (cwV 3 hts gX7_failBackwards_X0_isPassedBy rfl rfl rfl (by decide +kernel) ⟨(Nat.le_of_ble_eq_true rfl), (Nat.le_of_ble_eq_true rfl)⟩) (z_preV hK hG hA hP hD hS [6, 7, 8] rfl (by decide) 2 rfl rfl) rfl rfl hl.1 rfl (lv_room (Nat.le_of_ble_eq_true rfl)) dX7_failBackwards_85 ⟨(Nat.le_of_ble_eq_true rfl), (Nat.le_of_ble_eq_true rfl)⟩) hA hP hD hS [6, 7, 8] rfl (fun H locs hP hS => ?_)
        refine z_eqi (z2 := zb (wPassed (S1 5) (wNum (S1 7) (S1 6 1) p1 0) (wNum (S1 7) (S1 6 1) p1 1) 2)) rfl ?_
        refine zi_if_neB (tgt := 105) hx hb dX7_failBackwards_88 (by decide) (fun c_33 => ?_) (fun c_33 => ?_)
        · refine lv_iinc (v := iI (1)) (lv' := [(8, .int (iI 1)), (7, .int (iI 0)), (6, .int (iI (wYaw (S1 14) (S1 13 1) (sp_X1_freshAt (sub2 S1 13) 0)))), (5, .int (iI (wNum (S1 7) (S1 6 1) p1 1))), (4, .int (iI (wNum (S1 7) (S1 6 1) p1 0))), (3, .ref ((subA a0 1) 5)), (0, .ref (a0 0)), (1, .int (iI 1)), (2, .int (iI p1))]) hx hb dX7_failBackwards_105 hl (k := 0) rfl (iI_add 2 (-1)) (by decide) rfl (fun ls hl => ?_)
          refine lv_goto (tgt := 72) hx hb dX7_failBackwards_108 (by decide) ?_
          refine lv_iload hx hb dX7_failBackwards_72 (lv_at hl 0 rfl) ?_
          refine lv_iconst (v := iI 1) hx hb dX7_failBackwards_74 rfl ?_
          refine zi_icmp_lt (tgt := 111) hx hb dX7_failBackwards_75 (by decide) ⟨by omega, by omega⟩ ⟨by omega, by omega⟩ (fun c_34 => absurd c_34 (by omega)) (fun _ => ?_)
          refine lv_aload_n hx hb dX7_failBackwards_78 rfl (lv_at hl 5 rfl) ?_
          refine lv_iload hx hb dX7_failBackwards_79 (lv_at hl 4 rfl) ?_
          refine lv_iload hx hb dX7_failBackwards_81 (lv_at hl 3 rfl) ?_
          refine lv_iload hx hb dX7_failBackwards_83 (lv_at hl 0 rfl) ?_
          refine z_ai0 (va_runV (As := [.int (iI (wNum (S1 7) (S1 6 1) p1 0)), .int (iI (wNum (S1 7) (S1 6 1) p1 1)), .int (iI 1)]) (rest := []) ⟨hx, hb, hml, hown, hts⟩ (c_X0_isPassedBy l D k (subA (subA a0 1) 5) (sub2 S1 5)  (wNum (S1 7) (S1 6 1) p1 0) (wNum (S1 7) (S1 6 1) p1 1) 1 (pOK_b hp 5 (by decide)) (by omega) (by omega) (by omega) _) (cwV 3 hts gX7_failBackwards_X0_isPassedBy rfl rfl rfl (by decide +kernel) ⟨(Nat.le_of_ble_eq_true rfl), (Nat.le_of_ble_eq_true rfl)⟩) (z_preV hK hG hA hP hD hS [6, 7, 8] rfl (by decide) 2 rfl rfl) rfl rfl hl.1 rfl (lv_room (Nat.le_of_ble_eq_true rfl)) dX7_failBackwards_85 ⟨(Nat.le_of_ble_eq_true rfl), (Nat.le_of_ble_eq_true rfl)⟩) hA hP hD hS [6, 7, 8] rfl (fun H locs hP hS => ?_)
          refine z_eqi (z2 := zb (wPassed (S1 5) (wNum (S1 7) (S1 6 1) p1 0) (wNum (S1 7) (S1 6 1) p1 1) 1)) rfl ?_
          refine zi_if_neB (tgt := 105) hx hb dX7_failBackwards_88 (by decide) (fun c_35 => ?_) (fun c_35 => ?_)
          · refine lv_iinc (v := iI (0)) (lv' := [(8, .int (iI 0)), (7, .int (iI 0)), (6, .int (iI (wYaw (S1 14) (S1 13 1) (sp_X1_freshAt (sub2 S1 13) 0)))), (5, .int (iI (wNum (S1 7) (S1 6 1) p1 1))), (4, .int (iI (wNum (S1 7) (S1 6 1) p1 0))), (3, .ref ((subA a0 1) 5)), (0, .ref (a0 0)), (1, .int (iI 1)), (2, .int (iI p1))]) hx hb dX7_failBackwards_105 hl (k := 0) rfl (iI_add 1 (-1)) (by decide) rfl (fun ls hl => ?_)
            refine lv_goto (tgt := 72) hx hb dX7_failBackwards_108 (by decide) ?_
            refine lv_iload hx hb dX7_failBackwards_72 (lv_at hl 0 rfl) ?_
            refine lv_iconst (v := iI 1) hx hb dX7_failBackwards_74 rfl ?_
            refine zi_icmp_lt (tgt := 111) hx hb dX7_failBackwards_75 (by decide) ⟨by omega, by omega⟩ ⟨by omega, by omega⟩ (fun _ => ?_) (fun c_36 => absurd c_36 (by omega))
            refine lv_iload hx hb dX7_failBackwards_111 (lv_at hl 1 rfl) ?_
            exact z_iret hx hb hr hlocks hP hS dX7_failBackwards_113 (Eq.trans (zif_neg c_2) (Eq.trans (zif_neg c_9) (Eq.trans (zif_pos c_31) (Eq.trans (zif_pos c_33) (Eq.trans (zif_pos c_35) rfl))))) rfl (Nat.le_refl _) (Nat.le_refl _)
          · refine lv_iload hx hb dX7_failBackwards_91 (lv_at hl 0 rfl) ?_
            refine lv_iload hx hb dX7_failBackwards_93 (lv_at hl 2 rfl) ?_
            refine z_ai0 (va_runS (As := [.int (iI 1), .int (iI (wYaw (S1 14) (S1 13 1) (sp_X1_freshAt (sub2 S1 13) 0)))]) (rest := []) ⟨hx, hb, hml, hown, hts⟩ (c_X1_isLeftOut l D k   1 (wYaw (S1 14) (S1 13 1) (sp_X1_freshAt (sub2 S1 13) 0)) (by omega) (by omega) _) (va_cwS 2 hts gX7_failBackwards_X1_isLeftOut rfl rfl rfl (by decide +kernel) ⟨(Nat.le_of_ble_eq_true rfl), (Nat.le_of_ble_eq_true rfl)⟩) (z_preS hK hG hA hP hD hS [] rfl (by decide)) rfl rfl hl.1 rfl (lv_room (Nat.le_of_ble_eq_true rfl)) dX7_failBackwards_95 ⟨(Nat.le_of_ble_eq_true rfl), (Nat.le_of_ble_eq_true rfl)⟩) hA hP hD hS [] rfl (fun H locs hP hS => ?_)
            refine zi_if_neB (tgt := 105) hx hb dX7_failBackwards_98 (by decide) (fun c_37 => ?_) (fun c_37 => ?_)
            · refine lv_iinc (v := iI (0)) (lv' := [(8, .int (iI 0)), (7, .int (iI 0)), (6, .int (iI (wYaw (S1 14) (S1 13 1) (sp_X1_freshAt (sub2 S1 13) 0)))), (5, .int (iI (wNum (S1 7) (S1 6 1) p1 1))), (4, .int (iI (wNum (S1 7) (S1 6 1) p1 0))), (3, .ref ((subA a0 1) 5)), (0, .ref (a0 0)), (1, .int (iI 1)), (2, .int (iI p1))]) hx hb dX7_failBackwards_105 hl (k := 0) rfl (iI_add 1 (-1)) (by decide) rfl (fun ls hl => ?_)
              refine lv_goto (tgt := 72) hx hb dX7_failBackwards_108 (by decide) ?_
              refine lv_iload hx hb dX7_failBackwards_72 (lv_at hl 0 rfl) ?_
              refine lv_iconst (v := iI 1) hx hb dX7_failBackwards_74 rfl ?_
              refine zi_icmp_lt (tgt := 111) hx hb dX7_failBackwards_75 (by decide) ⟨by omega, by omega⟩ ⟨by omega, by omega⟩ (fun _ => ?_) (fun c_38 => absurd c_38 (by omega))
              refine lv_iload hx hb dX7_failBackwards_111 (lv_at hl 1 rfl) ?_
              exact z_iret hx hb hr hlocks hP hS dX7_failBackwards_113 (Eq.trans (zif_neg c_2) (Eq.trans (zif_neg c_9) (Eq.trans (zif_pos c_31) (Eq.trans (zif_pos c_33) (Eq.trans (zif_neg c_35) (Eq.trans (zif_pos c_37) rfl)))))) rfl (Nat.le_refl _) (Nat.le_refl _)
            · refine lv_iload hx hb dX7_failBackwards_101 (lv_at hl 0 rfl) ?_
              refine lv_istore (lv' := [(7, .int (iI 1)), (8, .int (iI 1)), (6, .int (iI (wYaw (S1 14) (S1 13 1) (sp_X1_freshAt (sub2 S1 13) 0)))), (5, .int (iI (wNum (S1 7) (S1 6 1) p1 1))), (4, .int (iI (wNum (S1 7) (S1 6 1) p1 0))), (3, .ref ((subA a0 1) 5)), (0, .ref (a0 0)), (1, .int (iI 1)), (2, .int (iI p1))]) hx hb dX7_failBackwards_103 hl (by decide) rfl (fun ls hl => ?_)
              refine lv_iinc (v := iI (0)) (lv' := [(8, .int (iI 0)), (7, .int (iI 1)), (6, .int (iI (wYaw (S1 14) (S1 13 1) (sp_X1_freshAt (sub2 S1 13) 0)))), (5, .int (iI (wNum (S1 7) (S1 6 1) p1 1))), (4, .int (iI (wNum (S1 7) (S1 6 1) p1 0))), (3, .ref ((subA a0 1) 5)), (0, .ref (a0 0)), (1, .int (iI 1)), (2, .int (iI p1))]) hx hb dX7_failBackwards_105 hl (k := 1) rfl (iI_add 1 (-1)) (by decide) rfl (fun ls hl => ?_)
              refine lv_goto (tgt := 72) hx hb dX7_failBackwards_108 (by decide) ?_
              refine lv_iload hx hb dX7_failBackwards_72 (lv_at hl 0 rfl) ?_
              refine lv_iconst (v := iI 1) hx hb dX7_failBackwards_74 rfl ?_
              refine zi_icmp_lt (tgt := 111) hx hb dX7_failBackwards_75 (by decide) ⟨by omega, by omega⟩ ⟨by omega, by omega⟩ (fun _ => ?_) (fun c_39 => absurd c_39 (by omega))
              refine lv_iload hx hb dX7_failBackwards_111 (lv_at hl 1 rfl) ?_
              exact z_iret hx hb hr hlocks hP hS dX7_failBackwards_113 (Eq.trans (zif_neg c_2) (Eq.trans (zif_neg c_9) (Eq.trans (zif_pos c_31) (Eq.trans (zif_pos c_33) (Eq.trans (zif_neg c_35) (Eq.trans (zif_neg c_37) rfl)))))) rfl (Nat.le_refl _) (Nat.le_refl _)
        · refine lv_iload hx hb dX7_failBackwards_91 (lv_at hl 0 rfl) ?_
          refine lv_iload hx hb dX7_failBackwards_93 (lv_at hl 2 rfl) ?_
          refine z_ai0 (va_runS (As := [.int (iI 2), .int (iI (wYaw (S1 14) (S1 13 1) (sp_X1_freshAt (sub2 S1 13) 0)))]) (rest := []) ⟨hx, hb, hml, hown, hts⟩ (c_X1_isLeftOut l D k   2 (wYaw (S1 14) (S1 13 1) (sp_X1_freshAt (sub2 S1 13) 0)) (by omega) (by omega) _) (va_cwS 2 hts gX7_failBackwards_X1_isLeftOut rfl rfl rfl (by decide +kernel) ⟨(Nat.le_of_ble_eq_true rfl), (Nat.le_of_ble_eq_true rfl)⟩) (z_preS hK hG hA hP hD hS [] rfl (by decide)) rfl rfl hl.1 rfl (lv_room (Nat.le_of_ble_eq_true rfl)) dX7_failBackwards_95 ⟨(Nat.le_of_ble_eq_true rfl), (Nat.le_of_ble_eq_true rfl)⟩) hA hP hD hS [] rfl (fun H locs hP hS => ?_)
          refine zi_if_neB (tgt := 105) hx hb dX7_failBackwards_98 (by decide) (fun c_40 => ?_) (fun c_40 => ?_)
          · refine lv_iinc (v := iI (1)) (lv' := [(8, .int (iI 1)), (7, .int (iI 0)), (6, .int (iI (wYaw (S1 14) (S1 13 1) (sp_X1_freshAt (sub2 S1 13) 0)))), (5, .int (iI (wNum (S1 7) (S1 6 1) p1 1))), (4, .int (iI (wNum (S1 7) (S1 6 1) p1 0))), (3, .ref ((subA a0 1) 5)), (0, .ref (a0 0)), (1, .int (iI 1)), (2, .int (iI p1))]) hx hb dX7_failBackwards_105 hl (k := 0) rfl (iI_add 2 (-1)) (by decide) rfl (fun ls hl => ?_)
            refine lv_goto (tgt := 72) hx hb dX7_failBackwards_108 (by decide) ?_
            refine lv_iload hx hb dX7_failBackwards_72 (lv_at hl 0 rfl) ?_
            refine lv_iconst (v := iI 1) hx hb dX7_failBackwards_74 rfl ?_
            refine zi_icmp_lt (tgt := 111) hx hb dX7_failBackwards_75 (by decide) ⟨by omega, by omega⟩ ⟨by omega, by omega⟩ (fun c_41 => absurd c_41 (by omega)) (fun _ => ?_)
            refine lv_aload_n hx hb dX7_failBackwards_78 rfl (lv_at hl 5 rfl) ?_
            refine lv_iload hx hb dX7_failBackwards_79 (lv_at hl 4 rfl) ?_
            refine lv_iload hx hb dX7_failBackwards_81 (lv_at hl 3 rfl) ?_
            refine lv_iload hx hb dX7_failBackwards_83 (lv_at hl 0 rfl) ?_
            refine z_ai0 (va_runV (As := [.int (iI (wNum (S1 7) (S1 6 1) p1 0)), .int (iI (wNum (S1 7) (S1 6 1) p1 1)), .int (iI 1)]) (rest := []) ⟨hx, hb, hml, hown, hts⟩ (c_X0_isPassedBy l D k (subA (subA a0 1) 5) (sub2 S1 5)  (wNum (S1 7) (S1 6 1) p1 0) (wNum (S1 7) (S1 6 1) p1 1) 1 (pOK_b hp 5 (by decide)) (by omega) (by omega) (by omega) _) (cwV 3 hts gX7_failBackwards_X0_isPassedBy rfl rfl rfl (by decide +kernel) ⟨(Nat.le_of_ble_eq_true rfl), (Nat.le_of_ble_eq_true rfl)⟩) (z_preV hK hG hA hP hD hS [6, 7, 8] rfl (by decide) 2 rfl rfl) rfl rfl hl.1 rfl (lv_room (Nat.le_of_ble_eq_true rfl)) dX7_failBackwards_85 ⟨(Nat.le_of_ble_eq_true rfl), (Nat.le_of_ble_eq_true rfl)⟩) hA hP hD hS [6, 7, 8] rfl (fun H locs hP hS => ?_)
            refine z_eqi (z2 := zb (wPassed (S1 5) (wNum (S1 7) (S1 6 1) p1 0) (wNum (S1 7) (S1 6 1) p1 1) 1)) rfl ?_
            refine zi_if_neB (tgt := 105) hx hb dX7_failBackwards_88 (by decide) (fun c_42 => ?_) (fun c_42 => ?_)
            · refine lv_iinc (v := iI (0)) (lv' := [(8, .int (iI 0)), (7, .int (iI 0)), (6, .int (iI (wYaw (S1 14) (S1 13 1) (sp_X1_freshAt (sub2 S1 13) 0)))), (5, .int (iI (wNum (S1 7) (S1 6 1) p1 1))), (4, .int (iI (wNum (S1 7) (S1 6 1) p1 0))), (3, .ref ((subA a0 1) 5)), (0, .ref (a0 0)), (1, .int (iI 1)), (2, .int (iI p1))]) hx hb dX7_failBackwards_105 hl (k := 0) rfl (iI_add 1 (-1)) (by decide) rfl (fun ls hl => ?_)
              refine lv_goto (tgt := 72) hx hb dX7_failBackwards_108 (by decide) ?_
              refine lv_iload hx hb dX7_failBackwards_72 (lv_at hl 0 rfl) ?_
              refine lv_iconst (v := iI 1) hx hb dX7_failBackwards_74 rfl ?_
              refine zi_icmp_lt (tgt := 111) hx hb dX7_failBackwards_75 (by decide) ⟨by omega, by omega⟩ ⟨by omega, by omega⟩ (fun _ => ?_) (fun c_43 => absurd c_43 (by omega))
              refine lv_iload hx hb dX7_failBackwards_111 (lv_at hl 1 rfl) ?_
              exact z_iret hx hb hr hlocks hP hS dX7_failBackwards_113 (Eq.trans (zif_neg c_2) (Eq.trans (zif_neg c_9) (Eq.trans (zif_pos c_31) (Eq.trans (zif_neg c_33) (Eq.trans (zif_pos c_40) (Eq.trans (zif_pos c_42) rfl)))))) rfl (Nat.le_refl _) (Nat.le_refl _)
            · refine lv_iload hx hb dX7_failBackwards_91 (lv_at hl 0 rfl) ?_
              refine lv_iload hx hb dX7_failBackwards_93 (lv_at hl 2 rfl) ?_
              refine z_ai0 (va_runS (As := [.int (iI 1), .int (iI (wYaw (S1 14) (S1 13 1) (sp_X1_freshAt (sub2 S1 13) 0)))]) (rest := []) ⟨hx, hb, hml, hown, hts⟩ (c_X1_isLeftOut l D k   1 (wYaw (S1 14) (S1 13 1) (sp_X1_freshAt (sub2 S1 13) 0)) (by omega) (by omega) _) (va_cwS 2 hts gX7_failBackwards_X1_isLeftOut rfl rfl rfl (by decide +kernel) ⟨(Nat.le_of_ble_eq_true rfl), (Nat.le_of_ble_eq_true rfl)⟩) (z_preS hK hG hA hP hD hS [] rfl (by decide)) rfl rfl hl.1 rfl (lv_room (Nat.le_of_ble_eq_true rfl)) dX7_failBackwards_95 ⟨(Nat.le_of_ble_eq_true rfl), (Nat.le_of_ble_eq_true rfl)⟩) hA hP hD hS [] rfl (fun H locs hP hS => ?_)
              refine zi_if_neB (tgt := 105) hx hb dX7_failBackwards_98 (by decide) (fun c_44 => ?_) (fun c_44 => ?_)
              · refine lv_iinc (v := iI (0)) (lv' := [(8, .int (iI 0)), (7, .int (iI 0)), (6, .int (iI (wYaw (S1 14) (S1 13 1) (sp_X1_freshAt (sub2 S1 13) 0)))), (5, .int (iI (wNum (S1 7) (S1 6 1) p1 1))), (4, .int (iI (wNum (S1 7) (S1 6 1) p1 0))), (3, .ref ((subA a0 1) 5)), (0, .ref (a0 0)), (1, .int (iI 1)), (2, .int (iI p1))]) hx hb dX7_failBackwards_105 hl (k := 0) rfl (iI_add 1 (-1)) (by decide) rfl (fun ls hl => ?_)
                refine lv_goto (tgt := 72) hx hb dX7_failBackwards_108 (by decide) ?_
                refine lv_iload hx hb dX7_failBackwards_72 (lv_at hl 0 rfl) ?_
                refine lv_iconst (v := iI 1) hx hb dX7_failBackwards_74 rfl ?_
                refine zi_icmp_lt (tgt := 111) hx hb dX7_failBackwards_75 (by decide) ⟨by omega, by omega⟩ ⟨by omega, by omega⟩ (fun _ => ?_) (fun c_45 => absurd c_45 (by omega))
                refine lv_iload hx hb dX7_failBackwards_111 (lv_at hl 1 rfl) ?_
                exact z_iret hx hb hr hlocks hP hS dX7_failBackwards_113 (Eq.trans (zif_neg c_2) (Eq.trans (zif_neg c_9) (Eq.trans (zif_pos c_31) (Eq.trans (zif_neg c_33) (Eq.trans (zif_pos c_40) (Eq.trans (zif_neg c_42) (Eq.trans (zif_pos c_44) rfl))))))) rfl (Nat.le_refl _) (Nat.le_refl _)
              · refine lv_iload hx hb dX7_failBackwards_101 (lv_at hl 0 rfl) ?_
                refine lv_istore (lv' := [(7, .int (iI 1)), (8, .int (iI 1)), (6, .int (iI (wYaw (S1 14) (S1 13 1) (sp_X1_freshAt (sub2 S1 13) 0)))), (5, .int (iI (wNum (S1 7) (S1 6 1) p1 1))), (4, .int (iI (wNum (S1 7) (S1 6 1) p1 0))), (3, .ref ((subA a0 1) 5)), (0, .ref (a0 0)), (1, .int (iI 1)), (2, .int (iI p1))]) hx hb dX7_failBackwards_103 hl (by decide) rfl (fun ls hl => ?_)
                refine lv_iinc (v := iI (0)) (lv' := [(8, .int (iI 0)), (7, .int (iI 1)), (6, .int (iI (wYaw (S1 14) (S1 13 1) (sp_X1_freshAt (sub2 S1 13) 0)))), (5, .int (iI (wNum (S1 7) (S1 6 1) p1 1))), (4, .int (iI (wNum (S1 7) (S1 6 1) p1 0))), (3, .ref ((subA a0 1) 5)), (0, .ref (a0 0)), (1, .int (iI 1)), (2, .int (iI p1))]) hx hb dX7_failBackwards_105 hl (k := 1) rfl (iI_add 1 (-1)) (by decide) rfl (fun ls hl => ?_)
                refine lv_goto (tgt := 72) hx hb dX7_failBackwards_108 (by decide) ?_
                refine lv_iload hx hb dX7_failBackwards_72 (lv_at hl 0 rfl) ?_
                refine lv_iconst (v := iI 1) hx hb dX7_failBackwards_74 rfl ?_
                refine zi_icmp_lt (tgt := 111) hx hb dX7_failBackwards_75 (by decide) ⟨by omega, by omega⟩ ⟨by omega, by omega⟩ (fun _ => ?_) (fun c_46 => absurd c_46 (by omega))
                refine lv_iload hx hb dX7_failBackwards_111 (lv_at hl 1 rfl) ?_
                exact z_iret hx hb hr hlocks hP hS dX7_failBackwards_113 (Eq.trans (zif_neg c_2) (Eq.trans (zif_neg c_9) (Eq.trans (zif_pos c_31) (Eq.trans (zif_neg c_33) (Eq.trans (zif_pos c_40) (Eq.trans (zif_neg c_42) (Eq.trans (zif_neg c_44) rfl))))))) rfl (Nat.le_refl _) (Nat.le_refl _)
          · refine lv_iload hx hb dX7_failBackwards_101 (lv_at hl 0 rfl) ?_
            refine lv_istore (lv' := [(7, .int (iI 2)), (8, .int (iI 2)), (6, .int (iI (wYaw (S1 14) (S1 13 1) (sp_X1_freshAt (sub2 S1 13) 0)))), (5, .int (iI (wNum (S1 7) (S1 6 1) p1 1))), (4, .int (iI (wNum (S1 7) (S1 6 1) p1 0))), (3, .ref ((subA a0 1) 5)), (0, .ref (a0 0)), (1, .int (iI 1)), (2, .int (iI p1))]) hx hb dX7_failBackwards_103 hl (by decide) rfl (fun ls hl => ?_)
            refine lv_iinc (v := iI (1)) (lv' := [(8, .int (iI 1)), (7, .int (iI 2)), (6, .int (iI (wYaw (S1 14) (S1 13 1) (sp_X1_freshAt (sub2 S1 13) 0)))), (5, .int (iI (wNum (S1 7) (S1 6 1) p1 1))), (4, .int (iI (wNum (S1 7) (S1 6 1) p1 0))), (3, .ref ((subA a0 1) 5)), (0, .ref (a0 0)), (1, .int (iI 1)), (2, .int (iI p1))]) hx hb dX7_failBackwards_105 hl (k := 1) rfl (iI_add 2 (-1)) (by decide) rfl (fun ls hl => ?_)
            refine lv_goto (tgt := 72) hx hb dX7_failBackwards_108 (by decide) ?_
            refine lv_iload hx hb dX7_failBackwards_72 (lv_at hl 0 rfl) ?_
            refine lv_iconst (v := iI 1) hx hb dX7_failBackwards_74 rfl ?_
            refine zi_icmp_lt (tgt := 111) hx hb dX7_failBackwards_75 (by decide) ⟨by omega, by omega⟩ ⟨by omega, by omega⟩ (fun c_47 => absurd c_47 (by omega)) (fun _ => ?_)
            refine lv_aload_n hx hb dX7_failBackwards_78 rfl (lv_at hl 5 rfl) ?_
            refine lv_iload hx hb dX7_failBackwards_79 (lv_at hl 4 rfl) ?_
            refine lv_iload hx hb dX7_failBackwards_81 (lv_at hl 3 rfl) ?_
            refine lv_iload hx hb dX7_failBackwards_83 (lv_at hl 0 rfl) ?_
            refine z_ai0 (va_runV (As := [.int (iI (wNum (S1 7) (S1 6 1) p1 0)), .int (iI (wNum (S1 7) (S1 6 1) p1 1)), .int (iI 1)]) (rest := []) ⟨hx, hb, hml, hown, hts⟩ (c_X0_isPassedBy l D k (subA (subA a0 1) 5) (sub2 S1 5)  (wNum (S1 7) (S1 6 1) p1 0) (wNum (S1 7) (S1 6 1) p1 1) 1 (pOK_b hp 5 (by decide)) (by omega) (by omega) (by omega) _) (cwV 3 hts gX7_failBackwards_X0_isPassedBy rfl rfl rfl (by decide +kernel) ⟨(Nat.le_of_ble_eq_true rfl), (Nat.le_of_ble_eq_true rfl)⟩) (z_preV hK hG hA hP hD hS [6, 7, 8] rfl (by decide) 2 rfl rfl) rfl rfl hl.1 rfl (lv_room (Nat.le_of_ble_eq_true rfl)) dX7_failBackwards_85 ⟨(Nat.le_of_ble_eq_true rfl), (Nat.le_of_ble_eq_true rfl)⟩) hA hP hD hS [6, 7, 8] rfl (fun H locs hP hS => ?_)
            refine z_eqi (z2 := zb (wPassed (S1 5) (wNum (S1 7) (S1 6 1) p1 0) (wNum (S1 7) (S1 6 1) p1 1) 1)) rfl ?_
            refine zi_if_neB (tgt := 105) hx hb dX7_failBackwards_88 (by decide) (fun c_48 => ?_) (fun c_48 => ?_)
            · refine lv_iinc (v := iI (0)) (lv' := [(8, .int (iI 0)), (7, .int (iI 2)), (6, .int (iI (wYaw (S1 14) (S1 13 1) (sp_X1_freshAt (sub2 S1 13) 0)))), (5, .int (iI (wNum (S1 7) (S1 6 1) p1 1))), (4, .int (iI (wNum (S1 7) (S1 6 1) p1 0))), (3, .ref ((subA a0 1) 5)), (0, .ref (a0 0)), (1, .int (iI 1)), (2, .int (iI p1))]) hx hb dX7_failBackwards_105 hl (k := 0) rfl (iI_add 1 (-1)) (by decide) rfl (fun ls hl => ?_)
              refine lv_goto (tgt := 72) hx hb dX7_failBackwards_108 (by decide) ?_
              refine lv_iload hx hb dX7_failBackwards_72 (lv_at hl 0 rfl) ?_
              refine lv_iconst (v := iI 1) hx hb dX7_failBackwards_74 rfl ?_
              refine zi_icmp_lt (tgt := 111) hx hb dX7_failBackwards_75 (by decide) ⟨by omega, by omega⟩ ⟨by omega, by omega⟩ (fun _ => ?_) (fun c_49 => absurd c_49 (by omega))
              refine lv_iload hx hb dX7_failBackwards_111 (lv_at hl 1 rfl) ?_
              exact z_iret hx hb hr hlocks hP hS dX7_failBackwards_113 (Eq.trans (zif_neg c_2) (Eq.trans (zif_neg c_9) (Eq.trans (zif_pos c_31) (Eq.trans (zif_neg c_33) (Eq.trans (zif_neg c_40) (Eq.trans (zif_pos c_48) rfl)))))) rfl (Nat.le_refl _) (Nat.le_refl _)
            · refine lv_iload hx hb dX7_failBackwards_91 (lv_at hl 0 rfl) ?_
              refine lv_iload hx hb dX7_failBackwards_93 (lv_at hl 2 rfl) ?_
              refine z_ai0 (va_runS (As := [.int (iI 1), .int (iI (wYaw (S1 14) (S1 13 1) (sp_X1_freshAt (sub2 S1 13) 0)))]) (rest := []) ⟨hx, hb, hml, hown, hts⟩ (c_X1_isLeftOut l D k   1 (wYaw (S1 14) (S1 13 1) (sp_X1_freshAt (sub2 S1 13) 0)) (by omega) (by omega) _) (va_cwS 2 hts gX7_failBackwards_X1_isLeftOut rfl rfl rfl (by decide +kernel) ⟨(Nat.le_of_ble_eq_true rfl), (Nat.le_of_ble_eq_true rfl)⟩) (z_preS hK hG hA hP hD hS [] rfl (by decide)) rfl rfl hl.1 rfl (lv_room (Nat.le_of_ble_eq_true rfl)) dX7_failBackwards_95 ⟨(Nat.le_of_ble_eq_true rfl), (Nat.le_of_ble_eq_true rfl)⟩) hA hP hD hS [] rfl (fun H locs hP hS => ?_)
              refine zi_if_neB (tgt := 105) hx hb dX7_failBackwards_98 (by decide) (fun c_50 => ?_) (fun c_50 => ?_)
              · refine lv_iinc (v := iI (0)) (lv' := [(8, .int (iI 0)), (7, .int (iI 2)), (6, .int (iI (wYaw (S1 14) (S1 13 1) (sp_X1_freshAt (sub2 S1 13) 0)))), (5, .int (iI (wNum (S1 7) (S1 6 1) p1 1))), (4, .int (iI (wNum (S1 7) (S1 6 1) p1 0))), (3, .ref ((subA a0 1) 5)), (0, .ref (a0 0)), (1, .int (iI 1)), (2, .int (iI p1))]) hx hb dX7_failBackwards_105 hl (k := 0) rfl (iI_add 1 (-1)) (by decide) rfl (fun ls hl => ?_)
                refine lv_goto (tgt := 72) hx hb dX7_failBackwards_108 (by decide) ?_
                refine lv_iload hx hb dX7_failBackwards_72 (lv_at hl 0 rfl) ?_
                refine lv_iconst (v := iI 1) hx hb dX7_failBackwards_74 rfl ?_
                refine zi_icmp_lt (tgt := 111) hx hb dX7_failBackwards_75 (by decide) ⟨by omega, by omega⟩ ⟨by omega, by omega⟩ (fun _ => ?_) (fun c_51 => absurd c_51 (by omega))
                refine lv_iload hx hb dX7_failBackwards_111 (lv_at hl 1 rfl) ?_
                exact z_iret hx hb hr hlocks hP hS dX7_failBackwards_113 (Eq.trans (zif_neg c_2) (Eq.trans (zif_neg c_9) (Eq.trans (zif_pos c_31) (Eq.trans (zif_neg c_33) (Eq.trans (zif_neg c_40) (Eq.trans (zif_neg c_48) (Eq.trans (zif_pos c_50) rfl))))))) rfl (Nat.le_refl _) (Nat.le_refl _)
              · refine lv_iload hx hb dX7_failBackwards_101 (lv_at hl 0 rfl) ?_
                refine lv_istore (lv' := [(7, .int (iI 1)), (8, .int (iI 1)), (6, .int (iI (wYaw (S1 14) (S1 13 1) (sp_X1_freshAt (sub2 S1 13) 0)))), (5, .int (iI (wNum (S1 7) (S1 6 1) p1 1))), (4, .int (iI (wNum (S1 7) (S1 6 1) p1 0))), (3, .ref ((subA a0 1) 5)), (0, .ref (a0 0)), (1, .int (iI 1)), (2, .int (iI p1))]) hx hb dX7_failBackwards_103 hl (by decide) rfl (fun ls hl => ?_)
                refine lv_iinc (v := iI (0)) (lv' := [(8, .int (iI 0)), (7, .int (iI 1)), (6, .int (iI (wYaw (S1 14) (S1 13 1) (sp_X1_freshAt (sub2 S1 13) 0)))), (5, .int (iI (wNum (S1 7) (S1 6 1) p1 1))), (4, .int (iI (wNum (S1 7) (S1 6 1) p1 0))), (3, .ref ((subA a0 1) 5)), (0, .ref (a0 0)), (1, .int (iI 1)), (2, .int (iI p1))]) hx hb dX7_failBackwards_105 hl (k := 1) rfl (iI_add 1 (-1)) (by decide) rfl (fun ls hl => ?_)
                refine lv_goto (tgt := 72) hx hb dX7_failBackwards_108 (by decide) ?_
                refine lv_iload hx hb dX7_failBackwards_72 (lv_at hl 0 rfl) ?_
                refine lv_iconst (v := iI 1) hx hb dX7_failBackwards_74 rfl ?_
                refine zi_icmp_lt (tgt := 111) hx hb dX7_failBackwards_75 (by decide) ⟨by omega, by omega⟩ ⟨by omega, by omega⟩ (fun _ => ?_) (fun c_52 => absurd c_52 (by omega))
                refine lv_iload hx hb dX7_failBackwards_111 (lv_at hl 1 rfl) ?_
                exact z_iret hx hb hr hlocks hP hS dX7_failBackwards_113 (Eq.trans (zif_neg c_2) (Eq.trans (zif_neg c_9) (Eq.trans (zif_pos c_31) (Eq.trans (zif_neg c_33) (Eq.trans (zif_neg c_40) (Eq.trans (zif_neg c_48) (Eq.trans (zif_neg c_50) rfl))))))) rfl (Nat.le_refl _) (Nat.le_refl _)
      · refine lv_iload hx hb dX7_failBackwards_101 (lv_at hl 0 rfl) ?_
        refine lv_istore (lv' := [(7, .int (iI 3)), (8, .int (iI 3)), (6, .int (iI (wYaw (S1 14) (S1 13 1) (sp_X1_freshAt (sub2 S1 13) 0)))), (5, .int (iI (wNum (S1 7) (S1 6 1) p1 1))), (4, .int (iI (wNum (S1 7) (S1 6 1) p1 0))), (3, .ref ((subA a0 1) 5)), (0, .ref (a0 0)), (1, .int (iI 1)), (2, .int (iI p1))]) hx hb dX7_failBackwards_103 hl (by decide) rfl (fun ls hl => ?_)
        refine lv_iinc (v := iI (2)) (lv' := [(8, .int (iI 2)), (7, .int (iI 3)), (6, .int (iI (wYaw (S1 14) (S1 13 1) (sp_X1_freshAt (sub2 S1 13) 0)))), (5, .int (iI (wNum (S1 7) (S1 6 1) p1 1))), (4, .int (iI (wNum (S1 7) (S1 6 1) p1 0))), (3, .ref ((subA a0 1) 5)), (0, .ref (a0 0)), (1, .int (iI 1)), (2, .int (iI p1))]) hx hb dX7_failBackwards_105 hl (k := 1) rfl (iI_add 3 (-1)) (by decide) rfl (fun ls hl => ?_)
        refine lv_goto (tgt := 72) hx hb dX7_failBackwards_108 (by decide) ?_
        refine lv_iload hx hb dX7_failBackwards_72 (lv_at hl 0 rfl) ?_
        refine lv_iconst (v := iI 1) hx hb dX7_failBackwards_74 rfl ?_
        refine zi_icmp_lt (tgt := 111) hx hb dX7_failBackwards_75 (by decide) ⟨by omega, by omega⟩ ⟨by omega, by omega⟩ (fun c_53 => absurd c_53 (by omega)) (fun _ => ?_)
        refine lv_aload_n hx hb dX7_failBackwards_78 rfl (lv_at hl 5 rfl) ?_
        refine lv_iload hx hb dX7_failBackwards_79 (lv_at hl 4 rfl) ?_
        refine lv_iload hx hb dX7_failBackwards_81 (lv_at hl 3 rfl) ?_
        refine lv_iload hx hb dX7_failBackwards_83 (lv_at hl 0 rfl) ?_
        refine z_ai0 (va_runV (As := [.int (iI (wNum (S1 7) (S1 6 1) p1 0)), .int (iI (wNum (S1 7) (S1 6 1) p1 1)), .int (iI 2)]) (rest := []) ⟨hx, hb, hml, hown, hts⟩ (c_X0_isPassedBy l D k (subA (subA a0 1) 5) (sub2 S1 5)  (wNum (S1 7) (S1 6 1) p1 0) (wNum (S1 7) (S1 6 1) p1 1) 2 (pOK_b hp 5 (by decide)) (by omega) (by omega) (by omega) _) (cwV 3 hts gX7_failBackwards_X0_isPassedBy rfl rfl rfl (by decide +kernel) ⟨(Nat.le_of_ble_eq_true rfl), (Nat.le_of_ble_eq_true rfl)⟩) (z_preV hK hG hA hP hD hS [6, 7, 8] rfl (by decide) 2 rfl rfl) rfl rfl hl.1 rfl (lv_room (Nat.le_of_ble_eq_true rfl)) dX7_failBackwards_85 ⟨(Nat.le_of_ble_eq_true rfl), (Nat.le_of_ble_eq_true rfl)⟩) hA hP hD hS [6, 7, 8] rfl (fun H locs hP hS => ?_)
        refine z_eqi (z2 := zb (wPassed (S1 5) (wNum (S1 7) (S1 6 1) p1 0) (wNum (S1 7) (S1 6 1) p1 1) 2)) rfl ?_
        refine zi_if_neB (tgt := 105) hx hb dX7_failBackwards_88 (by decide) (fun c_54 => ?_) (fun c_54 => ?_)
        · refine lv_iinc (v := iI (1)) (lv' := [(8, .int (iI 1)), (7, .int (iI 3)), (6, .int (iI (wYaw (S1 14) (S1 13 1) (sp_X1_freshAt (sub2 S1 13) 0)))), (5, .int (iI (wNum (S1 7) (S1 6 1) p1 1))), (4, .int (iI (wNum (S1 7) (S1 6 1) p1 0))), (3, .ref ((subA a0 1) 5)), (0, .ref (a0 0)), (1, .int (iI 1)), (2, .int (iI p1))]) hx hb dX7_failBackwards_105 hl (k := 0) rfl (iI_add 2 (-1)) (by decide) rfl (fun ls hl => ?_)
          refine lv_goto (tgt := 72) hx hb dX7_failBackwards_108 (by decide) ?_
          refine lv_iload hx hb dX7_failBackwards_72 (lv_at hl 0 rfl) ?_
          refine lv_iconst (v := iI 1) hx hb dX7_failBackwards_74 rfl ?_
          refine zi_icmp_lt (tgt := 111) hx hb dX7_failBackwards_75 (by decide) ⟨by omega, by omega⟩ ⟨by omega, by omega⟩ (fun c_55 => absurd c_55 (by omega)) (fun _ => ?_)
          refine lv_aload_n hx hb dX7_failBackwards_78 rfl (lv_at hl 5 rfl) ?_
          refine lv_iload hx hb dX7_failBackwards_79 (lv_at hl 4 rfl) ?_
          refine lv_iload hx hb dX7_failBackwards_81 (lv_at hl 3 rfl) ?_
          refine lv_iload hx hb dX7_failBackwards_83 (lv_at hl 0 rfl) ?_
          refine z_ai0 (va_runV (As := [.int (iI (wNum (S1 7) (S1 6 1) p1 0)), .int (iI (wNum (S1 7) (S1 6 1) p1 1)), .int (iI 1)]) (rest := []) ⟨hx, hb, hml, hown, hts⟩ (c_X0_isPassedBy l D k (subA (subA a0 1) 5) (sub2 S1 5)  (wNum (S1 7) (S1 6 1) p1 0) (wNum (S1 7) (S1 6 1) p1 1) 1 (pOK_b hp 5 (by decide)) (by omega) (by omega) (by omega) _) (cwV 3 hts gX7_failBackwards_X0_isPassedBy rfl rfl rfl (by decide +kernel) ⟨(Nat.le_of_ble_eq_true rfl), (Nat.le_of_ble_eq_true rfl)⟩) (z_preV hK hG hA hP hD hS [6, 7, 8] rfl (by decide) 2 rfl rfl) rfl rfl hl.1 rfl (lv_room (Nat.le_of_ble_eq_true rfl)) dX7_failBackwards_85 ⟨(Nat.le_of_ble_eq_true rfl), (Nat.le_of_ble_eq_true rfl)⟩) hA hP hD hS [6, 7, 8] rfl (fun H locs hP hS => ?_)
          refine z_eqi (z2 := zb (wPassed (S1 5) (wNum (S1 7) (S1 6 1) p1 0) (wNum (S1 7) (S1 6 1) p1 1) 1)) rfl ?_
          refine zi_if_neB (tgt := 105) hx hb dX7_failBackwards_88 (by decide) (fun c_56 => ?_) (fun c_56 => ?_)
          · refine lv_iinc (v := iI (0)) (lv' := [(8, .int (iI 0)), (7, .int (iI 3)), (6, .int (iI (wYaw (S1 14) (S1 13 1) (sp_X1_freshAt (sub2 S1 13) 0)))), (5, .int (iI (wNum (S1 7) (S1 6 1) p1 1))), (4, .int (iI (wNum (S1 7) (S1 6 1) p1 0))), (3, .ref ((subA a0 1) 5)), (0, .ref (a0 0)), (1, .int (iI 1)), (2, .int (iI p1))]) hx hb dX7_failBackwards_105 hl (k := 0) rfl (iI_add 1 (-1)) (by decide) rfl (fun ls hl => ?_)
            refine lv_goto (tgt := 72) hx hb dX7_failBackwards_108 (by decide) ?_
            refine lv_iload hx hb dX7_failBackwards_72 (lv_at hl 0 rfl) ?_
            refine lv_iconst (v := iI 1) hx hb dX7_failBackwards_74 rfl ?_
            refine zi_icmp_lt (tgt := 111) hx hb dX7_failBackwards_75 (by decide) ⟨by omega, by omega⟩ ⟨by omega, by omega⟩ (fun _ => ?_) (fun c_57 => absurd c_57 (by omega))
            refine lv_iload hx hb dX7_failBackwards_111 (lv_at hl 1 rfl) ?_
            exact z_iret hx hb hr hlocks hP hS dX7_failBackwards_113 (Eq.trans (zif_neg c_2) (Eq.trans (zif_neg c_9) (Eq.trans (zif_neg c_31) (Eq.trans (zif_pos c_54) (Eq.trans (zif_pos c_56) rfl))))) rfl (Nat.le_refl _) (Nat.le_refl _)
          · refine lv_iload hx hb dX7_failBackwards_91 (lv_at hl 0 rfl) ?_
            refine lv_iload hx hb dX7_failBackwards_93 (lv_at hl 2 rfl) ?_
            refine z_ai0 (va_runS (As := [.int (iI 1), .int (iI (wYaw (S1 14) (S1 13 1) (sp_X1_freshAt (sub2 S1 13) 0)))]) (rest := []) ⟨hx, hb, hml, hown, hts⟩ (c_X1_isLeftOut l D k   1 (wYaw (S1 14) (S1 13 1) (sp_X1_freshAt (sub2 S1 13) 0)) (by omega) (by omega) _) (va_cwS 2 hts gX7_failBackwards_X1_isLeftOut rfl rfl rfl (by decide +kernel) ⟨(Nat.le_of_ble_eq_true rfl), (Nat.le_of_ble_eq_true rfl)⟩) (z_preS hK hG hA hP hD hS [] rfl (by decide)) rfl rfl hl.1 rfl (lv_room (Nat.le_of_ble_eq_true rfl)) dX7_failBackwards_95 ⟨(Nat.le_of_ble_eq_true rfl), (Nat.le_of_ble_eq_true rfl)⟩) hA hP hD hS [] rfl (fun H locs hP hS => ?_)
            refine zi_if_neB (tgt := 105) hx hb dX7_failBackwards_98 (by decide) (fun c_58 => ?_) (fun c_58 => ?_)
            · refine lv_iinc (v := iI (0)) (lv' := [(8, .int (iI 0)), (7, .int (iI 3)), (6, .int (iI (wYaw (S1 14) (S1 13 1) (sp_X1_freshAt (sub2 S1 13) 0)))), (5, .int (iI (wNum (S1 7) (S1 6 1) p1 1))), (4, .int (iI (wNum (S1 7) (S1 6 1) p1 0))), (3, .ref ((subA a0 1) 5)), (0, .ref (a0 0)), (1, .int (iI 1)), (2, .int (iI p1))]) hx hb dX7_failBackwards_105 hl (k := 0) rfl (iI_add 1 (-1)) (by decide) rfl (fun ls hl => ?_)
              refine lv_goto (tgt := 72) hx hb dX7_failBackwards_108 (by decide) ?_
              refine lv_iload hx hb dX7_failBackwards_72 (lv_at hl 0 rfl) ?_
              refine lv_iconst (v := iI 1) hx hb dX7_failBackwards_74 rfl ?_
              refine zi_icmp_lt (tgt := 111) hx hb dX7_failBackwards_75 (by decide) ⟨by omega, by omega⟩ ⟨by omega, by omega⟩ (fun _ => ?_) (fun c_59 => absurd c_59 (by omega))
              refine lv_iload hx hb dX7_failBackwards_111 (lv_at hl 1 rfl) ?_
              exact z_iret hx hb hr hlocks hP hS dX7_failBackwards_113 (Eq.trans (zif_neg c_2) (Eq.trans (zif_neg c_9) (Eq.trans (zif_neg c_31) (Eq.trans (zif_pos c_54) (Eq.trans (zif_neg c_56) (Eq.trans (zif_pos c_58) rfl)))))) rfl (Nat.le_refl _) (Nat.le_refl _)
            · refine lv_iload hx hb dX7_failBackwards_101 (lv_at hl 0 rfl) ?_
              refine lv_istore (lv' := [(7, .int (iI 1)), (8, .int (iI 1)), (6, .int (iI (wYaw (S1 14) (S1 13 1) (sp_X1_freshAt (sub2 S1 13) 0)))), (5, .int (iI (wNum (S1 7) (S1 6 1) p1 1))), (4, .int (iI (wNum (S1 7) (S1 6 1) p1 0))), (3, .ref ((subA a0 1) 5)), (0, .ref (a0 0)), (1, .int (iI 1)), (2, .int (iI p1))]) hx hb dX7_failBackwards_103 hl (by decide) rfl (fun ls hl => ?_)
              refine lv_iinc (v := iI (0)) (lv' := [(8, .int (iI 0)), (7, .int (iI 1)), (6, .int (iI (wYaw (S1 14) (S1 13 1) (sp_X1_freshAt (sub2 S1 13) 0)))), (5, .int (iI (wNum (S1 7) (S1 6 1) p1 1))), (4, .int (iI (wNum (S1 7) (S1 6 1) p1 0))), (3, .ref ((subA a0 1) 5)), (0, .ref (a0 0)), (1, .int (iI 1)), (2, .int (iI p1))]) hx hb dX7_failBackwards_105 hl (k := 1) rfl (iI_add 1 (-1)) (by decide) rfl (fun ls hl => ?_)
              refine lv_goto (tgt := 72) hx hb dX7_failBackwards_108 (by decide) ?_
              refine lv_iload hx hb dX7_failBackwards_72 (lv_at hl 0 rfl) ?_
              refine lv_iconst (v := iI 1) hx hb dX7_failBackwards_74 rfl ?_
              refine zi_icmp_lt (tgt := 111) hx hb dX7_failBackwards_75 (by decide) ⟨by omega, by omega⟩ ⟨by omega, by omega⟩ (fun _ => ?_) (fun c_60 => absurd c_60 (by omega))
              refine lv_iload hx hb dX7_failBackwards_111 (lv_at hl 1 rfl) ?_
              exact z_iret hx hb hr hlocks hP hS dX7_failBackwards_113 (Eq.trans (zif_neg c_2) (Eq.trans (zif_neg c_9) (Eq.trans (zif_neg c_31) (Eq.trans (zif_pos c_54) (Eq.trans (zif_neg c_56) (Eq.trans (zif_neg c_58) rfl)))))) rfl (Nat.le_refl _) (Nat.le_refl _)
        · refine lv_iload hx hb dX7_failBackwards_91 (lv_at hl 0 rfl) ?_
          refine lv_iload hx hb dX7_failBackwards_93 (lv_at hl 2 rfl) ?_
          refine z_ai0 (va_runS (As := [.int (iI 2), .int (iI (wYaw (S1 14) (S1 13 1) (sp_X1_freshAt (sub2 S1 13) 0)))]) (rest := []) ⟨hx, hb, hml, hown, hts⟩ (c_X1_isLeftOut l D k   2 (wYaw (S1 14) (S1 13 1) (sp_X1_freshAt (sub2 S1 13) 0)) (by omega) (by omega) _) (va_cwS 2 hts gX7_failBackwards_X1_isLeftOut rfl rfl rfl (by decide +kernel) ⟨(Nat.le_of_ble_eq_true rfl), (Nat.le_of_ble_eq_true rfl)⟩) (z_preS hK hG hA hP hD hS [] rfl (by decide)) rfl rfl hl.1 rfl (lv_room (Nat.le_of_ble_eq_true rfl)) dX7_failBackwards_95 ⟨(Nat.le_of_ble_eq_true rfl), (Nat.le_of_ble_eq_true rfl)⟩) hA hP hD hS [] rfl (fun H locs hP hS => ?_)
          refine zi_if_neB (tgt := 105) hx hb dX7_failBackwards_98 (by decide) (fun c_61 => ?_) (fun c_61 => ?_)
          · refine lv_iinc (v := iI (1)) (lv' := [(8, .int (iI 1)), (7, .int (iI 3)), (6, .int (iI (wYaw (S1 14) (S1 13 1) (sp_X1_freshAt (sub2 S1 13) 0)))), (5, .int (iI (wNum (S1 7) (S1 6 1) p1 1))), (4, .int (iI (wNum (S1 7) (S1 6 1) p1 0))), (3, .ref ((subA a0 1) 5)), (0, .ref (a0 0)), (1, .int (iI 1)), (2, .int (iI p1))]) hx hb dX7_failBackwards_105 hl (k := 0) rfl (iI_add 2 (-1)) (by decide) rfl (fun ls hl => ?_)
            refine lv_goto (tgt := 72) hx hb dX7_failBackwards_108 (by decide) ?_
            refine lv_iload hx hb dX7_failBackwards_72 (lv_at hl 0 rfl) ?_
            refine lv_iconst (v := iI 1) hx hb dX7_failBackwards_74 rfl ?_
            refine zi_icmp_lt (tgt := 111) hx hb dX7_failBackwards_75 (by decide) ⟨by omega, by omega⟩ ⟨by omega, by omega⟩ (fun c_62 => absurd c_62 (by omega)) (fun _ => ?_)
            refine lv_aload_n hx hb dX7_failBackwards_78 rfl (lv_at hl 5 rfl) ?_
            refine lv_iload hx hb dX7_failBackwards_79 (lv_at hl 4 rfl) ?_
            refine lv_iload hx hb dX7_failBackwards_81 (lv_at hl 3 rfl) ?_
            refine lv_iload hx hb dX7_failBackwards_83 (lv_at hl 0 rfl) ?_
            refine z_ai0 (va_runV (As := [.int (iI (wNum (S1 7) (S1 6 1) p1 0)), .int (iI (wNum (S1 7) (S1 6 1) p1 1)), .int (iI 1)]) (rest := []) ⟨hx, hb, hml, hown, hts⟩ (c_X0_isPassedBy l D k (subA (subA a0 1) 5) (sub2 S1 5)  (wNum (S1 7) (S1 6 1) p1 0) (wNum (S1 7) (S1 6 1) p1 1) 1 (pOK_b hp 5 (by decide)) (by omega) (by omega) (by omega) _) (cwV 3 hts gX7_failBackwards_X0_isPassedBy rfl rfl rfl (by decide +kernel) ⟨(Nat.le_of_ble_eq_true rfl), (Nat.le_of_ble_eq_true rfl)⟩) (z_preV hK hG hA hP hD hS [6, 7, 8] rfl (by decide) 2 rfl rfl) rfl rfl hl.1 rfl (lv_room (Nat.le_of_ble_eq_true rfl)) dX7_failBackwards_85 ⟨(Nat.le_of_ble_eq_true rfl), (Nat.le_of_ble_eq_true rfl)⟩) hA hP hD hS [6, 7, 8] rfl (fun H locs hP hS => ?_)
            refine z_eqi (z2 := zb (wPassed (S1 5) (wNum (S1 7) (S1 6 1) p1 0) (wNum (S1 7) (S1 6 1) p1 1) 1)) rfl ?_
            refine zi_if_neB (tgt := 105) hx hb dX7_failBackwards_88 (by decide) (fun c_63 => ?_) (fun c_63 => ?_)
            · refine lv_iinc (v := iI (0)) (lv' := [(8, .int (iI 0)), (7, .int (iI 3)), (6, .int (iI (wYaw (S1 14) (S1 13 1) (sp_X1_freshAt (sub2 S1 13) 0)))), (5, .int (iI (wNum (S1 7) (S1 6 1) p1 1))), (4, .int (iI (wNum (S1 7) (S1 6 1) p1 0))), (3, .ref ((subA a0 1) 5)), (0, .ref (a0 0)), (1, .int (iI 1)), (2, .int (iI p1))]) hx hb dX7_failBackwards_105 hl (k := 0) rfl (iI_add 1 (-1)) (by decide) rfl (fun ls hl => ?_)
              refine lv_goto (tgt := 72) hx hb dX7_failBackwards_108 (by decide) ?_
              refine lv_iload hx hb dX7_failBackwards_72 (lv_at hl 0 rfl) ?_
              refine lv_iconst (v := iI 1) hx hb dX7_failBackwards_74 rfl ?_
              refine zi_icmp_lt (tgt := 111) hx hb dX7_failBackwards_75 (by decide) ⟨by omega, by omega⟩ ⟨by omega, by omega⟩ (fun _ => ?_) (fun c_64 => absurd c_64 (by omega))
              refine lv_iload hx hb dX7_failBackwards_111 (lv_at hl 1 rfl) ?_
              exact z_iret hx hb hr hlocks hP hS dX7_failBackwards_113 (Eq.trans (zif_neg c_2) (Eq.trans (zif_neg c_9) (Eq.trans (zif_neg c_31) (Eq.trans (zif_neg c_54) (Eq.trans (zif_pos c_61) (Eq.trans (zif_pos c_63) rfl)))))) rfl (Nat.le_refl _) (Nat.le_refl _)
            · refine lv_iload hx hb dX7_failBackwards_91 (lv_at hl 0 rfl) ?_
              refine lv_iload hx hb dX7_failBackwards_93 (lv_at hl 2 rfl) ?_
              refine z_ai0 (va_runS (As := [.int (iI 1), .int (iI (wYaw (S1 14) (S1 13 1) (sp_X1_freshAt (sub2 S1 13) 0)))]) (rest := []) ⟨hx, hb, hml, hown, hts⟩ (c_X1_isLeftOut l D k   1 (wYaw (S1 14) (S1 13 1) (sp_X1_freshAt (sub2 S1 13) 0)) (by omega) (by omega) _) (va_cwS 2 hts gX7_failBackwards_X1_isLeftOut rfl rfl rfl (by decide +kernel) ⟨(Nat.le_of_ble_eq_true rfl), (Nat.le_of_ble_eq_true rfl)⟩) (z_preS hK hG hA hP hD hS [] rfl (by decide)) rfl rfl hl.1 rfl (lv_room (Nat.le_of_ble_eq_true rfl)) dX7_failBackwards_95 ⟨(Nat.le_of_ble_eq_true rfl), (Nat.le_of_ble_eq_true rfl)⟩) hA hP hD hS [] rfl (fun H locs hP hS => ?_)
              refine zi_if_neB (tgt := 105) hx hb dX7_failBackwards_98 (by decide) (fun c_65 => ?_) (fun c_65 => ?_)
              · refine lv_iinc (v := iI (0)) (lv' := [(8, .int (iI 0)), (7, .int (iI 3)), (6, .int (iI (wYaw (S1 14) (S1 13 1) (sp_X1_freshAt (sub2 S1 13) 0)))), (5, .int (iI (wNum (S1 7) (S1 6 1) p1 1))), (4, .int (iI (wNum (S1 7) (S1 6 1) p1 0))), (3, .ref ((subA a0 1) 5)), (0, .ref (a0 0)), (1, .int (iI 1)), (2, .int (iI p1))]) hx hb dX7_failBackwards_105 hl (k := 0) rfl (iI_add 1 (-1)) (by decide) rfl (fun ls hl => ?_)
                refine lv_goto (tgt := 72) hx hb dX7_failBackwards_108 (by decide) ?_
                refine lv_iload hx hb dX7_failBackwards_72 (lv_at hl 0 rfl) ?_
                refine lv_iconst (v := iI 1) hx hb dX7_failBackwards_74 rfl ?_
                refine zi_icmp_lt (tgt := 111) hx hb dX7_failBackwards_75 (by decide) ⟨by omega, by omega⟩ ⟨by omega, by omega⟩ (fun _ => ?_) (fun c_66 => absurd c_66 (by omega))
                refine lv_iload hx hb dX7_failBackwards_111 (lv_at hl 1 rfl) ?_
                exact z_iret hx hb hr hlocks hP hS dX7_failBackwards_113 (Eq.trans (zif_neg c_2) (Eq.trans (zif_neg c_9) (Eq.trans (zif_neg c_31) (Eq.trans (zif_neg c_54) (Eq.trans (zif_pos c_61) (Eq.trans (zif_neg c_63) (Eq.trans (zif_pos c_65) rfl))))))) rfl (Nat.le_refl _) (Nat.le_refl _)
              · refine lv_iload hx hb dX7_failBackwards_101 (lv_at hl 0 rfl) ?_
                refine lv_istore (lv' := [(7, .int (iI 1)), (8, .int (iI 1)), (6, .int (iI (wYaw (S1 14) (S1 13 1) (sp_X1_freshAt (sub2 S1 13) 0)))), (5, .int (iI (wNum (S1 7) (S1 6 1) p1 1))), (4, .int (iI (wNum (S1 7) (S1 6 1) p1 0))), (3, .ref ((subA a0 1) 5)), (0, .ref (a0 0)), (1, .int (iI 1)), (2, .int (iI p1))]) hx hb dX7_failBackwards_103 hl (by decide) rfl (fun ls hl => ?_)
                refine lv_iinc (v := iI (0)) (lv' := [(8, .int (iI 0)), (7, .int (iI 1)), (6, .int (iI (wYaw (S1 14) (S1 13 1) (sp_X1_freshAt (sub2 S1 13) 0)))), (5, .int (iI (wNum (S1 7) (S1 6 1) p1 1))), (4, .int (iI (wNum (S1 7) (S1 6 1) p1 0))), (3, .ref ((subA a0 1) 5)), (0, .ref (a0 0)), (1, .int (iI 1)), (2, .int (iI p1))]) hx hb dX7_failBackwards_105 hl (k := 1) rfl (iI_add 1 (-1)) (by decide) rfl (fun ls hl => ?_)
                refine lv_goto (tgt := 72) hx hb dX7_failBackwards_108 (by decide) ?_
                refine lv_iload hx hb dX7_failBackwards_72 (lv_at hl 0 rfl) ?_
                refine lv_iconst (v := iI 1) hx hb dX7_failBackwards_74 rfl ?_
                refine zi_icmp_lt (tgt := 111) hx hb dX7_failBackwards_75 (by decide) ⟨by omega, by omega⟩ ⟨by omega, by omega⟩ (fun _ => ?_) (fun c_67 => absurd c_67 (by omega))
                refine lv_iload hx hb dX7_failBackwards_111 (lv_at hl 1 rfl) ?_
                exact z_iret hx hb hr hlocks hP hS dX7_failBackwards_113 (Eq.trans (zif_neg c_2) (Eq.trans (zif_neg c_9) (Eq.trans (zif_neg c_31) (Eq.trans (zif_neg c_54) (Eq.trans (zif_pos c_61) (Eq.trans (zif_neg c_63) (Eq.trans (zif_neg c_65) rfl))))))) rfl (Nat.le_refl _) (Nat.le_refl _)
          · refine lv_iload hx hb dX7_failBackwards_101 (lv_at hl 0 rfl) ?_
            refine lv_istore (lv' := [(7, .int (iI 2)), (8, .int (iI 2)), (6, .int (iI (wYaw (S1 14) (S1 13 1) (sp_X1_freshAt (sub2 S1 13) 0)))), (5, .int (iI (wNum (S1 7) (S1 6 1) p1 1))), (4, .int (iI (wNum (S1 7) (S1 6 1) p1 0))), (3, .ref ((subA a0 1) 5)), (0, .ref (a0 0)), (1, .int (iI 1)), (2, .int (iI p1))]) hx hb dX7_failBackwards_103 hl (by decide) rfl (fun ls hl => ?_)
            refine lv_iinc (v := iI (1)) (lv' := [(8, .int (iI 1)), (7, .int (iI 2)), (6, .int (iI (wYaw (S1 14) (S1 13 1) (sp_X1_freshAt (sub2 S1 13) 0)))), (5, .int (iI (wNum (S1 7) (S1 6 1) p1 1))), (4, .int (iI (wNum (S1 7) (S1 6 1) p1 0))), (3, .ref ((subA a0 1) 5)), (0, .ref (a0 0)), (1, .int (iI 1)), (2, .int (iI p1))]) hx hb dX7_failBackwards_105 hl (k := 1) rfl (iI_add 2 (-1)) (by decide) rfl (fun ls hl => ?_)
            refine lv_goto (tgt := 72) hx hb dX7_failBackwards_108 (by decide) ?_
            refine lv_iload hx hb dX7_failBackwards_72 (lv_at hl 0 rfl) ?_
            refine lv_iconst (v := iI 1) hx hb dX7_failBackwards_74 rfl ?_
            refine zi_icmp_lt (tgt := 111) hx hb dX7_failBackwards_75 (by decide) ⟨by omega, by omega⟩ ⟨by omega, by omega⟩ (fun c_68 => absurd c_68 (by omega)) (fun _ => ?_)
            refine lv_aload_n hx hb dX7_failBackwards_78 rfl (lv_at hl 5 rfl) ?_
            refine lv_iload hx hb dX7_failBackwards_79 (lv_at hl 4 rfl) ?_
            refine lv_iload hx hb dX7_failBackwards_81 (lv_at hl 3 rfl) ?_
            refine lv_iload hx hb dX7_failBackwards_83 (lv_at hl 0 rfl) ?_
            refine z_ai0 (va_runV (As := [.int (iI (wNum (S1 7) (S1 6 1) p1 0)), .int (iI (wNum (S1 7) (S1 6 1) p1 1)), .int (iI 1)]) (rest := []) ⟨hx, hb, hml, hown, hts⟩ (c_X0_isPassedBy l D k (subA (subA a0 1) 5) (sub2 S1 5)  (wNum (S1 7) (S1 6 1) p1 0) (wNum (S1 7) (S1 6 1) p1 1) 1 (pOK_b hp 5 (by decide)) (by omega) (by omega) (by omega) _) (cwV 3 hts gX7_failBackwards_X0_isPassedBy rfl rfl rfl (by decide +kernel) ⟨(Nat.le_of_ble_eq_true rfl), (Nat.le_of_ble_eq_true rfl)⟩) (z_preV hK hG hA hP hD hS [6, 7, 8] rfl (by decide) 2 rfl rfl) rfl rfl hl.1 rfl (lv_room (Nat.le_of_ble_eq_true rfl)) dX7_failBackwards_85 ⟨(Nat.le_of_ble_eq_true rfl), (Nat.le_of_ble_eq_true rfl)⟩) hA hP hD hS [6, 7, 8] rfl (fun H locs hP hS => ?_)
            refine z_eqi (z2 := zb (wPassed (S1 5) (wNum (S1 7) (S1 6 1) p1 0) (wNum (S1 7) (S1 6 1) p1 1) 1)) rfl ?_
            refine zi_if_neB (tgt := 105) hx hb dX7_failBackwards_88 (by decide) (fun c_69 => ?_) (fun c_69 => ?_)
            · refine lv_iinc (v := iI (0)) (lv' := [(8, .int (iI 0)), (7, .int (iI 2)), (6, .int (iI (wYaw (S1 14) (S1 13 1) (sp_X1_freshAt (sub2 S1 13) 0)))), (5, .int (iI (wNum (S1 7) (S1 6 1) p1 1))), (4, .int (iI (wNum (S1 7) (S1 6 1) p1 0))), (3, .ref ((subA a0 1) 5)), (0, .ref (a0 0)), (1, .int (iI 1)), (2, .int (iI p1))]) hx hb dX7_failBackwards_105 hl (k := 0) rfl (iI_add 1 (-1)) (by decide) rfl (fun ls hl => ?_)
              refine lv_goto (tgt := 72) hx hb dX7_failBackwards_108 (by decide) ?_
              refine lv_iload hx hb dX7_failBackwards_72 (lv_at hl 0 rfl) ?_
              refine lv_iconst (v := iI 1) hx hb dX7_failBackwards_74 rfl ?_
              refine zi_icmp_lt (tgt := 111) hx hb dX7_failBackwards_75 (by decide) ⟨by omega, by omega⟩ ⟨by omega, by omega⟩ (fun _ => ?_) (fun c_70 => absurd c_70 (by omega))
              refine lv_iload hx hb dX7_failBackwards_111 (lv_at hl 1 rfl) ?_
              exact z_iret hx hb hr hlocks hP hS dX7_failBackwards_113 (Eq.trans (zif_neg c_2) (Eq.trans (zif_neg c_9) (Eq.trans (zif_neg c_31) (Eq.trans (zif_neg c_54) (Eq.trans (zif_neg c_61) (Eq.trans (zif_pos c_69) rfl)))))) rfl (Nat.le_refl _) (Nat.le_refl _)
            · refine lv_iload hx hb dX7_failBackwards_91 (lv_at hl 0 rfl) ?_
              refine lv_iload hx hb dX7_failBackwards_93 (lv_at hl 2 rfl) ?_
              refine z_ai0 (va_runS (As := [.int (iI 1), .int (iI (wYaw (S1 14) (S1 13 1) (sp_X1_freshAt (sub2 S1 13) 0)))]) (rest := []) ⟨hx, hb, hml, hown, hts⟩ (c_X1_isLeftOut l D k   1 (wYaw (S1 14) (S1 13 1) (sp_X1_freshAt (sub2 S1 13) 0)) (by omega) (by omega) _) (va_cwS 2 hts gX7_failBackwards_X1_isLeftOut rfl rfl rfl (by decide +kernel) ⟨(Nat.le_of_ble_eq_true rfl), (Nat.le_of_ble_eq_true rfl)⟩) (z_preS hK hG hA hP hD hS [] rfl (by decide)) rfl rfl hl.1 rfl (lv_room (Nat.le_of_ble_eq_true rfl)) dX7_failBackwards_95 ⟨(Nat.le_of_ble_eq_true rfl), (Nat.le_of_ble_eq_true rfl)⟩) hA hP hD hS [] rfl (fun H locs hP hS => ?_)
              refine zi_if_neB (tgt := 105) hx hb dX7_failBackwards_98 (by decide) (fun c_71 => ?_) (fun c_71 => ?_)
              · refine lv_iinc (v := iI (0)) (lv' := [(8, .int (iI 0)), (7, .int (iI 2)), (6, .int (iI (wYaw (S1 14) (S1 13 1) (sp_X1_freshAt (sub2 S1 13) 0)))), (5, .int (iI (wNum (S1 7) (S1 6 1) p1 1))), (4, .int (iI (wNum (S1 7) (S1 6 1) p1 0))), (3, .ref ((subA a0 1) 5)), (0, .ref (a0 0)), (1, .int (iI 1)), (2, .int (iI p1))]) hx hb dX7_failBackwards_105 hl (k := 0) rfl (iI_add 1 (-1)) (by decide) rfl (fun ls hl => ?_)
                refine lv_goto (tgt := 72) hx hb dX7_failBackwards_108 (by decide) ?_
                refine lv_iload hx hb dX7_failBackwards_72 (lv_at hl 0 rfl) ?_
                refine lv_iconst (v := iI 1) hx hb dX7_failBackwards_74 rfl ?_
                refine zi_icmp_lt (tgt := 111) hx hb dX7_failBackwards_75 (by decide) ⟨by omega, by omega⟩ ⟨by omega, by omega⟩ (fun _ => ?_) (fun c_72 => absurd c_72 (by omega))
                refine lv_iload hx hb dX7_failBackwards_111 (lv_at hl 1 rfl) ?_
                exact z_iret hx hb hr hlocks hP hS dX7_failBackwards_113 (Eq.trans (zif_neg c_2) (Eq.trans (zif_neg c_9) (Eq.trans (zif_neg c_31) (Eq.trans (zif_neg c_54) (Eq.trans (zif_neg c_61) (Eq.trans (zif_neg c_69) (Eq.trans (zif_pos c_71) rfl))))))) rfl (Nat.le_refl _) (Nat.le_refl _)
              · refine lv_iload hx hb dX7_failBackwards_101 (lv_at hl 0 rfl) ?_
                refine lv_istore (lv' := [(7, .int (iI 1)), (8, .int (iI 1)), (6, .int (iI (wYaw (S1 14) (S1 13 1) (sp_X1_freshAt (sub2 S1 13) 0)))), (5, .int (iI (wNum (S1 7) (S1 6 1) p1 1))), (4, .int (iI (wNum (S1 7) (S1 6 1) p1 0))), (3, .ref ((subA a0 1) 5)), (0, .ref (a0 0)), (1, .int (iI 1)), (2, .int (iI p1))]) hx hb dX7_failBackwards_103 hl (by decide) rfl (fun ls hl => ?_)
                refine lv_iinc (v := iI (0)) (lv' := [(8, .int (iI 0)), (7, .int (iI 1)), (6, .int (iI (wYaw (S1 14) (S1 13 1) (sp_X1_freshAt (sub2 S1 13) 0)))), (5, .int (iI (wNum (S1 7) (S1 6 1) p1 1))), (4, .int (iI (wNum (S1 7) (S1 6 1) p1 0))), (3, .ref ((subA a0 1) 5)), (0, .ref (a0 0)), (1, .int (iI 1)), (2, .int (iI p1))]) hx hb dX7_failBackwards_105 hl (k := 1) rfl (iI_add 1 (-1)) (by decide) rfl (fun ls hl => ?_)
                refine lv_goto (tgt := 72) hx hb dX7_failBackwards_108 (by decide) ?_
                refine lv_iload hx hb dX7_failBackwards_72 (lv_at hl 0 rfl) ?_
                refine lv_iconst (v := iI 1) hx hb dX7_failBackwards_74 rfl ?_
                refine zi_icmp_lt (tgt := 111) hx hb dX7_failBackwards_75 (by decide) ⟨by omega, by omega⟩ ⟨by omega, by omega⟩ (fun _ => ?_) (fun c_73 => absurd c_73 (by omega))
                refine lv_iload hx hb dX7_failBackwards_111 (lv_at hl 1 rfl) ?_
                exact z_iret hx hb hr hlocks hP hS dX7_failBackwards_113 (Eq.trans (zif_neg c_2) (Eq.trans (zif_neg c_9) (Eq.trans (zif_neg c_31) (Eq.trans (zif_neg c_54) (Eq.trans (zif_neg c_61) (Eq.trans (zif_neg c_69) (Eq.trans (zif_neg c_71) rfl))))))) rfl (Nat.le_refl _) (Nat.le_refl _)
  · refine lv_iconst (v := iI 0) hx hb dX7_failBackwards_21 rfl ?_
    exact z_iret hx hb hr hlocks hP hS dX7_failBackwards_22 (Eq.trans (zif_pos c_2) rfl) rfl (Nat.le_refl _) (Nat.le_refl _)
set_option maxHeartbeats 4000000 in
set_option maxRecDepth 100000 in
theorem c_X7_failInThought_2 (l : Launch) (D : va_G) (k : Nat → ClassId) (a0 : Nat → Nat) (S0 : Nat → Nat → Int) (S1 : Nat → Nat → Int) (S2 : Nat → Nat → Int) (p1 : Int) (hp : pOK S1) (hat : aOK S2) (h1 : -2147483648 ≤ p1 ∧ p1 < 2147483648) (hc : 0 ≤ p1 ∧ p1 < S1 9 1) : zMi l yX7_failInThought wsX7_failInThought ({ frames := 4, cells := 0, slots := 0, locals := 104 } : Room) D k [.ref (a0 0), .int (iI 2), .int (iI p1)] (wFac k a0 S0 ++ (wPlant k (subA a0 1) S1 ++ wPlant k (subA a0 16) S2)) (sp_X5_inspectFront_2 (upA (upA ((wCopy S2 S1)) 9 (upZ ((((wCopy S2 S1)) 9)) 1 (wCutK (((((wCopy S2 S1)) 9) 1)) 0 p1))) 10 (wCutN ((((wCopy S2 S1)) 10)) (((((wCopy S2 S1)) 9) 1)) 0 p1))) (wFac k a0 S0 ++ (wPlant k (subA a0 1) S1 ++ wPlant k (subA a0 16) ((wInsp2 (upA (upA ((wCopy S2 S1)) 9 (upZ ((((wCopy S2 S1)) 9)) 1 (wCutK (((((wCopy S2 S1)) 9) 1)) 0 p1))) 10 (wCutN ((((wCopy S2 S1)) 10)) (((((wCopy S2 S1)) 9) 1)) 0 p1)))))) 0 0 := by
  refine zMi_of (cc := cX7_failInThought) (maxL := 3) (ret := (some .int)) (by decide) rfl (Nat.le_of_ble_eq_true rfl) ?_
  intro p e s m args below meth c A ls hx hb hr hml hown hts hlocks hK hP hD hG hA hS hl
  have hown : s.vm.findClass RX7 = some m.cls := hown
  have hl : lv_has ls 3 [(0, .ref (a0 0)), (1, .int (iI 2)), (2, .int (iI p1))] := hl
  obtain ⟨H, hH⟩ : ∃ z, z = s.heap := ⟨_, rfl⟩
  obtain ⟨locs, hlc⟩ : ∃ z : List Loc, z = [] := ⟨_, rfl⟩
  rw [← hH] at hP
  have hS : va_S A s.heap H locs := by rw [hH, hlc]; exact hS
  rw [← hlc, ← hH]
  clear hlc hH
  have kp := hp.2
  refine lv_aload_n hx hb dX7_failInThought_0 rfl (lv_at hl 0 rfl) ?_
  refine va_get (D := D) (ci := 9) (v := .ref ((subA a0 16) 0)) (C := RX7) (T := TX7) (N := 11) hx hb hts (fun w h => List.mem_cons_of_mem _ (List.mem_append_left _ (List.mem_append_left _ (List.mem_append_left _ (List.mem_append_left _ (List.mem_append_left _ (List.mem_append_right _ h))))))) hown hK hP 0 rfl rfl 1 (by decide) (hts (.fieldLink RX7 16 "MondayFactory" "thought" "LMondayFactory$Plant;") (List.mem_of_getElem? (i := 1) rfl)) (fun _ h9 => h9) rfl dX7_failInThought_1 ?_
  refine lv_aload_n hx hb dX7_failInThought_4 rfl (lv_at hl 0 rfl) ?_
  refine va_get (D := D) (ci := 9) (v := .ref ((subA a0 1) 0)) (C := RX7) (T := TX7) (N := 11) hx hb hts (fun w h => List.mem_cons_of_mem _ (List.mem_append_left _ (List.mem_append_left _ (List.mem_append_left _ (List.mem_append_left _ (List.mem_append_left _ (List.mem_append_right _ h))))))) hown hK hP 0 rfl rfl 0 (by decide) (hts (.fieldLink RX7 10 "MondayFactory" "plant" "LMondayFactory$Plant;") (List.mem_of_getElem? (i := 2) rfl)) (fun _ h9 => h9) rfl dX7_failInThought_5 ?_
  refine z_av (va_runV (As := [.ref ((subA a0 1) 0)]) (rest := []) ⟨hx, hb, hml, hown, hts⟩ (c_X5_copyW l D k ((subA a0 16)) S2 ((subA a0 1)) S1   (by omega) (by omega) (by omega) (by omega) _) (cwV 1 hts gX7_failInThought_X5_copyFrom rfl rfl rfl (by decide +kernel) ⟨(Nat.le_of_ble_eq_true rfl), (Nat.le_of_ble_eq_true rfl)⟩) (z_preV hK hG hA hP hD hS (zrg 16 15 ++ zrg 1 15) (z_mcat (z_sk (n := 1) (off := 15) (m := 15) rfl (z_sk (n := 15) (off := 0) (m := 15) rfl (z_hdl (n := 15) rfl))) (z_sk (n := 1) (off := 0) (m := 15) rfl (z_hd (n := 15) rfl))) (by decide +kernel) 7 rfl rfl) rfl rfl hl.1 rfl (lv_room (Nat.le_of_ble_eq_true rfl)) dX7_failInThought_8 ⟨(Nat.le_of_ble_eq_true rfl), (Nat.le_of_ble_eq_true rfl)⟩) hA hP hD hS (zrg 16 15 ++ zrg 1 15) (z_mcat (z_sk (n := 1) (off := 15) (m := 15) rfl (z_sk (n := 15) (off := 0) (m := 15) rfl (z_hdl (n := 15) rfl))) (z_sk (n := 1) (off := 0) (m := 15) rfl (z_hd (n := 15) rfl))) (z_mfst rfl rfl) (fun H locs hP hD hS => ?_)
  have hz_2 : zset (wFac k a0 S0 ++ (wPlant k (subA a0 1) S1 ++ wPlant k (subA a0 16) S2)) (zrg 16 15) (wPlant k (subA a0 16) ((wCopy S2 S1))) = wFac k a0 S0 ++ (wPlant k (subA a0 1) S1 ++ wPlant k (subA a0 16) ((wCopy S2 S1))) := (z_zsk (n := 1) (off := 15) (m := 15) rfl (z_zsk (n := 15) (off := 0) (m := 15) rfl (z_zhl (n := 15) rfl rfl)))
  have hz_3 : zset (wFac k a0 S0 ++ (wPlant k (subA a0 1) S1 ++ wPlant k (subA a0 16) ((wCopy S2 S1)))) (zrg 1 15) (wPlant k (subA a0 1) S1) = wFac k a0 S0 ++ (wPlant k (subA a0 1) S1 ++ wPlant k (subA a0 16) ((wCopy S2 S1))) := (z_zsk (n := 1) (off := 0) (m := 15) rfl (z_zhd (n := 15) rfl rfl))
  have hE_1 : zset (wFac k a0 S0 ++ (wPlant k (subA a0 1) S1 ++ wPlant k (subA a0 16) S2)) (zrg 16 15 ++ zrg 1 15) (wPlant k (subA a0 16) ((wCopy S2 S1)) ++ wPlant k (subA a0 1) S1) = wFac k a0 S0 ++ (wPlant k (subA a0 1) S1 ++ wPlant k (subA a0 16) ((wCopy S2 S1))) := (z_zcat rfl hz_2 hz_3)
  have hP : va_P D vwCl (wFac k a0 S0 ++ (wPlant k (subA a0 1) S1 ++ wPlant k (subA a0 16) ((wCopy S2 S1)))) H := z_to hE_1 hP
  have hD : va_D A (wFac k a0 S0 ++ (wPlant k (subA a0 1) S1 ++ wPlant k (subA a0 16) ((wCopy S2 S1)))) := z_to2 hE_1 hD
  have ob_4 : pOK ((wCopy S2 S1)) := pOK_copy hat hp
  have ob_4k := ob_4.2
  refine lv_aload_n hx hb dX7_failInThought_11 rfl (lv_at hl 0 rfl) ?_
  refine va_get (D := D) (ci := 9) (v := .ref ((subA a0 16) 0)) (C := RX7) (T := TX7) (N := 11) hx hb hts (fun w h => List.mem_cons_of_mem _ (List.mem_append_left _ (List.mem_append_left _ (List.mem_append_left _ (List.mem_append_left _ (List.mem_append_left _ (List.mem_append_right _ h))))))) hown hK hP 0 rfl rfl 1 (by decide) (hts (.fieldLink RX7 16 "MondayFactory" "thought" "LMondayFactory$Plant;") (List.mem_of_getElem? (i := 1) rfl)) (fun _ h9 => h9) rfl dX7_failInThought_12 ?_
  refine va_get (D := D) (ci := 7) (v := .ref ((subA a0 16) 1)) (C := RX5) (T := TX5) (N := 11) hx hb hts (fun w h => List.mem_cons_of_mem _ (List.mem_append_left _ (List.mem_append_left _ (List.mem_append_left _ (List.mem_append_left _ (List.mem_append_right _ h)))))) hown hK hP 16 rfl rfl 0 (by decide) (hts (.fieldLink RX7 72 "MondayFactory$Plant" "belts" "[LMondayFactory$Belt;") (List.mem_of_getElem? (i := 3) rfl)) (fun _ h9 => h9) rfl dX7_failInThought_15 ?_
  refine lv_iload_n hx hb dX7_failInThought_18 rfl (lv_at hl 1 rfl) ?_
  refine z_aald hx hb hK hP 17 2 (f := fun j => some ((subA a0 16) (2 + 3 * j))) (q := (subA a0 16) 8) rfl rfl (i := 2) (by omega) (by omega) (by decide) rfl dX7_failInThought_19 ?_
  refine va_get (D := D) (ci := 2) (v := .ref ((subA a0 16) 9)) (C := RX0) (T := TX0) (N := 6) hx hb hts (fun w h => List.mem_cons_of_mem _ (List.mem_append_left _ (List.mem_append_left _ (List.mem_append_left _ (List.mem_append_right _ h))))) hown hK hP 24 rfl rfl 0 (by decide) (hts (.fieldLink RX7 76 "MondayFactory$Belt" "row" "LMondayFactory$Row;") (List.mem_of_getElem? (i := 4) rfl)) (fun _ h9 => h9) rfl dX7_failInThought_20 ?_
  refine lv_iconst (v := iI 0) hx hb dX7_failInThought_23 rfl ?_
  refine lv_iload_n hx hb dX7_failInThought_24 rfl (lv_at hl 2 rfl) ?_
  refine z_av (va_runV (As := [.int (iI 0), .int (iI p1)]) (rest := []) ⟨hx, hb, hml, hown, hts⟩ (c_X6_cut l D k (subA (subA a0 16) 9) (sub2 ((wCopy S2 S1)) 9)  0 p1 (by have e0 : ((sub2 ((wCopy S2 S1)) 9) 0 1) = (((wCopy S2 S1)) 9) 1 := rfl; omega) (by omega) (by omega) _) (cwV 2 hts gX7_failInThought_X6_cut rfl rfl rfl (by decide +kernel) ⟨(Nat.le_of_ble_eq_true rfl), (Nat.le_of_ble_eq_true rfl)⟩) (z_preV hK hG hA hP hD hS [25, 26] rfl (by decide) 8 rfl rfl) rfl rfl hl.1 rfl (lv_room (Nat.le_of_ble_eq_true rfl)) dX7_failInThought_25 ⟨(Nat.le_of_ble_eq_true rfl), (Nat.le_of_ble_eq_true rfl)⟩) hA hP hD hS [25, 26] rfl rfl (fun H locs hP hD hS => ?_)
  have hP : va_P D vwCl (wFac k a0 S0 ++ (wPlant k (subA a0 1) S1 ++ wPlant k (subA a0 16) (upA (upA ((wCopy S2 S1)) 9 (upZ ((((wCopy S2 S1)) 9)) 1 (wCutK (((((wCopy S2 S1)) 9) 1)) 0 p1))) 10 (wCutN ((((wCopy S2 S1)) 10)) (((((wCopy S2 S1)) 9) 1)) 0 p1)))) H := hP
  have hD : va_D A (wFac k a0 S0 ++ (wPlant k (subA a0 1) S1 ++ wPlant k (subA a0 16) (upA (upA ((wCopy S2 S1)) 9 (upZ ((((wCopy S2 S1)) 9)) 1 (wCutK (((((wCopy S2 S1)) 9) 1)) 0 p1))) 10 (wCutN ((((wCopy S2 S1)) 10)) (((((wCopy S2 S1)) 9) 1)) 0 p1)))) := hD
  have q_5 : 0 ≤ wCutK (((((wCopy S2 S1)) 9) 1)) 0 p1 ∧ wCutK (((((wCopy S2 S1)) 9) 1)) 0 p1 ≤ ((((wCopy S2 S1)) 9) 1) := wCutK_rng (by have e0 : ((sub2 ((wCopy S2 S1)) 9) 0 1) = (((wCopy S2 S1)) 9) 1 := rfl; omega)
  refine lv_aload_n hx hb dX7_failInThought_28 rfl (lv_at hl 0 rfl) ?_
  refine va_get (D := D) (ci := 9) (v := .ref ((subA a0 16) 0)) (C := RX7) (T := TX7) (N := 11) hx hb hts (fun w h => List.mem_cons_of_mem _ (List.mem_append_left _ (List.mem_append_left _ (List.mem_append_left _ (List.mem_append_left _ (List.mem_append_left _ (List.mem_append_right _ h))))))) hown hK hP 0 rfl rfl 1 (by decide) (hts (.fieldLink RX7 16 "MondayFactory" "thought" "LMondayFactory$Plant;") (List.mem_of_getElem? (i := 1) rfl)) (fun _ h9 => h9) rfl dX7_failInThought_29 ?_
  refine lv_iload_n hx hb dX7_failInThought_32 rfl (lv_at hl 1 rfl) ?_
  refine z_ai (va_runV (As := [.int (iI 2)]) (rest := []) ⟨hx, hb, hml, hown, hts⟩ (c_X5_inspW2 l D k ((subA a0 16)) (upA (upA ((wCopy S2 S1)) 9 (upZ ((((wCopy S2 S1)) 9)) 1 (wCutK (((((wCopy S2 S1)) 9) 1)) 0 p1))) 10 (wCutN ((((wCopy S2 S1)) 10)) (((((wCopy S2 S1)) 9) 1)) 0 p1))   (pOK_b ob_4 8 (by decide)) (zBf.wcut (pOK_b ob_4 10 (by decide)) ) (pOK_b ob_4 14 (by decide)) (by have e0 : ((upA (upA ((wCopy S2 S1)) 9 (upZ ((((wCopy S2 S1)) 9)) 1 (wCutK (((((wCopy S2 S1)) 9) 1)) 0 p1))) 10 (wCutN ((((wCopy S2 S1)) 10)) (((((wCopy S2 S1)) 9) 1)) 0 p1)) 9 1) = wCutK (((((wCopy S2 S1)) 9) 1)) 0 p1 := (show (upZ ((((wCopy S2 S1)) 9)) 1 (wCutK (((((wCopy S2 S1)) 9) 1)) 0 p1)) 1 = wCutK (((((wCopy S2 S1)) 9) 1)) 0 p1 from (Eq.trans upZ_s rfl)); omega) (by have e0 : ((upA (upA ((wCopy S2 S1)) 9 (upZ ((((wCopy S2 S1)) 9)) 1 (wCutK (((((wCopy S2 S1)) 9) 1)) 0 p1))) 10 (wCutN ((((wCopy S2 S1)) 10)) (((((wCopy S2 S1)) 9) 1)) 0 p1)) 11 1) = (((wCopy S2 S1)) 11) 1 := rfl; omega) (by have e0 : ((upA (upA ((wCopy S2 S1)) 9 (upZ ((((wCopy S2 S1)) 9)) 1 (wCutK (((((wCopy S2 S1)) 9) 1)) 0 p1))) 10 (wCutN ((((wCopy S2 S1)) 10)) (((((wCopy S2 S1)) 9) 1)) 0 p1)) 13 1) = (((wCopy S2 S1)) 13) 1 := rfl; omega) _) (cwV 1 hts gX7_failInThought_X5_inspectFront rfl rfl rfl (by decide +kernel) ⟨(Nat.le_of_ble_eq_true rfl), (Nat.le_of_ble_eq_true rfl)⟩) (z_preV hK hG hA hP hD hS (zrg 16 15) (z_sk (n := 1) (off := 15) (m := 15) rfl (z_sk (n := 15) (off := 0) (m := 15) rfl (z_hdl (n := 15) rfl))) (by decide +kernel) 7 rfl rfl) rfl rfl hl.1 rfl (lv_room (Nat.le_of_ble_eq_true rfl)) dX7_failInThought_33 ⟨(Nat.le_of_ble_eq_true rfl), (Nat.le_of_ble_eq_true rfl)⟩) hA hP hD hS (zrg 16 15) (z_sk (n := 1) (off := 15) (m := 15) rfl (z_sk (n := 15) (off := 0) (m := 15) rfl (z_hdl (n := 15) rfl))) rfl (fun H locs hP hD hS => ?_)
  have hz_7 : zset (wFac k a0 S0 ++ (wPlant k (subA a0 1) S1 ++ wPlant k (subA a0 16) (upA (upA ((wCopy S2 S1)) 9 (upZ ((((wCopy S2 S1)) 9)) 1 (wCutK (((((wCopy S2 S1)) 9) 1)) 0 p1))) 10 (wCutN ((((wCopy S2 S1)) 10)) (((((wCopy S2 S1)) 9) 1)) 0 p1)))) (zrg 16 15) (wPlant k (subA a0 16) ((wInsp2 (upA (upA ((wCopy S2 S1)) 9 (upZ ((((wCopy S2 S1)) 9)) 1 (wCutK (((((wCopy S2 S1)) 9) 1)) 0 p1))) 10 (wCutN ((((wCopy S2 S1)) 10)) (((((wCopy S2 S1)) 9) 1)) 0 p1))))) = wFac k a0 S0 ++ (wPlant k (subA a0 1) S1 ++ wPlant k (subA a0 16) ((wInsp2 (upA (upA ((wCopy S2 S1)) 9 (upZ ((((wCopy S2 S1)) 9)) 1 (wCutK (((((wCopy S2 S1)) 9) 1)) 0 p1))) 10 (wCutN ((((wCopy S2 S1)) 10)) (((((wCopy S2 S1)) 9) 1)) 0 p1))))) := (z_zsk (n := 1) (off := 15) (m := 15) rfl (z_zsk (n := 15) (off := 0) (m := 15) rfl (z_zhl (n := 15) rfl rfl)))
  have hE_6 : zset (wFac k a0 S0 ++ (wPlant k (subA a0 1) S1 ++ wPlant k (subA a0 16) (upA (upA ((wCopy S2 S1)) 9 (upZ ((((wCopy S2 S1)) 9)) 1 (wCutK (((((wCopy S2 S1)) 9) 1)) 0 p1))) 10 (wCutN ((((wCopy S2 S1)) 10)) (((((wCopy S2 S1)) 9) 1)) 0 p1)))) (zrg 16 15) (wPlant k (subA a0 16) ((wInsp2 (upA (upA ((wCopy S2 S1)) 9 (upZ ((((wCopy S2 S1)) 9)) 1 (wCutK (((((wCopy S2 S1)) 9) 1)) 0 p1))) 10 (wCutN ((((wCopy S2 S1)) 10)) (((((wCopy S2 S1)) 9) 1)) 0 p1))))) = wFac k a0 S0 ++ (wPlant k (subA a0 1) S1 ++ wPlant k (subA a0 16) ((wInsp2 (upA (upA ((wCopy S2 S1)) 9 (upZ ((((wCopy S2 S1)) 9)) 1 (wCutK (((((wCopy S2 S1)) 9) 1)) 0 p1))) 10 (wCutN ((((wCopy S2 S1)) 10)) (((((wCopy S2 S1)) 9) 1)) 0 p1))))) := hz_7
  have hP : va_P D vwCl (wFac k a0 S0 ++ (wPlant k (subA a0 1) S1 ++ wPlant k (subA a0 16) ((wInsp2 (upA (upA ((wCopy S2 S1)) 9 (upZ ((((wCopy S2 S1)) 9)) 1 (wCutK (((((wCopy S2 S1)) 9) 1)) 0 p1))) 10 (wCutN ((((wCopy S2 S1)) 10)) (((((wCopy S2 S1)) 9) 1)) 0 p1)))))) H := z_to hE_6 hP
  have hD : va_D A (wFac k a0 S0 ++ (wPlant k (subA a0 1) S1 ++ wPlant k (subA a0 16) ((wInsp2 (upA (upA ((wCopy S2 S1)) 9 (upZ ((((wCopy S2 S1)) 9)) 1 (wCutK (((((wCopy S2 S1)) 9) 1)) 0 p1))) 10 (wCutN ((((wCopy S2 S1)) 10)) (((((wCopy S2 S1)) 9) 1)) 0 p1)))))) := z_to2 hE_6 hD
  refine z_eqi (z2 := sp_X5_inspectFront_2 (upA (upA ((wCopy S2 S1)) 9 (upZ ((((wCopy S2 S1)) 9)) 1 (wCutK (((((wCopy S2 S1)) 9) 1)) 0 p1))) 10 (wCutN ((((wCopy S2 S1)) 10)) (((((wCopy S2 S1)) 9) 1)) 0 p1))) rfl ?_
  exact z_iret hx hb hr hlocks hP hS dX7_failInThought_36 rfl rfl (Nat.le_refl _) (Nat.le_refl _)
noncomputable def sp_X7_failBackwards_2 (S0 : Nat → Nat → Int) (S1 : Nat → Nat → Int) (p1 : Int) : Int := zif (wNum (S1 10) (S1 9 1) p1 0 = -1)
  (0)
  (zif (wPassed (S1 8) (wNum (S1 10) (S1 9 1) p1 0) (wNum (S1 10) (S1 9 1) p1 1) 3)
    (zif (wPassed (S1 8) (wNum (S1 10) (S1 9 1) p1 0) (wNum (S1 10) (S1 9 1) p1 1) 2)
      (zif (wPassed (S1 8) (wNum (S1 10) (S1 9 1) p1 0) (wNum (S1 10) (S1 9 1) p1 1) 1)
        (0)
        (zif (wLeft 1 (wYaw (S1 14) (S1 13 1) (sp_X1_freshAt (sub2 S1 13) 0)))
          (0)
          (1)))
      (zif (wLeft 2 (wYaw (S1 14) (S1 13 1) (sp_X1_freshAt (sub2 S1 13) 0)))
        (zif (wPassed (S1 8) (wNum (S1 10) (S1 9 1) p1 0) (wNum (S1 10) (S1 9 1) p1 1) 1)
          (0)
          (zif (wLeft 1 (wYaw (S1 14) (S1 13 1) (sp_X1_freshAt (sub2 S1 13) 0)))
            (0)
            (1)))
        (zif (wPassed (S1 8) (wNum (S1 10) (S1 9 1) p1 0) (wNum (S1 10) (S1 9 1) p1 1) 1)
          (2)
          (zif (wLeft 1 (wYaw (S1 14) (S1 13 1) (sp_X1_freshAt (sub2 S1 13) 0)))
            (2)
            (1)))))
    (zif (wLeft 3 (wYaw (S1 14) (S1 13 1) (sp_X1_freshAt (sub2 S1 13) 0)))
      (zif (wPassed (S1 8) (wNum (S1 10) (S1 9 1) p1 0) (wNum (S1 10) (S1 9 1) p1 1) 2)
        (zif (wPassed (S1 8) (wNum (S1 10) (S1 9 1) p1 0) (wNum (S1 10) (S1 9 1) p1 1) 1)
          (0)
          (zif (wLeft 1 (wYaw (S1 14) (S1 13 1) (sp_X1_freshAt (sub2 S1 13) 0)))
            (0)
            (1)))
        (zif (wLeft 2 (wYaw (S1 14) (S1 13 1) (sp_X1_freshAt (sub2 S1 13) 0)))
          (zif (wPassed (S1 8) (wNum (S1 10) (S1 9 1) p1 0) (wNum (S1 10) (S1 9 1) p1 1) 1)
            (0)
            (zif (wLeft 1 (wYaw (S1 14) (S1 13 1) (sp_X1_freshAt (sub2 S1 13) 0)))
              (0)
              (1)))
          (zif (wPassed (S1 8) (wNum (S1 10) (S1 9 1) p1 0) (wNum (S1 10) (S1 9 1) p1 1) 1)
            (2)
            (zif (wLeft 1 (wYaw (S1 14) (S1 13 1) (sp_X1_freshAt (sub2 S1 13) 0)))
              (2)
              (1)))))
      (zif (wPassed (S1 8) (wNum (S1 10) (S1 9 1) p1 0) (wNum (S1 10) (S1 9 1) p1 1) 2)
        (zif (wPassed (S1 8) (wNum (S1 10) (S1 9 1) p1 0) (wNum (S1 10) (S1 9 1) p1 1) 1)
          (3)
          (zif (wLeft 1 (wYaw (S1 14) (S1 13 1) (sp_X1_freshAt (sub2 S1 13) 0)))
            (3)
            (1)))
        (zif (wLeft 2 (wYaw (S1 14) (S1 13 1) (sp_X1_freshAt (sub2 S1 13) 0)))
          (zif (wPassed (S1 8) (wNum (S1 10) (S1 9 1) p1 0) (wNum (S1 10) (S1 9 1) p1 1) 1)
            (3)
            (zif (wLeft 1 (wYaw (S1 14) (S1 13 1) (sp_X1_freshAt (sub2 S1 13) 0)))
              (3)
              (1)))
          (zif (wPassed (S1 8) (wNum (S1 10) (S1 9 1) p1 0) (wNum (S1 10) (S1 9 1) p1 1) 1)
            (2)
            (zif (wLeft 1 (wYaw (S1 14) (S1 13 1) (sp_X1_freshAt (sub2 S1 13) 0)))
              (2)
              (1)))))))
set_option maxHeartbeats 4000000 in
set_option maxRecDepth 100000 in
theorem c_X7_failBackwards_2 (l : Launch) (D : va_G) (k : Nat → ClassId) (a0 : Nat → Nat) (S0 : Nat → Nat → Int) (S1 : Nat → Nat → Int) (p1 : Int) (hp : pOK S1) (h1 : -2147483648 ≤ p1 ∧ p1 < 2147483648) (hc : 0 ≤ p1 ∧ p1 < S1 9 1) : zMi l yX7_failBackwards wsX7_failBackwards ({ frames := 2, cells := 0, slots := 0, locals := 47 } : Room) D k [.ref (a0 0), .int (iI 2), .int (iI p1)] (wFac k a0 S0 ++ wPlant k (subA a0 1) S1) (sp_X7_failBackwards_2 S0 S1 p1) (wFac k a0 S0 ++ wPlant k (subA a0 1) S1) 0 0 := by
  refine zMi_of (cc := cX7_failBackwards) (maxL := 9) (ret := (some .int)) (by decide) rfl (Nat.le_of_ble_eq_true rfl) ?_
  intro p e s m args below meth c A ls hx hb hr hml hown hts hlocks hK hP hD hG hA hS hl
  have hown : s.vm.findClass RX7 = some m.cls := hown
  have hl : lv_has ls 9 [(0, .ref (a0 0)), (1, .int (iI 2)), (2, .int (iI p1))] := hl
  obtain ⟨H, hH⟩ : ∃ z, z = s.heap := ⟨_, rfl⟩
  obtain ⟨locs, hlc⟩ : ∃ z : List Loc, z = [] := ⟨_, rfl⟩
  rw [← hH] at hP
  have hS : va_S A s.heap H locs := by rw [hH, hlc]; exact hS
  rw [← hlc, ← hH]
  clear hlc hH
  have kp := hp.2
  refine lv_aload_n hx hb dX7_failBackwards_0 rfl (lv_at hl 0 rfl) ?_
  refine va_get (D := D) (ci := 9) (v := .ref ((subA a0 1) 0)) (C := RX7) (T := TX7) (N := 11) hx hb hts (fun w h => List.mem_cons_of_mem _ (List.mem_append_left _ (List.mem_append_left _ (List.mem_append_left _ (List.mem_append_left _ (List.mem_append_left _ (List.mem_append_right _ h))))))) hown hK hP 0 rfl rfl 0 (by decide) (hts (.fieldLink RX7 10 "MondayFactory" "plant" "LMondayFactory$Plant;") (List.mem_of_getElem? (i := 1) rfl)) (fun _ h9 => h9) rfl dX7_failBackwards_1 ?_
  refine va_get (D := D) (ci := 7) (v := .ref ((subA a0 1) 1)) (C := RX5) (T := TX5) (N := 11) hx hb hts (fun w h => List.mem_cons_of_mem _ (List.mem_append_left _ (List.mem_append_left _ (List.mem_append_left _ (List.mem_append_left _ (List.mem_append_right _ h)))))) hown hK hP 1 rfl rfl 0 (by decide) (hts (.fieldLink RX7 72 "MondayFactory$Plant" "belts" "[LMondayFactory$Belt;") (List.mem_of_getElem? (i := 2) rfl)) (fun _ h9 => h9) rfl dX7_failBackwards_4 ?_
  refine lv_iload_n hx hb dX7_failBackwards_7 rfl (lv_at hl 1 rfl) ?_
  refine z_aald hx hb hK hP 2 2 (f := fun j => some ((subA a0 1) (2 + 3 * j))) (q := (subA a0 1) 8) rfl rfl (i := 2) (by omega) (by omega) (by decide) rfl dX7_failBackwards_8 ?_
  refine lv_astore_n (lv' := [(3, .ref ((subA a0 1) 8)), (0, .ref (a0 0)), (1, .int (iI 2)), (2, .int (iI p1))]) hx hb dX7_failBackwards_9 rfl hl (by decide) rfl (fun ls hl => ?_)
  refine lv_aload_n hx hb dX7_failBackwards_10 rfl (lv_at hl 0 rfl) ?_
  refine va_get (D := D) (ci := 2) (v := .ref ((subA a0 1) 9)) (C := RX0) (T := TX0) (N := 6) hx hb hts (fun w h => List.mem_cons_of_mem _ (List.mem_append_left _ (List.mem_append_left _ (List.mem_append_left _ (List.mem_append_right _ h))))) hown hK hP 9 rfl rfl 0 (by decide) (hts (.fieldLink RX7 76 "MondayFactory$Belt" "row" "LMondayFactory$Row;") (List.mem_of_getElem? (i := 3) rfl)) (fun _ h9 => h9) rfl dX7_failBackwards_11 ?_
  refine lv_iload_n hx hb dX7_failBackwards_14 rfl (lv_at hl 3 rfl) ?_
  refine z_ai0 (va_runV (As := [.int (iI p1)]) (rest := []) ⟨hx, hb, hml, hown, hts⟩ (c_X6_isBlank l D k (subA (subA a0 1) 9) (sub2 S1 9)  p1 (pOK_b hp 10 (by decide)) (by have e0 : ((sub2 S1 9) 0 1) = S1 9 1 := rfl; omega) (by omega) _) (cwV 1 hts gX7_failBackwards_X6_isBlank rfl rfl rfl (by decide +kernel) ⟨(Nat.le_of_ble_eq_true rfl), (Nat.le_of_ble_eq_true rfl)⟩) (z_preV hK hG hA hP hD hS [10, 11] rfl (by decide) 8 rfl rfl) rfl rfl hl.1 rfl (lv_room (Nat.le_of_ble_eq_true rfl)) dX7_failBackwards_15 ⟨(Nat.le_of_ble_eq_true rfl), (Nat.le_of_ble_eq_true rfl)⟩) hA hP hD hS [10, 11] rfl (fun H locs hP hS => ?_)
  refine z_eqi (z2 := zb (wNum (S1 10) (S1 9 1) p1 0 = -1)) rfl ?_
  have f_1 : -1000000000 ≤ S1 9 1 ∧ S1 9 1 ≤ 1000000000 := (pOK_b hp 9 (by decide)) 1
  refine zi_if_eqB (tgt := 23) hx hb dX7_failBackwards_18 (by decide) (fun c_2 => ?_) (fun c_2 => ?_)
  · refine lv_aload_n hx hb dX7_failBackwards_23 rfl (lv_at hl 0 rfl) ?_
    refine va_get (D := D) (ci := 2) (v := .ref ((subA a0 1) 9)) (C := RX0) (T := TX0) (N := 6) hx hb hts (fun w h => List.mem_cons_of_mem _ (List.mem_append_left _ (List.mem_append_left _ (List.mem_append_left _ (List.mem_append_right _ h))))) hown hK hP 9 rfl rfl 0 (by decide) (hts (.fieldLink RX7 76 "MondayFactory$Belt" "row" "LMondayFactory$Row;") (List.mem_of_getElem? (i := 3) rfl)) (fun _ h9 => h9) rfl dX7_failBackwards_24 ?_
    refine lv_iload_n hx hb dX7_failBackwards_27 rfl (lv_at hl 3 rfl) ?_
    refine z_ai0 (va_runV (As := [.int (iI p1)]) (rest := []) ⟨hx, hb, hml, hown, hts⟩ (c_X6_grey l D k (subA (subA a0 1) 9) (sub2 S1 9)  p1 (pOK_b hp 10 (by decide)) (by have e0 : ((sub2 S1 9) 0 1) = S1 9 1 := rfl; omega) (by omega) _) (cwV 1 hts gX7_failBackwards_X6_grey rfl rfl rfl (by decide +kernel) ⟨(Nat.le_of_ble_eq_true rfl), (Nat.le_of_ble_eq_true rfl)⟩) (z_preV hK hG hA hP hD hS [10, 11] rfl (by decide) 8 rfl rfl) rfl rfl hl.1 rfl (lv_room (Nat.le_of_ble_eq_true rfl)) dX7_failBackwards_28 ⟨(Nat.le_of_ble_eq_true rfl), (Nat.le_of_ble_eq_true rfl)⟩) hA hP hD hS [10, 11] rfl (fun H locs hP hS => ?_)
    refine z_eqi (z2 := wNum (S1 10) (S1 9 1) p1 0) rfl ?_
    have q_3 : -1000000000 ≤ wNum (S1 10) (S1 9 1) p1 0 ∧ wNum (S1 10) (S1 9 1) p1 0 ≤ 1000000000 := wNum_bd (pOK_b hp 10 (by decide))
    refine lv_istore (lv' := [(4, .int (iI (wNum (S1 10) (S1 9 1) p1 0))), (3, .ref ((subA a0 1) 8)), (0, .ref (a0 0)), (1, .int (iI 2)), (2, .int (iI p1))]) hx hb dX7_failBackwards_31 hl (by decide) rfl (fun ls hl => ?_)
    refine lv_aload_n hx hb dX7_failBackwards_33 rfl (lv_at hl 1 rfl) ?_
    refine va_get (D := D) (ci := 2) (v := .ref ((subA a0 1) 9)) (C := RX0) (T := TX0) (N := 6) hx hb hts (fun w h => List.mem_cons_of_mem _ (List.mem_append_left _ (List.mem_append_left _ (List.mem_append_left _ (List.mem_append_right _ h))))) hown hK hP 9 rfl rfl 0 (by decide) (hts (.fieldLink RX7 76 "MondayFactory$Belt" "row" "LMondayFactory$Row;") (List.mem_of_getElem? (i := 3) rfl)) (fun _ h9 => h9) rfl dX7_failBackwards_34 ?_
    refine lv_iload_n hx hb dX7_failBackwards_37 rfl (lv_at hl 4 rfl) ?_
    refine z_ai0 (va_runV (As := [.int (iI p1)]) (rest := []) ⟨hx, hb, hml, hown, hts⟩ (c_X6_alarm l D k (subA (subA a0 1) 9) (sub2 S1 9)  p1 (pOK_b hp 10 (by decide)) (by have e0 : ((sub2 S1 9) 0 1) = S1 9 1 := rfl; omega) (by omega) _) (cwV 1 hts gX7_failBackwards_X6_alarm rfl rfl rfl (by decide +kernel) ⟨(Nat.le_of_ble_eq_true rfl), (Nat.le_of_ble_eq_true rfl)⟩) (z_preV hK hG hA hP hD hS [10, 11] rfl (by decide) 8 rfl rfl) rfl rfl hl.1 rfl (lv_room (Nat.le_of_ble_eq_true rfl)) dX7_failBackwards_38 ⟨(Nat.le_of_ble_eq_true rfl), (Nat.le_of_ble_eq_true rfl)⟩) hA hP hD hS [10, 11] rfl (fun H locs hP hS => ?_)
    refine z_eqi (z2 := wNum (S1 10) (S1 9 1) p1 1) rfl ?_
    have q_4 : -1000000000 ≤ wNum (S1 10) (S1 9 1) p1 1 ∧ wNum (S1 10) (S1 9 1) p1 1 ≤ 1000000000 := wNum_bd (pOK_b hp 10 (by decide))
    refine lv_istore (lv' := [(5, .int (iI (wNum (S1 10) (S1 9 1) p1 1))), (4, .int (iI (wNum (S1 10) (S1 9 1) p1 0))), (3, .ref ((subA a0 1) 8)), (0, .ref (a0 0)), (1, .int (iI 2)), (2, .int (iI p1))]) hx hb dX7_failBackwards_41 hl (by decide) rfl (fun ls hl => ?_)
    refine lv_aload_n hx hb dX7_failBackwards_43 rfl (lv_at hl 3 rfl) ?_
    refine va_get (D := D) (ci := 9) (v := .ref ((subA a0 1) 0)) (C := RX7) (T := TX7) (N := 11) hx hb hts (fun w h => List.mem_cons_of_mem _ (List.mem_append_left _ (List.mem_append_left _ (List.mem_append_left _ (List.mem_append_left _ (List.mem_append_left _ (List.mem_append_right _ h))))))) hown hK hP 0 rfl rfl 0 (by decide) (hts (.fieldLink RX7 10 "MondayFactory" "plant" "LMondayFactory$Plant;") (List.mem_of_getElem? (i := 1) rfl)) (fun _ h9 => h9) rfl dX7_failBackwards_44 ?_
    refine va_get (D := D) (ci := 7) (v := .ref ((subA a0 1) 13)) (C := RX5) (T := TX5) (N := 11) hx hb hts (fun w h => List.mem_cons_of_mem _ (List.mem_append_left _ (List.mem_append_left _ (List.mem_append_left _ (List.mem_append_left _ (List.mem_append_right _ h)))))) hown hK hP 1 rfl rfl 2 (by decide) (hts (.fieldLink RX7 117 "MondayFactory$Plant" "crew" "LMondayFactory$Crew;") (List.mem_of_getElem? (i := 4) rfl)) (fun _ h9 => h9) rfl dX7_failBackwards_47 ?_
    refine lv_aload_n hx hb dX7_failBackwards_50 rfl (lv_at hl 3 rfl) ?_
    refine va_get (D := D) (ci := 9) (v := .ref ((subA a0 1) 0)) (C := RX7) (T := TX7) (N := 11) hx hb hts (fun w h => List.mem_cons_of_mem _ (List.mem_append_left _ (List.mem_append_left _ (List.mem_append_left _ (List.mem_append_left _ (List.mem_append_left _ (List.mem_append_right _ h))))))) hown hK hP 0 rfl rfl 0 (by decide) (hts (.fieldLink RX7 10 "MondayFactory" "plant" "LMondayFactory$Plant;") (List.mem_of_getElem? (i := 1) rfl)) (fun _ h9 => h9) rfl dX7_failBackwards_51 ?_
    refine va_get (D := D) (ci := 7) (v := .ref ((subA a0 1) 13)) (C := RX5) (T := TX5) (N := 11) hx hb hts (fun w h => List.mem_cons_of_mem _ (List.mem_append_left _ (List.mem_append_left _ (List.mem_append_left _ (List.mem_append_left _ (List.mem_append_right _ h)))))) hown hK hP 1 rfl rfl 2 (by decide) (hts (.fieldLink RX7 117 "MondayFactory$Plant" "crew" "LMondayFactory$Crew;") (List.mem_of_getElem? (i := 4) rfl)) (fun _ h9 => h9) rfl dX7_failBackwards_54 ?_
    refine lv_iconst (v := iI 0) hx hb dX7_failBackwards_57 rfl ?_
    refine z_ai0 (va_runV (As := [.int (iI 0)]) (rest := [.ref ((subA a0 1) 13)]) ⟨hx, hb, hml, hown, hts⟩ (c_X1_freshAt l D k (subA (subA a0 1) 13) (sub2 S1 13)  0 (pOK_b hp 14 (by decide)) (by have e0 : ((sub2 S1 13) 0 1) = S1 13 1 := rfl; omega) (by omega) _) (cwV 1 hts gX7_failBackwards_X1_freshAt rfl rfl rfl (by decide +kernel) ⟨(Nat.le_of_ble_eq_true rfl), (Nat.le_of_ble_eq_true rfl)⟩) (z_preV hK hG hA hP hD hS [14, 15] rfl (by decide) 3 rfl rfl) rfl rfl hl.1 rfl (lv_room (Nat.le_of_ble_eq_true rfl)) dX7_failBackwards_58 ⟨(Nat.le_of_ble_eq_true rfl), (Nat.le_of_ble_eq_true rfl)⟩) hA hP hD hS [14, 15] rfl (fun H locs hP hS => ?_)
    refine z_eqi (z2 := sp_X1_freshAt (sub2 S1 13) 0) rfl ?_
    have q_5 : -1 ≤ sp_X1_freshAt (sub2 S1 13) 0 ∧ sp_X1_freshAt (sub2 S1 13) 0 ≤ 3 := fresh_rng (sub2 S1 13) 0 (by have e0 : ((sub2 S1 13) 0 1) = S1 13 1 := rfl; omega)
    refine z_ai0 (va_runV (As := [.int (iI (sp_X1_freshAt (sub2 S1 13) 0))]) (rest := []) ⟨hx, hb, hml, hown, hts⟩ (c_X1_yawned l D k (subA (subA a0 1) 13) (sub2 S1 13)  (sp_X1_freshAt (sub2 S1 13) 0) (pOK_b hp 14 (by decide)) (by have e0 : ((sub2 S1 13) 0 1) = S1 13 1 := rfl; omega) (by omega) _) (cwV 1 hts gX7_failBackwards_X1_yawned rfl rfl rfl (by decide +kernel) ⟨(Nat.le_of_ble_eq_true rfl), (Nat.le_of_ble_eq_true rfl)⟩) (z_preV hK hG hA hP hD hS [14, 15] rfl (by decide) 3 rfl rfl) rfl rfl hl.1 rfl (lv_room (Nat.le_of_ble_eq_true rfl)) dX7_failBackwards_61 ⟨(Nat.le_of_ble_eq_true rfl), (Nat.le_of_ble_eq_true rfl)⟩) hA hP hD hS [14, 15] rfl (fun H locs hP hS => ?_)
    refine z_eqi (z2 := wYaw (S1 14) (S1 13 1) (sp_X1_freshAt (sub2 S1 13) 0)) rfl ?_
    have f_6 : -1000000000 ≤ S1 13 1 ∧ S1 13 1 ≤ 1000000000 := (pOK_b hp 13 (by decide)) 1
    have q_7 : -1000000000 ≤ wYaw (S1 14) (S1 13 1) (sp_X1_freshAt (sub2 S1 13) 0) ∧ wYaw (S1 14) (S1 13 1) (sp_X1_freshAt (sub2 S1 13) 0) ≤ 1000000000 := wYaw_bd (pOK_b hp 14 (by decide))
    refine lv_istore (lv' := [(6, .int (iI (wYaw (S1 14) (S1 13 1) (sp_X1_freshAt (sub2 S1 13) 0)))), (5, .int (iI (wNum (S1 10) (S1 9 1) p1 1))), (4, .int (iI (wNum (S1 10) (S1 9 1) p1 0))), (3, .ref ((subA a0 1) 8)), (0, .ref (a0 0)), (1, .int (iI 2)), (2, .int (iI p1))]) hx hb dX7_failBackwards_64 hl (by decide) rfl (fun ls hl => ?_)
    refine lv_iconst (v := iI 0) hx hb dX7_failBackwards_66 rfl ?_
    refine lv_istore (lv' := [(7, .int (iI 0)), (6, .int (iI (wYaw (S1 14) (S1 13 1) (sp_X1_freshAt (sub2 S1 13) 0)))), (5, .int (iI (wNum (S1 10) (S1 9 1) p1 1))), (4, .int (iI (wNum (S1 10) (S1 9 1) p1 0))), (3, .ref ((subA a0 1) 8)), (0, .ref (a0 0)), (1, .int (iI 2)), (2, .int (iI p1))]) hx hb dX7_failBackwards_67 hl (by decide) rfl (fun ls hl => ?_)
    refine lv_iconst (v := iI 3) hx hb dX7_failBackwards_69 rfl ?_
    refine lv_istore (lv' := [(8, .int (iI 3)), (7, .int (iI 0)), (6, .int (iI (wYaw (S1 14) (S1 13 1) (sp_X1_freshAt (sub2 S1 13) 0)))), (5, .int (iI (wNum (S1 10) (S1 9 1) p1 1))), (4, .int (iI (wNum (S1 10) (S1 9 1) p1 0))), (3, .ref ((subA a0 1) 8)), (0, .ref (a0 0)), (1, .int (iI 2)), (2, .int (iI p1))]) hx hb dX7_failBackwards_70 hl (by decide) rfl (fun ls hl => ?_)
    refine lv_iload hx hb dX7_failBackwards_72 (lv_at hl 0 rfl) ?_
    refine lv_iconst (v := iI 1) hx hb dX7_failBackwards_74 rfl ?_
    refine zi_icmp_lt (tgt := 111) hx hb dX7_failBackwards_75 (by decide) ⟨by omega, by omega⟩ ⟨by omega, by omega⟩ (fun c_8 => absurd c_8 (by omega)) (fun _ => ?_)
    refine lv_aload_n hx hb dX7_failBackwards_78 rfl (lv_at hl 5 rfl) ?_
    refine lv_iload hx hb dX7_failBackwards_79 (lv_at hl 4 rfl) ?_
    refine lv_iload hx hb dX7_failBackwards_81 (lv_at hl 3 rfl) ?_
    refine lv_iload hx hb dX7_failBackwards_83 (lv_at hl 0 rfl) ?_
    refine z_ai0 (va_runV (As := [.int (iI (wNum (S1 10) (S1 9 1) p1 0)), .int (iI (wNum (S1 10) (S1 9 1) p1 1)), .int (iI 3)]) (rest := []) ⟨hx, hb, hml, hown, hts⟩ (c_X0_isPassedBy l D k (subA (subA a0 1) 8) (sub2 S1 8)  (wNum (S1 10) (S1 9 1) p1 0) (wNum (S1 10) (S1 9 1) p1 1) 3 (pOK_b hp 8 (by decide)) (by omega) (by omega) (by omega) _) (cwV 3 hts gX7_failBackwards_X0_isPassedBy rfl rfl rfl (by decide +kernel) ⟨(Nat.le_of_ble_eq_true rfl), (Nat.le_of_ble_eq_true rfl)⟩) (z_preV hK hG hA hP hD hS [9, 10, 11] rfl (by decide) 2 rfl rfl) rfl rfl hl.1 rfl (lv_room (Nat.le_of_ble_eq_true rfl)) dX7_failBackwards_85 ⟨(Nat.le_of_ble_eq_true rfl), (Nat.le_of_ble_eq_true rfl)⟩) hA hP hD hS [9, 10, 11] rfl (fun H locs hP hS => ?_)
    refine z_eqi (z2 := zb (wPassed (S1 8) (wNum (S1 10) (S1 9 1) p1 0) (wNum (S1 10) (S1 9 1) p1 1) 3)) rfl ?_
    refine zi_if_neB (tgt := 105) hx hb dX7_failBackwards_88 (by decide) (fun c_9 => ?_) (fun c_9 => ?_)
    · refine lv_iinc (v := iI (2)) (lv' := [(8, .int (iI 2)), (7, .int (iI 0)), (6, .int (iI (wYaw (S1 14) (S1 13 1) (sp_X1_freshAt (sub2 S1 13) 0)))), (5, .int (iI (wNum (S1 10) (S1 9 1) p1 1))), (4, .int (iI (wNum (S1 10) (S1 9 1) p1 0))), (3, .ref ((subA a0 1) 8)), (0, .ref (a0 0)), (1, .int (iI 2)), (2, .int (iI p1))]) hx hb dX7_failBackwards_105 hl (k := 0) rfl (iI_add 3 (-1)) (by decide) rfl (fun ls hl => ?_)
      refine lv_goto (tgt := 72) hx hb dX7_failBackwards_108 (by decide) ?_
      refine lv_iload hx hb dX7_failBackwards_72 (lv_at hl 0 rfl) ?_
      refine lv_iconst (v := iI 1) hx hb dX7_failBackwards_74 rfl ?_
      refine zi_icmp_lt (tgt := 111) hx hb dX7_failBackwards_75 (by decide) ⟨by omega, by omega⟩ ⟨by omega, by omega⟩ (fun c_10 => absurd c_10 (by omega)) (fun _ => ?_)
      refine lv_aload_n hx hb dX7_failBackwards_78 rfl (lv_at hl 5 rfl) ?_
      refine lv_iload hx hb dX7_failBackwards_79 (lv_at hl 4 rfl) ?_
      refine lv_iload hx hb dX7_failBackwards_81 (lv_at hl 3 rfl) ?_
      refine lv_iload hx hb dX7_failBackwards_83 (lv_at hl 0 rfl) ?_
      refine z_ai0 (va_runV (As := [.int (iI (wNum (S1 10) (S1 9 1) p1 0)), .int (iI (wNum (S1 10) (S1 9 1) p1 1)), .int (iI 2)]) (rest := []) ⟨hx, hb, hml, hown, hts⟩ (c_X0_isPassedBy l D k (subA (subA a0 1) 8) (sub2 S1 8)  (wNum (S1 10) (S1 9 1) p1 0) (wNum (S1 10) (S1 9 1) p1 1) 2 (pOK_b hp 8 (by decide)) (by omega) (by omega) (by omega) _) (cwV 3 hts gX7_failBackwards_X0_isPassedBy rfl rfl rfl (by decide +kernel) ⟨(Nat.le_of_ble_eq_true rfl), (Nat.le_of_ble_eq_true rfl)⟩) (z_preV hK hG hA hP hD hS [9, 10, 11] rfl (by decide) 2 rfl rfl) rfl rfl hl.1 rfl (lv_room (Nat.le_of_ble_eq_true rfl)) dX7_failBackwards_85 ⟨(Nat.le_of_ble_eq_true rfl), (Nat.le_of_ble_eq_true rfl)⟩) hA hP hD hS [9, 10, 11] rfl (fun H locs hP hS => ?_)
      refine z_eqi (z2 := zb (wPassed (S1 8) (wNum (S1 10) (S1 9 1) p1 0) (wNum (S1 10) (S1 9 1) p1 1) 2)) rfl ?_
      refine zi_if_neB (tgt := 105) hx hb dX7_failBackwards_88 (by decide) (fun c_11 => ?_) (fun c_11 => ?_)
      · refine lv_iinc (v := iI (1)) (lv' := [(8, .int (iI 1)), (7, .int (iI 0)), (6, .int (iI (wYaw (S1 14) (S1 13 1) (sp_X1_freshAt (sub2 S1 13) 0)))), (5, .int (iI (wNum (S1 10) (S1 9 1) p1 1))), (4, .int (iI (wNum (S1 10) (S1 9 1) p1 0))), (3, .ref ((subA a0 1) 8)), (0, .ref (a0 0)), (1, .int (iI 2)), (2, .int (iI p1))]) hx hb dX7_failBackwards_105 hl (k := 0) rfl (iI_add 2 (-1)) (by decide) rfl (fun ls hl => ?_)
        refine lv_goto (tgt := 72) hx hb dX7_failBackwards_108 (by decide) ?_
        refine lv_iload hx hb dX7_failBackwards_72 (lv_at hl 0 rfl) ?_
        refine lv_iconst (v := iI 1) hx hb dX7_failBackwards_74 rfl ?_
        refine zi_icmp_lt (tgt := 111) hx hb dX7_failBackwards_75 (by decide) ⟨by omega, by omega⟩ ⟨by omega, by omega⟩ (fun c_12 => absurd c_12 (by omega)) (fun _ => ?_)
        refine lv_aload_n hx hb dX7_failBackwards_78 rfl (lv_at hl 5 rfl) ?_
        refine lv_iload hx hb dX7_failBackwards_79 (lv_at hl 4 rfl) ?_
        refine lv_iload hx hb dX7_failBackwards_81 (lv_at hl 3 rfl) ?_
        refine lv_iload hx hb dX7_failBackwards_83 (lv_at hl 0 rfl) ?_
        refine z_ai0 (va_runV (As := [.int (iI (wNum (S1 10) (S1 9 1) p1 0)), .int (iI (wNum (S1 10) (S1 9 1) p1 1)), .int (iI 1)]) (rest := []) ⟨hx, hb, hml, hown, hts⟩ (c_X0_isPassedBy l D k (subA (subA a0 1) 8) (sub2 S1 8)  (wNum (S1 10) (S1 9 1) p1 0) (wNum (S1 10) (S1 9 1) p1 1) 1 (pOK_b hp 8 (by decide)) (by omega) (by omega) (by omega) _) (cwV 3 hts gX7_failBackwards_X0_isPassedBy rfl rfl rfl (by decide +kernel) ⟨(Nat.le_of_ble_eq_true rfl), (Nat.le_of_ble_eq_true rfl)⟩) (z_preV hK hG hA hP hD hS [9, 10, 11] rfl (by decide) 2 rfl rfl) rfl rfl hl.1 rfl (lv_room (Nat.le_of_ble_eq_true rfl)) dX7_failBackwards_85 ⟨(Nat.le_of_ble_eq_true rfl), (Nat.le_of_ble_eq_true rfl)⟩) hA hP hD hS [9, 10, 11] rfl (fun H locs hP hS => ?_)
        refine z_eqi (z2 := zb (wPassed (S1 8) (wNum (S1 10) (S1 9 1) p1 0) (wNum (S1 10) (S1 9 1) p1 1) 1)) rfl ?_
        refine zi_if_neB (tgt := 105) hx hb dX7_failBackwards_88 (by decide) (fun c_13 => ?_) (fun c_13 => ?_)
        · refine lv_iinc (v := iI (0)) (lv' := [(8, .int (iI 0)), (7, .int (iI 0)), (6, .int (iI (wYaw (S1 14) (S1 13 1) (sp_X1_freshAt (sub2 S1 13) 0)))), (5, .int (iI (wNum (S1 10) (S1 9 1) p1 1))), (4, .int (iI (wNum (S1 10) (S1 9 1) p1 0))), (3, .ref ((subA a0 1) 8)), (0, .ref (a0 0)), (1, .int (iI 2)), (2, .int (iI p1))]) hx hb dX7_failBackwards_105 hl (k := 0) rfl (iI_add 1 (-1)) (by decide) rfl (fun ls hl => ?_)
          refine lv_goto (tgt := 72) hx hb dX7_failBackwards_108 (by decide) ?_
          refine lv_iload hx hb dX7_failBackwards_72 (lv_at hl 0 rfl) ?_
          refine lv_iconst (v := iI 1) hx hb dX7_failBackwards_74 rfl ?_
          refine zi_icmp_lt (tgt := 111) hx hb dX7_failBackwards_75 (by decide) ⟨by omega, by omega⟩ ⟨by omega, by omega⟩ (fun _ => ?_) (fun c_14 => absurd c_14 (by omega))
          refine lv_iload hx hb dX7_failBackwards_111 (lv_at hl 1 rfl) ?_
          exact z_iret hx hb hr hlocks hP hS dX7_failBackwards_113 (Eq.trans (zif_neg c_2) (Eq.trans (zif_pos c_9) (Eq.trans (zif_pos c_11) (Eq.trans (zif_pos c_13) rfl)))) rfl (Nat.le_refl _) (Nat.le_refl _)
        · refine lv_iload hx hb dX7_failBackwards_91 (lv_at hl 0 rfl) ?_
          refine lv_iload hx hb dX7_failBackwards_93 (lv_at hl 2 rfl) ?_
          refine z_ai0 (va_runS (As := [.int (iI 1), .int (iI (wYaw (S1 14) (S1 13 1) (sp_X1_freshAt (sub2 S1 13) 0)))]) (rest := []) ⟨hx, hb, hml, hown, hts⟩ (c_X1_isLeftOut l D k   1 (wYaw (S1 14) (S1 13 1) (sp_X1_freshAt (sub2 S1 13) 0)) (by omega) (by omega) _) (va_cwS 2 hts gX7_failBackwards_X1_isLeftOut rfl rfl rfl (by decide +kernel) ⟨(Nat.le_of_ble_eq_true rfl), (Nat.le_of_ble_eq_true rfl)⟩) (z_preS hK hG hA hP hD hS [] rfl (by decide)) rfl rfl hl.1 rfl (lv_room (Nat.le_of_ble_eq_true rfl)) dX7_failBackwards_95 ⟨(Nat.le_of_ble_eq_true rfl), (Nat.le_of_ble_eq_true rfl)⟩) hA hP hD hS [] rfl (fun H locs hP hS => ?_)
          refine zi_if_neB (tgt := 105) hx hb dX7_failBackwards_98 (by decide) (fun c_15 => ?_) (fun c_15 => ?_)
          · refine lv_iinc (v := iI (0)) (lv' := [(8, .int (iI 0)), (7, .int (iI 0)), (6, .int (iI (wYaw (S1 14) (S1 13 1) (sp_X1_freshAt (sub2 S1 13) 0)))), (5, .int (iI (wNum (S1 10) (S1 9 1) p1 1))), (4, .int (iI (wNum (S1 10) (S1 9 1) p1 0))), (3, .ref ((subA a0 1) 8)), (0, .ref (a0 0)), (1, .int (iI 2)), (2, .int (iI p1))]) hx hb dX7_failBackwards_105 hl (k := 0) rfl (iI_add 1 (-1)) (by decide) rfl (fun ls hl => ?_)
            refine lv_goto (tgt := 72) hx hb dX7_failBackwards_108 (by decide) ?_
            refine lv_iload hx hb dX7_failBackwards_72 (lv_at hl 0 rfl) ?_
            refine lv_iconst (v := iI 1) hx hb dX7_failBackwards_74 rfl ?_
            refine zi_icmp_lt (tgt := 111) hx hb dX7_failBackwards_75 (by decide) ⟨by omega, by omega⟩ ⟨by omega, by omega⟩ (fun _ => ?_) (fun c_16 => absurd c_16 (by omega))
            refine lv_iload hx hb dX7_failBackwards_111 (lv_at hl 1 rfl) ?_
            exact z_iret hx hb hr hlocks hP hS dX7_failBackwards_113 (Eq.trans (zif_neg c_2) (Eq.trans (zif_pos c_9) (Eq.trans (zif_pos c_11) (Eq.trans (zif_neg c_13) (Eq.trans (zif_pos c_15) rfl))))) rfl (Nat.le_refl _) (Nat.le_refl _)
          · refine lv_iload hx hb dX7_failBackwards_101 (lv_at hl 0 rfl) ?_
            refine lv_istore (lv' := [(7, .int (iI 1)), (8, .int (iI 1)), (6, .int (iI (wYaw (S1 14) (S1 13 1) (sp_X1_freshAt (sub2 S1 13) 0)))), (5, .int (iI (wNum (S1 10) (S1 9 1) p1 1))), (4, .int (iI (wNum (S1 10) (S1 9 1) p1 0))), (3, .ref ((subA a0 1) 8)), (0, .ref (a0 0)), (1, .int (iI 2)), (2, .int (iI p1))]) hx hb dX7_failBackwards_103 hl (by decide) rfl (fun ls hl => ?_)
            refine lv_iinc (v := iI (0)) (lv' := [(8, .int (iI 0)), (7, .int (iI 1)), (6, .int (iI (wYaw (S1 14) (S1 13 1) (sp_X1_freshAt (sub2 S1 13) 0)))), (5, .int (iI (wNum (S1 10) (S1 9 1) p1 1))), (4, .int (iI (wNum (S1 10) (S1 9 1) p1 0))), (3, .ref ((subA a0 1) 8)), (0, .ref (a0 0)), (1, .int (iI 2)), (2, .int (iI p1))]) hx hb dX7_failBackwards_105 hl (k := 1) rfl (iI_add 1 (-1)) (by decide) rfl (fun ls hl => ?_)
            refine lv_goto (tgt := 72) hx hb dX7_failBackwards_108 (by decide) ?_
            refine lv_iload hx hb dX7_failBackwards_72 (lv_at hl 0 rfl) ?_
            refine lv_iconst (v := iI 1) hx hb dX7_failBackwards_74 rfl ?_
            refine zi_icmp_lt (tgt := 111) hx hb dX7_failBackwards_75 (by decide) ⟨by omega, by omega⟩ ⟨by omega, by omega⟩ (fun _ => ?_) (fun c_17 => absurd c_17 (by omega))
            refine lv_iload hx hb dX7_failBackwards_111 (lv_at hl 1 rfl) ?_
            exact z_iret hx hb hr hlocks hP hS dX7_failBackwards_113 (Eq.trans (zif_neg c_2) (Eq.trans (zif_pos c_9) (Eq.trans (zif_pos c_11) (Eq.trans (zif_neg c_13) (Eq.trans (zif_neg c_15) rfl))))) rfl (Nat.le_refl _) (Nat.le_refl _)
      · refine lv_iload hx hb dX7_failBackwards_91 (lv_at hl 0 rfl) ?_
        refine lv_iload hx hb dX7_failBackwards_93 (lv_at hl 2 rfl) ?_
        refine z_ai0 (va_runS (As := [.int (iI 2), .int (iI (wYaw (S1 14) (S1 13 1) (sp_X1_freshAt (sub2 S1 13) 0)))]) (rest := []) ⟨hx, hb, hml, hown, hts⟩ (c_X1_isLeftOut l D k   2 (wYaw (S1 14) (S1 13 1) (sp_X1_freshAt (sub2 S1 13) 0)) (by omega) (by omega) _) (va_cwS 2 hts gX7_failBackwards_X1_isLeftOut rfl rfl rfl (by decide +kernel) ⟨(Nat.le_of_ble_eq_true rfl), (Nat.le_of_ble_eq_true rfl)⟩) (z_preS hK hG hA hP hD hS [] rfl (by decide)) rfl rfl hl.1 rfl (lv_room (Nat.le_of_ble_eq_true rfl)) dX7_failBackwards_95 ⟨(Nat.le_of_ble_eq_true rfl), (Nat.le_of_ble_eq_true rfl)⟩) hA hP hD hS [] rfl (fun H locs hP hS => ?_)
        refine zi_if_neB (tgt := 105) hx hb dX7_failBackwards_98 (by decide) (fun c_18 => ?_) (fun c_18 => ?_)
        · refine lv_iinc (v := iI (1)) (lv' := [(8, .int (iI 1)), (7, .int (iI 0)), (6, .int (iI (wYaw (S1 14) (S1 13 1) (sp_X1_freshAt (sub2 S1 13) 0)))), (5, .int (iI (wNum (S1 10) (S1 9 1) p1 1))), (4, .int (iI (wNum (S1 10) (S1 9 1) p1 0))), (3, .ref ((subA a0 1) 8)), (0, .ref (a0 0)), (1, .int (iI 2)), (2, .int (iI p1))]) hx hb dX7_failBackwards_105 hl (k := 0) rfl (iI_add 2 (-1)) (by decide) rfl (fun ls hl => ?_)
          refine lv_goto (tgt := 72) hx hb dX7_failBackwards_108 (by decide) ?_
          refine lv_iload hx hb dX7_failBackwards_72 (lv_at hl 0 rfl) ?_
          refine lv_iconst (v := iI 1) hx hb dX7_failBackwards_74 rfl ?_
          refine zi_icmp_lt (tgt := 111) hx hb dX7_failBackwards_75 (by decide) ⟨by omega, by omega⟩ ⟨by omega, by omega⟩ (fun c_19 => absurd c_19 (by omega)) (fun _ => ?_)
          refine lv_aload_n hx hb dX7_failBackwards_78 rfl (lv_at hl 5 rfl) ?_
          refine lv_iload hx hb dX7_failBackwards_79 (lv_at hl 4 rfl) ?_
          refine lv_iload hx hb dX7_failBackwards_81 (lv_at hl 3 rfl) ?_
          refine lv_iload hx hb dX7_failBackwards_83 (lv_at hl 0 rfl) ?_
          refine z_ai0 (va_runV (As := [.int (iI (wNum (S1 10) (S1 9 1) p1 0)), .int (iI (wNum (S1 10) (S1 9 1) p1 1)), .int (iI 1)]) (rest := []) ⟨hx, hb, hml, hown, hts⟩ (c_X0_isPassedBy l D k (subA (subA a0 1) 8) (sub2 S1 8)  (wNum (S1 10) (S1 9 1) p1 0) (wNum (S1 10) (S1 9 1) p1 1) 1 (pOK_b hp 8 (by decide)) (by omega) (by omega) (by omega) _) (cwV 3 hts gX7_failBackwards_X0_isPassedBy rfl rfl rfl (by decide +kernel) ⟨(Nat.le_of_ble_eq_true rfl), (Nat.le_of_ble_eq_true rfl)⟩) (z_preV hK hG hA hP hD hS [9, 10, 11] rfl (by decide) 2 rfl rfl) rfl rfl hl.1 rfl (lv_room (Nat.le_of_ble_eq_true rfl)) dX7_failBackwards_85 ⟨(Nat.le_of_ble_eq_true rfl), (Nat.le_of_ble_eq_true rfl)⟩) hA hP hD hS [9, 10, 11] rfl (fun H locs hP hS => ?_)
          refine z_eqi (z2 := zb (wPassed (S1 8) (wNum (S1 10) (S1 9 1) p1 0) (wNum (S1 10) (S1 9 1) p1 1) 1)) rfl ?_
          refine zi_if_neB (tgt := 105) hx hb dX7_failBackwards_88 (by decide) (fun c_20 => ?_) (fun c_20 => ?_)
          · refine lv_iinc (v := iI (0)) (lv' := [(8, .int (iI 0)), (7, .int (iI 0)), (6, .int (iI (wYaw (S1 14) (S1 13 1) (sp_X1_freshAt (sub2 S1 13) 0)))), (5, .int (iI (wNum (S1 10) (S1 9 1) p1 1))), (4, .int (iI (wNum (S1 10) (S1 9 1) p1 0))), (3, .ref ((subA a0 1) 8)), (0, .ref (a0 0)), (1, .int (iI 2)), (2, .int (iI p1))]) hx hb dX7_failBackwards_105 hl (k := 0) rfl (iI_add 1 (-1)) (by decide) rfl (fun ls hl => ?_)
            refine lv_goto (tgt := 72) hx hb dX7_failBackwards_108 (by decide) ?_
            refine lv_iload hx hb dX7_failBackwards_72 (lv_at hl 0 rfl) ?_
            refine lv_iconst (v := iI 1) hx hb dX7_failBackwards_74 rfl ?_
            refine zi_icmp_lt (tgt := 111) hx hb dX7_failBackwards_75 (by decide) ⟨by omega, by omega⟩ ⟨by omega, by omega⟩ (fun _ => ?_) (fun c_21 => absurd c_21 (by omega))
            refine lv_iload hx hb dX7_failBackwards_111 (lv_at hl 1 rfl) ?_
            exact z_iret hx hb hr hlocks hP hS dX7_failBackwards_113 (Eq.trans (zif_neg c_2) (Eq.trans (zif_pos c_9) (Eq.trans (zif_neg c_11) (Eq.trans (zif_pos c_18) (Eq.trans (zif_pos c_20) rfl))))) rfl (Nat.le_refl _) (Nat.le_refl _)
          · refine lv_iload hx hb dX7_failBackwards_91 (lv_at hl 0 rfl) ?_
            refine lv_iload hx hb dX7_failBackwards_93 (lv_at hl 2 rfl) ?_
            refine z_ai0 (va_runS (As := [.int (iI 1), .int (iI (wYaw (S1 14) (S1 13 1) (sp_X1_freshAt (sub2 S1 13) 0)))]) (rest := []) ⟨hx, hb, hml, hown, hts⟩ (c_X1_isLeftOut l D k   1 (wYaw (S1 14) (S1 13 1) (sp_X1_freshAt (sub2 S1 13) 0)) (by omega) (by omega) _) (va_cwS 2 hts gX7_failBackwards_X1_isLeftOut rfl rfl rfl (by decide +kernel) ⟨(Nat.le_of_ble_eq_true rfl), (Nat.le_of_ble_eq_true rfl)⟩) (z_preS hK hG hA hP hD hS [] rfl (by decide)) rfl rfl hl.1 rfl (lv_room (Nat.le_of_ble_eq_true rfl)) dX7_failBackwards_95 ⟨(Nat.le_of_ble_eq_true rfl), (Nat.le_of_ble_eq_true rfl)⟩) hA hP hD hS [] rfl (fun H locs hP hS => ?_)
            refine zi_if_neB (tgt := 105) hx hb dX7_failBackwards_98 (by decide) (fun c_22 => ?_) (fun c_22 => ?_)
            · refine lv_iinc (v := iI (0)) (lv' := [(8, .int (iI 0)), (7, .int (iI 0)), (6, .int (iI (wYaw (S1 14) (S1 13 1) (sp_X1_freshAt (sub2 S1 13) 0)))), (5, .int (iI (wNum (S1 10) (S1 9 1) p1 1))), (4, .int (iI (wNum (S1 10) (S1 9 1) p1 0))), (3, .ref ((subA a0 1) 8)), (0, .ref (a0 0)), (1, .int (iI 2)), (2, .int (iI p1))]) hx hb dX7_failBackwards_105 hl (k := 0) rfl (iI_add 1 (-1)) (by decide) rfl (fun ls hl => ?_)
              refine lv_goto (tgt := 72) hx hb dX7_failBackwards_108 (by decide) ?_
              refine lv_iload hx hb dX7_failBackwards_72 (lv_at hl 0 rfl) ?_
              refine lv_iconst (v := iI 1) hx hb dX7_failBackwards_74 rfl ?_
              refine zi_icmp_lt (tgt := 111) hx hb dX7_failBackwards_75 (by decide) ⟨by omega, by omega⟩ ⟨by omega, by omega⟩ (fun _ => ?_) (fun c_23 => absurd c_23 (by omega))
              refine lv_iload hx hb dX7_failBackwards_111 (lv_at hl 1 rfl) ?_
              exact z_iret hx hb hr hlocks hP hS dX7_failBackwards_113 (Eq.trans (zif_neg c_2) (Eq.trans (zif_pos c_9) (Eq.trans (zif_neg c_11) (Eq.trans (zif_pos c_18) (Eq.trans (zif_neg c_20) (Eq.trans (zif_pos c_22) rfl)))))) rfl (Nat.le_refl _) (Nat.le_refl _)
            · refine lv_iload hx hb dX7_failBackwards_101 (lv_at hl 0 rfl) ?_
              refine lv_istore (lv' := [(7, .int (iI 1)), (8, .int (iI 1)), (6, .int (iI (wYaw (S1 14) (S1 13 1) (sp_X1_freshAt (sub2 S1 13) 0)))), (5, .int (iI (wNum (S1 10) (S1 9 1) p1 1))), (4, .int (iI (wNum (S1 10) (S1 9 1) p1 0))), (3, .ref ((subA a0 1) 8)), (0, .ref (a0 0)), (1, .int (iI 2)), (2, .int (iI p1))]) hx hb dX7_failBackwards_103 hl (by decide) rfl (fun ls hl => ?_)
              refine lv_iinc (v := iI (0)) (lv' := [(8, .int (iI 0)), (7, .int (iI 1)), (6, .int (iI (wYaw (S1 14) (S1 13 1) (sp_X1_freshAt (sub2 S1 13) 0)))), (5, .int (iI (wNum (S1 10) (S1 9 1) p1 1))), (4, .int (iI (wNum (S1 10) (S1 9 1) p1 0))), (3, .ref ((subA a0 1) 8)), (0, .ref (a0 0)), (1, .int (iI 2)), (2, .int (iI p1))]) hx hb dX7_failBackwards_105 hl (k := 1) rfl (iI_add 1 (-1)) (by decide) rfl (fun ls hl => ?_)
              refine lv_goto (tgt := 72) hx hb dX7_failBackwards_108 (by decide) ?_
              refine lv_iload hx hb dX7_failBackwards_72 (lv_at hl 0 rfl) ?_
              refine lv_iconst (v := iI 1) hx hb dX7_failBackwards_74 rfl ?_
              refine zi_icmp_lt (tgt := 111) hx hb dX7_failBackwards_75 (by decide) ⟨by omega, by omega⟩ ⟨by omega, by omega⟩ (fun _ => ?_) (fun c_24 => absurd c_24 (by omega))
              refine lv_iload hx hb dX7_failBackwards_111 (lv_at hl 1 rfl) ?_
              exact z_iret hx hb hr hlocks hP hS dX7_failBackwards_113 (Eq.trans (zif_neg c_2) (Eq.trans (zif_pos c_9) (Eq.trans (zif_neg c_11) (Eq.trans (zif_pos c_18) (Eq.trans (zif_neg c_20) (Eq.trans (zif_neg c_22) rfl)))))) rfl (Nat.le_refl _) (Nat.le_refl _)
        · refine lv_iload hx hb dX7_failBackwards_101 (lv_at hl 0 rfl) ?_
          refine lv_istore (lv' := [(7, .int (iI 2)), (8, .int (iI 2)), (6, .int (iI (wYaw (S1 14) (S1 13 1) (sp_X1_freshAt (sub2 S1 13) 0)))), (5, .int (iI (wNum (S1 10) (S1 9 1) p1 1))), (4, .int (iI (wNum (S1 10) (S1 9 1) p1 0))), (3, .ref ((subA a0 1) 8)), (0, .ref (a0 0)), (1, .int (iI 2)), (2, .int (iI p1))]) hx hb dX7_failBackwards_103 hl (by decide) rfl (fun ls hl => ?_)
          refine lv_iinc (v := iI (1)) (lv' := [(8, .int (iI 1)), (7, .int (iI 2)), (6, .int (iI (wYaw (S1 14) (S1 13 1) (sp_X1_freshAt (sub2 S1 13) 0)))), (5, .int (iI (wNum (S1 10) (S1 9 1) p1 1))), (4, .int (iI (wNum (S1 10) (S1 9 1) p1 0))), (3, .ref ((subA a0 1) 8)), (0, .ref (a0 0)), (1, .int (iI 2)), (2, .int (iI p1))]) hx hb dX7_failBackwards_105 hl (k := 1) rfl (iI_add 2 (-1)) (by decide) rfl (fun ls hl => ?_)
          refine lv_goto (tgt := 72) hx hb dX7_failBackwards_108 (by decide) ?_
          refine lv_iload hx hb dX7_failBackwards_72 (lv_at hl 0 rfl) ?_
          refine lv_iconst (v := iI 1) hx hb dX7_failBackwards_74 rfl ?_
          refine zi_icmp_lt (tgt := 111) hx hb dX7_failBackwards_75 (by decide) ⟨by omega, by omega⟩ ⟨by omega, by omega⟩ (fun c_25 => absurd c_25 (by omega)) (fun _ => ?_)
          refine lv_aload_n hx hb dX7_failBackwards_78 rfl (lv_at hl 5 rfl) ?_
          refine lv_iload hx hb dX7_failBackwards_79 (lv_at hl 4 rfl) ?_
          refine lv_iload hx hb dX7_failBackwards_81 (lv_at hl 3 rfl) ?_
          refine lv_iload hx hb dX7_failBackwards_83 (lv_at hl 0 rfl) ?_
          refine z_ai0 (va_runV (As := [.int (iI (wNum (S1 10) (S1 9 1) p1 0)), .int (iI (wNum (S1 10) (S1 9 1) p1 1)), .int (iI 1)]) (rest := []) ⟨hx, hb, hml, hown, hts⟩ (c_X0_isPassedBy l D k (subA (subA a0 1) 8) (sub2 S1 8)  (wNum (S1 10) (S1 9 1) p1 0) (wNum (S1 10) (S1 9 1) p1 1) 1 (pOK_b hp 8 (by decide)) (by omega) (by omega) (by omega) _) (cwV 3 hts gX7_failBackwards_X0_isPassedBy rfl rfl rfl (by decide +kernel) ⟨(Nat.le_of_ble_eq_true rfl), (Nat.le_of_ble_eq_true rfl)⟩) (z_preV hK hG hA hP hD hS [9, 10, 11] rfl (by decide) 2 rfl rfl) rfl rfl hl.1 rfl (lv_room (Nat.le_of_ble_eq_true rfl)) dX7_failBackwards_85 ⟨(Nat.le_of_ble_eq_true rfl), (Nat.le_of_ble_eq_true rfl)⟩) hA hP hD hS [9, 10, 11] rfl (fun H locs hP hS => ?_)
          refine z_eqi (z2 := zb (wPassed (S1 8) (wNum (S1 10) (S1 9 1) p1 0) (wNum (S1 10) (S1 9 1) p1 1) 1)) rfl ?_
          refine zi_if_neB (tgt := 105) hx hb dX7_failBackwards_88 (by decide) (fun c_26 => ?_) (fun c_26 => ?_)
          · refine lv_iinc (v := iI (0)) (lv' := [(8, .int (iI 0)), (7, .int (iI 2)), (6, .int (iI (wYaw (S1 14) (S1 13 1) (sp_X1_freshAt (sub2 S1 13) 0)))), (5, .int (iI (wNum (S1 10) (S1 9 1) p1 1))), (4, .int (iI (wNum (S1 10) (S1 9 1) p1 0))), (3, .ref ((subA a0 1) 8)), (0, .ref (a0 0)), (1, .int (iI 2)), (2, .int (iI p1))]) hx hb dX7_failBackwards_105 hl (k := 0) rfl (iI_add 1 (-1)) (by decide) rfl (fun ls hl => ?_)
            refine lv_goto (tgt := 72) hx hb dX7_failBackwards_108 (by decide) ?_
            refine lv_iload hx hb dX7_failBackwards_72 (lv_at hl 0 rfl) ?_
            refine lv_iconst (v := iI 1) hx hb dX7_failBackwards_74 rfl ?_
            refine zi_icmp_lt (tgt := 111) hx hb dX7_failBackwards_75 (by decide) ⟨by omega, by omega⟩ ⟨by omega, by omega⟩ (fun _ => ?_) (fun c_27 => absurd c_27 (by omega))
            refine lv_iload hx hb dX7_failBackwards_111 (lv_at hl 1 rfl) ?_
            exact z_iret hx hb hr hlocks hP hS dX7_failBackwards_113 (Eq.trans (zif_neg c_2) (Eq.trans (zif_pos c_9) (Eq.trans (zif_neg c_11) (Eq.trans (zif_neg c_18) (Eq.trans (zif_pos c_26) rfl))))) rfl (Nat.le_refl _) (Nat.le_refl _)
          · refine lv_iload hx hb dX7_failBackwards_91 (lv_at hl 0 rfl) ?_
            refine lv_iload hx hb dX7_failBackwards_93 (lv_at hl 2 rfl) ?_
            refine z_ai0 (va_runS (As := [.int (iI 1), .int (iI (wYaw (S1 14) (S1 13 1) (sp_X1_freshAt (sub2 S1 13) 0)))]) (rest := []) ⟨hx, hb, hml, hown, hts⟩ (c_X1_isLeftOut l D k   1 (wYaw (S1 14) (S1 13 1) (sp_X1_freshAt (sub2 S1 13) 0)) (by omega) (by omega) _) (va_cwS 2 hts gX7_failBackwards_X1_isLeftOut rfl rfl rfl (by decide +kernel) ⟨(Nat.le_of_ble_eq_true rfl), (Nat.le_of_ble_eq_true rfl)⟩) (z_preS hK hG hA hP hD hS [] rfl (by decide)) rfl rfl hl.1 rfl (lv_room (Nat.le_of_ble_eq_true rfl)) dX7_failBackwards_95 ⟨(Nat.le_of_ble_eq_true rfl), (Nat.le_of_ble_eq_true rfl)⟩) hA hP hD hS [] rfl (fun H locs hP hS => ?_)
            refine zi_if_neB (tgt := 105) hx hb dX7_failBackwards_98 (by decide) (fun c_28 => ?_) (fun c_28 => ?_)
            · refine lv_iinc (v := iI (0)) (lv' := [(8, .int (iI 0)), (7, .int (iI 2)), (6, .int (iI (wYaw (S1 14) (S1 13 1) (sp_X1_freshAt (sub2 S1 13) 0)))), (5, .int (iI (wNum (S1 10) (S1 9 1) p1 1))), (4, .int (iI (wNum (S1 10) (S1 9 1) p1 0))), (3, .ref ((subA a0 1) 8)), (0, .ref (a0 0)), (1, .int (iI 2)), (2, .int (iI p1))]) hx hb dX7_failBackwards_105 hl (k := 0) rfl (iI_add 1 (-1)) (by decide) rfl (fun ls hl => ?_)
              refine lv_goto (tgt := 72) hx hb dX7_failBackwards_108 (by decide) ?_
              refine lv_iload hx hb dX7_failBackwards_72 (lv_at hl 0 rfl) ?_
              refine lv_iconst (v := iI 1) hx hb dX7_failBackwards_74 rfl ?_
              refine zi_icmp_lt (tgt := 111) hx hb dX7_failBackwards_75 (by decide) ⟨by omega, by omega⟩ ⟨by omega, by omega⟩ (fun _ => ?_) (fun c_29 => absurd c_29 (by omega))
              refine lv_iload hx hb dX7_failBackwards_111 (lv_at hl 1 rfl) ?_
              exact z_iret hx hb hr hlocks hP hS dX7_failBackwards_113 (Eq.trans (zif_neg c_2) (Eq.trans (zif_pos c_9) (Eq.trans (zif_neg c_11) (Eq.trans (zif_neg c_18) (Eq.trans (zif_neg c_26) (Eq.trans (zif_pos c_28) rfl)))))) rfl (Nat.le_refl _) (Nat.le_refl _)
            · refine lv_iload hx hb dX7_failBackwards_101 (lv_at hl 0 rfl) ?_
              refine lv_istore (lv' := [(7, .int (iI 1)), (8, .int (iI 1)), (6, .int (iI (wYaw (S1 14) (S1 13 1) (sp_X1_freshAt (sub2 S1 13) 0)))), (5, .int (iI (wNum (S1 10) (S1 9 1) p1 1))), (4, .int (iI (wNum (S1 10) (S1 9 1) p1 0))), (3, .ref ((subA a0 1) 8)), (0, .ref (a0 0)), (1, .int (iI 2)), (2, .int (iI p1))]) hx hb dX7_failBackwards_103 hl (by decide) rfl (fun ls hl => ?_)
              refine lv_iinc (v := iI (0)) (lv' := [(8, .int (iI 0)), (7, .int (iI 1)), (6, .int (iI (wYaw (S1 14) (S1 13 1) (sp_X1_freshAt (sub2 S1 13) 0)))), (5, .int (iI (wNum (S1 10) (S1 9 1) p1 1))), (4, .int (iI (wNum (S1 10) (S1 9 1) p1 0))), (3, .ref ((subA a0 1) 8)), (0, .ref (a0 0)), (1, .int (iI 2)), (2, .int (iI p1))]) hx hb dX7_failBackwards_105 hl (k := 1) rfl (iI_add 1 (-1)) (by decide) rfl (fun ls hl => ?_)
              refine lv_goto (tgt := 72) hx hb dX7_failBackwards_108 (by decide) ?_
              refine lv_iload hx hb dX7_failBackwards_72 (lv_at hl 0 rfl) ?_
              refine lv_iconst (v := iI 1) hx hb dX7_failBackwards_74 rfl ?_
              refine zi_icmp_lt (tgt := 111) hx hb dX7_failBackwards_75 (by decide) ⟨by omega, by omega⟩ ⟨by omega, by omega⟩ (fun _ => ?_) (fun c_30 => absurd c_30 (by omega))
              refine lv_iload hx hb dX7_failBackwards_111 (lv_at hl 1 rfl) ?_
              exact z_iret hx hb hr hlocks hP hS dX7_failBackwards_113 (Eq.trans (zif_neg c_2) (Eq.trans (zif_pos c_9) (Eq.trans (zif_neg c_11) (Eq.trans (zif_neg c_18) (Eq.trans (zif_neg c_26) (Eq.trans (zif_neg c_28) rfl)))))) rfl (Nat.le_refl _) (Nat.le_refl _)
    · refine lv_iload hx hb dX7_failBackwards_91 (lv_at hl 0 rfl) ?_
      refine lv_iload hx hb dX7_failBackwards_93 (lv_at hl 2 rfl) ?_
      refine z_ai0 (va_runS (As := [.int (iI 3), .int (iI (wYaw (S1 14) (S1 13 1) (sp_X1_freshAt (sub2 S1 13) 0)))]) (rest := []) ⟨hx, hb, hml, hown, hts⟩ (c_X1_isLeftOut l D k   3 (wYaw (S1 14) (S1 13 1) (sp_X1_freshAt (sub2 S1 13) 0)) (by omega) (by omega) _) (va_cwS 2 hts gX7_failBackwards_X1_isLeftOut rfl rfl rfl (by decide +kernel) ⟨(Nat.le_of_ble_eq_true rfl), (Nat.le_of_ble_eq_true rfl)⟩) (z_preS hK hG hA hP hD hS [] rfl (by decide)) rfl rfl hl.1 rfl (lv_room (Nat.le_of_ble_eq_true rfl)) dX7_failBackwards_95 ⟨(Nat.le_of_ble_eq_true rfl), (Nat.le_of_ble_eq_true rfl)⟩) hA hP hD hS [] rfl (fun H locs hP hS => ?_)
      refine zi_if_neB (tgt := 105) hx hb dX7_failBackwards_98 (by decide) (fun c_31 => ?_) (fun c_31 => ?_)
      · refine lv_iinc (v := iI (2)) (lv' := [(8, .int (iI 2)), (7, .int (iI 0)), (6, .int (iI (wYaw (S1 14) (S1 13 1) (sp_X1_freshAt (sub2 S1 13) 0)))), (5, .int (iI (wNum (S1 10) (S1 9 1) p1 1))), (4, .int (iI (wNum (S1 10) (S1 9 1) p1 0))), (3, .ref ((subA a0 1) 8)), (0, .ref (a0 0)), (1, .int (iI 2)), (2, .int (iI p1))]) hx hb dX7_failBackwards_105 hl (k := 0) rfl (iI_add 3 (-1)) (by decide) rfl (fun ls hl => ?_)
        refine lv_goto (tgt := 72) hx hb dX7_failBackwards_108 (by decide) ?_
        refine lv_iload hx hb dX7_failBackwards_72 (lv_at hl 0 rfl) ?_
        refine lv_iconst (v := iI 1) hx hb dX7_failBackwards_74 rfl ?_
        refine zi_icmp_lt (tgt := 111) hx hb dX7_failBackwards_75 (by decide) ⟨by omega, by omega⟩ ⟨by omega, by omega⟩ (fun c_32 => absurd c_32 (by omega)) (fun _ => ?_)
        refine lv_aload_n hx hb dX7_failBackwards_78 rfl (lv_at hl 5 rfl) ?_
        refine lv_iload hx hb dX7_failBackwards_79 (lv_at hl 4 rfl) ?_
        refine lv_iload hx hb dX7_failBackwards_81 (lv_at hl 3 rfl) ?_
        refine lv_iload hx hb dX7_failBackwards_83 (lv_at hl 0 rfl) ?_
        refine z_ai0 (va_runV (As := [.int (iI (wNum (S1 10) (S1 9 1) p1 0)), .int (iI (wNum (S1 10) (S1 9 1) p1 1)), .int (iI 2)]) (rest := []) ⟨hx, hb, hml, hown, hts⟩ (c_X0_isPassedBy l D k (subA (subA a0 1) 8) (sub2 S1 8)  (wNum (S1 10) (S1 9 1) p1 0) (wNum (S1 10) (S1 9 1) p1 1) 2 (pOK_b hp 8 (by decide)) (by omega) (by omega) (by omega) _) (cwV 3 hts gX7_failBackwards_X0_isPassedBy rfl rfl rfl (by decide +kernel) ⟨(Nat.le_of_ble_eq_true rfl), (Nat.le_of_ble_eq_true rfl)⟩) (z_preV hK hG hA hP hD hS [9, 10, 11] rfl (by decide) 2 rfl rfl) rfl rfl hl.1 rfl (lv_room (Nat.le_of_ble_eq_true rfl)) dX7_failBackwards_85 ⟨(Nat.le_of_ble_eq_true rfl), (Nat.le_of_ble_eq_true rfl)⟩) hA hP hD hS [9, 10, 11] rfl (fun H locs hP hS => ?_)
        refine z_eqi (z2 := zb (wPassed (S1 8) (wNum (S1 10) (S1 9 1) p1 0) (wNum (S1 10) (S1 9 1) p1 1) 2)) rfl ?_
        refine zi_if_neB (tgt := 105) hx hb dX7_failBackwards_88 (by decide) (fun c_33 => ?_) (fun c_33 => ?_)
        · refine lv_iinc (v := iI (1)) (lv' := [(8, .int (iI 1)), (7, .int (iI 0)), (6, .int (iI (wYaw (S1 14) (S1 13 1) (sp_X1_freshAt (sub2 S1 13) 0)))), (5, .int (iI (wNum (S1 10) (S1 9 1) p1 1))), (4, .int (iI (wNum (S1 10) (S1 9 1) p1 0))), (3, .ref ((subA a0 1) 8)), (0, .ref (a0 0)), (1, .int (iI 2)), (2, .int (iI p1))]) hx hb dX7_failBackwards_105 hl (k := 0) rfl (iI_add 2 (-1)) (by decide) rfl (fun ls hl => ?_)
          refine lv_goto (tgt := 72) hx hb dX7_failBackwards_108 (by decide) ?_
          refine lv_iload hx hb dX7_failBackwards_72 (lv_at hl 0 rfl) ?_
          refine lv_iconst (v := iI 1) hx hb dX7_failBackwards_74 rfl ?_
          refine zi_icmp_lt (tgt := 111) hx hb dX7_failBackwards_75 (by decide) ⟨by omega, by omega⟩ ⟨by omega, by omega⟩ (fun c_34 => absurd c_34 (by omega)) (fun _ => ?_)
          refine lv_aload_n hx hb dX7_failBackwards_78 rfl (lv_at hl 5 rfl) ?_
          refine lv_iload hx hb dX7_failBackwards_79 (lv_at hl 4 rfl) ?_
          refine lv_iload hx hb dX7_failBackwards_81 (lv_at hl 3 rfl) ?_
          refine lv_iload hx hb dX7_failBackwards_83 (lv_at hl 0 rfl) ?_
          refine z_ai0 (va_runV (As := [.int (iI (wNum (S1 10) (S1 9 1) p1 0)), .int (iI (wNum (S1 10) (S1 9 1) p1 1)), .int (iI 1)]) (rest := []) ⟨hx, hb, hml, hown, hts⟩ (c_X0_isPassedBy l D k (subA (subA a0 1) 8) (sub2 S1 8)  (wNum (S1 10) (S1 9 1) p1 0) (wNum (S1 10) (S1 9 1) p1 1) 1 (pOK_b hp 8 (by decide)) (by omega) (by omega) (by omega) _) (cwV 3 hts gX7_failBackwards_X0_isPassedBy rfl rfl rfl (by decide +kernel) ⟨(Nat.le_of_ble_eq_true rfl), (Nat.le_of_ble_eq_true rfl)⟩) (z_preV hK hG hA hP hD hS [9, 10, 11] rfl (by decide) 2 rfl rfl) rfl rfl hl.1 rfl (lv_room (Nat.le_of_ble_eq_true rfl)) dX7_failBackwards_85 ⟨(Nat.le_of_ble_eq_true rfl), (Nat.le_of_ble_eq_true rfl)⟩) hA hP hD hS [9, 10, 11] rfl (fun H locs hP hS => ?_)
          refine z_eqi (z2 := zb (wPassed (S1 8) (wNum (S1 10) (S1 9 1) p1 0) (wNum (S1 10) (S1 9 1) p1 1) 1)) rfl ?_
          refine zi_if_neB (tgt := 105) hx hb dX7_failBackwards_88 (by decide) (fun c_35 => ?_) (fun c_35 => ?_)
          · refine lv_iinc (v := iI (0)) (lv' := [(8, .int (iI 0)), (7, .int (iI 0)), (6, .int (iI (wYaw (S1 14) (S1 13 1) (sp_X1_freshAt (sub2 S1 13) 0)))), (5, .int (iI (wNum (S1 10) (S1 9 1) p1 1))), (4, .int (iI (wNum (S1 10) (S1 9 1) p1 0))), (3, .ref ((subA a0 1) 8)), (0, .ref (a0 0)), (1, .int (iI 2)), (2, .int (iI p1))]) hx hb dX7_failBackwards_105 hl (k := 0) rfl (iI_add 1 (-1)) (by decide) rfl (fun ls hl => ?_)
            refine lv_goto (tgt := 72) hx hb dX7_failBackwards_108 (by decide) ?_
            refine lv_iload hx hb dX7_failBackwards_72 (lv_at hl 0 rfl) ?_
            refine lv_iconst (v := iI 1) hx hb dX7_failBackwards_74 rfl ?_
            refine zi_icmp_lt (tgt := 111) hx hb dX7_failBackwards_75 (by decide) ⟨by omega, by omega⟩ ⟨by omega, by omega⟩ (fun _ => ?_) (fun c_36 => absurd c_36 (by omega))
            refine lv_iload hx hb dX7_failBackwards_111 (lv_at hl 1 rfl) ?_
            exact z_iret hx hb hr hlocks hP hS dX7_failBackwards_113 (Eq.trans (zif_neg c_2) (Eq.trans (zif_neg c_9) (Eq.trans (zif_pos c_31) (Eq.trans (zif_pos c_33) (Eq.trans (zif_pos c_35) rfl))))) rfl (Nat.le_refl _) (Nat.le_refl _)
          · refine lv_iload hx hb dX7_failBackwards_91 (lv_at hl 0 rfl) ?_
            refine lv_iload hx hb dX7_failBackwards_93 (lv_at hl 2 rfl) ?_
            refine z_ai0 (va_runS (As := [.int (iI 1), .int (iI (wYaw (S1 14) (S1 13 1) (sp_X1_freshAt (sub2 S1 13) 0)))]) (rest := []) ⟨hx, hb, hml, hown, hts⟩ (c_X1_isLeftOut l D k   1 (wYaw (S1 14) (S1 13 1) (sp_X1_freshAt (sub2 S1 13) 0)) (by omega) (by omega) _) (va_cwS 2 hts gX7_failBackwards_X1_isLeftOut rfl rfl rfl (by decide +kernel) ⟨(Nat.le_of_ble_eq_true rfl), (Nat.le_of_ble_eq_true rfl)⟩) (z_preS hK hG hA hP hD hS [] rfl (by decide)) rfl rfl hl.1 rfl (lv_room (Nat.le_of_ble_eq_true rfl)) dX7_failBackwards_95 ⟨(Nat.le_of_ble_eq_true rfl), (Nat.le_of_ble_eq_true rfl)⟩) hA hP hD hS [] rfl (fun H locs hP hS => ?_)
            refine zi_if_neB (tgt := 105) hx hb dX7_failBackwards_98 (by decide) (fun c_37 => ?_) (fun c_37 => ?_)
            · refine lv_iinc (v := iI (0)) (lv' := [(8, .int (iI 0)), (7, .int (iI 0)), (6, .int (iI (wYaw (S1 14) (S1 13 1) (sp_X1_freshAt (sub2 S1 13) 0)))), (5, .int (iI (wNum (S1 10) (S1 9 1) p1 1))), (4, .int (iI (wNum (S1 10) (S1 9 1) p1 0))), (3, .ref ((subA a0 1) 8)), (0, .ref (a0 0)), (1, .int (iI 2)), (2, .int (iI p1))]) hx hb dX7_failBackwards_105 hl (k := 0) rfl (iI_add 1 (-1)) (by decide) rfl (fun ls hl => ?_)
              refine lv_goto (tgt := 72) hx hb dX7_failBackwards_108 (by decide) ?_
              refine lv_iload hx hb dX7_failBackwards_72 (lv_at hl 0 rfl) ?_
              refine lv_iconst (v := iI 1) hx hb dX7_failBackwards_74 rfl ?_
              refine zi_icmp_lt (tgt := 111) hx hb dX7_failBackwards_75 (by decide) ⟨by omega, by omega⟩ ⟨by omega, by omega⟩ (fun _ => ?_) (fun c_38 => absurd c_38 (by omega))
              refine lv_iload hx hb dX7_failBackwards_111 (lv_at hl 1 rfl) ?_
              exact z_iret hx hb hr hlocks hP hS dX7_failBackwards_113 (Eq.trans (zif_neg c_2) (Eq.trans (zif_neg c_9) (Eq.trans (zif_pos c_31) (Eq.trans (zif_pos c_33) (Eq.trans (zif_neg c_35) (Eq.trans (zif_pos c_37) rfl)))))) rfl (Nat.le_refl _) (Nat.le_refl _)
            · refine lv_iload hx hb dX7_failBackwards_101 (lv_at hl 0 rfl) ?_
              refine lv_istore (lv' := [(7, .int (iI 1)), (8, .int (iI 1)), (6, .int (iI (wYaw (S1 14) (S1 13 1) (sp_X1_freshAt (sub2 S1 13) 0)))), (5, .int (iI (wNum (S1 10) (S1 9 1) p1 1))), (4, .int (iI (wNum (S1 10) (S1 9 1) p1 0))), (3, .ref ((subA a0 1) 8)), (0, .ref (a0 0)), (1, .int (iI 2)), (2, .int (iI p1))]) hx hb dX7_failBackwards_103 hl (by decide) rfl (fun ls hl => ?_)
              refine lv_iinc (v := iI (0)) (lv' := [(8, .int (iI 0)), (7, .int (iI 1)), (6, .int (iI (wYaw (S1 14) (S1 13 1) (sp_X1_freshAt (sub2 S1 13) 0)))), (5, .int (iI (wNum (S1 10) (S1 9 1) p1 1))), (4, .int (iI (wNum (S1 10) (S1 9 1) p1 0))), (3, .ref ((subA a0 1) 8)), (0, .ref (a0 0)), (1, .int (iI 2)), (2, .int (iI p1))]) hx hb dX7_failBackwards_105 hl (k := 1) rfl (iI_add 1 (-1)) (by decide) rfl (fun ls hl => ?_)
              refine lv_goto (tgt := 72) hx hb dX7_failBackwards_108 (by decide) ?_
              refine lv_iload hx hb dX7_failBackwards_72 (lv_at hl 0 rfl) ?_
              refine lv_iconst (v := iI 1) hx hb dX7_failBackwards_74 rfl ?_
              refine zi_icmp_lt (tgt := 111) hx hb dX7_failBackwards_75 (by decide) ⟨by omega, by omega⟩ ⟨by omega, by omega⟩ (fun _ => ?_) (fun c_39 => absurd c_39 (by omega))
              refine lv_iload hx hb dX7_failBackwards_111 (lv_at hl 1 rfl) ?_
              exact z_iret hx hb hr hlocks hP hS dX7_failBackwards_113 (Eq.trans (zif_neg c_2) (Eq.trans (zif_neg c_9) (Eq.trans (zif_pos c_31) (Eq.trans (zif_pos c_33) (Eq.trans (zif_neg c_35) (Eq.trans (zif_neg c_37) rfl)))))) rfl (Nat.le_refl _) (Nat.le_refl _)
        · refine lv_iload hx hb dX7_failBackwards_91 (lv_at hl 0 rfl) ?_
          refine lv_iload hx hb dX7_failBackwards_93 (lv_at hl 2 rfl) ?_
          refine z_ai0 (va_runS (As := [.int (iI 2), .int (iI (wYaw (S1 14) (S1 13 1) (sp_X1_freshAt (sub2 S1 13) 0)))]) (rest := []) ⟨hx, hb, hml, hown, hts⟩ (c_X1_isLeftOut l D k   2 (wYaw (S1 14) (S1 13 1) (sp_X1_freshAt (sub2 S1 13) 0)) (by omega) (by omega) _) (va_cwS 2 hts gX7_failBackwards_X1_isLeftOut rfl rfl rfl (by decide +kernel) ⟨(Nat.le_of_ble_eq_true rfl), (Nat.le_of_ble_eq_true rfl)⟩) (z_preS hK hG hA hP hD hS [] rfl (by decide)) rfl rfl hl.1 rfl (lv_room (Nat.le_of_ble_eq_true rfl)) dX7_failBackwards_95 ⟨(Nat.le_of_ble_eq_true rfl), (Nat.le_of_ble_eq_true rfl)⟩) hA hP hD hS [] rfl (fun H locs hP hS => ?_)
          refine zi_if_neB (tgt := 105) hx hb dX7_failBackwards_98 (by decide) (fun c_40 => ?_) (fun c_40 => ?_)
          · refine lv_iinc (v := iI (1)) (lv' := [(8, .int (iI 1)), (7, .int (iI 0)), (6, .int (iI (wYaw (S1 14) (S1 13 1) (sp_X1_freshAt (sub2 S1 13) 0)))), (5, .int (iI (wNum (S1 10) (S1 9 1) p1 1))), (4, .int (iI (wNum (S1 10) (S1 9 1) p1 0))), (3, .ref ((subA a0 1) 8)), (0, .ref (a0 0)), (1, .int (iI 2)), (2, .int (iI p1))]) hx hb dX7_failBackwards_105 hl (k := 0) rfl (iI_add 2 (-1)) (by decide) rfl (fun ls hl => ?_)
            refine lv_goto (tgt := 72) hx hb dX7_failBackwards_108 (by decide) ?_
            refine lv_iload hx hb dX7_failBackwards_72 (lv_at hl 0 rfl) ?_
            refine lv_iconst (v := iI 1) hx hb dX7_failBackwards_74 rfl ?_
            refine zi_icmp_lt (tgt := 111) hx hb dX7_failBackwards_75 (by decide) ⟨by omega, by omega⟩ ⟨by omega, by omega⟩ (fun c_41 => absurd c_41 (by omega)) (fun _ => ?_)
            refine lv_aload_n hx hb dX7_failBackwards_78 rfl (lv_at hl 5 rfl) ?_
            refine lv_iload hx hb dX7_failBackwards_79 (lv_at hl 4 rfl) ?_
            refine lv_iload hx hb dX7_failBackwards_81 (lv_at hl 3 rfl) ?_
            refine lv_iload hx hb dX7_failBackwards_83 (lv_at hl 0 rfl) ?_
            refine z_ai0 (va_runV (As := [.int (iI (wNum (S1 10) (S1 9 1) p1 0)), .int (iI (wNum (S1 10) (S1 9 1) p1 1)), .int (iI 1)]) (rest := []) ⟨hx, hb, hml, hown, hts⟩ (c_X0_isPassedBy l D k (subA (subA a0 1) 8) (sub2 S1 8)  (wNum (S1 10) (S1 9 1) p1 0) (wNum (S1 10) (S1 9 1) p1 1) 1 (pOK_b hp 8 (by decide)) (by omega) (by omega) (by omega) _) (cwV 3 hts gX7_failBackwards_X0_isPassedBy rfl rfl rfl (by decide +kernel) ⟨(Nat.le_of_ble_eq_true rfl), (Nat.le_of_ble_eq_true rfl)⟩) (z_preV hK hG hA hP hD hS [9, 10, 11] rfl (by decide) 2 rfl rfl) rfl rfl hl.1 rfl (lv_room (Nat.le_of_ble_eq_true rfl)) dX7_failBackwards_85 ⟨(Nat.le_of_ble_eq_true rfl), (Nat.le_of_ble_eq_true rfl)⟩) hA hP hD hS [9, 10, 11] rfl (fun H locs hP hS => ?_)
            refine z_eqi (z2 := zb (wPassed (S1 8) (wNum (S1 10) (S1 9 1) p1 0) (wNum (S1 10) (S1 9 1) p1 1) 1)) rfl ?_
            refine zi_if_neB (tgt := 105) hx hb dX7_failBackwards_88 (by decide) (fun c_42 => ?_) (fun c_42 => ?_)
            · refine lv_iinc (v := iI (0)) (lv' := [(8, .int (iI 0)), (7, .int (iI 0)), (6, .int (iI (wYaw (S1 14) (S1 13 1) (sp_X1_freshAt (sub2 S1 13) 0)))), (5, .int (iI (wNum (S1 10) (S1 9 1) p1 1))), (4, .int (iI (wNum (S1 10) (S1 9 1) p1 0))), (3, .ref ((subA a0 1) 8)), (0, .ref (a0 0)), (1, .int (iI 2)), (2, .int (iI p1))]) hx hb dX7_failBackwards_105 hl (k := 0) rfl (iI_add 1 (-1)) (by decide) rfl (fun ls hl => ?_)
              refine lv_goto (tgt := 72) hx hb dX7_failBackwards_108 (by decide) ?_
              refine lv_iload hx hb dX7_failBackwards_72 (lv_at hl 0 rfl) ?_
              refine lv_iconst (v := iI 1) hx hb dX7_failBackwards_74 rfl ?_
              refine zi_icmp_lt (tgt := 111) hx hb dX7_failBackwards_75 (by decide) ⟨by omega, by omega⟩ ⟨by omega, by omega⟩ (fun _ => ?_) (fun c_43 => absurd c_43 (by omega))
              refine lv_iload hx hb dX7_failBackwards_111 (lv_at hl 1 rfl) ?_
              exact z_iret hx hb hr hlocks hP hS dX7_failBackwards_113 (Eq.trans (zif_neg c_2) (Eq.trans (zif_neg c_9) (Eq.trans (zif_pos c_31) (Eq.trans (zif_neg c_33) (Eq.trans (zif_pos c_40) (Eq.trans (zif_pos c_42) rfl)))))) rfl (Nat.le_refl _) (Nat.le_refl _)
            · refine lv_iload hx hb dX7_failBackwards_91 (lv_at hl 0 rfl) ?_
              refine lv_iload hx hb dX7_failBackwards_93 (lv_at hl 2 rfl) ?_
              refine z_ai0 (va_runS (As := [.int (iI 1), .int (iI (wYaw (S1 14) (S1 13 1) (sp_X1_freshAt (sub2 S1 13) 0)))]) (rest := []) ⟨hx, hb, hml, hown, hts⟩ (c_X1_isLeftOut l D k   1 (wYaw (S1 14) (S1 13 1) (sp_X1_freshAt (sub2 S1 13) 0)) (by omega) (by omega) _) (va_cwS 2 hts gX7_failBackwards_X1_isLeftOut rfl rfl rfl (by decide +kernel) ⟨(Nat.le_of_ble_eq_true rfl), (Nat.le_of_ble_eq_true rfl)⟩) (z_preS hK hG hA hP hD hS [] rfl (by decide)) rfl rfl hl.1 rfl (lv_room (Nat.le_of_ble_eq_true rfl)) dX7_failBackwards_95 ⟨(Nat.le_of_ble_eq_true rfl), (Nat.le_of_ble_eq_true rfl)⟩) hA hP hD hS [] rfl (fun H locs hP hS => ?_)
              refine zi_if_neB (tgt := 105) hx hb dX7_failBackwards_98 (by decide) (fun c_44 => ?_) (fun c_44 => ?_)
              · refine lv_iinc (v := iI (0)) (lv' := [(8, .int (iI 0)), (7, .int (iI 0)), (6, .int (iI (wYaw (S1 14) (S1 13 1) (sp_X1_freshAt (sub2 S1 13) 0)))), (5, .int (iI (wNum (S1 10) (S1 9 1) p1 1))), (4, .int (iI (wNum (S1 10) (S1 9 1) p1 0))), (3, .ref ((subA a0 1) 8)), (0, .ref (a0 0)), (1, .int (iI 2)), (2, .int (iI p1))]) hx hb dX7_failBackwards_105 hl (k := 0) rfl (iI_add 1 (-1)) (by decide) rfl (fun ls hl => ?_)
                refine lv_goto (tgt := 72) hx hb dX7_failBackwards_108 (by decide) ?_
                refine lv_iload hx hb dX7_failBackwards_72 (lv_at hl 0 rfl) ?_
                refine lv_iconst (v := iI 1) hx hb dX7_failBackwards_74 rfl ?_
                refine zi_icmp_lt (tgt := 111) hx hb dX7_failBackwards_75 (by decide) ⟨by omega, by omega⟩ ⟨by omega, by omega⟩ (fun _ => ?_) (fun c_45 => absurd c_45 (by omega))
                refine lv_iload hx hb dX7_failBackwards_111 (lv_at hl 1 rfl) ?_
                exact z_iret hx hb hr hlocks hP hS dX7_failBackwards_113 (Eq.trans (zif_neg c_2) (Eq.trans (zif_neg c_9) (Eq.trans (zif_pos c_31) (Eq.trans (zif_neg c_33) (Eq.trans (zif_pos c_40) (Eq.trans (zif_neg c_42) (Eq.trans (zif_pos c_44) rfl))))))) rfl (Nat.le_refl _) (Nat.le_refl _)
              · refine lv_iload hx hb dX7_failBackwards_101 (lv_at hl 0 rfl) ?_
                refine lv_istore (lv' := [(7, .int (iI 1)), (8, .int (iI 1)), (6, .int (iI (wYaw (S1 14) (S1 13 1) (sp_X1_freshAt (sub2 S1 13) 0)))), (5, .int (iI (wNum (S1 10) (S1 9 1) p1 1))), (4, .int (iI (wNum (S1 10) (S1 9 1) p1 0))), (3, .ref ((subA a0 1) 8)), (0, .ref (a0 0)), (1, .int (iI 2)), (2, .int (iI p1))]) hx hb dX7_failBackwards_103 hl (by decide) rfl (fun ls hl => ?_)
                refine lv_iinc (v := iI (0)) (lv' := [(8, .int (iI 0)), (7, .int (iI 1)), (6, .int (iI (wYaw (S1 14) (S1 13 1) (sp_X1_freshAt (sub2 S1 13) 0)))), (5, .int (iI (wNum (S1 10) (S1 9 1) p1 1))), (4, .int (iI (wNum (S1 10) (S1 9 1) p1 0))), (3, .ref ((subA a0 1) 8)), (0, .ref (a0 0)), (1, .int (iI 2)), (2, .int (iI p1))]) hx hb dX7_failBackwards_105 hl (k := 1) rfl (iI_add 1 (-1)) (by decide) rfl (fun ls hl => ?_)
                refine lv_goto (tgt := 72) hx hb dX7_failBackwards_108 (by decide) ?_
                refine lv_iload hx hb dX7_failBackwards_72 (lv_at hl 0 rfl) ?_
                refine lv_iconst (v := iI 1) hx hb dX7_failBackwards_74 rfl ?_
                refine zi_icmp_lt (tgt := 111) hx hb dX7_failBackwards_75 (by decide) ⟨by omega, by omega⟩ ⟨by omega, by omega⟩ (fun _ => ?_) (fun c_46 => absurd c_46 (by omega))
                refine lv_iload hx hb dX7_failBackwards_111 (lv_at hl 1 rfl) ?_
                exact z_iret hx hb hr hlocks hP hS dX7_failBackwards_113 (Eq.trans (zif_neg c_2) (Eq.trans (zif_neg c_9) (Eq.trans (zif_pos c_31) (Eq.trans (zif_neg c_33) (Eq.trans (zif_pos c_40) (Eq.trans (zif_neg c_42) (Eq.trans (zif_neg c_44) rfl))))))) rfl (Nat.le_refl _) (Nat.le_refl _)
          · refine lv_iload hx hb dX7_failBackwards_101 (lv_at hl 0 rfl) ?_
            refine lv_istore (lv' := [(7, .int (iI 2)), (8, .int (iI 2)), (6, .int (iI (wYaw (S1 14) (S1 13 1) (sp_X1_freshAt (sub2 S1 13) 0)))), (5, .int (iI (wNum (S1 10) (S1 9 1) p1 1))), (4, .int (iI (wNum (S1 10) (S1 9 1) p1 0))), (3, .ref ((subA a0 1) 8)), (0, .ref (a0 0)), (1, .int (iI 2)), (2, .int (iI p1))]) hx hb dX7_failBackwards_103 hl (by decide) rfl (fun ls hl => ?_)
            refine lv_iinc (v := iI (1)) (lv' := [(8, .int (iI 1)), (7, .int (iI 2)), (6, .int (iI (wYaw (S1 14) (S1 13 1) (sp_X1_freshAt (sub2 S1 13) 0)))), (5, .int (iI (wNum (S1 10) (S1 9 1) p1 1))), (4, .int (iI (wNum (S1 10) (S1 9 1) p1 0))), (3, .ref ((subA a0 1) 8)), (0, .ref (a0 0)), (1, .int (iI 2)), (2, .int (iI p1))]) hx hb dX7_failBackwards_105 hl (k := 1) rfl (iI_add 2 (-1)) (by decide) rfl (fun ls hl => ?_)
            refine lv_goto (tgt := 72) hx hb dX7_failBackwards_108 (by decide) ?_
            refine lv_iload hx hb dX7_failBackwards_72 (lv_at hl 0 rfl) ?_
            refine lv_iconst (v := iI 1) hx hb dX7_failBackwards_74 rfl ?_
            refine zi_icmp_lt (tgt := 111) hx hb dX7_failBackwards_75 (by decide) ⟨by omega, by omega⟩ ⟨by omega, by omega⟩ (fun c_47 => absurd c_47 (by omega)) (fun _ => ?_)
            refine lv_aload_n hx hb dX7_failBackwards_78 rfl (lv_at hl 5 rfl) ?_
            refine lv_iload hx hb dX7_failBackwards_79 (lv_at hl 4 rfl) ?_
            refine lv_iload hx hb dX7_failBackwards_81 (lv_at hl 3 rfl) ?_
            refine lv_iload hx hb dX7_failBackwards_83 (lv_at hl 0 rfl) ?_
            refine z_ai0 (va_runV (As := [.int (iI (wNum (S1 10) (S1 9 1) p1 0)), .int (iI (wNum (S1 10) (S1 9 1) p1 1)), .int (iI 1)]) (rest := []) ⟨hx, hb, hml, hown, hts⟩ (c_X0_isPassedBy l D k (subA (subA a0 1) 8) (sub2 S1 8)  (wNum (S1 10) (S1 9 1) p1 0) (wNum (S1 10) (S1 9 1) p1 1) 1 (pOK_b hp 8 (by decide)) (by omega) (by omega) (by omega) _) (cwV 3 hts gX7_failBackwards_X0_isPassedBy rfl rfl rfl (by decide +kernel) ⟨(Nat.le_of_ble_eq_true rfl), (Nat.le_of_ble_eq_true rfl)⟩) (z_preV hK hG hA hP hD hS [9, 10, 11] rfl (by decide) 2 rfl rfl) rfl rfl hl.1 rfl (lv_room (Nat.le_of_ble_eq_true rfl)) dX7_failBackwards_85 ⟨(Nat.le_of_ble_eq_true rfl), (Nat.le_of_ble_eq_true rfl)⟩) hA hP hD hS [9, 10, 11] rfl (fun H locs hP hS => ?_)
            refine z_eqi (z2 := zb (wPassed (S1 8) (wNum (S1 10) (S1 9 1) p1 0) (wNum (S1 10) (S1 9 1) p1 1) 1)) rfl ?_
            refine zi_if_neB (tgt := 105) hx hb dX7_failBackwards_88 (by decide) (fun c_48 => ?_) (fun c_48 => ?_)
            · refine lv_iinc (v := iI (0)) (lv' := [(8, .int (iI 0)), (7, .int (iI 2)), (6, .int (iI (wYaw (S1 14) (S1 13 1) (sp_X1_freshAt (sub2 S1 13) 0)))), (5, .int (iI (wNum (S1 10) (S1 9 1) p1 1))), (4, .int (iI (wNum (S1 10) (S1 9 1) p1 0))), (3, .ref ((subA a0 1) 8)), (0, .ref (a0 0)), (1, .int (iI 2)), (2, .int (iI p1))]) hx hb dX7_failBackwards_105 hl (k := 0) rfl (iI_add 1 (-1)) (by decide) rfl (fun ls hl => ?_)
              refine lv_goto (tgt := 72) hx hb dX7_failBackwards_108 (by decide) ?_
              refine lv_iload hx hb dX7_failBackwards_72 (lv_at hl 0 rfl) ?_
              refine lv_iconst (v := iI 1) hx hb dX7_failBackwards_74 rfl ?_
              refine zi_icmp_lt (tgt := 111) hx hb dX7_failBackwards_75 (by decide) ⟨by omega, by omega⟩ ⟨by omega, by omega⟩ (fun _ => ?_) (fun c_49 => absurd c_49 (by omega))
              refine lv_iload hx hb dX7_failBackwards_111 (lv_at hl 1 rfl) ?_
              exact z_iret hx hb hr hlocks hP hS dX7_failBackwards_113 (Eq.trans (zif_neg c_2) (Eq.trans (zif_neg c_9) (Eq.trans (zif_pos c_31) (Eq.trans (zif_neg c_33) (Eq.trans (zif_neg c_40) (Eq.trans (zif_pos c_48) rfl)))))) rfl (Nat.le_refl _) (Nat.le_refl _)
            · refine lv_iload hx hb dX7_failBackwards_91 (lv_at hl 0 rfl) ?_
              refine lv_iload hx hb dX7_failBackwards_93 (lv_at hl 2 rfl) ?_
              refine z_ai0 (va_runS (As := [.int (iI 1), .int (iI (wYaw (S1 14) (S1 13 1) (sp_X1_freshAt (sub2 S1 13) 0)))]) (rest := []) ⟨hx, hb, hml, hown, hts⟩ (c_X1_isLeftOut l D k   1 (wYaw (S1 14) (S1 13 1) (sp_X1_freshAt (sub2 S1 13) 0)) (by omega) (by omega) _) (va_cwS 2 hts gX7_failBackwards_X1_isLeftOut rfl rfl rfl (by decide +kernel) ⟨(Nat.le_of_ble_eq_true rfl), (Nat.le_of_ble_eq_true rfl)⟩) (z_preS hK hG hA hP hD hS [] rfl (by decide)) rfl rfl hl.1 rfl (lv_room (Nat.le_of_ble_eq_true rfl)) dX7_failBackwards_95 ⟨(Nat.le_of_ble_eq_true rfl), (Nat.le_of_ble_eq_true rfl)⟩) hA hP hD hS [] rfl (fun H locs hP hS => ?_)
              refine zi_if_neB (tgt := 105) hx hb dX7_failBackwards_98 (by decide) (fun c_50 => ?_) (fun c_50 => ?_)
              · refine lv_iinc (v := iI (0)) (lv' := [(8, .int (iI 0)), (7, .int (iI 2)), (6, .int (iI (wYaw (S1 14) (S1 13 1) (sp_X1_freshAt (sub2 S1 13) 0)))), (5, .int (iI (wNum (S1 10) (S1 9 1) p1 1))), (4, .int (iI (wNum (S1 10) (S1 9 1) p1 0))), (3, .ref ((subA a0 1) 8)), (0, .ref (a0 0)), (1, .int (iI 2)), (2, .int (iI p1))]) hx hb dX7_failBackwards_105 hl (k := 0) rfl (iI_add 1 (-1)) (by decide) rfl (fun ls hl => ?_)
                refine lv_goto (tgt := 72) hx hb dX7_failBackwards_108 (by decide) ?_
                refine lv_iload hx hb dX7_failBackwards_72 (lv_at hl 0 rfl) ?_
                refine lv_iconst (v := iI 1) hx hb dX7_failBackwards_74 rfl ?_
                refine zi_icmp_lt (tgt := 111) hx hb dX7_failBackwards_75 (by decide) ⟨by omega, by omega⟩ ⟨by omega, by omega⟩ (fun _ => ?_) (fun c_51 => absurd c_51 (by omega))
                refine lv_iload hx hb dX7_failBackwards_111 (lv_at hl 1 rfl) ?_
                exact z_iret hx hb hr hlocks hP hS dX7_failBackwards_113 (Eq.trans (zif_neg c_2) (Eq.trans (zif_neg c_9) (Eq.trans (zif_pos c_31) (Eq.trans (zif_neg c_33) (Eq.trans (zif_neg c_40) (Eq.trans (zif_neg c_48) (Eq.trans (zif_pos c_50) rfl))))))) rfl (Nat.le_refl _) (Nat.le_refl _)
              · refine lv_iload hx hb dX7_failBackwards_101 (lv_at hl 0 rfl) ?_
                refine lv_istore (lv' := [(7, .int (iI 1)), (8, .int (iI 1)), (6, .int (iI (wYaw (S1 14) (S1 13 1) (sp_X1_freshAt (sub2 S1 13) 0)))), (5, .int (iI (wNum (S1 10) (S1 9 1) p1 1))), (4, .int (iI (wNum (S1 10) (S1 9 1) p1 0))), (3, .ref ((subA a0 1) 8)), (0, .ref (a0 0)), (1, .int (iI 2)), (2, .int (iI p1))]) hx hb dX7_failBackwards_103 hl (by decide) rfl (fun ls hl => ?_)
                refine lv_iinc (v := iI (0)) (lv' := [(8, .int (iI 0)), (7, .int (iI 1)), (6, .int (iI (wYaw (S1 14) (S1 13 1) (sp_X1_freshAt (sub2 S1 13) 0)))), (5, .int (iI (wNum (S1 10) (S1 9 1) p1 1))), (4, .int (iI (wNum (S1 10) (S1 9 1) p1 0))), (3, .ref ((subA a0 1) 8)), (0, .ref (a0 0)), (1, .int (iI 2)), (2, .int (iI p1))]) hx hb dX7_failBackwards_105 hl (k := 1) rfl (iI_add 1 (-1)) (by decide) rfl (fun ls hl => ?_)
                refine lv_goto (tgt := 72) hx hb dX7_failBackwards_108 (by decide) ?_
                refine lv_iload hx hb dX7_failBackwards_72 (lv_at hl 0 rfl) ?_
                refine lv_iconst (v := iI 1) hx hb dX7_failBackwards_74 rfl ?_
                refine zi_icmp_lt (tgt := 111) hx hb dX7_failBackwards_75 (by decide) ⟨by omega, by omega⟩ ⟨by omega, by omega⟩ (fun _ => ?_) (fun c_52 => absurd c_52 (by omega))
                refine lv_iload hx hb dX7_failBackwards_111 (lv_at hl 1 rfl) ?_
                exact z_iret hx hb hr hlocks hP hS dX7_failBackwards_113 (Eq.trans (zif_neg c_2) (Eq.trans (zif_neg c_9) (Eq.trans (zif_pos c_31) (Eq.trans (zif_neg c_33) (Eq.trans (zif_neg c_40) (Eq.trans (zif_neg c_48) (Eq.trans (zif_neg c_50) rfl))))))) rfl (Nat.le_refl _) (Nat.le_refl _)
      · refine lv_iload hx hb dX7_failBackwards_101 (lv_at hl 0 rfl) ?_
        refine lv_istore (lv' := [(7, .int (iI 3)), (8, .int (iI 3)), (6, .int (iI (wYaw (S1 14) (S1 13 1) (sp_X1_freshAt (sub2 S1 13) 0)))), (5, .int (iI (wNum (S1 10) (S1 9 1) p1 1))), (4, .int (iI (wNum (S1 10) (S1 9 1) p1 0))), (3, .ref ((subA a0 1) 8)), (0, .ref (a0 0)), (1, .int (iI 2)), (2, .int (iI p1))]) hx hb dX7_failBackwards_103 hl (by decide) rfl (fun ls hl => ?_)
        refine lv_iinc (v := iI (2)) (lv' := [(8, .int (iI 2)), (7, .int (iI 3)), (6, .int (iI (wYaw (S1 14) (S1 13 1) (sp_X1_freshAt (sub2 S1 13) 0)))), (5, .int (iI (wNum (S1 10) (S1 9 1) p1 1))), (4, .int (iI (wNum (S1 10) (S1 9 1) p1 0))), (3, .ref ((subA a0 1) 8)), (0, .ref (a0 0)), (1, .int (iI 2)), (2, .int (iI p1))]) hx hb dX7_failBackwards_105 hl (k := 1) rfl (iI_add 3 (-1)) (by decide) rfl (fun ls hl => ?_)
        refine lv_goto (tgt := 72) hx hb dX7_failBackwards_108 (by decide) ?_
        refine lv_iload hx hb dX7_failBackwards_72 (lv_at hl 0 rfl) ?_
        refine lv_iconst (v := iI 1) hx hb dX7_failBackwards_74 rfl ?_
        refine zi_icmp_lt (tgt := 111) hx hb dX7_failBackwards_75 (by decide) ⟨by omega, by omega⟩ ⟨by omega, by omega⟩ (fun c_53 => absurd c_53 (by omega)) (fun _ => ?_)
        refine lv_aload_n hx hb dX7_failBackwards_78 rfl (lv_at hl 5 rfl) ?_
        refine lv_iload hx hb dX7_failBackwards_79 (lv_at hl 4 rfl) ?_
        refine lv_iload hx hb dX7_failBackwards_81 (lv_at hl 3 rfl) ?_
        refine lv_iload hx hb dX7_failBackwards_83 (lv_at hl 0 rfl) ?_
        refine z_ai0 (va_runV (As := [.int (iI (wNum (S1 10) (S1 9 1) p1 0)), .int (iI (wNum (S1 10) (S1 9 1) p1 1)), .int (iI 2)]) (rest := []) ⟨hx, hb, hml, hown, hts⟩ (c_X0_isPassedBy l D k (subA (subA a0 1) 8) (sub2 S1 8)  (wNum (S1 10) (S1 9 1) p1 0) (wNum (S1 10) (S1 9 1) p1 1) 2 (pOK_b hp 8 (by decide)) (by omega) (by omega) (by omega) _) (cwV 3 hts gX7_failBackwards_X0_isPassedBy rfl rfl rfl (by decide +kernel) ⟨(Nat.le_of_ble_eq_true rfl), (Nat.le_of_ble_eq_true rfl)⟩) (z_preV hK hG hA hP hD hS [9, 10, 11] rfl (by decide) 2 rfl rfl) rfl rfl hl.1 rfl (lv_room (Nat.le_of_ble_eq_true rfl)) dX7_failBackwards_85 ⟨(Nat.le_of_ble_eq_true rfl), (Nat.le_of_ble_eq_true rfl)⟩) hA hP hD hS [9, 10, 11] rfl (fun H locs hP hS => ?_)
        refine z_eqi (z2 := zb (wPassed (S1 8) (wNum (S1 10) (S1 9 1) p1 0) (wNum (S1 10) (S1 9 1) p1 1) 2)) rfl ?_
        refine zi_if_neB (tgt := 105) hx hb dX7_failBackwards_88 (by decide) (fun c_54 => ?_) (fun c_54 => ?_)
        · refine lv_iinc (v := iI (1)) (lv' := [(8, .int (iI 1)), (7, .int (iI 3)), (6, .int (iI (wYaw (S1 14) (S1 13 1) (sp_X1_freshAt (sub2 S1 13) 0)))), (5, .int (iI (wNum (S1 10) (S1 9 1) p1 1))), (4, .int (iI (wNum (S1 10) (S1 9 1) p1 0))), (3, .ref ((subA a0 1) 8)), (0, .ref (a0 0)), (1, .int (iI 2)), (2, .int (iI p1))]) hx hb dX7_failBackwards_105 hl (k := 0) rfl (iI_add 2 (-1)) (by decide) rfl (fun ls hl => ?_)
          refine lv_goto (tgt := 72) hx hb dX7_failBackwards_108 (by decide) ?_
          refine lv_iload hx hb dX7_failBackwards_72 (lv_at hl 0 rfl) ?_
          refine lv_iconst (v := iI 1) hx hb dX7_failBackwards_74 rfl ?_
          refine zi_icmp_lt (tgt := 111) hx hb dX7_failBackwards_75 (by decide) ⟨by omega, by omega⟩ ⟨by omega, by omega⟩ (fun c_55 => absurd c_55 (by omega)) (fun _ => ?_)
          refine lv_aload_n hx hb dX7_failBackwards_78 rfl (lv_at hl 5 rfl) ?_
          refine lv_iload hx hb dX7_failBackwards_79 (lv_at hl 4 rfl) ?_
          refine lv_iload hx hb dX7_failBackwards_81 (lv_at hl 3 rfl) ?_
          refine lv_iload hx hb dX7_failBackwards_83 (lv_at hl 0 rfl) ?_
          refine z_ai0 (va_runV (As := [.int (iI (wNum (S1 10) (S1 9 1) p1 0)), .int (iI (wNum (S1 10) (S1 9 1) p1 1)), .int (iI 1)]) (rest := []) ⟨hx, hb, hml, hown, hts⟩ (c_X0_isPassedBy l D k (subA (subA a0 1) 8) (sub2 S1 8)  (wNum (S1 10) (S1 9 1) p1 0) (wNum (S1 10) (S1 9 1) p1 1) 1 (pOK_b hp 8 (by decide)) (by omega) (by omega) (by omega) _) (cwV 3 hts gX7_failBackwards_X0_isPassedBy rfl rfl rfl (by decide +kernel) ⟨(Nat.le_of_ble_eq_true rfl), (Nat.le_of_ble_eq_true rfl)⟩) (z_preV hK hG hA hP hD hS [9, 10, 11] rfl (by decide) 2 rfl rfl) rfl rfl hl.1 rfl (lv_room (Nat.le_of_ble_eq_true rfl)) dX7_failBackwards_85 ⟨(Nat.le_of_ble_eq_true rfl), (Nat.le_of_ble_eq_true rfl)⟩) hA hP hD hS [9, 10, 11] rfl (fun H locs hP hS => ?_)
          refine z_eqi (z2 := zb (wPassed (S1 8) (wNum (S1 10) (S1 9 1) p1 0) (wNum (S1 10) (S1 9 1) p1 1) 1)) rfl ?_
          refine zi_if_neB (tgt := 105) hx hb dX7_failBackwards_88 (by decide) (fun c_56 => ?_) (fun c_56 => ?_)
          · refine lv_iinc (v := iI (0)) (lv' := [(8, .int (iI 0)), (7, .int (iI 3)), (6, .int (iI (wYaw (S1 14) (S1 13 1) (sp_X1_freshAt (sub2 S1 13) 0)))), (5, .int (iI (wNum (S1 10) (S1 9 1) p1 1))), (4, .int (iI (wNum (S1 10) (S1 9 1) p1 0))), (3, .ref ((subA a0 1) 8)), (0, .ref (a0 0)), (1, .int (iI 2)), (2, .int (iI p1))]) hx hb dX7_failBackwards_105 hl (k := 0) rfl (iI_add 1 (-1)) (by decide) rfl (fun ls hl => ?_)
            refine lv_goto (tgt := 72) hx hb dX7_failBackwards_108 (by decide) ?_
            refine lv_iload hx hb dX7_failBackwards_72 (lv_at hl 0 rfl) ?_
            refine lv_iconst (v := iI 1) hx hb dX7_failBackwards_74 rfl ?_
            refine zi_icmp_lt (tgt := 111) hx hb dX7_failBackwards_75 (by decide) ⟨by omega, by omega⟩ ⟨by omega, by omega⟩ (fun _ => ?_) (fun c_57 => absurd c_57 (by omega))
            refine lv_iload hx hb dX7_failBackwards_111 (lv_at hl 1 rfl) ?_
            exact z_iret hx hb hr hlocks hP hS dX7_failBackwards_113 (Eq.trans (zif_neg c_2) (Eq.trans (zif_neg c_9) (Eq.trans (zif_neg c_31) (Eq.trans (zif_pos c_54) (Eq.trans (zif_pos c_56) rfl))))) rfl (Nat.le_refl _) (Nat.le_refl _)
          · refine lv_iload hx hb dX7_failBackwards_91 (lv_at hl 0 rfl) ?_
            refine lv_iload hx hb dX7_failBackwards_93 (lv_at hl 2 rfl) ?_
            refine z_ai0 (va_runS (As := [.int (iI 1), .int (iI (wYaw (S1 14) (S1 13 1) (sp_X1_freshAt (sub2 S1 13) 0)))]) (rest := []) ⟨hx, hb, hml, hown, hts⟩ (c_X1_isLeftOut l D k   1 (wYaw (S1 14) (S1 13 1) (sp_X1_freshAt (sub2 S1 13) 0)) (by omega) (by omega) _) (va_cwS 2 hts gX7_failBackwards_X1_isLeftOut rfl rfl rfl (by decide +kernel) ⟨(Nat.le_of_ble_eq_true rfl), (Nat.le_of_ble_eq_true rfl)⟩) (z_preS hK hG hA hP hD hS [] rfl (by decide)) rfl rfl hl.1 rfl (lv_room (Nat.le_of_ble_eq_true rfl)) dX7_failBackwards_95 ⟨(Nat.le_of_ble_eq_true rfl), (Nat.le_of_ble_eq_true rfl)⟩) hA hP hD hS [] rfl (fun H locs hP hS => ?_)
            refine zi_if_neB (tgt := 105) hx hb dX7_failBackwards_98 (by decide) (fun c_58 => ?_) (fun c_58 => ?_)
            · refine lv_iinc (v := iI (0)) (lv' := [(8, .int (iI 0)), (7, .int (iI 3)), (6, .int (iI (wYaw (S1 14) (S1 13 1) (sp_X1_freshAt (sub2 S1 13) 0)))), (5, .int (iI (wNum (S1 10) (S1 9 1) p1 1))), (4, .int (iI (wNum (S1 10) (S1 9 1) p1 0))), (3, .ref ((subA a0 1) 8)), (0, .ref (a0 0)), (1, .int (iI 2)), (2, .int (iI p1))]) hx hb dX7_failBackwards_105 hl (k := 0) rfl (iI_add 1 (-1)) (by decide) rfl (fun ls hl => ?_)
              refine lv_goto (tgt := 72) hx hb dX7_failBackwards_108 (by decide) ?_
              refine lv_iload hx hb dX7_failBackwards_72 (lv_at hl 0 rfl) ?_
              refine lv_iconst (v := iI 1) hx hb dX7_failBackwards_74 rfl ?_
              refine zi_icmp_lt (tgt := 111) hx hb dX7_failBackwards_75 (by decide) ⟨by omega, by omega⟩ ⟨by omega, by omega⟩ (fun _ => ?_) (fun c_59 => absurd c_59 (by omega))
              refine lv_iload hx hb dX7_failBackwards_111 (lv_at hl 1 rfl) ?_
              exact z_iret hx hb hr hlocks hP hS dX7_failBackwards_113 (Eq.trans (zif_neg c_2) (Eq.trans (zif_neg c_9) (Eq.trans (zif_neg c_31) (Eq.trans (zif_pos c_54) (Eq.trans (zif_neg c_56) (Eq.trans (zif_pos c_58) rfl)))))) rfl (Nat.le_refl _) (Nat.le_refl _)
            · refine lv_iload hx hb dX7_failBackwards_101 (lv_at hl 0 rfl) ?_
              refine lv_istore (lv' := [(7, .int (iI 1)), (8, .int (iI 1)), (6, .int (iI (wYaw (S1 14) (S1 13 1) (sp_X1_freshAt (sub2 S1 13) 0)))), (5, .int (iI (wNum (S1 10) (S1 9 1) p1 1))), (4, .int (iI (wNum (S1 10) (S1 9 1) p1 0))), (3, .ref ((subA a0 1) 8)), (0, .ref (a0 0)), (1, .int (iI 2)), (2, .int (iI p1))]) hx hb dX7_failBackwards_103 hl (by decide) rfl (fun ls hl => ?_)
              refine lv_iinc (v := iI (0)) (lv' := [(8, .int (iI 0)), (7, .int (iI 1)), (6, .int (iI (wYaw (S1 14) (S1 13 1) (sp_X1_freshAt (sub2 S1 13) 0)))), (5, .int (iI (wNum (S1 10) (S1 9 1) p1 1))), (4, .int (iI (wNum (S1 10) (S1 9 1) p1 0))), (3, .ref ((subA a0 1) 8)), (0, .ref (a0 0)), (1, .int (iI 2)), (2, .int (iI p1))]) hx hb dX7_failBackwards_105 hl (k := 1) rfl (iI_add 1 (-1)) (by decide) rfl (fun ls hl => ?_)
              refine lv_goto (tgt := 72) hx hb dX7_failBackwards_108 (by decide) ?_
              refine lv_iload hx hb dX7_failBackwards_72 (lv_at hl 0 rfl) ?_
              refine lv_iconst (v := iI 1) hx hb dX7_failBackwards_74 rfl ?_
              refine zi_icmp_lt (tgt := 111) hx hb dX7_failBackwards_75 (by decide) ⟨by omega, by omega⟩ ⟨by omega, by omega⟩ (fun _ => ?_) (fun c_60 => absurd c_60 (by omega))
              refine lv_iload hx hb dX7_failBackwards_111 (lv_at hl 1 rfl) ?_
              exact z_iret hx hb hr hlocks hP hS dX7_failBackwards_113 (Eq.trans (zif_neg c_2) (Eq.trans (zif_neg c_9) (Eq.trans (zif_neg c_31) (Eq.trans (zif_pos c_54) (Eq.trans (zif_neg c_56) (Eq.trans (zif_neg c_58) rfl)))))) rfl (Nat.le_refl _) (Nat.le_refl _)
        · refine lv_iload hx hb dX7_failBackwards_91 (lv_at hl 0 rfl) ?_
          refine lv_iload hx hb dX7_failBackwards_93 (lv_at hl 2 rfl) ?_
          refine z_ai0 (va_runS (As := [.int (iI 2), .int (iI (wYaw (S1 14) (S1 13 1) (sp_X1_freshAt (sub2 S1 13) 0)))]) (rest := []) ⟨hx, hb, hml, hown, hts⟩ (c_X1_isLeftOut l D k   2 (wYaw (S1 14) (S1 13 1) (sp_X1_freshAt (sub2 S1 13) 0)) (by omega) (by omega) _) (va_cwS 2 hts gX7_failBackwards_X1_isLeftOut rfl rfl rfl (by decide +kernel) ⟨(Nat.le_of_ble_eq_true rfl), (Nat.le_of_ble_eq_true rfl)⟩) (z_preS hK hG hA hP hD hS [] rfl (by decide)) rfl rfl hl.1 rfl (lv_room (Nat.le_of_ble_eq_true rfl)) dX7_failBackwards_95 ⟨(Nat.le_of_ble_eq_true rfl), (Nat.le_of_ble_eq_true rfl)⟩) hA hP hD hS [] rfl (fun H locs hP hS => ?_)
          refine zi_if_neB (tgt := 105) hx hb dX7_failBackwards_98 (by decide) (fun c_61 => ?_) (fun c_61 => ?_)
          · refine lv_iinc (v := iI (1)) (lv' := [(8, .int (iI 1)), (7, .int (iI 3)), (6, .int (iI (wYaw (S1 14) (S1 13 1) (sp_X1_freshAt (sub2 S1 13) 0)))), (5, .int (iI (wNum (S1 10) (S1 9 1) p1 1))), (4, .int (iI (wNum (S1 10) (S1 9 1) p1 0))), (3, .ref ((subA a0 1) 8)), (0, .ref (a0 0)), (1, .int (iI 2)), (2, .int (iI p1))]) hx hb dX7_failBackwards_105 hl (k := 0) rfl (iI_add 2 (-1)) (by decide) rfl (fun ls hl => ?_)
            refine lv_goto (tgt := 72) hx hb dX7_failBackwards_108 (by decide) ?_
            refine lv_iload hx hb dX7_failBackwards_72 (lv_at hl 0 rfl) ?_
            refine lv_iconst (v := iI 1) hx hb dX7_failBackwards_74 rfl ?_
            refine zi_icmp_lt (tgt := 111) hx hb dX7_failBackwards_75 (by decide) ⟨by omega, by omega⟩ ⟨by omega, by omega⟩ (fun c_62 => absurd c_62 (by omega)) (fun _ => ?_)
            refine lv_aload_n hx hb dX7_failBackwards_78 rfl (lv_at hl 5 rfl) ?_
            refine lv_iload hx hb dX7_failBackwards_79 (lv_at hl 4 rfl) ?_
            refine lv_iload hx hb dX7_failBackwards_81 (lv_at hl 3 rfl) ?_
            refine lv_iload hx hb dX7_failBackwards_83 (lv_at hl 0 rfl) ?_
            refine z_ai0 (va_runV (As := [.int (iI (wNum (S1 10) (S1 9 1) p1 0)), .int (iI (wNum (S1 10) (S1 9 1) p1 1)), .int (iI 1)]) (rest := []) ⟨hx, hb, hml, hown, hts⟩ (c_X0_isPassedBy l D k (subA (subA a0 1) 8) (sub2 S1 8)  (wNum (S1 10) (S1 9 1) p1 0) (wNum (S1 10) (S1 9 1) p1 1) 1 (pOK_b hp 8 (by decide)) (by omega) (by omega) (by omega) _) (cwV 3 hts gX7_failBackwards_X0_isPassedBy rfl rfl rfl (by decide +kernel) ⟨(Nat.le_of_ble_eq_true rfl), (Nat.le_of_ble_eq_true rfl)⟩) (z_preV hK hG hA hP hD hS [9, 10, 11] rfl (by decide) 2 rfl rfl) rfl rfl hl.1 rfl (lv_room (Nat.le_of_ble_eq_true rfl)) dX7_failBackwards_85 ⟨(Nat.le_of_ble_eq_true rfl), (Nat.le_of_ble_eq_true rfl)⟩) hA hP hD hS [9, 10, 11] rfl (fun H locs hP hS => ?_)
            refine z_eqi (z2 := zb (wPassed (S1 8) (wNum (S1 10) (S1 9 1) p1 0) (wNum (S1 10) (S1 9 1) p1 1) 1)) rfl ?_
            refine zi_if_neB (tgt := 105) hx hb dX7_failBackwards_88 (by decide) (fun c_63 => ?_) (fun c_63 => ?_)
            · refine lv_iinc (v := iI (0)) (lv' := [(8, .int (iI 0)), (7, .int (iI 3)), (6, .int (iI (wYaw (S1 14) (S1 13 1) (sp_X1_freshAt (sub2 S1 13) 0)))), (5, .int (iI (wNum (S1 10) (S1 9 1) p1 1))), (4, .int (iI (wNum (S1 10) (S1 9 1) p1 0))), (3, .ref ((subA a0 1) 8)), (0, .ref (a0 0)), (1, .int (iI 2)), (2, .int (iI p1))]) hx hb dX7_failBackwards_105 hl (k := 0) rfl (iI_add 1 (-1)) (by decide) rfl (fun ls hl => ?_)
              refine lv_goto (tgt := 72) hx hb dX7_failBackwards_108 (by decide) ?_
              refine lv_iload hx hb dX7_failBackwards_72 (lv_at hl 0 rfl) ?_
              refine lv_iconst (v := iI 1) hx hb dX7_failBackwards_74 rfl ?_
              refine zi_icmp_lt (tgt := 111) hx hb dX7_failBackwards_75 (by decide) ⟨by omega, by omega⟩ ⟨by omega, by omega⟩ (fun _ => ?_) (fun c_64 => absurd c_64 (by omega))
              refine lv_iload hx hb dX7_failBackwards_111 (lv_at hl 1 rfl) ?_
              exact z_iret hx hb hr hlocks hP hS dX7_failBackwards_113 (Eq.trans (zif_neg c_2) (Eq.trans (zif_neg c_9) (Eq.trans (zif_neg c_31) (Eq.trans (zif_neg c_54) (Eq.trans (zif_pos c_61) (Eq.trans (zif_pos c_63) rfl)))))) rfl (Nat.le_refl _) (Nat.le_refl _)
            · refine lv_iload hx hb dX7_failBackwards_91 (lv_at hl 0 rfl) ?_
              refine lv_iload hx hb dX7_failBackwards_93 (lv_at hl 2 rfl) ?_
              refine z_ai0 (va_runS (As := [.int (iI 1), .int (iI (wYaw (S1 14) (S1 13 1) (sp_X1_freshAt (sub2 S1 13) 0)))]) (rest := []) ⟨hx, hb, hml, hown, hts⟩ (c_X1_isLeftOut l D k   1 (wYaw (S1 14) (S1 13 1) (sp_X1_freshAt (sub2 S1 13) 0)) (by omega) (by omega) _) (va_cwS 2 hts gX7_failBackwards_X1_isLeftOut rfl rfl rfl (by decide +kernel) ⟨(Nat.le_of_ble_eq_true rfl), (Nat.le_of_ble_eq_true rfl)⟩) (z_preS hK hG hA hP hD hS [] rfl (by decide)) rfl rfl hl.1 rfl (lv_room (Nat.le_of_ble_eq_true rfl)) dX7_failBackwards_95 ⟨(Nat.le_of_ble_eq_true rfl), (Nat.le_of_ble_eq_true rfl)⟩) hA hP hD hS [] rfl (fun H locs hP hS => ?_)
              refine zi_if_neB (tgt := 105) hx hb dX7_failBackwards_98 (by decide) (fun c_65 => ?_) (fun c_65 => ?_)
              · refine lv_iinc (v := iI (0)) (lv' := [(8, .int (iI 0)), (7, .int (iI 3)), (6, .int (iI (wYaw (S1 14) (S1 13 1) (sp_X1_freshAt (sub2 S1 13) 0)))), (5, .int (iI (wNum (S1 10) (S1 9 1) p1 1))), (4, .int (iI (wNum (S1 10) (S1 9 1) p1 0))), (3, .ref ((subA a0 1) 8)), (0, .ref (a0 0)), (1, .int (iI 2)), (2, .int (iI p1))]) hx hb dX7_failBackwards_105 hl (k := 0) rfl (iI_add 1 (-1)) (by decide) rfl (fun ls hl => ?_)
                refine lv_goto (tgt := 72) hx hb dX7_failBackwards_108 (by decide) ?_
                refine lv_iload hx hb dX7_failBackwards_72 (lv_at hl 0 rfl) ?_
                refine lv_iconst (v := iI 1) hx hb dX7_failBackwards_74 rfl ?_
                refine zi_icmp_lt (tgt := 111) hx hb dX7_failBackwards_75 (by decide) ⟨by omega, by omega⟩ ⟨by omega, by omega⟩ (fun _ => ?_) (fun c_66 => absurd c_66 (by omega))
                refine lv_iload hx hb dX7_failBackwards_111 (lv_at hl 1 rfl) ?_
                exact z_iret hx hb hr hlocks hP hS dX7_failBackwards_113 (Eq.trans (zif_neg c_2) (Eq.trans (zif_neg c_9) (Eq.trans (zif_neg c_31) (Eq.trans (zif_neg c_54) (Eq.trans (zif_pos c_61) (Eq.trans (zif_neg c_63) (Eq.trans (zif_pos c_65) rfl))))))) rfl (Nat.le_refl _) (Nat.le_refl _)
              · refine lv_iload hx hb dX7_failBackwards_101 (lv_at hl 0 rfl) ?_
                refine lv_istore (lv' := [(7, .int (iI 1)), (8, .int (iI 1)), (6, .int (iI (wYaw (S1 14) (S1 13 1) (sp_X1_freshAt (sub2 S1 13) 0)))), (5, .int (iI (wNum (S1 10) (S1 9 1) p1 1))), (4, .int (iI (wNum (S1 10) (S1 9 1) p1 0))), (3, .ref ((subA a0 1) 8)), (0, .ref (a0 0)), (1, .int (iI 2)), (2, .int (iI p1))]) hx hb dX7_failBackwards_103 hl (by decide) rfl (fun ls hl => ?_)
                refine lv_iinc (v := iI (0)) (lv' := [(8, .int (iI 0)), (7, .int (iI 1)), (6, .int (iI (wYaw (S1 14) (S1 13 1) (sp_X1_freshAt (sub2 S1 13) 0)))), (5, .int (iI (wNum (S1 10) (S1 9 1) p1 1))), (4, .int (iI (wNum (S1 10) (S1 9 1) p1 0))), (3, .ref ((subA a0 1) 8)), (0, .ref (a0 0)), (1, .int (iI 2)), (2, .int (iI p1))]) hx hb dX7_failBackwards_105 hl (k := 1) rfl (iI_add 1 (-1)) (by decide) rfl (fun ls hl => ?_)
                refine lv_goto (tgt := 72) hx hb dX7_failBackwards_108 (by decide) ?_
                refine lv_iload hx hb dX7_failBackwards_72 (lv_at hl 0 rfl) ?_
                refine lv_iconst (v := iI 1) hx hb dX7_failBackwards_74 rfl ?_
                refine zi_icmp_lt (tgt := 111) hx hb dX7_failBackwards_75 (by decide) ⟨by omega, by omega⟩ ⟨by omega, by omega⟩ (fun _ => ?_) (fun c_67 => absurd c_67 (by omega))
                refine lv_iload hx hb dX7_failBackwards_111 (lv_at hl 1 rfl) ?_
                exact z_iret hx hb hr hlocks hP hS dX7_failBackwards_113 (Eq.trans (zif_neg c_2) (Eq.trans (zif_neg c_9) (Eq.trans (zif_neg c_31) (Eq.trans (zif_neg c_54) (Eq.trans (zif_pos c_61) (Eq.trans (zif_neg c_63) (Eq.trans (zif_neg c_65) rfl))))))) rfl (Nat.le_refl _) (Nat.le_refl _)
          · refine lv_iload hx hb dX7_failBackwards_101 (lv_at hl 0 rfl) ?_
            refine lv_istore (lv' := [(7, .int (iI 2)), (8, .int (iI 2)), (6, .int (iI (wYaw (S1 14) (S1 13 1) (sp_X1_freshAt (sub2 S1 13) 0)))), (5, .int (iI (wNum (S1 10) (S1 9 1) p1 1))), (4, .int (iI (wNum (S1 10) (S1 9 1) p1 0))), (3, .ref ((subA a0 1) 8)), (0, .ref (a0 0)), (1, .int (iI 2)), (2, .int (iI p1))]) hx hb dX7_failBackwards_103 hl (by decide) rfl (fun ls hl => ?_)
            refine lv_iinc (v := iI (1)) (lv' := [(8, .int (iI 1)), (7, .int (iI 2)), (6, .int (iI (wYaw (S1 14) (S1 13 1) (sp_X1_freshAt (sub2 S1 13) 0)))), (5, .int (iI (wNum (S1 10) (S1 9 1) p1 1))), (4, .int (iI (wNum (S1 10) (S1 9 1) p1 0))), (3, .ref ((subA a0 1) 8)), (0, .ref (a0 0)), (1, .int (iI 2)), (2, .int (iI p1))]) hx hb dX7_failBackwards_105 hl (k := 1) rfl (iI_add 2 (-1)) (by decide) rfl (fun ls hl => ?_)
            refine lv_goto (tgt := 72) hx hb dX7_failBackwards_108 (by decide) ?_
            refine lv_iload hx hb dX7_failBackwards_72 (lv_at hl 0 rfl) ?_
            refine lv_iconst (v := iI 1) hx hb dX7_failBackwards_74 rfl ?_
            refine zi_icmp_lt (tgt := 111) hx hb dX7_failBackwards_75 (by decide) ⟨by omega, by omega⟩ ⟨by omega, by omega⟩ (fun c_68 => absurd c_68 (by omega)) (fun _ => ?_)
            refine lv_aload_n hx hb dX7_failBackwards_78 rfl (lv_at hl 5 rfl) ?_
            refine lv_iload hx hb dX7_failBackwards_79 (lv_at hl 4 rfl) ?_
            refine lv_iload hx hb dX7_failBackwards_81 (lv_at hl 3 rfl) ?_
            refine lv_iload hx hb dX7_failBackwards_83 (lv_at hl 0 rfl) ?_
            refine z_ai0 (va_runV (As := [.int (iI (wNum (S1 10) (S1 9 1) p1 0)), .int (iI (wNum (S1 10) (S1 9 1) p1 1)), .int (iI 1)]) (rest := []) ⟨hx, hb, hml, hown, hts⟩ (c_X0_isPassedBy l D k (subA (subA a0 1) 8) (sub2 S1 8)  (wNum (S1 10) (S1 9 1) p1 0) (wNum (S1 10) (S1 9 1) p1 1) 1 (pOK_b hp 8 (by decide)) (by omega) (by omega) (by omega) _) (cwV 3 hts gX7_failBackwards_X0_isPassedBy rfl rfl rfl (by decide +kernel) ⟨(Nat.le_of_ble_eq_true rfl), (Nat.le_of_ble_eq_true rfl)⟩) (z_preV hK hG hA hP hD hS [9, 10, 11] rfl (by decide) 2 rfl rfl) rfl rfl hl.1 rfl (lv_room (Nat.le_of_ble_eq_true rfl)) dX7_failBackwards_85 ⟨(Nat.le_of_ble_eq_true rfl), (Nat.le_of_ble_eq_true rfl)⟩) hA hP hD hS [9, 10, 11] rfl (fun H locs hP hS => ?_)
            refine z_eqi (z2 := zb (wPassed (S1 8) (wNum (S1 10) (S1 9 1) p1 0) (wNum (S1 10) (S1 9 1) p1 1) 1)) rfl ?_
            refine zi_if_neB (tgt := 105) hx hb dX7_failBackwards_88 (by decide) (fun c_69 => ?_) (fun c_69 => ?_)
            · refine lv_iinc (v := iI (0)) (lv' := [(8, .int (iI 0)), (7, .int (iI 2)), (6, .int (iI (wYaw (S1 14) (S1 13 1) (sp_X1_freshAt (sub2 S1 13) 0)))), (5, .int (iI (wNum (S1 10) (S1 9 1) p1 1))), (4, .int (iI (wNum (S1 10) (S1 9 1) p1 0))), (3, .ref ((subA a0 1) 8)), (0, .ref (a0 0)), (1, .int (iI 2)), (2, .int (iI p1))]) hx hb dX7_failBackwards_105 hl (k := 0) rfl (iI_add 1 (-1)) (by decide) rfl (fun ls hl => ?_)
              refine lv_goto (tgt := 72) hx hb dX7_failBackwards_108 (by decide) ?_
              refine lv_iload hx hb dX7_failBackwards_72 (lv_at hl 0 rfl) ?_
              refine lv_iconst (v := iI 1) hx hb dX7_failBackwards_74 rfl ?_
              refine zi_icmp_lt (tgt := 111) hx hb dX7_failBackwards_75 (by decide) ⟨by omega, by omega⟩ ⟨by omega, by omega⟩ (fun _ => ?_) (fun c_70 => absurd c_70 (by omega))
              refine lv_iload hx hb dX7_failBackwards_111 (lv_at hl 1 rfl) ?_
              exact z_iret hx hb hr hlocks hP hS dX7_failBackwards_113 (Eq.trans (zif_neg c_2) (Eq.trans (zif_neg c_9) (Eq.trans (zif_neg c_31) (Eq.trans (zif_neg c_54) (Eq.trans (zif_neg c_61) (Eq.trans (zif_pos c_69) rfl)))))) rfl (Nat.le_refl _) (Nat.le_refl _)
            · refine lv_iload hx hb dX7_failBackwards_91 (lv_at hl 0 rfl) ?_
              refine lv_iload hx hb dX7_failBackwards_93 (lv_at hl 2 rfl) ?_
              refine z_ai0 (va_runS (As := [.int (iI 1), .int (iI (wYaw (S1 14) (S1 13 1) (sp_X1_freshAt (sub2 S1 13) 0)))]) (rest := []) ⟨hx, hb, hml, hown, hts⟩ (c_X1_isLeftOut l D k   1 (wYaw (S1 14) (S1 13 1) (sp_X1_freshAt (sub2 S1 13) 0)) (by omega) (by omega) _) (va_cwS 2 hts gX7_failBackwards_X1_isLeftOut rfl rfl rfl (by decide +kernel) ⟨(Nat.le_of_ble_eq_true rfl), (Nat.le_of_ble_eq_true rfl)⟩) (z_preS hK hG hA hP hD hS [] rfl (by decide)) rfl rfl hl.1 rfl (lv_room (Nat.le_of_ble_eq_true rfl)) dX7_failBackwards_95 ⟨(Nat.le_of_ble_eq_true rfl), (Nat.le_of_ble_eq_true rfl)⟩) hA hP hD hS [] rfl (fun H locs hP hS => ?_)
              refine zi_if_neB (tgt := 105) hx hb dX7_failBackwards_98 (by decide) (fun c_71 => ?_) (fun c_71 => ?_)
              · refine lv_iinc (v := iI (0)) (lv' := [(8, .int (iI 0)), (7, .int (iI 2)), (6, .int (iI (wYaw (S1 14) (S1 13 1) (sp_X1_freshAt (sub2 S1 13) 0)))), (5, .int (iI (wNum (S1 10) (S1 9 1) p1 1))), (4, .int (iI (wNum (S1 10) (S1 9 1) p1 0))), (3, .ref ((subA a0 1) 8)), (0, .ref (a0 0)), (1, .int (iI 2)), (2, .int (iI p1))]) hx hb dX7_failBackwards_105 hl (k := 0) rfl (iI_add 1 (-1)) (by decide) rfl (fun ls hl => ?_)
                refine lv_goto (tgt := 72) hx hb dX7_failBackwards_108 (by decide) ?_
                refine lv_iload hx hb dX7_failBackwards_72 (lv_at hl 0 rfl) ?_
                refine lv_iconst (v := iI 1) hx hb dX7_failBackwards_74 rfl ?_
                refine zi_icmp_lt (tgt := 111) hx hb dX7_failBackwards_75 (by decide) ⟨by omega, by omega⟩ ⟨by omega, by omega⟩ (fun _ => ?_) (fun c_72 => absurd c_72 (by omega))
                refine lv_iload hx hb dX7_failBackwards_111 (lv_at hl 1 rfl) ?_
                exact z_iret hx hb hr hlocks hP hS dX7_failBackwards_113 (Eq.trans (zif_neg c_2) (Eq.trans (zif_neg c_9) (Eq.trans (zif_neg c_31) (Eq.trans (zif_neg c_54) (Eq.trans (zif_neg c_61) (Eq.trans (zif_neg c_69) (Eq.trans (zif_pos c_71) rfl))))))) rfl (Nat.le_refl _) (Nat.le_refl _)
              · refine lv_iload hx hb dX7_failBackwards_101 (lv_at hl 0 rfl) ?_
                refine lv_istore (lv' := [(7, .int (iI 1)), (8, .int (iI 1)), (6, .int (iI (wYaw (S1 14) (S1 13 1) (sp_X1_freshAt (sub2 S1 13) 0)))), (5, .int (iI (wNum (S1 10) (S1 9 1) p1 1))), (4, .int (iI (wNum (S1 10) (S1 9 1) p1 0))), (3, .ref ((subA a0 1) 8)), (0, .ref (a0 0)), (1, .int (iI 2)), (2, .int (iI p1))]) hx hb dX7_failBackwards_103 hl (by decide) rfl (fun ls hl => ?_)
                refine lv_iinc (v := iI (0)) (lv' := [(8, .int (iI 0)), (7, .int (iI 1)), (6, .int (iI (wYaw (S1 14) (S1 13 1) (sp_X1_freshAt (sub2 S1 13) 0)))), (5, .int (iI (wNum (S1 10) (S1 9 1) p1 1))), (4, .int (iI (wNum (S1 10) (S1 9 1) p1 0))), (3, .ref ((subA a0 1) 8)), (0, .ref (a0 0)), (1, .int (iI 2)), (2, .int (iI p1))]) hx hb dX7_failBackwards_105 hl (k := 1) rfl (iI_add 1 (-1)) (by decide) rfl (fun ls hl => ?_)
                refine lv_goto (tgt := 72) hx hb dX7_failBackwards_108 (by decide) ?_
                refine lv_iload hx hb dX7_failBackwards_72 (lv_at hl 0 rfl) ?_
                refine lv_iconst (v := iI 1) hx hb dX7_failBackwards_74 rfl ?_
                refine zi_icmp_lt (tgt := 111) hx hb dX7_failBackwards_75 (by decide) ⟨by omega, by omega⟩ ⟨by omega, by omega⟩ (fun _ => ?_) (fun c_73 => absurd c_73 (by omega))
                refine lv_iload hx hb dX7_failBackwards_111 (lv_at hl 1 rfl) ?_
                exact z_iret hx hb hr hlocks hP hS dX7_failBackwards_113 (Eq.trans (zif_neg c_2) (Eq.trans (zif_neg c_9) (Eq.trans (zif_neg c_31) (Eq.trans (zif_neg c_54) (Eq.trans (zif_neg c_61) (Eq.trans (zif_neg c_69) (Eq.trans (zif_neg c_71) rfl))))))) rfl (Nat.le_refl _) (Nat.le_refl _)
  · refine lv_iconst (v := iI 0) hx hb dX7_failBackwards_21 rfl ?_
    exact z_iret hx hb hr hlocks hP hS dX7_failBackwards_22 (Eq.trans (zif_pos c_2) rfl) rfl (Nat.le_refl _) (Nat.le_refl _)
set_option maxHeartbeats 4000000 in
set_option maxRecDepth 100000 in
theorem c_X7_wouldFail_f0 (l : Launch) (D : va_G) (k : Nat → ClassId) (a0 : Nat → Nat) (S0 : Nat → Nat → Int) (S1 : Nat → Nat → Int) (S2 : Nat → Nat → Int) (p1 : Int) (hp : pOK S1) (hat : aOK S2) (h1 : -2147483648 ≤ p1 ∧ p1 < 2147483648) (hc : 0 ≤ p1 ∧ p1 < S1 3 1) (hI : 1 ≤ S1 13 1) : zMi l yX7_wouldFail wsX7_wouldFail ({ frames := 5, cells := 0, slots := 0, locals := 126 } : Room) D k [.ref (a0 0), .int (iI 0), .int (iI p1), .int (iI 0)] (wFac k a0 S0 ++ (wPlant k (subA a0 1) S1 ++ wPlant k (subA a0 16) S2)) (sp_X5_inspectFront_0 (upA (upA ((wCopy S2 S1)) 3 (upZ ((((wCopy S2 S1)) 3)) 1 (wCutK (((((wCopy S2 S1)) 3) 1)) 0 p1))) 4 (wCutN ((((wCopy S2 S1)) 4)) (((((wCopy S2 S1)) 3) 1)) 0 p1))) (wFac k a0 S0 ++ (wPlant k (subA a0 1) S1 ++ wPlant k (subA a0 16) ((wInsp0 (upA (upA ((wCopy S2 S1)) 3 (upZ ((((wCopy S2 S1)) 3)) 1 (wCutK (((((wCopy S2 S1)) 3) 1)) 0 p1))) 4 (wCutN ((((wCopy S2 S1)) 4)) (((((wCopy S2 S1)) 3) 1)) 0 p1)))))) 0 0 := by
  refine zMi_of (cc := cX7_wouldFail) (maxL := 4) (ret := (some .int)) (by decide) rfl (Nat.le_of_ble_eq_true rfl) ?_
  intro p e s m args below meth c A ls hx hb hr hml hown hts hlocks hK hP hD hG hA hS hl
  have hown : s.vm.findClass RX7 = some m.cls := hown
  have hl : lv_has ls 4 [(0, .ref (a0 0)), (1, .int (iI 0)), (2, .int (iI p1)), (3, .int (iI 0))] := hl
  obtain ⟨H, hH⟩ : ∃ z, z = s.heap := ⟨_, rfl⟩
  obtain ⟨locs, hlc⟩ : ∃ z : List Loc, z = [] := ⟨_, rfl⟩
  rw [← hH] at hP
  have hS : va_S A s.heap H locs := by rw [hH, hlc]; exact hS
  rw [← hlc, ← hH]
  clear hlc hH
  have kp := hp.2
  refine lv_aload_n hx hb dX7_wouldFail_0 rfl (lv_at hl 0 rfl) ?_
  refine lv_iload_n hx hb dX7_wouldFail_1 rfl (lv_at hl 1 rfl) ?_
  refine lv_iload_n hx hb dX7_wouldFail_2 rfl (lv_at hl 2 rfl) ?_
  refine z_av0 (va_runV (As := [.int (iI 0), .int (iI p1)]) (rest := []) ⟨hx, hb, hml, hown, hts⟩ (c_X7_demandPlace_ok l D k a0 S0 S1  0 p1 hp (by omega) (by omega) (by omega) _) (cwV 2 hts gX7_wouldFail_X7_demandPlace rfl rfl rfl (by decide +kernel) ⟨(Nat.le_of_ble_eq_true rfl), (Nat.le_of_ble_eq_true rfl)⟩) (z_preV hK hG hA hP hD hS (zrg 0 1 ++ zrg 1 15) (z_mcat (z_hd (n := 1) rfl) (z_sk (n := 1) (off := 0) (m := 15) rfl (z_hd (n := 15) rfl))) (by decide +kernel) 9 rfl rfl) rfl rfl hl.1 rfl (lv_room (Nat.le_of_ble_eq_true rfl)) dX7_wouldFail_3 ⟨(Nat.le_of_ble_eq_true rfl), (Nat.le_of_ble_eq_true rfl)⟩) hA hP hD hS (zrg 0 1 ++ zrg 1 15) (z_mcat (z_hd (n := 1) rfl) (z_sk (n := 1) (off := 0) (m := 15) rfl (z_hd (n := 15) rfl))) (fun H locs hP hS => ?_)
  refine lv_aload_n hx hb dX7_wouldFail_6 rfl (lv_at hl 0 rfl) ?_
  refine z_av0 (va_runV (As := []) (rest := []) ⟨hx, hb, hml, hown, hts⟩ (c_X7_demandInspector_ok l D k a0 S0 S1   hp (by omega) _) (cwV 0 hts gX7_wouldFail_X7_demandInspector rfl rfl rfl (by decide +kernel) ⟨(Nat.le_of_ble_eq_true rfl), (Nat.le_of_ble_eq_true rfl)⟩) (z_preV hK hG hA hP hD hS (zrg 0 1 ++ zrg 1 15) (z_mcat (z_hd (n := 1) rfl) (z_sk (n := 1) (off := 0) (m := 15) rfl (z_hd (n := 15) rfl))) (by decide +kernel) 9 rfl rfl) rfl rfl hl.1 rfl (lv_room (Nat.le_of_ble_eq_true rfl)) dX7_wouldFail_7 ⟨(Nat.le_of_ble_eq_true rfl), (Nat.le_of_ble_eq_true rfl)⟩) hA hP hD hS (zrg 0 1 ++ zrg 1 15) (z_mcat (z_hd (n := 1) rfl) (z_sk (n := 1) (off := 0) (m := 15) rfl (z_hd (n := 15) rfl))) (fun H locs hP hS => ?_)
  refine lv_iload_n hx hb dX7_wouldFail_10 rfl (lv_at hl 3 rfl) ?_
  refine zi_if_eq (tgt := 23) hx hb dX7_wouldFail_11 (by decide) ⟨by omega, by omega⟩ (fun _ => ?_) (fun c_1 => absurd c_1 (by omega))
  refine lv_aload_n hx hb dX7_wouldFail_23 rfl (lv_at hl 0 rfl) ?_
  refine lv_iload_n hx hb dX7_wouldFail_24 rfl (lv_at hl 1 rfl) ?_
  refine lv_iload_n hx hb dX7_wouldFail_25 rfl (lv_at hl 2 rfl) ?_
  refine z_ai (va_runV (As := [.int (iI 0), .int (iI p1)]) (rest := []) ⟨hx, hb, hml, hown, hts⟩ (c_X7_failInThought_0 l D k a0 S0 S1 S2  p1 hp hat (by omega) (by omega) _) (cwV 2 hts gX7_wouldFail_X7_failInThought rfl rfl rfl (by decide +kernel) ⟨(Nat.le_of_ble_eq_true rfl), (Nat.le_of_ble_eq_true rfl)⟩) (z_preV hK hG hA hP hD hS (zrg 0 1 ++ (zrg 1 15 ++ zrg 16 15)) (z_mcat (z_hd (n := 1) rfl) (z_mcat (z_sk (n := 1) (off := 0) (m := 15) rfl (z_hd (n := 15) rfl)) (z_sk (n := 1) (off := 15) (m := 15) rfl (z_sk (n := 15) (off := 0) (m := 15) rfl (z_hdl (n := 15) rfl))))) (by decide +kernel) 9 rfl rfl) rfl rfl hl.1 rfl (lv_room (Nat.le_of_ble_eq_true rfl)) dX7_wouldFail_26 ⟨(Nat.le_of_ble_eq_true rfl), (Nat.le_of_ble_eq_true rfl)⟩) hA hP hD hS (zrg 0 1 ++ (zrg 1 15 ++ zrg 16 15)) (z_mcat (z_hd (n := 1) rfl) (z_mcat (z_sk (n := 1) (off := 0) (m := 15) rfl (z_hd (n := 15) rfl)) (z_sk (n := 1) (off := 15) (m := 15) rfl (z_sk (n := 15) (off := 0) (m := 15) rfl (z_hdl (n := 15) rfl))))) (z_mfst rfl (z_mfst rfl rfl)) (fun H locs hP hD hS => ?_)
  have hz_3 : zset (wFac k a0 S0 ++ (wPlant k (subA a0 1) S1 ++ wPlant k (subA a0 16) S2)) (zrg 0 1) (wFac k a0 S0) = wFac k a0 S0 ++ (wPlant k (subA a0 1) S1 ++ wPlant k (subA a0 16) S2) := (z_zhd (n := 1) rfl rfl)
  have hz_4 : zset (wFac k a0 S0 ++ (wPlant k (subA a0 1) S1 ++ wPlant k (subA a0 16) S2)) (zrg 1 15) (wPlant k (subA a0 1) S1) = wFac k a0 S0 ++ (wPlant k (subA a0 1) S1 ++ wPlant k (subA a0 16) S2) := (z_zsk (n := 1) (off := 0) (m := 15) rfl (z_zhd (n := 15) rfl rfl))
  have hz_5 : zset (wFac k a0 S0 ++ (wPlant k (subA a0 1) S1 ++ wPlant k (subA a0 16) S2)) (zrg 16 15) (wPlant k (subA a0 16) ((wInsp0 (upA (upA ((wCopy S2 S1)) 3 (upZ ((((wCopy S2 S1)) 3)) 1 (wCutK (((((wCopy S2 S1)) 3) 1)) 0 p1))) 4 (wCutN ((((wCopy S2 S1)) 4)) (((((wCopy S2 S1)) 3) 1)) 0 p1))))) = wFac k a0 S0 ++ (wPlant k (subA a0 1) S1 ++ wPlant k (subA a0 16) ((wInsp0 (upA (upA ((wCopy S2 S1)) 3 (upZ ((((wCopy S2 S1)) 3)) 1 (wCutK (((((wCopy S2 S1)) 3) 1)) 0 p1))) 4 (wCutN ((((wCopy S2 S1)) 4)) (((((wCopy S2 S1)) 3) 1)) 0 p1))))) := (z_zsk (n := 1) (off := 15) (m := 15) rfl (z_zsk (n := 15) (off := 0) (m := 15) rfl (z_zhl (n := 15) rfl rfl)))
  have hE_2 : zset (wFac k a0 S0 ++ (wPlant k (subA a0 1) S1 ++ wPlant k (subA a0 16) S2)) (zrg 0 1 ++ (zrg 1 15 ++ zrg 16 15)) (wFac k a0 S0 ++ (wPlant k (subA a0 1) S1 ++ wPlant k (subA a0 16) ((wInsp0 (upA (upA ((wCopy S2 S1)) 3 (upZ ((((wCopy S2 S1)) 3)) 1 (wCutK (((((wCopy S2 S1)) 3) 1)) 0 p1))) 4 (wCutN ((((wCopy S2 S1)) 4)) (((((wCopy S2 S1)) 3) 1)) 0 p1)))))) = wFac k a0 S0 ++ (wPlant k (subA a0 1) S1 ++ wPlant k (subA a0 16) ((wInsp0 (upA (upA ((wCopy S2 S1)) 3 (upZ ((((wCopy S2 S1)) 3)) 1 (wCutK (((((wCopy S2 S1)) 3) 1)) 0 p1))) 4 (wCutN ((((wCopy S2 S1)) 4)) (((((wCopy S2 S1)) 3) 1)) 0 p1))))) := (z_zcat rfl hz_3 (z_zcat rfl hz_4 hz_5))
  have hP : va_P D vwCl (wFac k a0 S0 ++ (wPlant k (subA a0 1) S1 ++ wPlant k (subA a0 16) ((wInsp0 (upA (upA ((wCopy S2 S1)) 3 (upZ ((((wCopy S2 S1)) 3)) 1 (wCutK (((((wCopy S2 S1)) 3) 1)) 0 p1))) 4 (wCutN ((((wCopy S2 S1)) 4)) (((((wCopy S2 S1)) 3) 1)) 0 p1)))))) H := z_to hE_2 hP
  have hD : va_D A (wFac k a0 S0 ++ (wPlant k (subA a0 1) S1 ++ wPlant k (subA a0 16) ((wInsp0 (upA (upA ((wCopy S2 S1)) 3 (upZ ((((wCopy S2 S1)) 3)) 1 (wCutK (((((wCopy S2 S1)) 3) 1)) 0 p1))) 4 (wCutN ((((wCopy S2 S1)) 4)) (((((wCopy S2 S1)) 3) 1)) 0 p1)))))) := z_to2 hE_2 hD
  exact z_iret hx hb hr hlocks hP hS dX7_wouldFail_29 rfl rfl (Nat.le_refl _) (Nat.le_refl _)
set_option maxHeartbeats 4000000 in
set_option maxRecDepth 100000 in
theorem c_X7_wouldFail_t0 (l : Launch) (D : va_G) (k : Nat → ClassId) (a0 : Nat → Nat) (S0 : Nat → Nat → Int) (S1 : Nat → Nat → Int) (S2 : Nat → Nat → Int) (p1 : Int) (p2 : Int) (hp : pOK S1) (hat : aOK S2) (h1 : -2147483648 ≤ p1 ∧ p1 < 2147483648) (hc : 0 ≤ p1 ∧ p1 < S1 3 1) (hI : 1 ≤ S1 13 1) (h2 : -2147483648 ≤ p2 ∧ p2 < 2147483648) (hn : ¬ p2 = 0) : zMi l yX7_wouldFail wsX7_wouldFail ({ frames := 3, cells := 0, slots := 0, locals := 75 } : Room) D k [.ref (a0 0), .int (iI 0), .int (iI p1), .int (iI p2)] (wFac k a0 S0 ++ (wPlant k (subA a0 1) S1 ++ wPlant k (subA a0 16) S2)) (sp_X7_failBackwards_0 S0 S1 p1) (wFac k a0 S0 ++ (wPlant k (subA a0 1) S1 ++ wPlant k (subA a0 16) S2)) 0 0 := by
  refine zMi_of (cc := cX7_wouldFail) (maxL := 4) (ret := (some .int)) (by decide) rfl (Nat.le_of_ble_eq_true rfl) ?_
  intro p e s m args below meth c A ls hx hb hr hml hown hts hlocks hK hP hD hG hA hS hl
  have hown : s.vm.findClass RX7 = some m.cls := hown
  have hl : lv_has ls 4 [(0, .ref (a0 0)), (1, .int (iI 0)), (2, .int (iI p1)), (3, .int (iI p2))] := hl
  obtain ⟨H, hH⟩ : ∃ z, z = s.heap := ⟨_, rfl⟩
  obtain ⟨locs, hlc⟩ : ∃ z : List Loc, z = [] := ⟨_, rfl⟩
  rw [← hH] at hP
  have hS : va_S A s.heap H locs := by rw [hH, hlc]; exact hS
  rw [← hlc, ← hH]
  clear hlc hH
  have kp := hp.2
  refine lv_aload_n hx hb dX7_wouldFail_0 rfl (lv_at hl 0 rfl) ?_
  refine lv_iload_n hx hb dX7_wouldFail_1 rfl (lv_at hl 1 rfl) ?_
  refine lv_iload_n hx hb dX7_wouldFail_2 rfl (lv_at hl 2 rfl) ?_
  refine z_av0 (va_runV (As := [.int (iI 0), .int (iI p1)]) (rest := []) ⟨hx, hb, hml, hown, hts⟩ (c_X7_demandPlace_ok l D k a0 S0 S1  0 p1 hp (by omega) (by omega) (by omega) _) (cwV 2 hts gX7_wouldFail_X7_demandPlace rfl rfl rfl (by decide +kernel) ⟨(Nat.le_of_ble_eq_true rfl), (Nat.le_of_ble_eq_true rfl)⟩) (z_preV hK hG hA hP hD hS (zrg 0 1 ++ zrg 1 15) (z_mcat (z_hd (n := 1) rfl) (z_sk (n := 1) (off := 0) (m := 15) rfl (z_hd (n := 15) rfl))) (by decide +kernel) 9 rfl rfl) rfl rfl hl.1 rfl (lv_room (Nat.le_of_ble_eq_true rfl)) dX7_wouldFail_3 ⟨(Nat.le_of_ble_eq_true rfl), (Nat.le_of_ble_eq_true rfl)⟩) hA hP hD hS (zrg 0 1 ++ zrg 1 15) (z_mcat (z_hd (n := 1) rfl) (z_sk (n := 1) (off := 0) (m := 15) rfl (z_hd (n := 15) rfl))) (fun H locs hP hS => ?_)
  refine lv_aload_n hx hb dX7_wouldFail_6 rfl (lv_at hl 0 rfl) ?_
  refine z_av0 (va_runV (As := []) (rest := []) ⟨hx, hb, hml, hown, hts⟩ (c_X7_demandInspector_ok l D k a0 S0 S1   hp (by omega) _) (cwV 0 hts gX7_wouldFail_X7_demandInspector rfl rfl rfl (by decide +kernel) ⟨(Nat.le_of_ble_eq_true rfl), (Nat.le_of_ble_eq_true rfl)⟩) (z_preV hK hG hA hP hD hS (zrg 0 1 ++ zrg 1 15) (z_mcat (z_hd (n := 1) rfl) (z_sk (n := 1) (off := 0) (m := 15) rfl (z_hd (n := 15) rfl))) (by decide +kernel) 9 rfl rfl) rfl rfl hl.1 rfl (lv_room (Nat.le_of_ble_eq_true rfl)) dX7_wouldFail_7 ⟨(Nat.le_of_ble_eq_true rfl), (Nat.le_of_ble_eq_true rfl)⟩) hA hP hD hS (zrg 0 1 ++ zrg 1 15) (z_mcat (z_hd (n := 1) rfl) (z_sk (n := 1) (off := 0) (m := 15) rfl (z_hd (n := 15) rfl))) (fun H locs hP hS => ?_)
  refine lv_iload_n hx hb dX7_wouldFail_10 rfl (lv_at hl 3 rfl) ?_
  refine zi_if_eq (tgt := 23) hx hb dX7_wouldFail_11 (by decide) ⟨by omega, by omega⟩ (fun c_1 => absurd c_1 (by omega)) (fun _ => ?_)
  refine lv_aload_n hx hb dX7_wouldFail_14 rfl (lv_at hl 0 rfl) ?_
  refine lv_iload_n hx hb dX7_wouldFail_15 rfl (lv_at hl 1 rfl) ?_
  refine lv_iload_n hx hb dX7_wouldFail_16 rfl (lv_at hl 2 rfl) ?_
  refine z_ai0 (va_runV (As := [.int (iI 0), .int (iI p1)]) (rest := []) ⟨hx, hb, hml, hown, hts⟩ (c_X7_failBackwards_0 l D k a0 S0 S1  p1 hp (by omega) (by omega) _) (cwV 2 hts gX7_wouldFail_X7_failBackwards rfl rfl rfl (by decide +kernel) ⟨(Nat.le_of_ble_eq_true rfl), (Nat.le_of_ble_eq_true rfl)⟩) (z_preV hK hG hA hP hD hS (zrg 0 1 ++ zrg 1 15) (z_mcat (z_hd (n := 1) rfl) (z_sk (n := 1) (off := 0) (m := 15) rfl (z_hd (n := 15) rfl))) (by decide +kernel) 9 rfl rfl) rfl rfl hl.1 rfl (lv_room (Nat.le_of_ble_eq_true rfl)) dX7_wouldFail_17 ⟨(Nat.le_of_ble_eq_true rfl), (Nat.le_of_ble_eq_true rfl)⟩) hA hP hD hS (zrg 0 1 ++ zrg 1 15) (z_mcat (z_hd (n := 1) rfl) (z_sk (n := 1) (off := 0) (m := 15) rfl (z_hd (n := 15) rfl))) (fun H locs hP hS => ?_)
  refine lv_goto (tgt := 29) hx hb dX7_wouldFail_20 (by decide) ?_
  exact z_iret hx hb hr hlocks hP hS dX7_wouldFail_29 rfl rfl (Nat.le_refl _) (Nat.le_refl _)
set_option maxHeartbeats 4000000 in
set_option maxRecDepth 100000 in
theorem c_X7_wouldFail_f1 (l : Launch) (D : va_G) (k : Nat → ClassId) (a0 : Nat → Nat) (S0 : Nat → Nat → Int) (S1 : Nat → Nat → Int) (S2 : Nat → Nat → Int) (p1 : Int) (hp : pOK S1) (hat : aOK S2) (h1 : -2147483648 ≤ p1 ∧ p1 < 2147483648) (hc : 0 ≤ p1 ∧ p1 < S1 6 1) (hI : 1 ≤ S1 13 1) : zMi l yX7_wouldFail wsX7_wouldFail ({ frames := 5, cells := 0, slots := 0, locals := 126 } : Room) D k [.ref (a0 0), .int (iI 1), .int (iI p1), .int (iI 0)] (wFac k a0 S0 ++ (wPlant k (subA a0 1) S1 ++ wPlant k (subA a0 16) S2)) (sp_X5_inspectFront_1 (upA (upA ((wCopy S2 S1)) 6 (upZ ((((wCopy S2 S1)) 6)) 1 (wCutK (((((wCopy S2 S1)) 6) 1)) 0 p1))) 7 (wCutN ((((wCopy S2 S1)) 7)) (((((wCopy S2 S1)) 6) 1)) 0 p1))) (wFac k a0 S0 ++ (wPlant k (subA a0 1) S1 ++ wPlant k (subA a0 16) ((wInsp1 (upA (upA ((wCopy S2 S1)) 6 (upZ ((((wCopy S2 S1)) 6)) 1 (wCutK (((((wCopy S2 S1)) 6) 1)) 0 p1))) 7 (wCutN ((((wCopy S2 S1)) 7)) (((((wCopy S2 S1)) 6) 1)) 0 p1)))))) 0 0 := by
  refine zMi_of (cc := cX7_wouldFail) (maxL := 4) (ret := (some .int)) (by decide) rfl (Nat.le_of_ble_eq_true rfl) ?_
  intro p e s m args below meth c A ls hx hb hr hml hown hts hlocks hK hP hD hG hA hS hl
  have hown : s.vm.findClass RX7 = some m.cls := hown
  have hl : lv_has ls 4 [(0, .ref (a0 0)), (1, .int (iI 1)), (2, .int (iI p1)), (3, .int (iI 0))] := hl
  obtain ⟨H, hH⟩ : ∃ z, z = s.heap := ⟨_, rfl⟩
  obtain ⟨locs, hlc⟩ : ∃ z : List Loc, z = [] := ⟨_, rfl⟩
  rw [← hH] at hP
  have hS : va_S A s.heap H locs := by rw [hH, hlc]; exact hS
  rw [← hlc, ← hH]
  clear hlc hH
  have kp := hp.2
  refine lv_aload_n hx hb dX7_wouldFail_0 rfl (lv_at hl 0 rfl) ?_
  refine lv_iload_n hx hb dX7_wouldFail_1 rfl (lv_at hl 1 rfl) ?_
  refine lv_iload_n hx hb dX7_wouldFail_2 rfl (lv_at hl 2 rfl) ?_
  refine z_av0 (va_runV (As := [.int (iI 1), .int (iI p1)]) (rest := []) ⟨hx, hb, hml, hown, hts⟩ (c_X7_demandPlace_ok l D k a0 S0 S1  1 p1 hp (by omega) (by omega) (by omega) _) (cwV 2 hts gX7_wouldFail_X7_demandPlace rfl rfl rfl (by decide +kernel) ⟨(Nat.le_of_ble_eq_true rfl), (Nat.le_of_ble_eq_true rfl)⟩) (z_preV hK hG hA hP hD hS (zrg 0 1 ++ zrg 1 15) (z_mcat (z_hd (n := 1) rfl) (z_sk (n := 1) (off := 0) (m := 15) rfl (z_hd (n := 15) rfl))) (by decide +kernel) 9 rfl rfl) rfl rfl hl.1 rfl (lv_room (Nat.le_of_ble_eq_true rfl)) dX7_wouldFail_3 ⟨(Nat.le_of_ble_eq_true rfl), (Nat.le_of_ble_eq_true rfl)⟩) hA hP hD hS (zrg 0 1 ++ zrg 1 15) (z_mcat (z_hd (n := 1) rfl) (z_sk (n := 1) (off := 0) (m := 15) rfl (z_hd (n := 15) rfl))) (fun H locs hP hS => ?_)
  refine lv_aload_n hx hb dX7_wouldFail_6 rfl (lv_at hl 0 rfl) ?_
  refine z_av0 (va_runV (As := []) (rest := []) ⟨hx, hb, hml, hown, hts⟩ (c_X7_demandInspector_ok l D k a0 S0 S1   hp (by omega) _) (cwV 0 hts gX7_wouldFail_X7_demandInspector rfl rfl rfl (by decide +kernel) ⟨(Nat.le_of_ble_eq_true rfl), (Nat.le_of_ble_eq_true rfl)⟩) (z_preV hK hG hA hP hD hS (zrg 0 1 ++ zrg 1 15) (z_mcat (z_hd (n := 1) rfl) (z_sk (n := 1) (off := 0) (m := 15) rfl (z_hd (n := 15) rfl))) (by decide +kernel) 9 rfl rfl) rfl rfl hl.1 rfl (lv_room (Nat.le_of_ble_eq_true rfl)) dX7_wouldFail_7 ⟨(Nat.le_of_ble_eq_true rfl), (Nat.le_of_ble_eq_true rfl)⟩) hA hP hD hS (zrg 0 1 ++ zrg 1 15) (z_mcat (z_hd (n := 1) rfl) (z_sk (n := 1) (off := 0) (m := 15) rfl (z_hd (n := 15) rfl))) (fun H locs hP hS => ?_)
  refine lv_iload_n hx hb dX7_wouldFail_10 rfl (lv_at hl 3 rfl) ?_
  refine zi_if_eq (tgt := 23) hx hb dX7_wouldFail_11 (by decide) ⟨by omega, by omega⟩ (fun _ => ?_) (fun c_1 => absurd c_1 (by omega))
  refine lv_aload_n hx hb dX7_wouldFail_23 rfl (lv_at hl 0 rfl) ?_
  refine lv_iload_n hx hb dX7_wouldFail_24 rfl (lv_at hl 1 rfl) ?_
  refine lv_iload_n hx hb dX7_wouldFail_25 rfl (lv_at hl 2 rfl) ?_
  refine z_ai (va_runV (As := [.int (iI 1), .int (iI p1)]) (rest := []) ⟨hx, hb, hml, hown, hts⟩ (c_X7_failInThought_1 l D k a0 S0 S1 S2  p1 hp hat (by omega) (by omega) _) (cwV 2 hts gX7_wouldFail_X7_failInThought rfl rfl rfl (by decide +kernel) ⟨(Nat.le_of_ble_eq_true rfl), (Nat.le_of_ble_eq_true rfl)⟩) (z_preV hK hG hA hP hD hS (zrg 0 1 ++ (zrg 1 15 ++ zrg 16 15)) (z_mcat (z_hd (n := 1) rfl) (z_mcat (z_sk (n := 1) (off := 0) (m := 15) rfl (z_hd (n := 15) rfl)) (z_sk (n := 1) (off := 15) (m := 15) rfl (z_sk (n := 15) (off := 0) (m := 15) rfl (z_hdl (n := 15) rfl))))) (by decide +kernel) 9 rfl rfl) rfl rfl hl.1 rfl (lv_room (Nat.le_of_ble_eq_true rfl)) dX7_wouldFail_26 ⟨(Nat.le_of_ble_eq_true rfl), (Nat.le_of_ble_eq_true rfl)⟩) hA hP hD hS (zrg 0 1 ++ (zrg 1 15 ++ zrg 16 15)) (z_mcat (z_hd (n := 1) rfl) (z_mcat (z_sk (n := 1) (off := 0) (m := 15) rfl (z_hd (n := 15) rfl)) (z_sk (n := 1) (off := 15) (m := 15) rfl (z_sk (n := 15) (off := 0) (m := 15) rfl (z_hdl (n := 15) rfl))))) (z_mfst rfl (z_mfst rfl rfl)) (fun H locs hP hD hS => ?_)
  have hz_3 : zset (wFac k a0 S0 ++ (wPlant k (subA a0 1) S1 ++ wPlant k (subA a0 16) S2)) (zrg 0 1) (wFac k a0 S0) = wFac k a0 S0 ++ (wPlant k (subA a0 1) S1 ++ wPlant k (subA a0 16) S2) := (z_zhd (n := 1) rfl rfl)
  have hz_4 : zset (wFac k a0 S0 ++ (wPlant k (subA a0 1) S1 ++ wPlant k (subA a0 16) S2)) (zrg 1 15) (wPlant k (subA a0 1) S1) = wFac k a0 S0 ++ (wPlant k (subA a0 1) S1 ++ wPlant k (subA a0 16) S2) := (z_zsk (n := 1) (off := 0) (m := 15) rfl (z_zhd (n := 15) rfl rfl))
  have hz_5 : zset (wFac k a0 S0 ++ (wPlant k (subA a0 1) S1 ++ wPlant k (subA a0 16) S2)) (zrg 16 15) (wPlant k (subA a0 16) ((wInsp1 (upA (upA ((wCopy S2 S1)) 6 (upZ ((((wCopy S2 S1)) 6)) 1 (wCutK (((((wCopy S2 S1)) 6) 1)) 0 p1))) 7 (wCutN ((((wCopy S2 S1)) 7)) (((((wCopy S2 S1)) 6) 1)) 0 p1))))) = wFac k a0 S0 ++ (wPlant k (subA a0 1) S1 ++ wPlant k (subA a0 16) ((wInsp1 (upA (upA ((wCopy S2 S1)) 6 (upZ ((((wCopy S2 S1)) 6)) 1 (wCutK (((((wCopy S2 S1)) 6) 1)) 0 p1))) 7 (wCutN ((((wCopy S2 S1)) 7)) (((((wCopy S2 S1)) 6) 1)) 0 p1))))) := (z_zsk (n := 1) (off := 15) (m := 15) rfl (z_zsk (n := 15) (off := 0) (m := 15) rfl (z_zhl (n := 15) rfl rfl)))
  have hE_2 : zset (wFac k a0 S0 ++ (wPlant k (subA a0 1) S1 ++ wPlant k (subA a0 16) S2)) (zrg 0 1 ++ (zrg 1 15 ++ zrg 16 15)) (wFac k a0 S0 ++ (wPlant k (subA a0 1) S1 ++ wPlant k (subA a0 16) ((wInsp1 (upA (upA ((wCopy S2 S1)) 6 (upZ ((((wCopy S2 S1)) 6)) 1 (wCutK (((((wCopy S2 S1)) 6) 1)) 0 p1))) 7 (wCutN ((((wCopy S2 S1)) 7)) (((((wCopy S2 S1)) 6) 1)) 0 p1)))))) = wFac k a0 S0 ++ (wPlant k (subA a0 1) S1 ++ wPlant k (subA a0 16) ((wInsp1 (upA (upA ((wCopy S2 S1)) 6 (upZ ((((wCopy S2 S1)) 6)) 1 (wCutK (((((wCopy S2 S1)) 6) 1)) 0 p1))) 7 (wCutN ((((wCopy S2 S1)) 7)) (((((wCopy S2 S1)) 6) 1)) 0 p1))))) := (z_zcat rfl hz_3 (z_zcat rfl hz_4 hz_5))
  have hP : va_P D vwCl (wFac k a0 S0 ++ (wPlant k (subA a0 1) S1 ++ wPlant k (subA a0 16) ((wInsp1 (upA (upA ((wCopy S2 S1)) 6 (upZ ((((wCopy S2 S1)) 6)) 1 (wCutK (((((wCopy S2 S1)) 6) 1)) 0 p1))) 7 (wCutN ((((wCopy S2 S1)) 7)) (((((wCopy S2 S1)) 6) 1)) 0 p1)))))) H := z_to hE_2 hP
  have hD : va_D A (wFac k a0 S0 ++ (wPlant k (subA a0 1) S1 ++ wPlant k (subA a0 16) ((wInsp1 (upA (upA ((wCopy S2 S1)) 6 (upZ ((((wCopy S2 S1)) 6)) 1 (wCutK (((((wCopy S2 S1)) 6) 1)) 0 p1))) 7 (wCutN ((((wCopy S2 S1)) 7)) (((((wCopy S2 S1)) 6) 1)) 0 p1)))))) := z_to2 hE_2 hD
  exact z_iret hx hb hr hlocks hP hS dX7_wouldFail_29 rfl rfl (Nat.le_refl _) (Nat.le_refl _)
set_option maxHeartbeats 4000000 in
set_option maxRecDepth 100000 in
theorem c_X7_wouldFail_t1 (l : Launch) (D : va_G) (k : Nat → ClassId) (a0 : Nat → Nat) (S0 : Nat → Nat → Int) (S1 : Nat → Nat → Int) (S2 : Nat → Nat → Int) (p1 : Int) (p2 : Int) (hp : pOK S1) (hat : aOK S2) (h1 : -2147483648 ≤ p1 ∧ p1 < 2147483648) (hc : 0 ≤ p1 ∧ p1 < S1 6 1) (hI : 1 ≤ S1 13 1) (h2 : -2147483648 ≤ p2 ∧ p2 < 2147483648) (hn : ¬ p2 = 0) : zMi l yX7_wouldFail wsX7_wouldFail ({ frames := 3, cells := 0, slots := 0, locals := 75 } : Room) D k [.ref (a0 0), .int (iI 1), .int (iI p1), .int (iI p2)] (wFac k a0 S0 ++ (wPlant k (subA a0 1) S1 ++ wPlant k (subA a0 16) S2)) (sp_X7_failBackwards_1 S0 S1 p1) (wFac k a0 S0 ++ (wPlant k (subA a0 1) S1 ++ wPlant k (subA a0 16) S2)) 0 0 := by
  refine zMi_of (cc := cX7_wouldFail) (maxL := 4) (ret := (some .int)) (by decide) rfl (Nat.le_of_ble_eq_true rfl) ?_
  intro p e s m args below meth c A ls hx hb hr hml hown hts hlocks hK hP hD hG hA hS hl
  have hown : s.vm.findClass RX7 = some m.cls := hown
  have hl : lv_has ls 4 [(0, .ref (a0 0)), (1, .int (iI 1)), (2, .int (iI p1)), (3, .int (iI p2))] := hl
  obtain ⟨H, hH⟩ : ∃ z, z = s.heap := ⟨_, rfl⟩
  obtain ⟨locs, hlc⟩ : ∃ z : List Loc, z = [] := ⟨_, rfl⟩
  rw [← hH] at hP
  have hS : va_S A s.heap H locs := by rw [hH, hlc]; exact hS
  rw [← hlc, ← hH]
  clear hlc hH
  have kp := hp.2
  refine lv_aload_n hx hb dX7_wouldFail_0 rfl (lv_at hl 0 rfl) ?_
  refine lv_iload_n hx hb dX7_wouldFail_1 rfl (lv_at hl 1 rfl) ?_
  refine lv_iload_n hx hb dX7_wouldFail_2 rfl (lv_at hl 2 rfl) ?_
  refine z_av0 (va_runV (As := [.int (iI 1), .int (iI p1)]) (rest := []) ⟨hx, hb, hml, hown, hts⟩ (c_X7_demandPlace_ok l D k a0 S0 S1  1 p1 hp (by omega) (by omega) (by omega) _) (cwV 2 hts gX7_wouldFail_X7_demandPlace rfl rfl rfl (by decide +kernel) ⟨(Nat.le_of_ble_eq_true rfl), (Nat.le_of_ble_eq_true rfl)⟩) (z_preV hK hG hA hP hD hS (zrg 0 1 ++ zrg 1 15) (z_mcat (z_hd (n := 1) rfl) (z_sk (n := 1) (off := 0) (m := 15) rfl (z_hd (n := 15) rfl))) (by decide +kernel) 9 rfl rfl) rfl rfl hl.1 rfl (lv_room (Nat.le_of_ble_eq_true rfl)) dX7_wouldFail_3 ⟨(Nat.le_of_ble_eq_true rfl), (Nat.le_of_ble_eq_true rfl)⟩) hA hP hD hS (zrg 0 1 ++ zrg 1 15) (z_mcat (z_hd (n := 1) rfl) (z_sk (n := 1) (off := 0) (m := 15) rfl (z_hd (n := 15) rfl))) (fun H locs hP hS => ?_)
  refine lv_aload_n hx hb dX7_wouldFail_6 rfl (lv_at hl 0 rfl) ?_
  refine z_av0 (va_runV (As := []) (rest := []) ⟨hx, hb, hml, hown, hts⟩ (c_X7_demandInspector_ok l D k a0 S0 S1   hp (by omega) _) (cwV 0 hts gX7_wouldFail_X7_demandInspector rfl rfl rfl (by decide +kernel) ⟨(Nat.le_of_ble_eq_true rfl), (Nat.le_of_ble_eq_true rfl)⟩) (z_preV hK hG hA hP hD hS (zrg 0 1 ++ zrg 1 15) (z_mcat (z_hd (n := 1) rfl) (z_sk (n := 1) (off := 0) (m := 15) rfl (z_hd (n := 15) rfl))) (by decide +kernel) 9 rfl rfl) rfl rfl hl.1 rfl (lv_room (Nat.le_of_ble_eq_true rfl)) dX7_wouldFail_7 ⟨(Nat.le_of_ble_eq_true rfl), (Nat.le_of_ble_eq_true rfl)⟩) hA hP hD hS (zrg 0 1 ++ zrg 1 15) (z_mcat (z_hd (n := 1) rfl) (z_sk (n := 1) (off := 0) (m := 15) rfl (z_hd (n := 15) rfl))) (fun H locs hP hS => ?_)
  refine lv_iload_n hx hb dX7_wouldFail_10 rfl (lv_at hl 3 rfl) ?_
  refine zi_if_eq (tgt := 23) hx hb dX7_wouldFail_11 (by decide) ⟨by omega, by omega⟩ (fun c_1 => absurd c_1 (by omega)) (fun _ => ?_)
  refine lv_aload_n hx hb dX7_wouldFail_14 rfl (lv_at hl 0 rfl) ?_
  refine lv_iload_n hx hb dX7_wouldFail_15 rfl (lv_at hl 1 rfl) ?_
  refine lv_iload_n hx hb dX7_wouldFail_16 rfl (lv_at hl 2 rfl) ?_
  refine z_ai0 (va_runV (As := [.int (iI 1), .int (iI p1)]) (rest := []) ⟨hx, hb, hml, hown, hts⟩ (c_X7_failBackwards_1 l D k a0 S0 S1  p1 hp (by omega) (by omega) _) (cwV 2 hts gX7_wouldFail_X7_failBackwards rfl rfl rfl (by decide +kernel) ⟨(Nat.le_of_ble_eq_true rfl), (Nat.le_of_ble_eq_true rfl)⟩) (z_preV hK hG hA hP hD hS (zrg 0 1 ++ zrg 1 15) (z_mcat (z_hd (n := 1) rfl) (z_sk (n := 1) (off := 0) (m := 15) rfl (z_hd (n := 15) rfl))) (by decide +kernel) 9 rfl rfl) rfl rfl hl.1 rfl (lv_room (Nat.le_of_ble_eq_true rfl)) dX7_wouldFail_17 ⟨(Nat.le_of_ble_eq_true rfl), (Nat.le_of_ble_eq_true rfl)⟩) hA hP hD hS (zrg 0 1 ++ zrg 1 15) (z_mcat (z_hd (n := 1) rfl) (z_sk (n := 1) (off := 0) (m := 15) rfl (z_hd (n := 15) rfl))) (fun H locs hP hS => ?_)
  refine lv_goto (tgt := 29) hx hb dX7_wouldFail_20 (by decide) ?_
  exact z_iret hx hb hr hlocks hP hS dX7_wouldFail_29 rfl rfl (Nat.le_refl _) (Nat.le_refl _)
set_option maxHeartbeats 4000000 in
set_option maxRecDepth 100000 in
theorem c_X7_wouldFail_f2 (l : Launch) (D : va_G) (k : Nat → ClassId) (a0 : Nat → Nat) (S0 : Nat → Nat → Int) (S1 : Nat → Nat → Int) (S2 : Nat → Nat → Int) (p1 : Int) (hp : pOK S1) (hat : aOK S2) (h1 : -2147483648 ≤ p1 ∧ p1 < 2147483648) (hc : 0 ≤ p1 ∧ p1 < S1 9 1) (hI : 1 ≤ S1 13 1) : zMi l yX7_wouldFail wsX7_wouldFail ({ frames := 5, cells := 0, slots := 0, locals := 126 } : Room) D k [.ref (a0 0), .int (iI 2), .int (iI p1), .int (iI 0)] (wFac k a0 S0 ++ (wPlant k (subA a0 1) S1 ++ wPlant k (subA a0 16) S2)) (sp_X5_inspectFront_2 (upA (upA ((wCopy S2 S1)) 9 (upZ ((((wCopy S2 S1)) 9)) 1 (wCutK (((((wCopy S2 S1)) 9) 1)) 0 p1))) 10 (wCutN ((((wCopy S2 S1)) 10)) (((((wCopy S2 S1)) 9) 1)) 0 p1))) (wFac k a0 S0 ++ (wPlant k (subA a0 1) S1 ++ wPlant k (subA a0 16) ((wInsp2 (upA (upA ((wCopy S2 S1)) 9 (upZ ((((wCopy S2 S1)) 9)) 1 (wCutK (((((wCopy S2 S1)) 9) 1)) 0 p1))) 10 (wCutN ((((wCopy S2 S1)) 10)) (((((wCopy S2 S1)) 9) 1)) 0 p1)))))) 0 0 := by
  refine zMi_of (cc := cX7_wouldFail) (maxL := 4) (ret := (some .int)) (by decide) rfl (Nat.le_of_ble_eq_true rfl) ?_
  intro p e s m args below meth c A ls hx hb hr hml hown hts hlocks hK hP hD hG hA hS hl
  have hown : s.vm.findClass RX7 = some m.cls := hown
  have hl : lv_has ls 4 [(0, .ref (a0 0)), (1, .int (iI 2)), (2, .int (iI p1)), (3, .int (iI 0))] := hl
  obtain ⟨H, hH⟩ : ∃ z, z = s.heap := ⟨_, rfl⟩
  obtain ⟨locs, hlc⟩ : ∃ z : List Loc, z = [] := ⟨_, rfl⟩
  rw [← hH] at hP
  have hS : va_S A s.heap H locs := by rw [hH, hlc]; exact hS
  rw [← hlc, ← hH]
  clear hlc hH
  have kp := hp.2
  refine lv_aload_n hx hb dX7_wouldFail_0 rfl (lv_at hl 0 rfl) ?_
  refine lv_iload_n hx hb dX7_wouldFail_1 rfl (lv_at hl 1 rfl) ?_
  refine lv_iload_n hx hb dX7_wouldFail_2 rfl (lv_at hl 2 rfl) ?_
  refine z_av0 (va_runV (As := [.int (iI 2), .int (iI p1)]) (rest := []) ⟨hx, hb, hml, hown, hts⟩ (c_X7_demandPlace_ok l D k a0 S0 S1  2 p1 hp (by omega) (by omega) (by omega) _) (cwV 2 hts gX7_wouldFail_X7_demandPlace rfl rfl rfl (by decide +kernel) ⟨(Nat.le_of_ble_eq_true rfl), (Nat.le_of_ble_eq_true rfl)⟩) (z_preV hK hG hA hP hD hS (zrg 0 1 ++ zrg 1 15) (z_mcat (z_hd (n := 1) rfl) (z_sk (n := 1) (off := 0) (m := 15) rfl (z_hd (n := 15) rfl))) (by decide +kernel) 9 rfl rfl) rfl rfl hl.1 rfl (lv_room (Nat.le_of_ble_eq_true rfl)) dX7_wouldFail_3 ⟨(Nat.le_of_ble_eq_true rfl), (Nat.le_of_ble_eq_true rfl)⟩) hA hP hD hS (zrg 0 1 ++ zrg 1 15) (z_mcat (z_hd (n := 1) rfl) (z_sk (n := 1) (off := 0) (m := 15) rfl (z_hd (n := 15) rfl))) (fun H locs hP hS => ?_)
  refine lv_aload_n hx hb dX7_wouldFail_6 rfl (lv_at hl 0 rfl) ?_
  refine z_av0 (va_runV (As := []) (rest := []) ⟨hx, hb, hml, hown, hts⟩ (c_X7_demandInspector_ok l D k a0 S0 S1   hp (by omega) _) (cwV 0 hts gX7_wouldFail_X7_demandInspector rfl rfl rfl (by decide +kernel) ⟨(Nat.le_of_ble_eq_true rfl), (Nat.le_of_ble_eq_true rfl)⟩) (z_preV hK hG hA hP hD hS (zrg 0 1 ++ zrg 1 15) (z_mcat (z_hd (n := 1) rfl) (z_sk (n := 1) (off := 0) (m := 15) rfl (z_hd (n := 15) rfl))) (by decide +kernel) 9 rfl rfl) rfl rfl hl.1 rfl (lv_room (Nat.le_of_ble_eq_true rfl)) dX7_wouldFail_7 ⟨(Nat.le_of_ble_eq_true rfl), (Nat.le_of_ble_eq_true rfl)⟩) hA hP hD hS (zrg 0 1 ++ zrg 1 15) (z_mcat (z_hd (n := 1) rfl) (z_sk (n := 1) (off := 0) (m := 15) rfl (z_hd (n := 15) rfl))) (fun H locs hP hS => ?_)
  refine lv_iload_n hx hb dX7_wouldFail_10 rfl (lv_at hl 3 rfl) ?_
  refine zi_if_eq (tgt := 23) hx hb dX7_wouldFail_11 (by decide) ⟨by omega, by omega⟩ (fun _ => ?_) (fun c_1 => absurd c_1 (by omega))
  refine lv_aload_n hx hb dX7_wouldFail_23 rfl (lv_at hl 0 rfl) ?_
  refine lv_iload_n hx hb dX7_wouldFail_24 rfl (lv_at hl 1 rfl) ?_
  refine lv_iload_n hx hb dX7_wouldFail_25 rfl (lv_at hl 2 rfl) ?_
  refine z_ai (va_runV (As := [.int (iI 2), .int (iI p1)]) (rest := []) ⟨hx, hb, hml, hown, hts⟩ (c_X7_failInThought_2 l D k a0 S0 S1 S2  p1 hp hat (by omega) (by omega) _) (cwV 2 hts gX7_wouldFail_X7_failInThought rfl rfl rfl (by decide +kernel) ⟨(Nat.le_of_ble_eq_true rfl), (Nat.le_of_ble_eq_true rfl)⟩) (z_preV hK hG hA hP hD hS (zrg 0 1 ++ (zrg 1 15 ++ zrg 16 15)) (z_mcat (z_hd (n := 1) rfl) (z_mcat (z_sk (n := 1) (off := 0) (m := 15) rfl (z_hd (n := 15) rfl)) (z_sk (n := 1) (off := 15) (m := 15) rfl (z_sk (n := 15) (off := 0) (m := 15) rfl (z_hdl (n := 15) rfl))))) (by decide +kernel) 9 rfl rfl) rfl rfl hl.1 rfl (lv_room (Nat.le_of_ble_eq_true rfl)) dX7_wouldFail_26 ⟨(Nat.le_of_ble_eq_true rfl), (Nat.le_of_ble_eq_true rfl)⟩) hA hP hD hS (zrg 0 1 ++ (zrg 1 15 ++ zrg 16 15)) (z_mcat (z_hd (n := 1) rfl) (z_mcat (z_sk (n := 1) (off := 0) (m := 15) rfl (z_hd (n := 15) rfl)) (z_sk (n := 1) (off := 15) (m := 15) rfl (z_sk (n := 15) (off := 0) (m := 15) rfl (z_hdl (n := 15) rfl))))) (z_mfst rfl (z_mfst rfl rfl)) (fun H locs hP hD hS => ?_)
  have hz_3 : zset (wFac k a0 S0 ++ (wPlant k (subA a0 1) S1 ++ wPlant k (subA a0 16) S2)) (zrg 0 1) (wFac k a0 S0) = wFac k a0 S0 ++ (wPlant k (subA a0 1) S1 ++ wPlant k (subA a0 16) S2) := (z_zhd (n := 1) rfl rfl)
  have hz_4 : zset (wFac k a0 S0 ++ (wPlant k (subA a0 1) S1 ++ wPlant k (subA a0 16) S2)) (zrg 1 15) (wPlant k (subA a0 1) S1) = wFac k a0 S0 ++ (wPlant k (subA a0 1) S1 ++ wPlant k (subA a0 16) S2) := (z_zsk (n := 1) (off := 0) (m := 15) rfl (z_zhd (n := 15) rfl rfl))
  have hz_5 : zset (wFac k a0 S0 ++ (wPlant k (subA a0 1) S1 ++ wPlant k (subA a0 16) S2)) (zrg 16 15) (wPlant k (subA a0 16) ((wInsp2 (upA (upA ((wCopy S2 S1)) 9 (upZ ((((wCopy S2 S1)) 9)) 1 (wCutK (((((wCopy S2 S1)) 9) 1)) 0 p1))) 10 (wCutN ((((wCopy S2 S1)) 10)) (((((wCopy S2 S1)) 9) 1)) 0 p1))))) = wFac k a0 S0 ++ (wPlant k (subA a0 1) S1 ++ wPlant k (subA a0 16) ((wInsp2 (upA (upA ((wCopy S2 S1)) 9 (upZ ((((wCopy S2 S1)) 9)) 1 (wCutK (((((wCopy S2 S1)) 9) 1)) 0 p1))) 10 (wCutN ((((wCopy S2 S1)) 10)) (((((wCopy S2 S1)) 9) 1)) 0 p1))))) := (z_zsk (n := 1) (off := 15) (m := 15) rfl (z_zsk (n := 15) (off := 0) (m := 15) rfl (z_zhl (n := 15) rfl rfl)))
  have hE_2 : zset (wFac k a0 S0 ++ (wPlant k (subA a0 1) S1 ++ wPlant k (subA a0 16) S2)) (zrg 0 1 ++ (zrg 1 15 ++ zrg 16 15)) (wFac k a0 S0 ++ (wPlant k (subA a0 1) S1 ++ wPlant k (subA a0 16) ((wInsp2 (upA (upA ((wCopy S2 S1)) 9 (upZ ((((wCopy S2 S1)) 9)) 1 (wCutK (((((wCopy S2 S1)) 9) 1)) 0 p1))) 10 (wCutN ((((wCopy S2 S1)) 10)) (((((wCopy S2 S1)) 9) 1)) 0 p1)))))) = wFac k a0 S0 ++ (wPlant k (subA a0 1) S1 ++ wPlant k (subA a0 16) ((wInsp2 (upA (upA ((wCopy S2 S1)) 9 (upZ ((((wCopy S2 S1)) 9)) 1 (wCutK (((((wCopy S2 S1)) 9) 1)) 0 p1))) 10 (wCutN ((((wCopy S2 S1)) 10)) (((((wCopy S2 S1)) 9) 1)) 0 p1))))) := (z_zcat rfl hz_3 (z_zcat rfl hz_4 hz_5))
  have hP : va_P D vwCl (wFac k a0 S0 ++ (wPlant k (subA a0 1) S1 ++ wPlant k (subA a0 16) ((wInsp2 (upA (upA ((wCopy S2 S1)) 9 (upZ ((((wCopy S2 S1)) 9)) 1 (wCutK (((((wCopy S2 S1)) 9) 1)) 0 p1))) 10 (wCutN ((((wCopy S2 S1)) 10)) (((((wCopy S2 S1)) 9) 1)) 0 p1)))))) H := z_to hE_2 hP
  have hD : va_D A (wFac k a0 S0 ++ (wPlant k (subA a0 1) S1 ++ wPlant k (subA a0 16) ((wInsp2 (upA (upA ((wCopy S2 S1)) 9 (upZ ((((wCopy S2 S1)) 9)) 1 (wCutK (((((wCopy S2 S1)) 9) 1)) 0 p1))) 10 (wCutN ((((wCopy S2 S1)) 10)) (((((wCopy S2 S1)) 9) 1)) 0 p1)))))) := z_to2 hE_2 hD
  exact z_iret hx hb hr hlocks hP hS dX7_wouldFail_29 rfl rfl (Nat.le_refl _) (Nat.le_refl _)
set_option maxHeartbeats 4000000 in
set_option maxRecDepth 100000 in
theorem c_X7_wouldFail_t2 (l : Launch) (D : va_G) (k : Nat → ClassId) (a0 : Nat → Nat) (S0 : Nat → Nat → Int) (S1 : Nat → Nat → Int) (S2 : Nat → Nat → Int) (p1 : Int) (p2 : Int) (hp : pOK S1) (hat : aOK S2) (h1 : -2147483648 ≤ p1 ∧ p1 < 2147483648) (hc : 0 ≤ p1 ∧ p1 < S1 9 1) (hI : 1 ≤ S1 13 1) (h2 : -2147483648 ≤ p2 ∧ p2 < 2147483648) (hn : ¬ p2 = 0) : zMi l yX7_wouldFail wsX7_wouldFail ({ frames := 3, cells := 0, slots := 0, locals := 75 } : Room) D k [.ref (a0 0), .int (iI 2), .int (iI p1), .int (iI p2)] (wFac k a0 S0 ++ (wPlant k (subA a0 1) S1 ++ wPlant k (subA a0 16) S2)) (sp_X7_failBackwards_2 S0 S1 p1) (wFac k a0 S0 ++ (wPlant k (subA a0 1) S1 ++ wPlant k (subA a0 16) S2)) 0 0 := by
  refine zMi_of (cc := cX7_wouldFail) (maxL := 4) (ret := (some .int)) (by decide) rfl (Nat.le_of_ble_eq_true rfl) ?_
  intro p e s m args below meth c A ls hx hb hr hml hown hts hlocks hK hP hD hG hA hS hl
  have hown : s.vm.findClass RX7 = some m.cls := hown
  have hl : lv_has ls 4 [(0, .ref (a0 0)), (1, .int (iI 2)), (2, .int (iI p1)), (3, .int (iI p2))] := hl
  obtain ⟨H, hH⟩ : ∃ z, z = s.heap := ⟨_, rfl⟩
  obtain ⟨locs, hlc⟩ : ∃ z : List Loc, z = [] := ⟨_, rfl⟩
  rw [← hH] at hP
  have hS : va_S A s.heap H locs := by rw [hH, hlc]; exact hS
  rw [← hlc, ← hH]
  clear hlc hH
  have kp := hp.2
  refine lv_aload_n hx hb dX7_wouldFail_0 rfl (lv_at hl 0 rfl) ?_
  refine lv_iload_n hx hb dX7_wouldFail_1 rfl (lv_at hl 1 rfl) ?_
  refine lv_iload_n hx hb dX7_wouldFail_2 rfl (lv_at hl 2 rfl) ?_
  refine z_av0 (va_runV (As := [.int (iI 2), .int (iI p1)]) (rest := []) ⟨hx, hb, hml, hown, hts⟩ (c_X7_demandPlace_ok l D k a0 S0 S1  2 p1 hp (by omega) (by omega) (by omega) _) (cwV 2 hts gX7_wouldFail_X7_demandPlace rfl rfl rfl (by decide +kernel) ⟨(Nat.le_of_ble_eq_true rfl), (Nat.le_of_ble_eq_true rfl)⟩) (z_preV hK hG hA hP hD hS (zrg 0 1 ++ zrg 1 15) (z_mcat (z_hd (n := 1) rfl) (z_sk (n := 1) (off := 0) (m := 15) rfl (z_hd (n := 15) rfl))) (by decide +kernel) 9 rfl rfl) rfl rfl hl.1 rfl (lv_room (Nat.le_of_ble_eq_true rfl)) dX7_wouldFail_3 ⟨(Nat.le_of_ble_eq_true rfl), (Nat.le_of_ble_eq_true rfl)⟩) hA hP hD hS (zrg 0 1 ++ zrg 1 15) (z_mcat (z_hd (n := 1) rfl) (z_sk (n := 1) (off := 0) (m := 15) rfl (z_hd (n := 15) rfl))) (fun H locs hP hS => ?_)
  refine lv_aload_n hx hb dX7_wouldFail_6 rfl (lv_at hl 0 rfl) ?_
  refine z_av0 (va_runV (As := []) (rest := []) ⟨hx, hb, hml, hown, hts⟩ (c_X7_demandInspector_ok l D k a0 S0 S1   hp (by omega) _) (cwV 0 hts gX7_wouldFail_X7_demandInspector rfl rfl rfl (by decide +kernel) ⟨(Nat.le_of_ble_eq_true rfl), (Nat.le_of_ble_eq_true rfl)⟩) (z_preV hK hG hA hP hD hS (zrg 0 1 ++ zrg 1 15) (z_mcat (z_hd (n := 1) rfl) (z_sk (n := 1) (off := 0) (m := 15) rfl (z_hd (n := 15) rfl))) (by decide +kernel) 9 rfl rfl) rfl rfl hl.1 rfl (lv_room (Nat.le_of_ble_eq_true rfl)) dX7_wouldFail_7 ⟨(Nat.le_of_ble_eq_true rfl), (Nat.le_of_ble_eq_true rfl)⟩) hA hP hD hS (zrg 0 1 ++ zrg 1 15) (z_mcat (z_hd (n := 1) rfl) (z_sk (n := 1) (off := 0) (m := 15) rfl (z_hd (n := 15) rfl))) (fun H locs hP hS => ?_)
  refine lv_iload_n hx hb dX7_wouldFail_10 rfl (lv_at hl 3 rfl) ?_
  refine zi_if_eq (tgt := 23) hx hb dX7_wouldFail_11 (by decide) ⟨by omega, by omega⟩ (fun c_1 => absurd c_1 (by omega)) (fun _ => ?_)
  refine lv_aload_n hx hb dX7_wouldFail_14 rfl (lv_at hl 0 rfl) ?_
  refine lv_iload_n hx hb dX7_wouldFail_15 rfl (lv_at hl 1 rfl) ?_
  refine lv_iload_n hx hb dX7_wouldFail_16 rfl (lv_at hl 2 rfl) ?_
  refine z_ai0 (va_runV (As := [.int (iI 2), .int (iI p1)]) (rest := []) ⟨hx, hb, hml, hown, hts⟩ (c_X7_failBackwards_2 l D k a0 S0 S1  p1 hp (by omega) (by omega) _) (cwV 2 hts gX7_wouldFail_X7_failBackwards rfl rfl rfl (by decide +kernel) ⟨(Nat.le_of_ble_eq_true rfl), (Nat.le_of_ble_eq_true rfl)⟩) (z_preV hK hG hA hP hD hS (zrg 0 1 ++ zrg 1 15) (z_mcat (z_hd (n := 1) rfl) (z_sk (n := 1) (off := 0) (m := 15) rfl (z_hd (n := 15) rfl))) (by decide +kernel) 9 rfl rfl) rfl rfl hl.1 rfl (lv_room (Nat.le_of_ble_eq_true rfl)) dX7_wouldFail_17 ⟨(Nat.le_of_ble_eq_true rfl), (Nat.le_of_ble_eq_true rfl)⟩) hA hP hD hS (zrg 0 1 ++ zrg 1 15) (z_mcat (z_hd (n := 1) rfl) (z_sk (n := 1) (off := 0) (m := 15) rfl (z_hd (n := 15) rfl))) (fun H locs hP hS => ?_)
  refine lv_goto (tgt := 29) hx hb dX7_wouldFail_20 (by decide) ?_
  exact z_iret hx hb hr hlocks hP hS dX7_wouldFail_29 rfl rfl (Nat.le_refl _) (Nat.le_refl _)
set_option maxHeartbeats 4000000 in
set_option maxRecDepth 100000 in
theorem c_X7_wouldFail_b (l : Launch) (hst : l.stackTraces = false) (D : va_G) (k : Nat → ClassId) (a0 : Nat → Nat) (S0 : Nat → Nat → Int) (S1 : Nat → Nat → Int) (p0 : Int) (p1 : Int) (p2 : Int) (hp : pOK S1) (h0 : -2147483648 ≤ p0 ∧ p0 < 2147483648) (h1 : -2147483648 ≤ p1 ∧ p1 < 2147483648) (hc : ¬ (0 ≤ p1 ∧ ((p0 = 0 ∧ p1 < S1 3 1) ∨ (p0 = 1 ∧ p1 < S1 6 1) ∨ (p0 = 2 ∧ p1 < S1 9 1)))) : zMx l yX7_wouldFail wsX7_wouldFail ({ frames := 7, cells := 1, slots := 6, locals := 104 } : Room) D k [.ref (a0 0), .int (iI p0), .int (iI p1), .int (iI p2)] (wFac k a0 S0 ++ wPlant k (subA a0 1) S1) "java/lang/IndexOutOfBoundsException" (wFac k a0 S0 ++ wPlant k (subA a0 1) S1) 1 6 := by
  refine zMx_of (cc := cX7_wouldFail) (maxL := 4) (ret := (some .int)) (by decide) rfl (Nat.le_of_ble_eq_true rfl) ?_
  intro p e s m args below meth c A ls hx hb hr hml hown hts hlocks hK hP hD hG hE ht hA hS hl
  have hown : s.vm.findClass RX7 = some m.cls := hown
  have hl : lv_has ls 4 [(0, .ref (a0 0)), (1, .int (iI p0)), (2, .int (iI p1)), (3, .int (iI p2))] := hl
  obtain ⟨H, hH⟩ : ∃ z, z = s.heap := ⟨_, rfl⟩
  obtain ⟨locs, hlc⟩ : ∃ z : List Loc, z = [] := ⟨_, rfl⟩
  rw [← hH] at hP
  have hS : va_S A s.heap H locs := by rw [hH, hlc]; exact hS
  rw [← hlc, ← hH]
  clear hlc hH
  have kp := hp.2
  refine lv_aload_n hx hb dX7_wouldFail_0 rfl (lv_at hl 0 rfl) ?_
  refine lv_iload_n hx hb dX7_wouldFail_1 rfl (lv_at hl 1 rfl) ?_
  refine lv_iload_n hx hb dX7_wouldFail_2 rfl (lv_at hl 2 rfl) ?_
  exact z_axo (vx_runV (As := [.int (iI p0), .int (iI p1)]) (rest := []) ⟨hx, hb, hml, hown, hts⟩ (c_X7_demandPlace_x l hst D k a0 S0 S1  p0 p1 hp (by omega) (by omega) (by omega) _) (cwV 2 hts gX7_wouldFail_X7_demandPlace rfl rfl rfl (by decide +kernel) ⟨(Nat.le_of_ble_eq_true rfl), (Nat.le_of_ble_eq_true rfl)⟩) (z_preVx hK hG hE hA hP hD hS (zrg 0 1 ++ zrg 1 15) (z_mcat (z_hd (n := 1) rfl) (z_sk (n := 1) (off := 0) (m := 15) rfl (z_hdl (n := 15) rfl))) (by decide +kernel) 9 rfl rfl) rfl rfl hl.1 rfl (lv_room (Nat.le_of_ble_eq_true rfl)) dX7_wouldFail_3 ⟨(Nat.le_of_ble_eq_true rfl), (Nat.le_of_ble_eq_true rfl)⟩) hA hP hD hS (zrg 0 1 ++ zrg 1 15) (z_mcat (z_hd (n := 1) rfl) (z_sk (n := 1) (off := 0) (m := 15) rfl (z_hdl (n := 15) rfl))) (z_mfst rfl rfl) ht hlocks (Eq.trans rfl (Eq.symm (zset_same (z_mcat (z_hd (n := 1) rfl) (z_sk (n := 1) (off := 0) (m := 15) rfl (z_hdl (n := 15) rfl)))))) (Nat.le_of_ble_eq_true rfl) (Nat.le_of_ble_eq_true rfl)
set_option maxHeartbeats 4000000 in
set_option maxRecDepth 100000 in
theorem c_X7_wouldFail_i (l : Launch) (hst : l.stackTraces = false) (D : va_G) (k : Nat → ClassId) (a0 : Nat → Nat) (S0 : Nat → Nat → Int) (S1 : Nat → Nat → Int) (p0 : Int) (p1 : Int) (p2 : Int) (hp : pOK S1) (h0 : -2147483648 ≤ p0 ∧ p0 < 2147483648) (h1 : -2147483648 ≤ p1 ∧ p1 < 2147483648) (hc : 0 ≤ p1 ∧ ((p0 = 0 ∧ p1 < S1 3 1) ∨ (p0 = 1 ∧ p1 < S1 6 1) ∨ (p0 = 2 ∧ p1 < S1 9 1))) (hI : S1 13 1 = 0) : zMx l yX7_wouldFail wsX7_wouldFail ({ frames := 7, cells := 1, slots := 6, locals := 102 } : Room) D k [.ref (a0 0), .int (iI p0), .int (iI p1), .int (iI p2)] (wFac k a0 S0 ++ wPlant k (subA a0 1) S1) "java/util/NoSuchElementException" (wFac k a0 S0 ++ wPlant k (subA a0 1) S1) 1 6 := by
  refine zMx_of (cc := cX7_wouldFail) (maxL := 4) (ret := (some .int)) (by decide) rfl (Nat.le_of_ble_eq_true rfl) ?_
  intro p e s m args below meth c A ls hx hb hr hml hown hts hlocks hK hP hD hG hE ht hA hS hl
  have hown : s.vm.findClass RX7 = some m.cls := hown
  have hl : lv_has ls 4 [(0, .ref (a0 0)), (1, .int (iI p0)), (2, .int (iI p1)), (3, .int (iI p2))] := hl
  obtain ⟨H, hH⟩ : ∃ z, z = s.heap := ⟨_, rfl⟩
  obtain ⟨locs, hlc⟩ : ∃ z : List Loc, z = [] := ⟨_, rfl⟩
  rw [← hH] at hP
  have hS : va_S A s.heap H locs := by rw [hH, hlc]; exact hS
  rw [← hlc, ← hH]
  clear hlc hH
  have kp := hp.2
  refine lv_aload_n hx hb dX7_wouldFail_0 rfl (lv_at hl 0 rfl) ?_
  refine lv_iload_n hx hb dX7_wouldFail_1 rfl (lv_at hl 1 rfl) ?_
  refine lv_iload_n hx hb dX7_wouldFail_2 rfl (lv_at hl 2 rfl) ?_
  refine z_av0 (va_runV (As := [.int (iI p0), .int (iI p1)]) (rest := []) ⟨hx, hb, hml, hown, hts⟩ (c_X7_demandPlace_ok l D k a0 S0 S1  p0 p1 hp (by omega) (by omega) (by omega) _) (cwV 2 hts gX7_wouldFail_X7_demandPlace rfl rfl rfl (by decide +kernel) ⟨(Nat.le_of_ble_eq_true rfl), (Nat.le_of_ble_eq_true rfl)⟩) (z_preV hK hG hA hP hD hS (zrg 0 1 ++ zrg 1 15) (z_mcat (z_hd (n := 1) rfl) (z_sk (n := 1) (off := 0) (m := 15) rfl (z_hdl (n := 15) rfl))) (by decide +kernel) 9 rfl rfl) rfl rfl hl.1 rfl (lv_room (Nat.le_of_ble_eq_true rfl)) dX7_wouldFail_3 ⟨(Nat.le_of_ble_eq_true rfl), (Nat.le_of_ble_eq_true rfl)⟩) hA hP hD hS (zrg 0 1 ++ zrg 1 15) (z_mcat (z_hd (n := 1) rfl) (z_sk (n := 1) (off := 0) (m := 15) rfl (z_hdl (n := 15) rfl))) (fun H locs hP hS => ?_)
  refine lv_aload_n hx hb dX7_wouldFail_6 rfl (lv_at hl 0 rfl) ?_
  exact z_axo (vx_runV (As := []) (rest := []) ⟨hx, hb, hml, hown, hts⟩ (c_X7_demandInspector_x l hst D k a0 S0 S1   hp (by omega) _) (cwV 0 hts gX7_wouldFail_X7_demandInspector rfl rfl rfl (by decide +kernel) ⟨(Nat.le_of_ble_eq_true rfl), (Nat.le_of_ble_eq_true rfl)⟩) (z_preVx hK hG hE hA hP hD hS (zrg 0 1 ++ zrg 1 15) (z_mcat (z_hd (n := 1) rfl) (z_sk (n := 1) (off := 0) (m := 15) rfl (z_hdl (n := 15) rfl))) (by decide +kernel) 9 rfl rfl) rfl rfl hl.1 rfl (lv_room (Nat.le_of_ble_eq_true rfl)) dX7_wouldFail_7 ⟨(Nat.le_of_ble_eq_true rfl), (Nat.le_of_ble_eq_true rfl)⟩) hA hP hD hS (zrg 0 1 ++ zrg 1 15) (z_mcat (z_hd (n := 1) rfl) (z_sk (n := 1) (off := 0) (m := 15) rfl (z_hdl (n := 15) rfl))) (z_mfst rfl rfl) ht hlocks (Eq.trans rfl (Eq.symm (zset_same (z_mcat (z_hd (n := 1) rfl) (z_sk (n := 1) (off := 0) (m := 15) rfl (z_hdl (n := 15) rfl)))))) (Nat.le_of_ble_eq_true rfl) (Nat.le_of_ble_eq_true rfl)
set_option maxHeartbeats 4000000 in
set_option maxRecDepth 100000 in
theorem c_X7_wouldStamp_0 (l : Launch) (D : va_G) (k : Nat → ClassId) (a0 : Nat → Nat) (S0 : Nat → Nat → Int) (S1 : Nat → Nat → Int) (S2 : Nat → Nat → Int) (hp : pOK S1) (hat : aOK S2) (hI : 1 ≤ S1 13 1) : zMi l yX7_wouldStamp wsX7_wouldStamp ({ frames := 4, cells := 0, slots := 0, locals := 104 } : Room) D k [.ref (a0 0), .int (iI 0)] (wFac k a0 S0 ++ (wPlant k (subA a0 1) S1 ++ wPlant k (subA a0 16) S2)) (((((wInspN0 (((wCopy S2 S1))) (S1 3 1).toNat)) 2) 5) - (S1 2 5)) (wFac k a0 S0 ++ (wPlant k (subA a0 1) S1 ++ wPlant k (subA a0 16) ((wInspN0 (((wCopy S2 S1))) (S1 3 1).toNat)))) 0 0 := by
  refine zMi_of (cc := cX7_wouldStamp) (maxL := 4) (ret := (some .int)) (by decide) rfl (Nat.le_of_ble_eq_true rfl) ?_
  intro p e s m args below meth c A ls hx hb hr hml hown hts hlocks hK hP hD hG hA hS hl
  have hown : s.vm.findClass RX7 = some m.cls := hown
  have hl : lv_has ls 4 [(0, .ref (a0 0)), (1, .int (iI 0))] := hl
  obtain ⟨H, hH⟩ : ∃ z, z = s.heap := ⟨_, rfl⟩
  obtain ⟨locs, hlc⟩ : ∃ z : List Loc, z = [] := ⟨_, rfl⟩
  rw [← hH] at hP
  have hS : va_S A s.heap H locs := by rw [hH, hlc]; exact hS
  rw [← hlc, ← hH]
  clear hlc hH
  have kp := hp.2
  refine lv_aload_n hx hb dX7_wouldStamp_0 rfl (lv_at hl 0 rfl) ?_
  refine lv_iload_n hx hb dX7_wouldStamp_1 rfl (lv_at hl 1 rfl) ?_
  refine z_av0 (va_runV (As := [.int (iI 0)]) (rest := []) ⟨hx, hb, hml, hown, hts⟩ (c_X7_demandBelt_ok l D k a0 S0  0 (by omega) (by omega) _) (cwV 1 hts gX7_wouldStamp_X7_demandBelt rfl rfl rfl (by decide +kernel) ⟨(Nat.le_of_ble_eq_true rfl), (Nat.le_of_ble_eq_true rfl)⟩) (z_preV hK hG hA hP hD hS [0] rfl (by decide) 9 rfl rfl) rfl rfl hl.1 rfl (lv_room (Nat.le_of_ble_eq_true rfl)) dX7_wouldStamp_2 ⟨(Nat.le_of_ble_eq_true rfl), (Nat.le_of_ble_eq_true rfl)⟩) hA hP hD hS [0] rfl (fun H locs hP hS => ?_)
  refine lv_aload_n hx hb dX7_wouldStamp_5 rfl (lv_at hl 0 rfl) ?_
  refine z_av0 (va_runV (As := []) (rest := []) ⟨hx, hb, hml, hown, hts⟩ (c_X7_demandInspector_ok l D k a0 S0 S1   hp (by omega) _) (cwV 0 hts gX7_wouldStamp_X7_demandInspector rfl rfl rfl (by decide +kernel) ⟨(Nat.le_of_ble_eq_true rfl), (Nat.le_of_ble_eq_true rfl)⟩) (z_preV hK hG hA hP hD hS (zrg 0 1 ++ zrg 1 15) (z_mcat (z_hd (n := 1) rfl) (z_sk (n := 1) (off := 0) (m := 15) rfl (z_hd (n := 15) rfl))) (by decide +kernel) 9 rfl rfl) rfl rfl hl.1 rfl (lv_room (Nat.le_of_ble_eq_true rfl)) dX7_wouldStamp_6 ⟨(Nat.le_of_ble_eq_true rfl), (Nat.le_of_ble_eq_true rfl)⟩) hA hP hD hS (zrg 0 1 ++ zrg 1 15) (z_mcat (z_hd (n := 1) rfl) (z_sk (n := 1) (off := 0) (m := 15) rfl (z_hd (n := 15) rfl))) (fun H locs hP hS => ?_)
  refine lv_aload_n hx hb dX7_wouldStamp_9 rfl (lv_at hl 0 rfl) ?_
  refine va_get (D := D) (ci := 9) (v := .ref ((subA a0 16) 0)) (C := RX7) (T := TX7) (N := 11) hx hb hts (fun w h => List.mem_cons_of_mem _ (List.mem_append_left _ (List.mem_append_left _ (List.mem_append_left _ (List.mem_append_left _ (List.mem_append_left _ (List.mem_append_left _ (List.mem_append_left _ (List.mem_append_right _ h))))))))) hown hK hP 0 rfl rfl 1 (by decide) (hts (.fieldLink RX7 16 "MondayFactory" "thought" "LMondayFactory$Plant;") (List.mem_of_getElem? (i := 1) rfl)) (fun _ h9 => h9) rfl dX7_wouldStamp_10 ?_
  refine lv_aload_n hx hb dX7_wouldStamp_13 rfl (lv_at hl 0 rfl) ?_
  refine va_get (D := D) (ci := 9) (v := .ref ((subA a0 1) 0)) (C := RX7) (T := TX7) (N := 11) hx hb hts (fun w h => List.mem_cons_of_mem _ (List.mem_append_left _ (List.mem_append_left _ (List.mem_append_left _ (List.mem_append_left _ (List.mem_append_left _ (List.mem_append_left _ (List.mem_append_left _ (List.mem_append_right _ h))))))))) hown hK hP 0 rfl rfl 0 (by decide) (hts (.fieldLink RX7 10 "MondayFactory" "plant" "LMondayFactory$Plant;") (List.mem_of_getElem? (i := 2) rfl)) (fun _ h9 => h9) rfl dX7_wouldStamp_14 ?_
  refine z_av (va_runV (As := [.ref ((subA a0 1) 0)]) (rest := []) ⟨hx, hb, hml, hown, hts⟩ (c_X5_copyW l D k ((subA a0 16)) S2 ((subA a0 1)) S1   (by omega) (by omega) (by omega) (by omega) _) (cwV 1 hts gX7_wouldStamp_X5_copyFrom rfl rfl rfl (by decide +kernel) ⟨(Nat.le_of_ble_eq_true rfl), (Nat.le_of_ble_eq_true rfl)⟩) (z_preV hK hG hA hP hD hS (zrg 16 15 ++ zrg 1 15) (z_mcat (z_sk (n := 1) (off := 15) (m := 15) rfl (z_sk (n := 15) (off := 0) (m := 15) rfl (z_hdl (n := 15) rfl))) (z_sk (n := 1) (off := 0) (m := 15) rfl (z_hd (n := 15) rfl))) (by decide +kernel) 7 rfl rfl) rfl rfl hl.1 rfl (lv_room (Nat.le_of_ble_eq_true rfl)) dX7_wouldStamp_17 ⟨(Nat.le_of_ble_eq_true rfl), (Nat.le_of_ble_eq_true rfl)⟩) hA hP hD hS (zrg 16 15 ++ zrg 1 15) (z_mcat (z_sk (n := 1) (off := 15) (m := 15) rfl (z_sk (n := 15) (off := 0) (m := 15) rfl (z_hdl (n := 15) rfl))) (z_sk (n := 1) (off := 0) (m := 15) rfl (z_hd (n := 15) rfl))) (z_mfst rfl rfl) (fun H locs hP hD hS => ?_)
  have hz_2 : zset (wFac k a0 S0 ++ (wPlant k (subA a0 1) S1 ++ wPlant k (subA a0 16) S2)) (zrg 16 15) (wPlant k (subA a0 16) ((wCopy S2 S1))) = wFac k a0 S0 ++ (wPlant k (subA a0 1) S1 ++ wPlant k (subA a0 16) ((wCopy S2 S1))) := (z_zsk (n := 1) (off := 15) (m := 15) rfl (z_zsk (n := 15) (off := 0) (m := 15) rfl (z_zhl (n := 15) rfl rfl)))
  have hz_3 : zset (wFac k a0 S0 ++ (wPlant k (subA a0 1) S1 ++ wPlant k (subA a0 16) ((wCopy S2 S1)))) (zrg 1 15) (wPlant k (subA a0 1) S1) = wFac k a0 S0 ++ (wPlant k (subA a0 1) S1 ++ wPlant k (subA a0 16) ((wCopy S2 S1))) := (z_zsk (n := 1) (off := 0) (m := 15) rfl (z_zhd (n := 15) rfl rfl))
  have hE_1 : zset (wFac k a0 S0 ++ (wPlant k (subA a0 1) S1 ++ wPlant k (subA a0 16) S2)) (zrg 16 15 ++ zrg 1 15) (wPlant k (subA a0 16) ((wCopy S2 S1)) ++ wPlant k (subA a0 1) S1) = wFac k a0 S0 ++ (wPlant k (subA a0 1) S1 ++ wPlant k (subA a0 16) ((wCopy S2 S1))) := (z_zcat rfl hz_2 hz_3)
  have hP : va_P D vwCl (wFac k a0 S0 ++ (wPlant k (subA a0 1) S1 ++ wPlant k (subA a0 16) ((wCopy S2 S1)))) H := z_to hE_1 hP
  have hD : va_D A (wFac k a0 S0 ++ (wPlant k (subA a0 1) S1 ++ wPlant k (subA a0 16) ((wCopy S2 S1)))) := z_to2 hE_1 hD
  have ob_4 : pOK ((wCopy S2 S1)) := pOK_copy hat hp
  have ob_4k := ob_4.2
  refine lv_aload_n hx hb dX7_wouldStamp_20 rfl (lv_at hl 0 rfl) ?_
  refine va_get (D := D) (ci := 9) (v := .ref ((subA a0 1) 0)) (C := RX7) (T := TX7) (N := 11) hx hb hts (fun w h => List.mem_cons_of_mem _ (List.mem_append_left _ (List.mem_append_left _ (List.mem_append_left _ (List.mem_append_left _ (List.mem_append_left _ (List.mem_append_left _ (List.mem_append_left _ (List.mem_append_right _ h))))))))) hown hK hP 0 rfl rfl 0 (by decide) (hts (.fieldLink RX7 10 "MondayFactory" "plant" "LMondayFactory$Plant;") (List.mem_of_getElem? (i := 2) rfl)) (fun _ h9 => h9) rfl dX7_wouldStamp_21 ?_
  refine va_get (D := D) (ci := 7) (v := .ref ((subA a0 1) 1)) (C := RX5) (T := TX5) (N := 11) hx hb hts (fun w h => List.mem_cons_of_mem _ (List.mem_append_left _ (List.mem_append_left _ (List.mem_append_left _ (List.mem_append_left _ (List.mem_append_left _ (List.mem_append_left _ (List.mem_append_right _ h)))))))) hown hK hP 1 rfl rfl 0 (by decide) (hts (.fieldLink RX7 72 "MondayFactory$Plant" "belts" "[LMondayFactory$Belt;") (List.mem_of_getElem? (i := 3) rfl)) (fun _ h9 => h9) rfl dX7_wouldStamp_24 ?_
  refine lv_iload_n hx hb dX7_wouldStamp_27 rfl (lv_at hl 1 rfl) ?_
  refine z_aald hx hb hK hP 2 2 (f := fun j => some ((subA a0 1) (2 + 3 * j))) (q := (subA a0 1) 2) rfl rfl (i := 0) (by omega) (by omega) (by decide) rfl dX7_wouldStamp_28 ?_
  refine va_get (D := D) (ci := 2) (v := .ref ((subA a0 1) 3)) (C := RX0) (T := TX0) (N := 6) hx hb hts (fun w h => List.mem_cons_of_mem _ (List.mem_append_left _ (List.mem_append_left _ (List.mem_append_left _ (List.mem_append_left _ (List.mem_append_left _ (List.mem_append_right _ h))))))) hown hK hP 3 rfl rfl 0 (by decide) (hts (.fieldLink RX7 76 "MondayFactory$Belt" "row" "LMondayFactory$Row;") (List.mem_of_getElem? (i := 4) rfl)) (fun _ h9 => h9) rfl dX7_wouldStamp_29 ?_
  have f_5 : -1000000000 ≤ S1 3 1 ∧ S1 3 1 ≤ 1000000000 := (pOK_b hp 3 (by decide)) 1
  refine va_get (D := D) (ci := 8) (v := .int (iI (S1 3 1))) (C := RX6) (T := TX6) (N := 2) hx hb hts (fun w h => List.mem_cons_of_mem _ (List.mem_append_left _ (List.mem_append_left _ (List.mem_append_left _ (List.mem_append_left _ (List.mem_append_right _ h)))))) hown hK hP 4 rfl rfl 1 (by decide) (hts (.fieldLink RX7 82 "MondayFactory$Row" "count" "I") (List.mem_of_getElem? (i := 5) rfl)) (fun _ h9 => h9) rfl dX7_wouldStamp_32 ?_
  refine lv_istore_n (lv' := [(2, .int (iI (S1 3 1))), (0, .ref (a0 0)), (1, .int (iI 0))]) hx hb dX7_wouldStamp_35 rfl hl (by decide) rfl (fun ls hl => ?_)
  refine lv_iconst (v := iI 0) hx hb dX7_wouldStamp_36 rfl ?_
  refine lv_istore_n (lv' := [(3, .int (iI 0)), (2, .int (iI (S1 3 1))), (0, .ref (a0 0)), (1, .int (iI 0))]) hx hb dX7_wouldStamp_37 rfl hl (by decide) rfl (fun ls hl => ?_)
  have lp38_0 : ∀ (n : Nat) (x3 : Int) (FP : Nat → Nat → Int), (5 - x3).toNat < n → (0 ≤ x3) → (x3 ≤ S1 3 1) → (aOK FP) → (pK (900000 + x3) FP) → (FP = wInspN0 (((wCopy S2 S1))) x3.toNat) → ∀ (H : Heap) (locs : List Loc) (ls : Array Slot), va_P D vwCl (wFac k a0 S0 ++ (wPlant k (subA a0 1) S1 ++ wPlant k (subA a0 16) FP)) H → va_D A (wFac k a0 S0 ++ (wPlant k (subA a0 1) S1 ++ wPlant k (subA a0 16) FP)) → va_S A s.heap H locs → lv_has ls 4 [(3, .int (iI x3)), (2, .int (iI (S1 3 1))), (0, .ref (a0 0)), (1, .int (iI 0))] → W p l e ({ frames := 4, cells := 0, slots := 0, locals := 104 } : Room) s m args below meth c H locs 0 0 (MQ below (zQi D A (((((wInspN0 (((wCopy S2 S1))) (S1 3 1).toNat)) 2) 5) - (S1 2 5)) (wFac k a0 S0 ++ (wPlant k (subA a0 1) S1 ++ wPlant k (subA a0 16) ((wInspN0 (((wCopy S2 S1))) (S1 3 1).toNat))))) args s 0 0 A) (F0 m 38 ls []) := by
    intro n38
    induction n38 with
    | zero => intro x3 FP hm; exact absurd hm (Nat.not_lt_zero _)
    | succ n38 ih38 =>
      intro x3 FP hm38 i0 i1 iA iK iP  H locs ls hP hD hS hl
      have ik := iK.2
      refine lv_iload_n hx hb dX7_wouldStamp_38 rfl (lv_at hl 0 rfl) ?_
      refine lv_iload_n hx hb dX7_wouldStamp_39 rfl (lv_at hl 1 rfl) ?_
      refine zi_icmp_ge (tgt := 58) hx hb dX7_wouldStamp_40 (by decide) ⟨by omega, by omega⟩ ⟨by omega, by omega⟩ (fun c_6 => ?_) (fun c_6 => ?_)
      · have v_7 : FP = (wInspN0 (((wCopy S2 S1))) (S1 3 1).toNat) := (by rw [iP, show x3 = S1 3 1 by omega])
        rw [v_7] at hP hD
        have oa_8 : aOK ((wInspN0 (((wCopy S2 S1))) (S1 3 1).toNat)) := v_7 ▸ iA
        refine lv_aload_n hx hb dX7_wouldStamp_58 rfl (lv_at hl 2 rfl) ?_
        refine va_get (D := D) (ci := 9) (v := .ref ((subA a0 16) 0)) (C := RX7) (T := TX7) (N := 11) hx hb hts (fun w h => List.mem_cons_of_mem _ (List.mem_append_left _ (List.mem_append_left _ (List.mem_append_left _ (List.mem_append_left _ (List.mem_append_left _ (List.mem_append_left _ (List.mem_append_left _ (List.mem_append_right _ h))))))))) hown hK hP 0 rfl rfl 1 (by decide) (hts (.fieldLink RX7 16 "MondayFactory" "thought" "LMondayFactory$Plant;") (List.mem_of_getElem? (i := 1) rfl)) (fun _ h9 => h9) rfl dX7_wouldStamp_59 ?_
        refine va_get (D := D) (ci := 7) (v := .ref ((subA a0 16) 1)) (C := RX5) (T := TX5) (N := 11) hx hb hts (fun w h => List.mem_cons_of_mem _ (List.mem_append_left _ (List.mem_append_left _ (List.mem_append_left _ (List.mem_append_left _ (List.mem_append_left _ (List.mem_append_left _ (List.mem_append_right _ h)))))))) hown hK hP 16 rfl rfl 0 (by decide) (hts (.fieldLink RX7 72 "MondayFactory$Plant" "belts" "[LMondayFactory$Belt;") (List.mem_of_getElem? (i := 3) rfl)) (fun _ h9 => h9) rfl dX7_wouldStamp_62 ?_
        refine lv_iload_n hx hb dX7_wouldStamp_65 rfl (lv_at hl 3 rfl) ?_
        refine z_aald hx hb hK hP 17 2 (f := fun j => some ((subA a0 16) (2 + 3 * j))) (q := (subA a0 16) 2) rfl rfl (i := 0) (by omega) (by omega) (by decide) rfl dX7_wouldStamp_66 ?_
        refine va_get (D := D) (ci := 2) (v := .int (iI ((((wInspN0 (((wCopy S2 S1))) (S1 3 1).toNat)) 2) 5))) (C := RX0) (T := TX0) (N := 6) hx hb hts (fun w h => List.mem_cons_of_mem _ (List.mem_append_left _ (List.mem_append_left _ (List.mem_append_left _ (List.mem_append_left _ (List.mem_append_left _ (List.mem_append_right _ h))))))) hown hK hP 18 rfl rfl 5 (by decide) (hts (.fieldLink RX7 103 "MondayFactory$Belt" "stamped" "I") (List.mem_of_getElem? (i := 6) rfl)) (fun _ h9 => h9) rfl dX7_wouldStamp_67 ?_
        refine lv_aload_n hx hb dX7_wouldStamp_70 rfl (lv_at hl 2 rfl) ?_
        refine va_get (D := D) (ci := 9) (v := .ref ((subA a0 1) 0)) (C := RX7) (T := TX7) (N := 11) hx hb hts (fun w h => List.mem_cons_of_mem _ (List.mem_append_left _ (List.mem_append_left _ (List.mem_append_left _ (List.mem_append_left _ (List.mem_append_left _ (List.mem_append_left _ (List.mem_append_left _ (List.mem_append_right _ h))))))))) hown hK hP 0 rfl rfl 0 (by decide) (hts (.fieldLink RX7 10 "MondayFactory" "plant" "LMondayFactory$Plant;") (List.mem_of_getElem? (i := 2) rfl)) (fun _ h9 => h9) rfl dX7_wouldStamp_71 ?_
        refine va_get (D := D) (ci := 7) (v := .ref ((subA a0 1) 1)) (C := RX5) (T := TX5) (N := 11) hx hb hts (fun w h => List.mem_cons_of_mem _ (List.mem_append_left _ (List.mem_append_left _ (List.mem_append_left _ (List.mem_append_left _ (List.mem_append_left _ (List.mem_append_left _ (List.mem_append_right _ h)))))))) hown hK hP 1 rfl rfl 0 (by decide) (hts (.fieldLink RX7 72 "MondayFactory$Plant" "belts" "[LMondayFactory$Belt;") (List.mem_of_getElem? (i := 3) rfl)) (fun _ h9 => h9) rfl dX7_wouldStamp_74 ?_
        refine lv_iload_n hx hb dX7_wouldStamp_77 rfl (lv_at hl 3 rfl) ?_
        refine z_aald hx hb hK hP 2 2 (f := fun j => some ((subA a0 1) (2 + 3 * j))) (q := (subA a0 1) 2) rfl rfl (i := 0) (by omega) (by omega) (by decide) rfl dX7_wouldStamp_78 ?_
        have f_9 : -1000000000 ≤ S1 2 5 ∧ S1 2 5 ≤ 1000000000 := (pOK_b hp 2 (by decide)) 5
        refine va_get (D := D) (ci := 2) (v := .int (iI (S1 2 5))) (C := RX0) (T := TX0) (N := 6) hx hb hts (fun w h => List.mem_cons_of_mem _ (List.mem_append_left _ (List.mem_append_left _ (List.mem_append_left _ (List.mem_append_left _ (List.mem_append_left _ (List.mem_append_right _ h))))))) hown hK hP 3 rfl rfl 5 (by decide) (hts (.fieldLink RX7 103 "MondayFactory$Belt" "stamped" "I") (List.mem_of_getElem? (i := 6) rfl)) (fun _ h9 => h9) rfl dX7_wouldStamp_79 ?_
        refine zi_sub hx hb dX7_wouldStamp_82 ?_
        exact z_iret hx hb hr hlocks hP hS dX7_wouldStamp_83 rfl rfl (Nat.le_refl _) (Nat.le_refl _)
      · refine lv_aload_n hx hb dX7_wouldStamp_43 rfl (lv_at hl 2 rfl) ?_
        refine va_get (D := D) (ci := 9) (v := .ref ((subA a0 16) 0)) (C := RX7) (T := TX7) (N := 11) hx hb hts (fun w h => List.mem_cons_of_mem _ (List.mem_append_left _ (List.mem_append_left _ (List.mem_append_left _ (List.mem_append_left _ (List.mem_append_left _ (List.mem_append_left _ (List.mem_append_left _ (List.mem_append_right _ h))))))))) hown hK hP 0 rfl rfl 1 (by decide) (hts (.fieldLink RX7 16 "MondayFactory" "thought" "LMondayFactory$Plant;") (List.mem_of_getElem? (i := 1) rfl)) (fun _ h9 => h9) rfl dX7_wouldStamp_44 ?_
        refine lv_iload_n hx hb dX7_wouldStamp_47 rfl (lv_at hl 3 rfl) ?_
        refine z_ai (va_runV (As := [.int (iI 0)]) (rest := []) ⟨hx, hb, hml, hown, hts⟩ (c_X5_inspW0 l D k ((subA a0 16)) FP   (pK.b iK (by omega) 2 (by decide)) (pK.b iK (by omega) 4 (by decide)) (pK.b iK (by omega) 14 (by decide)) (by omega) (by omega) (by omega) _) (cwV 1 hts gX7_wouldStamp_X5_inspectFront rfl rfl rfl (by decide +kernel) ⟨(Nat.le_of_ble_eq_true rfl), (Nat.le_of_ble_eq_true rfl)⟩) (z_preV hK hG hA hP hD hS (zrg 16 15) (z_sk (n := 1) (off := 15) (m := 15) rfl (z_sk (n := 15) (off := 0) (m := 15) rfl (z_hdl (n := 15) rfl))) (by decide +kernel) 7 rfl rfl) rfl rfl hl.1 rfl (lv_room (Nat.le_of_ble_eq_true rfl)) dX7_wouldStamp_48 ⟨(Nat.le_of_ble_eq_true rfl), (Nat.le_of_ble_eq_true rfl)⟩) hA hP hD hS (zrg 16 15) (z_sk (n := 1) (off := 15) (m := 15) rfl (z_sk (n := 15) (off := 0) (m := 15) rfl (z_hdl (n := 15) rfl))) rfl (fun H locs hP hD hS => ?_)
        have hz_11 : zset (wFac k a0 S0 ++ (wPlant k (subA a0 1) S1 ++ wPlant k (subA a0 16) FP)) (zrg 16 15) (wPlant k (subA a0 16) ((wInsp0 FP))) = wFac k a0 S0 ++ (wPlant k (subA a0 1) S1 ++ wPlant k (subA a0 16) ((wInsp0 FP))) := (z_zsk (n := 1) (off := 15) (m := 15) rfl (z_zsk (n := 15) (off := 0) (m := 15) rfl (z_zhl (n := 15) rfl rfl)))
        have hE_10 : zset (wFac k a0 S0 ++ (wPlant k (subA a0 1) S1 ++ wPlant k (subA a0 16) FP)) (zrg 16 15) (wPlant k (subA a0 16) ((wInsp0 FP))) = wFac k a0 S0 ++ (wPlant k (subA a0 1) S1 ++ wPlant k (subA a0 16) ((wInsp0 FP))) := hz_11
        have hP : va_P D vwCl (wFac k a0 S0 ++ (wPlant k (subA a0 1) S1 ++ wPlant k (subA a0 16) ((wInsp0 FP)))) H := z_to hE_10 hP
        have hD : va_D A (wFac k a0 S0 ++ (wPlant k (subA a0 1) S1 ++ wPlant k (subA a0 16) ((wInsp0 FP)))) := z_to2 hE_10 hD
        refine lv_pop hx hb dX7_wouldStamp_51 rfl ?_
        refine lv_iinc (v := iI (x3 + 1)) (lv' := [(3, .int (iI (x3 + 1))), (2, .int (iI (S1 3 1))), (0, .ref (a0 0)), (1, .int (iI 0))]) hx hb dX7_wouldStamp_52 hl (k := 0) rfl (iI_add _ _) (by decide) rfl (fun ls hl => ?_)
        refine lv_goto (tgt := 38) hx hb dX7_wouldStamp_55 (by decide) ?_
        exact ih38 (x3 + 1) ((wInsp0 FP)) (by omega) (by omega) (by omega) (wInsp0_a iA) (pK.mono (wInsp0_k iK (by omega)) (by omega)) (by rw [iP]; exact wInspN0_s i0)  H locs ls hP hD hS (lv_sub hl [0, 1, 2, 3] rfl)
  exact lp38_0 6 0 ((wCopy S2 S1)) (by omega) (by omega) (by omega) (pOK_a ob_4) (pK.mono ob_4 (by omega)) rfl  H locs ls hP hD hS (lv_sub hl [0, 1, 2, 3] rfl)
set_option maxHeartbeats 4000000 in
set_option maxRecDepth 100000 in
theorem c_X7_wouldStamp_1 (l : Launch) (D : va_G) (k : Nat → ClassId) (a0 : Nat → Nat) (S0 : Nat → Nat → Int) (S1 : Nat → Nat → Int) (S2 : Nat → Nat → Int) (hp : pOK S1) (hat : aOK S2) (hI : 1 ≤ S1 13 1) : zMi l yX7_wouldStamp wsX7_wouldStamp ({ frames := 4, cells := 0, slots := 0, locals := 104 } : Room) D k [.ref (a0 0), .int (iI 1)] (wFac k a0 S0 ++ (wPlant k (subA a0 1) S1 ++ wPlant k (subA a0 16) S2)) (((((wInspN1 (((wCopy S2 S1))) (S1 6 1).toNat)) 5) 5) - (S1 5 5)) (wFac k a0 S0 ++ (wPlant k (subA a0 1) S1 ++ wPlant k (subA a0 16) ((wInspN1 (((wCopy S2 S1))) (S1 6 1).toNat)))) 0 0 := by
  refine zMi_of (cc := cX7_wouldStamp) (maxL := 4) (ret := (some .int)) (by decide) rfl (Nat.le_of_ble_eq_true rfl) ?_
  intro p e s m args below meth c A ls hx hb hr hml hown hts hlocks hK hP hD hG hA hS hl
  have hown : s.vm.findClass RX7 = some m.cls := hown
  have hl : lv_has ls 4 [(0, .ref (a0 0)), (1, .int (iI 1))] := hl
  obtain ⟨H, hH⟩ : ∃ z, z = s.heap := ⟨_, rfl⟩
  obtain ⟨locs, hlc⟩ : ∃ z : List Loc, z = [] := ⟨_, rfl⟩
  rw [← hH] at hP
  have hS : va_S A s.heap H locs := by rw [hH, hlc]; exact hS
  rw [← hlc, ← hH]
  clear hlc hH
  have kp := hp.2
  refine lv_aload_n hx hb dX7_wouldStamp_0 rfl (lv_at hl 0 rfl) ?_
  refine lv_iload_n hx hb dX7_wouldStamp_1 rfl (lv_at hl 1 rfl) ?_
  refine z_av0 (va_runV (As := [.int (iI 1)]) (rest := []) ⟨hx, hb, hml, hown, hts⟩ (c_X7_demandBelt_ok l D k a0 S0  1 (by omega) (by omega) _) (cwV 1 hts gX7_wouldStamp_X7_demandBelt rfl rfl rfl (by decide +kernel) ⟨(Nat.le_of_ble_eq_true rfl), (Nat.le_of_ble_eq_true rfl)⟩) (z_preV hK hG hA hP hD hS [0] rfl (by decide) 9 rfl rfl) rfl rfl hl.1 rfl (lv_room (Nat.le_of_ble_eq_true rfl)) dX7_wouldStamp_2 ⟨(Nat.le_of_ble_eq_true rfl), (Nat.le_of_ble_eq_true rfl)⟩) hA hP hD hS [0] rfl (fun H locs hP hS => ?_)
  refine lv_aload_n hx hb dX7_wouldStamp_5 rfl (lv_at hl 0 rfl) ?_
  refine z_av0 (va_runV (As := []) (rest := []) ⟨hx, hb, hml, hown, hts⟩ (c_X7_demandInspector_ok l D k a0 S0 S1   hp (by omega) _) (cwV 0 hts gX7_wouldStamp_X7_demandInspector rfl rfl rfl (by decide +kernel) ⟨(Nat.le_of_ble_eq_true rfl), (Nat.le_of_ble_eq_true rfl)⟩) (z_preV hK hG hA hP hD hS (zrg 0 1 ++ zrg 1 15) (z_mcat (z_hd (n := 1) rfl) (z_sk (n := 1) (off := 0) (m := 15) rfl (z_hd (n := 15) rfl))) (by decide +kernel) 9 rfl rfl) rfl rfl hl.1 rfl (lv_room (Nat.le_of_ble_eq_true rfl)) dX7_wouldStamp_6 ⟨(Nat.le_of_ble_eq_true rfl), (Nat.le_of_ble_eq_true rfl)⟩) hA hP hD hS (zrg 0 1 ++ zrg 1 15) (z_mcat (z_hd (n := 1) rfl) (z_sk (n := 1) (off := 0) (m := 15) rfl (z_hd (n := 15) rfl))) (fun H locs hP hS => ?_)
  refine lv_aload_n hx hb dX7_wouldStamp_9 rfl (lv_at hl 0 rfl) ?_
  refine va_get (D := D) (ci := 9) (v := .ref ((subA a0 16) 0)) (C := RX7) (T := TX7) (N := 11) hx hb hts (fun w h => List.mem_cons_of_mem _ (List.mem_append_left _ (List.mem_append_left _ (List.mem_append_left _ (List.mem_append_left _ (List.mem_append_left _ (List.mem_append_left _ (List.mem_append_left _ (List.mem_append_right _ h))))))))) hown hK hP 0 rfl rfl 1 (by decide) (hts (.fieldLink RX7 16 "MondayFactory" "thought" "LMondayFactory$Plant;") (List.mem_of_getElem? (i := 1) rfl)) (fun _ h9 => h9) rfl dX7_wouldStamp_10 ?_
  refine lv_aload_n hx hb dX7_wouldStamp_13 rfl (lv_at hl 0 rfl) ?_
  refine va_get (D := D) (ci := 9) (v := .ref ((subA a0 1) 0)) (C := RX7) (T := TX7) (N := 11) hx hb hts (fun w h => List.mem_cons_of_mem _ (List.mem_append_left _ (List.mem_append_left _ (List.mem_append_left _ (List.mem_append_left _ (List.mem_append_left _ (List.mem_append_left _ (List.mem_append_left _ (List.mem_append_right _ h))))))))) hown hK hP 0 rfl rfl 0 (by decide) (hts (.fieldLink RX7 10 "MondayFactory" "plant" "LMondayFactory$Plant;") (List.mem_of_getElem? (i := 2) rfl)) (fun _ h9 => h9) rfl dX7_wouldStamp_14 ?_
  refine z_av (va_runV (As := [.ref ((subA a0 1) 0)]) (rest := []) ⟨hx, hb, hml, hown, hts⟩ (c_X5_copyW l D k ((subA a0 16)) S2 ((subA a0 1)) S1   (by omega) (by omega) (by omega) (by omega) _) (cwV 1 hts gX7_wouldStamp_X5_copyFrom rfl rfl rfl (by decide +kernel) ⟨(Nat.le_of_ble_eq_true rfl), (Nat.le_of_ble_eq_true rfl)⟩) (z_preV hK hG hA hP hD hS (zrg 16 15 ++ zrg 1 15) (z_mcat (z_sk (n := 1) (off := 15) (m := 15) rfl (z_sk (n := 15) (off := 0) (m := 15) rfl (z_hdl (n := 15) rfl))) (z_sk (n := 1) (off := 0) (m := 15) rfl (z_hd (n := 15) rfl))) (by decide +kernel) 7 rfl rfl) rfl rfl hl.1 rfl (lv_room (Nat.le_of_ble_eq_true rfl)) dX7_wouldStamp_17 ⟨(Nat.le_of_ble_eq_true rfl), (Nat.le_of_ble_eq_true rfl)⟩) hA hP hD hS (zrg 16 15 ++ zrg 1 15) (z_mcat (z_sk (n := 1) (off := 15) (m := 15) rfl (z_sk (n := 15) (off := 0) (m := 15) rfl (z_hdl (n := 15) rfl))) (z_sk (n := 1) (off := 0) (m := 15) rfl (z_hd (n := 15) rfl))) (z_mfst rfl rfl) (fun H locs hP hD hS => ?_)
  have hz_2 : zset (wFac k a0 S0 ++ (wPlant k (subA a0 1) S1 ++ wPlant k (subA a0 16) S2)) (zrg 16 15) (wPlant k (subA a0 16) ((wCopy S2 S1))) = wFac k a0 S0 ++ (wPlant k (subA a0 1) S1 ++ wPlant k (subA a0 16) ((wCopy S2 S1))) := (z_zsk (n := 1) (off := 15) (m := 15) rfl (z_zsk (n := 15) (off := 0) (m := 15) rfl (z_zhl (n := 15) rfl rfl)))
  have hz_3 : zset (wFac k a0 S0 ++ (wPlant k (subA a0 1) S1 ++ wPlant k (subA a0 16) ((wCopy S2 S1)))) (zrg 1 15) (wPlant k (subA a0 1) S1) = wFac k a0 S0 ++ (wPlant k (subA a0 1) S1 ++ wPlant k (subA a0 16) ((wCopy S2 S1))) := (z_zsk (n := 1) (off := 0) (m := 15) rfl (z_zhd (n := 15) rfl rfl))
  have hE_1 : zset (wFac k a0 S0 ++ (wPlant k (subA a0 1) S1 ++ wPlant k (subA a0 16) S2)) (zrg 16 15 ++ zrg 1 15) (wPlant k (subA a0 16) ((wCopy S2 S1)) ++ wPlant k (subA a0 1) S1) = wFac k a0 S0 ++ (wPlant k (subA a0 1) S1 ++ wPlant k (subA a0 16) ((wCopy S2 S1))) := (z_zcat rfl hz_2 hz_3)
  have hP : va_P D vwCl (wFac k a0 S0 ++ (wPlant k (subA a0 1) S1 ++ wPlant k (subA a0 16) ((wCopy S2 S1)))) H := z_to hE_1 hP
  have hD : va_D A (wFac k a0 S0 ++ (wPlant k (subA a0 1) S1 ++ wPlant k (subA a0 16) ((wCopy S2 S1)))) := z_to2 hE_1 hD
  have ob_4 : pOK ((wCopy S2 S1)) := pOK_copy hat hp
  have ob_4k := ob_4.2
  refine lv_aload_n hx hb dX7_wouldStamp_20 rfl (lv_at hl 0 rfl) ?_
  refine va_get (D := D) (ci := 9) (v := .ref ((subA a0 1) 0)) (C := RX7) (T := TX7) (N := 11) hx hb hts (fun w h => List.mem_cons_of_mem _ (List.mem_append_left _ (List.mem_append_left _ (List.mem_append_left _ (List.mem_append_left _ (List.mem_append_left _ (List.mem_append_left _ (List.mem_append_left _ (List.mem_append_right _ h))))))))) hown hK hP 0 rfl rfl 0 (by decide) (hts (.fieldLink RX7 10 "MondayFactory" "plant" "LMondayFactory$Plant;") (List.mem_of_getElem? (i := 2) rfl)) (fun _ h9 => h9) rfl dX7_wouldStamp_21 ?_
  refine va_get (D := D) (ci := 7) (v := .ref ((subA a0 1) 1)) (C := RX5) (T := TX5) (N := 11) hx hb hts (fun w h => List.mem_cons_of_mem _ (List.mem_append_left _ (List.mem_append_left _ (List.mem_append_left _ (List.mem_append_left _ (List.mem_append_left _ (List.mem_append_left _ (List.mem_append_right _ h)))))))) hown hK hP 1 rfl rfl 0 (by decide) (hts (.fieldLink RX7 72 "MondayFactory$Plant" "belts" "[LMondayFactory$Belt;") (List.mem_of_getElem? (i := 3) rfl)) (fun _ h9 => h9) rfl dX7_wouldStamp_24 ?_
  refine lv_iload_n hx hb dX7_wouldStamp_27 rfl (lv_at hl 1 rfl) ?_
  refine z_aald hx hb hK hP 2 2 (f := fun j => some ((subA a0 1) (2 + 3 * j))) (q := (subA a0 1) 5) rfl rfl (i := 1) (by omega) (by omega) (by decide) rfl dX7_wouldStamp_28 ?_
  refine va_get (D := D) (ci := 2) (v := .ref ((subA a0 1) 6)) (C := RX0) (T := TX0) (N := 6) hx hb hts (fun w h => List.mem_cons_of_mem _ (List.mem_append_left _ (List.mem_append_left _ (List.mem_append_left _ (List.mem_append_left _ (List.mem_append_left _ (List.mem_append_right _ h))))))) hown hK hP 6 rfl rfl 0 (by decide) (hts (.fieldLink RX7 76 "MondayFactory$Belt" "row" "LMondayFactory$Row;") (List.mem_of_getElem? (i := 4) rfl)) (fun _ h9 => h9) rfl dX7_wouldStamp_29 ?_
  have f_5 : -1000000000 ≤ S1 6 1 ∧ S1 6 1 ≤ 1000000000 := (pOK_b hp 6 (by decide)) 1
  refine va_get (D := D) (ci := 8) (v := .int (iI (S1 6 1))) (C := RX6) (T := TX6) (N := 2) hx hb hts (fun w h => List.mem_cons_of_mem _ (List.mem_append_left _ (List.mem_append_left _ (List.mem_append_left _ (List.mem_append_left _ (List.mem_append_right _ h)))))) hown hK hP 7 rfl rfl 1 (by decide) (hts (.fieldLink RX7 82 "MondayFactory$Row" "count" "I") (List.mem_of_getElem? (i := 5) rfl)) (fun _ h9 => h9) rfl dX7_wouldStamp_32 ?_
  refine lv_istore_n (lv' := [(2, .int (iI (S1 6 1))), (0, .ref (a0 0)), (1, .int (iI 1))]) hx hb dX7_wouldStamp_35 rfl hl (by decide) rfl (fun ls hl => ?_)
  refine lv_iconst (v := iI 0) hx hb dX7_wouldStamp_36 rfl ?_
  refine lv_istore_n (lv' := [(3, .int (iI 0)), (2, .int (iI (S1 6 1))), (0, .ref (a0 0)), (1, .int (iI 1))]) hx hb dX7_wouldStamp_37 rfl hl (by decide) rfl (fun ls hl => ?_)
  have lp38_0 : ∀ (n : Nat) (x3 : Int) (FP : Nat → Nat → Int), (5 - x3).toNat < n → (0 ≤ x3) → (x3 ≤ S1 6 1) → (aOK FP) → (pK (900000 + x3) FP) → (FP = wInspN1 (((wCopy S2 S1))) x3.toNat) → ∀ (H : Heap) (locs : List Loc) (ls : Array Slot), va_P D vwCl (wFac k a0 S0 ++ (wPlant k (subA a0 1) S1 ++ wPlant k (subA a0 16) FP)) H → va_D A (wFac k a0 S0 ++ (wPlant k (subA a0 1) S1 ++ wPlant k (subA a0 16) FP)) → va_S A s.heap H locs → lv_has ls 4 [(3, .int (iI x3)), (2, .int (iI (S1 6 1))), (0, .ref (a0 0)), (1, .int (iI 1))] → W p l e ({ frames := 4, cells := 0, slots := 0, locals := 104 } : Room) s m args below meth c H locs 0 0 (MQ below (zQi D A (((((wInspN1 (((wCopy S2 S1))) (S1 6 1).toNat)) 5) 5) - (S1 5 5)) (wFac k a0 S0 ++ (wPlant k (subA a0 1) S1 ++ wPlant k (subA a0 16) ((wInspN1 (((wCopy S2 S1))) (S1 6 1).toNat))))) args s 0 0 A) (F0 m 38 ls []) := by
    intro n38
    induction n38 with
    | zero => intro x3 FP hm; exact absurd hm (Nat.not_lt_zero _)
    | succ n38 ih38 =>
      intro x3 FP hm38 i0 i1 iA iK iP  H locs ls hP hD hS hl
      have ik := iK.2
      refine lv_iload_n hx hb dX7_wouldStamp_38 rfl (lv_at hl 0 rfl) ?_
      refine lv_iload_n hx hb dX7_wouldStamp_39 rfl (lv_at hl 1 rfl) ?_
      refine zi_icmp_ge (tgt := 58) hx hb dX7_wouldStamp_40 (by decide) ⟨by omega, by omega⟩ ⟨by omega, by omega⟩ (fun c_6 => ?_) (fun c_6 => ?_)
      · have v_7 : FP = (wInspN1 (((wCopy S2 S1))) (S1 6 1).toNat) := (by rw [iP, show x3 = S1 6 1 by omega])
        rw [v_7] at hP hD
        have oa_8 : aOK ((wInspN1 (((wCopy S2 S1))) (S1 6 1).toNat)) := v_7 ▸ iA
        refine lv_aload_n hx hb dX7_wouldStamp_58 rfl (lv_at hl 2 rfl) ?_
        refine va_get (D := D) (ci := 9) (v := .ref ((subA a0 16) 0)) (C := RX7) (T := TX7) (N := 11) hx hb hts (fun w h => List.mem_cons_of_mem _ (List.mem_append_left _ (List.mem_append_left _ (List.mem_append_left _ (List.mem_append_left _ (List.mem_append_left _ (List.mem_append_left _ (List.mem_append_left _ (List.mem_append_right _ h))))))))) hown hK hP 0 rfl rfl 1 (by decide) (hts (.fieldLink RX7 16 "MondayFactory" "thought" "LMondayFactory$Plant;") (List.mem_of_getElem? (i := 1) rfl)) (fun _ h9 => h9) rfl dX7_wouldStamp_59 ?_
        refine va_get (D := D) (ci := 7) (v := .ref ((subA a0 16) 1)) (C := RX5) (T := TX5) (N := 11) hx hb hts (fun w h => List.mem_cons_of_mem _ (List.mem_append_left _ (List.mem_append_left _ (List.mem_append_left _ (List.mem_append_left _ (List.mem_append_left _ (List.mem_append_left _ (List.mem_append_right _ h)))))))) hown hK hP 16 rfl rfl 0 (by decide) (hts (.fieldLink RX7 72 "MondayFactory$Plant" "belts" "[LMondayFactory$Belt;") (List.mem_of_getElem? (i := 3) rfl)) (fun _ h9 => h9) rfl dX7_wouldStamp_62 ?_
        refine lv_iload_n hx hb dX7_wouldStamp_65 rfl (lv_at hl 3 rfl) ?_
        refine z_aald hx hb hK hP 17 2 (f := fun j => some ((subA a0 16) (2 + 3 * j))) (q := (subA a0 16) 5) rfl rfl (i := 1) (by omega) (by omega) (by decide) rfl dX7_wouldStamp_66 ?_
        refine va_get (D := D) (ci := 2) (v := .int (iI ((((wInspN1 (((wCopy S2 S1))) (S1 6 1).toNat)) 5) 5))) (C := RX0) (T := TX0) (N := 6) hx hb hts (fun w h => List.mem_cons_of_mem _ (List.mem_append_left _ (List.mem_append_left _ (List.mem_append_left _ (List.mem_append_left _ (List.mem_append_left _ (List.mem_append_right _ h))))))) hown hK hP 21 rfl rfl 5 (by decide) (hts (.fieldLink RX7 103 "MondayFactory$Belt" "stamped" "I") (List.mem_of_getElem? (i := 6) rfl)) (fun _ h9 => h9) rfl dX7_wouldStamp_67 ?_
        refine lv_aload_n hx hb dX7_wouldStamp_70 rfl (lv_at hl 2 rfl) ?_
        refine va_get (D := D) (ci := 9) (v := .ref ((subA a0 1) 0)) (C := RX7) (T := TX7) (N := 11) hx hb hts (fun w h => List.mem_cons_of_mem _ (List.mem_append_left _ (List.mem_append_left _ (List.mem_append_left _ (List.mem_append_left _ (List.mem_append_left _ (List.mem_append_left _ (List.mem_append_left _ (List.mem_append_right _ h))))))))) hown hK hP 0 rfl rfl 0 (by decide) (hts (.fieldLink RX7 10 "MondayFactory" "plant" "LMondayFactory$Plant;") (List.mem_of_getElem? (i := 2) rfl)) (fun _ h9 => h9) rfl dX7_wouldStamp_71 ?_
        refine va_get (D := D) (ci := 7) (v := .ref ((subA a0 1) 1)) (C := RX5) (T := TX5) (N := 11) hx hb hts (fun w h => List.mem_cons_of_mem _ (List.mem_append_left _ (List.mem_append_left _ (List.mem_append_left _ (List.mem_append_left _ (List.mem_append_left _ (List.mem_append_left _ (List.mem_append_right _ h)))))))) hown hK hP 1 rfl rfl 0 (by decide) (hts (.fieldLink RX7 72 "MondayFactory$Plant" "belts" "[LMondayFactory$Belt;") (List.mem_of_getElem? (i := 3) rfl)) (fun _ h9 => h9) rfl dX7_wouldStamp_74 ?_
        refine lv_iload_n hx hb dX7_wouldStamp_77 rfl (lv_at hl 3 rfl) ?_
        refine z_aald hx hb hK hP 2 2 (f := fun j => some ((subA a0 1) (2 + 3 * j))) (q := (subA a0 1) 5) rfl rfl (i := 1) (by omega) (by omega) (by decide) rfl dX7_wouldStamp_78 ?_
        have f_9 : -1000000000 ≤ S1 5 5 ∧ S1 5 5 ≤ 1000000000 := (pOK_b hp 5 (by decide)) 5
        refine va_get (D := D) (ci := 2) (v := .int (iI (S1 5 5))) (C := RX0) (T := TX0) (N := 6) hx hb hts (fun w h => List.mem_cons_of_mem _ (List.mem_append_left _ (List.mem_append_left _ (List.mem_append_left _ (List.mem_append_left _ (List.mem_append_left _ (List.mem_append_right _ h))))))) hown hK hP 6 rfl rfl 5 (by decide) (hts (.fieldLink RX7 103 "MondayFactory$Belt" "stamped" "I") (List.mem_of_getElem? (i := 6) rfl)) (fun _ h9 => h9) rfl dX7_wouldStamp_79 ?_
        refine zi_sub hx hb dX7_wouldStamp_82 ?_
        exact z_iret hx hb hr hlocks hP hS dX7_wouldStamp_83 rfl rfl (Nat.le_refl _) (Nat.le_refl _)
      · refine lv_aload_n hx hb dX7_wouldStamp_43 rfl (lv_at hl 2 rfl) ?_
        refine va_get (D := D) (ci := 9) (v := .ref ((subA a0 16) 0)) (C := RX7) (T := TX7) (N := 11) hx hb hts (fun w h => List.mem_cons_of_mem _ (List.mem_append_left _ (List.mem_append_left _ (List.mem_append_left _ (List.mem_append_left _ (List.mem_append_left _ (List.mem_append_left _ (List.mem_append_left _ (List.mem_append_right _ h))))))))) hown hK hP 0 rfl rfl 1 (by decide) (hts (.fieldLink RX7 16 "MondayFactory" "thought" "LMondayFactory$Plant;") (List.mem_of_getElem? (i := 1) rfl)) (fun _ h9 => h9) rfl dX7_wouldStamp_44 ?_
        refine lv_iload_n hx hb dX7_wouldStamp_47 rfl (lv_at hl 3 rfl) ?_
        refine z_ai (va_runV (As := [.int (iI 1)]) (rest := []) ⟨hx, hb, hml, hown, hts⟩ (c_X5_inspW1 l D k ((subA a0 16)) FP   (pK.b iK (by omega) 5 (by decide)) (pK.b iK (by omega) 7 (by decide)) (pK.b iK (by omega) 14 (by decide)) (by omega) (by omega) (by omega) _) (cwV 1 hts gX7_wouldStamp_X5_inspectFront rfl rfl rfl (by decide +kernel) ⟨(Nat.le_of_ble_eq_true rfl), (Nat.le_of_ble_eq_true rfl)⟩) (z_preV hK hG hA hP hD hS (zrg 16 15) (z_sk (n := 1) (off := 15) (m := 15) rfl (z_sk (n := 15) (off := 0) (m := 15) rfl (z_hdl (n := 15) rfl))) (by decide +kernel) 7 rfl rfl) rfl rfl hl.1 rfl (lv_room (Nat.le_of_ble_eq_true rfl)) dX7_wouldStamp_48 ⟨(Nat.le_of_ble_eq_true rfl), (Nat.le_of_ble_eq_true rfl)⟩) hA hP hD hS (zrg 16 15) (z_sk (n := 1) (off := 15) (m := 15) rfl (z_sk (n := 15) (off := 0) (m := 15) rfl (z_hdl (n := 15) rfl))) rfl (fun H locs hP hD hS => ?_)
        have hz_11 : zset (wFac k a0 S0 ++ (wPlant k (subA a0 1) S1 ++ wPlant k (subA a0 16) FP)) (zrg 16 15) (wPlant k (subA a0 16) ((wInsp1 FP))) = wFac k a0 S0 ++ (wPlant k (subA a0 1) S1 ++ wPlant k (subA a0 16) ((wInsp1 FP))) := (z_zsk (n := 1) (off := 15) (m := 15) rfl (z_zsk (n := 15) (off := 0) (m := 15) rfl (z_zhl (n := 15) rfl rfl)))
        have hE_10 : zset (wFac k a0 S0 ++ (wPlant k (subA a0 1) S1 ++ wPlant k (subA a0 16) FP)) (zrg 16 15) (wPlant k (subA a0 16) ((wInsp1 FP))) = wFac k a0 S0 ++ (wPlant k (subA a0 1) S1 ++ wPlant k (subA a0 16) ((wInsp1 FP))) := hz_11
        have hP : va_P D vwCl (wFac k a0 S0 ++ (wPlant k (subA a0 1) S1 ++ wPlant k (subA a0 16) ((wInsp1 FP)))) H := z_to hE_10 hP
        have hD : va_D A (wFac k a0 S0 ++ (wPlant k (subA a0 1) S1 ++ wPlant k (subA a0 16) ((wInsp1 FP)))) := z_to2 hE_10 hD
        refine lv_pop hx hb dX7_wouldStamp_51 rfl ?_
        refine lv_iinc (v := iI (x3 + 1)) (lv' := [(3, .int (iI (x3 + 1))), (2, .int (iI (S1 6 1))), (0, .ref (a0 0)), (1, .int (iI 1))]) hx hb dX7_wouldStamp_52 hl (k := 0) rfl (iI_add _ _) (by decide) rfl (fun ls hl => ?_)
        refine lv_goto (tgt := 38) hx hb dX7_wouldStamp_55 (by decide) ?_
        exact ih38 (x3 + 1) ((wInsp1 FP)) (by omega) (by omega) (by omega) (wInsp1_a iA) (pK.mono (wInsp1_k iK (by omega)) (by omega)) (by rw [iP]; exact wInspN1_s i0)  H locs ls hP hD hS (lv_sub hl [0, 1, 2, 3] rfl)
  exact lp38_0 6 0 ((wCopy S2 S1)) (by omega) (by omega) (by omega) (pOK_a ob_4) (pK.mono ob_4 (by omega)) rfl  H locs ls hP hD hS (lv_sub hl [0, 1, 2, 3] rfl)
set_option maxHeartbeats 4000000 in
set_option maxRecDepth 100000 in
theorem c_X7_wouldStamp_2 (l : Launch) (D : va_G) (k : Nat → ClassId) (a0 : Nat → Nat) (S0 : Nat → Nat → Int) (S1 : Nat → Nat → Int) (S2 : Nat → Nat → Int) (hp : pOK S1) (hat : aOK S2) (hI : 1 ≤ S1 13 1) : zMi l yX7_wouldStamp wsX7_wouldStamp ({ frames := 4, cells := 0, slots := 0, locals := 104 } : Room) D k [.ref (a0 0), .int (iI 2)] (wFac k a0 S0 ++ (wPlant k (subA a0 1) S1 ++ wPlant k (subA a0 16) S2)) (((((wInspN2 (((wCopy S2 S1))) (S1 9 1).toNat)) 8) 5) - (S1 8 5)) (wFac k a0 S0 ++ (wPlant k (subA a0 1) S1 ++ wPlant k (subA a0 16) ((wInspN2 (((wCopy S2 S1))) (S1 9 1).toNat)))) 0 0 := by
  refine zMi_of (cc := cX7_wouldStamp) (maxL := 4) (ret := (some .int)) (by decide) rfl (Nat.le_of_ble_eq_true rfl) ?_
  intro p e s m args below meth c A ls hx hb hr hml hown hts hlocks hK hP hD hG hA hS hl
  have hown : s.vm.findClass RX7 = some m.cls := hown
  have hl : lv_has ls 4 [(0, .ref (a0 0)), (1, .int (iI 2))] := hl
  obtain ⟨H, hH⟩ : ∃ z, z = s.heap := ⟨_, rfl⟩
  obtain ⟨locs, hlc⟩ : ∃ z : List Loc, z = [] := ⟨_, rfl⟩
  rw [← hH] at hP
  have hS : va_S A s.heap H locs := by rw [hH, hlc]; exact hS
  rw [← hlc, ← hH]
  clear hlc hH
  have kp := hp.2
  refine lv_aload_n hx hb dX7_wouldStamp_0 rfl (lv_at hl 0 rfl) ?_
  refine lv_iload_n hx hb dX7_wouldStamp_1 rfl (lv_at hl 1 rfl) ?_
  refine z_av0 (va_runV (As := [.int (iI 2)]) (rest := []) ⟨hx, hb, hml, hown, hts⟩ (c_X7_demandBelt_ok l D k a0 S0  2 (by omega) (by omega) _) (cwV 1 hts gX7_wouldStamp_X7_demandBelt rfl rfl rfl (by decide +kernel) ⟨(Nat.le_of_ble_eq_true rfl), (Nat.le_of_ble_eq_true rfl)⟩) (z_preV hK hG hA hP hD hS [0] rfl (by decide) 9 rfl rfl) rfl rfl hl.1 rfl (lv_room (Nat.le_of_ble_eq_true rfl)) dX7_wouldStamp_2 ⟨(Nat.le_of_ble_eq_true rfl), (Nat.le_of_ble_eq_true rfl)⟩) hA hP hD hS [0] rfl (fun H locs hP hS => ?_)
  refine lv_aload_n hx hb dX7_wouldStamp_5 rfl (lv_at hl 0 rfl) ?_
  refine z_av0 (va_runV (As := []) (rest := []) ⟨hx, hb, hml, hown, hts⟩ (c_X7_demandInspector_ok l D k a0 S0 S1   hp (by omega) _) (cwV 0 hts gX7_wouldStamp_X7_demandInspector rfl rfl rfl (by decide +kernel) ⟨(Nat.le_of_ble_eq_true rfl), (Nat.le_of_ble_eq_true rfl)⟩) (z_preV hK hG hA hP hD hS (zrg 0 1 ++ zrg 1 15) (z_mcat (z_hd (n := 1) rfl) (z_sk (n := 1) (off := 0) (m := 15) rfl (z_hd (n := 15) rfl))) (by decide +kernel) 9 rfl rfl) rfl rfl hl.1 rfl (lv_room (Nat.le_of_ble_eq_true rfl)) dX7_wouldStamp_6 ⟨(Nat.le_of_ble_eq_true rfl), (Nat.le_of_ble_eq_true rfl)⟩) hA hP hD hS (zrg 0 1 ++ zrg 1 15) (z_mcat (z_hd (n := 1) rfl) (z_sk (n := 1) (off := 0) (m := 15) rfl (z_hd (n := 15) rfl))) (fun H locs hP hS => ?_)
  refine lv_aload_n hx hb dX7_wouldStamp_9 rfl (lv_at hl 0 rfl) ?_
  refine va_get (D := D) (ci := 9) (v := .ref ((subA a0 16) 0)) (C := RX7) (T := TX7) (N := 11) hx hb hts (fun w h => List.mem_cons_of_mem _ (List.mem_append_left _ (List.mem_append_left _ (List.mem_append_left _ (List.mem_append_left _ (List.mem_append_left _ (List.mem_append_left _ (List.mem_append_left _ (List.mem_append_right _ h))))))))) hown hK hP 0 rfl rfl 1 (by decide) (hts (.fieldLink RX7 16 "MondayFactory" "thought" "LMondayFactory$Plant;") (List.mem_of_getElem? (i := 1) rfl)) (fun _ h9 => h9) rfl dX7_wouldStamp_10 ?_
  refine lv_aload_n hx hb dX7_wouldStamp_13 rfl (lv_at hl 0 rfl) ?_
  refine va_get (D := D) (ci := 9) (v := .ref ((subA a0 1) 0)) (C := RX7) (T := TX7) (N := 11) hx hb hts (fun w h => List.mem_cons_of_mem _ (List.mem_append_left _ (List.mem_append_left _ (List.mem_append_left _ (List.mem_append_left _ (List.mem_append_left _ (List.mem_append_left _ (List.mem_append_left _ (List.mem_append_right _ h))))))))) hown hK hP 0 rfl rfl 0 (by decide) (hts (.fieldLink RX7 10 "MondayFactory" "plant" "LMondayFactory$Plant;") (List.mem_of_getElem? (i := 2) rfl)) (fun _ h9 => h9) rfl dX7_wouldStamp_14 ?_
  refine z_av (va_runV (As := [.ref ((subA a0 1) 0)]) (rest := []) ⟨hx, hb, hml, hown, hts⟩ (c_X5_copyW l D k ((subA a0 16)) S2 ((subA a0 1)) S1   (by omega) (by omega) (by omega) (by omega) _) (cwV 1 hts gX7_wouldStamp_X5_copyFrom rfl rfl rfl (by decide +kernel) ⟨(Nat.le_of_ble_eq_true rfl), (Nat.le_of_ble_eq_true rfl)⟩) (z_preV hK hG hA hP hD hS (zrg 16 15 ++ zrg 1 15) (z_mcat (z_sk (n := 1) (off := 15) (m := 15) rfl (z_sk (n := 15) (off := 0) (m := 15) rfl (z_hdl (n := 15) rfl))) (z_sk (n := 1) (off := 0) (m := 15) rfl (z_hd (n := 15) rfl))) (by decide +kernel) 7 rfl rfl) rfl rfl hl.1 rfl (lv_room (Nat.le_of_ble_eq_true rfl)) dX7_wouldStamp_17 ⟨(Nat.le_of_ble_eq_true rfl), (Nat.le_of_ble_eq_true rfl)⟩) hA hP hD hS (zrg 16 15 ++ zrg 1 15) (z_mcat (z_sk (n := 1) (off := 15) (m := 15) rfl (z_sk (n := 15) (off := 0) (m := 15) rfl (z_hdl (n := 15) rfl))) (z_sk (n := 1) (off := 0) (m := 15) rfl (z_hd (n := 15) rfl))) (z_mfst rfl rfl) (fun H locs hP hD hS => ?_)
  have hz_2 : zset (wFac k a0 S0 ++ (wPlant k (subA a0 1) S1 ++ wPlant k (subA a0 16) S2)) (zrg 16 15) (wPlant k (subA a0 16) ((wCopy S2 S1))) = wFac k a0 S0 ++ (wPlant k (subA a0 1) S1 ++ wPlant k (subA a0 16) ((wCopy S2 S1))) := (z_zsk (n := 1) (off := 15) (m := 15) rfl (z_zsk (n := 15) (off := 0) (m := 15) rfl (z_zhl (n := 15) rfl rfl)))
  have hz_3 : zset (wFac k a0 S0 ++ (wPlant k (subA a0 1) S1 ++ wPlant k (subA a0 16) ((wCopy S2 S1)))) (zrg 1 15) (wPlant k (subA a0 1) S1) = wFac k a0 S0 ++ (wPlant k (subA a0 1) S1 ++ wPlant k (subA a0 16) ((wCopy S2 S1))) := (z_zsk (n := 1) (off := 0) (m := 15) rfl (z_zhd (n := 15) rfl rfl))
  have hE_1 : zset (wFac k a0 S0 ++ (wPlant k (subA a0 1) S1 ++ wPlant k (subA a0 16) S2)) (zrg 16 15 ++ zrg 1 15) (wPlant k (subA a0 16) ((wCopy S2 S1)) ++ wPlant k (subA a0 1) S1) = wFac k a0 S0 ++ (wPlant k (subA a0 1) S1 ++ wPlant k (subA a0 16) ((wCopy S2 S1))) := (z_zcat rfl hz_2 hz_3)
  have hP : va_P D vwCl (wFac k a0 S0 ++ (wPlant k (subA a0 1) S1 ++ wPlant k (subA a0 16) ((wCopy S2 S1)))) H := z_to hE_1 hP
  have hD : va_D A (wFac k a0 S0 ++ (wPlant k (subA a0 1) S1 ++ wPlant k (subA a0 16) ((wCopy S2 S1)))) := z_to2 hE_1 hD
  have ob_4 : pOK ((wCopy S2 S1)) := pOK_copy hat hp
  have ob_4k := ob_4.2
  refine lv_aload_n hx hb dX7_wouldStamp_20 rfl (lv_at hl 0 rfl) ?_
  refine va_get (D := D) (ci := 9) (v := .ref ((subA a0 1) 0)) (C := RX7) (T := TX7) (N := 11) hx hb hts (fun w h => List.mem_cons_of_mem _ (List.mem_append_left _ (List.mem_append_left _ (List.mem_append_left _ (List.mem_append_left _ (List.mem_append_left _ (List.mem_append_left _ (List.mem_append_left _ (List.mem_append_right _ h))))))))) hown hK hP 0 rfl rfl 0 (by decide) (hts (.fieldLink RX7 10 "MondayFactory" "plant" "LMondayFactory$Plant;") (List.mem_of_getElem? (i := 2) rfl)) (fun _ h9 => h9) rfl dX7_wouldStamp_21 ?_
  refine va_get (D := D) (ci := 7) (v := .ref ((subA a0 1) 1)) (C := RX5) (T := TX5) (N := 11) hx hb hts (fun w h => List.mem_cons_of_mem _ (List.mem_append_left _ (List.mem_append_left _ (List.mem_append_left _ (List.mem_append_left _ (List.mem_append_left _ (List.mem_append_left _ (List.mem_append_right _ h)))))))) hown hK hP 1 rfl rfl 0 (by decide) (hts (.fieldLink RX7 72 "MondayFactory$Plant" "belts" "[LMondayFactory$Belt;") (List.mem_of_getElem? (i := 3) rfl)) (fun _ h9 => h9) rfl dX7_wouldStamp_24 ?_
  refine lv_iload_n hx hb dX7_wouldStamp_27 rfl (lv_at hl 1 rfl) ?_
  refine z_aald hx hb hK hP 2 2 (f := fun j => some ((subA a0 1) (2 + 3 * j))) (q := (subA a0 1) 8) rfl rfl (i := 2) (by omega) (by omega) (by decide) rfl dX7_wouldStamp_28 ?_
  refine va_get (D := D) (ci := 2) (v := .ref ((subA a0 1) 9)) (C := RX0) (T := TX0) (N := 6) hx hb hts (fun w h => List.mem_cons_of_mem _ (List.mem_append_left _ (List.mem_append_left _ (List.mem_append_left _ (List.mem_append_left _ (List.mem_append_left _ (List.mem_append_right _ h))))))) hown hK hP 9 rfl rfl 0 (by decide) (hts (.fieldLink RX7 76 "MondayFactory$Belt" "row" "LMondayFactory$Row;") (List.mem_of_getElem? (i := 4) rfl)) (fun _ h9 => h9) rfl dX7_wouldStamp_29 ?_
  have f_5 : -1000000000 ≤ S1 9 1 ∧ S1 9 1 ≤ 1000000000 := (pOK_b hp 9 (by decide)) 1
  refine va_get (D := D) (ci := 8) (v := .int (iI (S1 9 1))) (C := RX6) (T := TX6) (N := 2) hx hb hts (fun w h => List.mem_cons_of_mem _ (List.mem_append_left _ (List.mem_append_left _ (List.mem_append_left _ (List.mem_append_left _ (List.mem_append_right _ h)))))) hown hK hP 10 rfl rfl 1 (by decide) (hts (.fieldLink RX7 82 "MondayFactory$Row" "count" "I") (List.mem_of_getElem? (i := 5) rfl)) (fun _ h9 => h9) rfl dX7_wouldStamp_32 ?_
  refine lv_istore_n (lv' := [(2, .int (iI (S1 9 1))), (0, .ref (a0 0)), (1, .int (iI 2))]) hx hb dX7_wouldStamp_35 rfl hl (by decide) rfl (fun ls hl => ?_)
  refine lv_iconst (v := iI 0) hx hb dX7_wouldStamp_36 rfl ?_
  refine lv_istore_n (lv' := [(3, .int (iI 0)), (2, .int (iI (S1 9 1))), (0, .ref (a0 0)), (1, .int (iI 2))]) hx hb dX7_wouldStamp_37 rfl hl (by decide) rfl (fun ls hl => ?_)
  have lp38_0 : ∀ (n : Nat) (x3 : Int) (FP : Nat → Nat → Int), (5 - x3).toNat < n → (0 ≤ x3) → (x3 ≤ S1 9 1) → (aOK FP) → (pK (900000 + x3) FP) → (FP = wInspN2 (((wCopy S2 S1))) x3.toNat) → ∀ (H : Heap) (locs : List Loc) (ls : Array Slot), va_P D vwCl (wFac k a0 S0 ++ (wPlant k (subA a0 1) S1 ++ wPlant k (subA a0 16) FP)) H → va_D A (wFac k a0 S0 ++ (wPlant k (subA a0 1) S1 ++ wPlant k (subA a0 16) FP)) → va_S A s.heap H locs → lv_has ls 4 [(3, .int (iI x3)), (2, .int (iI (S1 9 1))), (0, .ref (a0 0)), (1, .int (iI 2))] → W p l e ({ frames := 4, cells := 0, slots := 0, locals := 104 } : Room) s m args below meth c H locs 0 0 (MQ below (zQi D A (((((wInspN2 (((wCopy S2 S1))) (S1 9 1).toNat)) 8) 5) - (S1 8 5)) (wFac k a0 S0 ++ (wPlant k (subA a0 1) S1 ++ wPlant k (subA a0 16) ((wInspN2 (((wCopy S2 S1))) (S1 9 1).toNat))))) args s 0 0 A) (F0 m 38 ls []) := by
    intro n38
    induction n38 with
    | zero => intro x3 FP hm; exact absurd hm (Nat.not_lt_zero _)
    | succ n38 ih38 =>
      intro x3 FP hm38 i0 i1 iA iK iP  H locs ls hP hD hS hl
      have ik := iK.2
      refine lv_iload_n hx hb dX7_wouldStamp_38 rfl (lv_at hl 0 rfl) ?_
      refine lv_iload_n hx hb dX7_wouldStamp_39 rfl (lv_at hl 1 rfl) ?_
      refine zi_icmp_ge (tgt := 58) hx hb dX7_wouldStamp_40 (by decide) ⟨by omega, by omega⟩ ⟨by omega, by omega⟩ (fun c_6 => ?_) (fun c_6 => ?_)
      · have v_7 : FP = (wInspN2 (((wCopy S2 S1))) (S1 9 1).toNat) := (by rw [iP, show x3 = S1 9 1 by omega])
        rw [v_7] at hP hD
        have oa_8 : aOK ((wInspN2 (((wCopy S2 S1))) (S1 9 1).toNat)) := v_7 ▸ iA
        refine lv_aload_n hx hb dX7_wouldStamp_58 rfl (lv_at hl 2 rfl) ?_
        refine va_get (D := D) (ci := 9) (v := .ref ((subA a0 16) 0)) (C := RX7) (T := TX7) (N := 11) hx hb hts (fun w h => List.mem_cons_of_mem _ (List.mem_append_left _ (List.mem_append_left _ (List.mem_append_left _ (List.mem_append_left _ (List.mem_append_left _ (List.mem_append_left _ (List.mem_append_left _ (List.mem_append_right _ h))))))))) hown hK hP 0 rfl rfl 1 (by decide) (hts (.fieldLink RX7 16 "MondayFactory" "thought" "LMondayFactory$Plant;") (List.mem_of_getElem? (i := 1) rfl)) (fun _ h9 => h9) rfl dX7_wouldStamp_59 ?_
        refine va_get (D := D) (ci := 7) (v := .ref ((subA a0 16) 1)) (C := RX5) (T := TX5) (N := 11) hx hb hts (fun w h => List.mem_cons_of_mem _ (List.mem_append_left _ (List.mem_append_left _ (List.mem_append_left _ (List.mem_append_left _ (List.mem_append_left _ (List.mem_append_left _ (List.mem_append_right _ h)))))))) hown hK hP 16 rfl rfl 0 (by decide) (hts (.fieldLink RX7 72 "MondayFactory$Plant" "belts" "[LMondayFactory$Belt;") (List.mem_of_getElem? (i := 3) rfl)) (fun _ h9 => h9) rfl dX7_wouldStamp_62 ?_
        refine lv_iload_n hx hb dX7_wouldStamp_65 rfl (lv_at hl 3 rfl) ?_
        refine z_aald hx hb hK hP 17 2 (f := fun j => some ((subA a0 16) (2 + 3 * j))) (q := (subA a0 16) 8) rfl rfl (i := 2) (by omega) (by omega) (by decide) rfl dX7_wouldStamp_66 ?_
        refine va_get (D := D) (ci := 2) (v := .int (iI ((((wInspN2 (((wCopy S2 S1))) (S1 9 1).toNat)) 8) 5))) (C := RX0) (T := TX0) (N := 6) hx hb hts (fun w h => List.mem_cons_of_mem _ (List.mem_append_left _ (List.mem_append_left _ (List.mem_append_left _ (List.mem_append_left _ (List.mem_append_left _ (List.mem_append_right _ h))))))) hown hK hP 24 rfl rfl 5 (by decide) (hts (.fieldLink RX7 103 "MondayFactory$Belt" "stamped" "I") (List.mem_of_getElem? (i := 6) rfl)) (fun _ h9 => h9) rfl dX7_wouldStamp_67 ?_
        refine lv_aload_n hx hb dX7_wouldStamp_70 rfl (lv_at hl 2 rfl) ?_
        refine va_get (D := D) (ci := 9) (v := .ref ((subA a0 1) 0)) (C := RX7) (T := TX7) (N := 11) hx hb hts (fun w h => List.mem_cons_of_mem _ (List.mem_append_left _ (List.mem_append_left _ (List.mem_append_left _ (List.mem_append_left _ (List.mem_append_left _ (List.mem_append_left _ (List.mem_append_left _ (List.mem_append_right _ h))))))))) hown hK hP 0 rfl rfl 0 (by decide) (hts (.fieldLink RX7 10 "MondayFactory" "plant" "LMondayFactory$Plant;") (List.mem_of_getElem? (i := 2) rfl)) (fun _ h9 => h9) rfl dX7_wouldStamp_71 ?_
        refine va_get (D := D) (ci := 7) (v := .ref ((subA a0 1) 1)) (C := RX5) (T := TX5) (N := 11) hx hb hts (fun w h => List.mem_cons_of_mem _ (List.mem_append_left _ (List.mem_append_left _ (List.mem_append_left _ (List.mem_append_left _ (List.mem_append_left _ (List.mem_append_left _ (List.mem_append_right _ h)))))))) hown hK hP 1 rfl rfl 0 (by decide) (hts (.fieldLink RX7 72 "MondayFactory$Plant" "belts" "[LMondayFactory$Belt;") (List.mem_of_getElem? (i := 3) rfl)) (fun _ h9 => h9) rfl dX7_wouldStamp_74 ?_
        refine lv_iload_n hx hb dX7_wouldStamp_77 rfl (lv_at hl 3 rfl) ?_
        refine z_aald hx hb hK hP 2 2 (f := fun j => some ((subA a0 1) (2 + 3 * j))) (q := (subA a0 1) 8) rfl rfl (i := 2) (by omega) (by omega) (by decide) rfl dX7_wouldStamp_78 ?_
        have f_9 : -1000000000 ≤ S1 8 5 ∧ S1 8 5 ≤ 1000000000 := (pOK_b hp 8 (by decide)) 5
        refine va_get (D := D) (ci := 2) (v := .int (iI (S1 8 5))) (C := RX0) (T := TX0) (N := 6) hx hb hts (fun w h => List.mem_cons_of_mem _ (List.mem_append_left _ (List.mem_append_left _ (List.mem_append_left _ (List.mem_append_left _ (List.mem_append_left _ (List.mem_append_right _ h))))))) hown hK hP 9 rfl rfl 5 (by decide) (hts (.fieldLink RX7 103 "MondayFactory$Belt" "stamped" "I") (List.mem_of_getElem? (i := 6) rfl)) (fun _ h9 => h9) rfl dX7_wouldStamp_79 ?_
        refine zi_sub hx hb dX7_wouldStamp_82 ?_
        exact z_iret hx hb hr hlocks hP hS dX7_wouldStamp_83 rfl rfl (Nat.le_refl _) (Nat.le_refl _)
      · refine lv_aload_n hx hb dX7_wouldStamp_43 rfl (lv_at hl 2 rfl) ?_
        refine va_get (D := D) (ci := 9) (v := .ref ((subA a0 16) 0)) (C := RX7) (T := TX7) (N := 11) hx hb hts (fun w h => List.mem_cons_of_mem _ (List.mem_append_left _ (List.mem_append_left _ (List.mem_append_left _ (List.mem_append_left _ (List.mem_append_left _ (List.mem_append_left _ (List.mem_append_left _ (List.mem_append_right _ h))))))))) hown hK hP 0 rfl rfl 1 (by decide) (hts (.fieldLink RX7 16 "MondayFactory" "thought" "LMondayFactory$Plant;") (List.mem_of_getElem? (i := 1) rfl)) (fun _ h9 => h9) rfl dX7_wouldStamp_44 ?_
        refine lv_iload_n hx hb dX7_wouldStamp_47 rfl (lv_at hl 3 rfl) ?_
        refine z_ai (va_runV (As := [.int (iI 2)]) (rest := []) ⟨hx, hb, hml, hown, hts⟩ (c_X5_inspW2 l D k ((subA a0 16)) FP   (pK.b iK (by omega) 8 (by decide)) (pK.b iK (by omega) 10 (by decide)) (pK.b iK (by omega) 14 (by decide)) (by omega) (by omega) (by omega) _) (cwV 1 hts gX7_wouldStamp_X5_inspectFront rfl rfl rfl (by decide +kernel) ⟨(Nat.le_of_ble_eq_true rfl), (Nat.le_of_ble_eq_true rfl)⟩) (z_preV hK hG hA hP hD hS (zrg 16 15) (z_sk (n := 1) (off := 15) (m := 15) rfl (z_sk (n := 15) (off := 0) (m := 15) rfl (z_hdl (n := 15) rfl))) (by decide +kernel) 7 rfl rfl) rfl rfl hl.1 rfl (lv_room (Nat.le_of_ble_eq_true rfl)) dX7_wouldStamp_48 ⟨(Nat.le_of_ble_eq_true rfl), (Nat.le_of_ble_eq_true rfl)⟩) hA hP hD hS (zrg 16 15) (z_sk (n := 1) (off := 15) (m := 15) rfl (z_sk (n := 15) (off := 0) (m := 15) rfl (z_hdl (n := 15) rfl))) rfl (fun H locs hP hD hS => ?_)
        have hz_11 : zset (wFac k a0 S0 ++ (wPlant k (subA a0 1) S1 ++ wPlant k (subA a0 16) FP)) (zrg 16 15) (wPlant k (subA a0 16) ((wInsp2 FP))) = wFac k a0 S0 ++ (wPlant k (subA a0 1) S1 ++ wPlant k (subA a0 16) ((wInsp2 FP))) := (z_zsk (n := 1) (off := 15) (m := 15) rfl (z_zsk (n := 15) (off := 0) (m := 15) rfl (z_zhl (n := 15) rfl rfl)))
        have hE_10 : zset (wFac k a0 S0 ++ (wPlant k (subA a0 1) S1 ++ wPlant k (subA a0 16) FP)) (zrg 16 15) (wPlant k (subA a0 16) ((wInsp2 FP))) = wFac k a0 S0 ++ (wPlant k (subA a0 1) S1 ++ wPlant k (subA a0 16) ((wInsp2 FP))) := hz_11
        have hP : va_P D vwCl (wFac k a0 S0 ++ (wPlant k (subA a0 1) S1 ++ wPlant k (subA a0 16) ((wInsp2 FP)))) H := z_to hE_10 hP
        have hD : va_D A (wFac k a0 S0 ++ (wPlant k (subA a0 1) S1 ++ wPlant k (subA a0 16) ((wInsp2 FP)))) := z_to2 hE_10 hD
        refine lv_pop hx hb dX7_wouldStamp_51 rfl ?_
        refine lv_iinc (v := iI (x3 + 1)) (lv' := [(3, .int (iI (x3 + 1))), (2, .int (iI (S1 9 1))), (0, .ref (a0 0)), (1, .int (iI 2))]) hx hb dX7_wouldStamp_52 hl (k := 0) rfl (iI_add _ _) (by decide) rfl (fun ls hl => ?_)
        refine lv_goto (tgt := 38) hx hb dX7_wouldStamp_55 (by decide) ?_
        exact ih38 (x3 + 1) ((wInsp2 FP)) (by omega) (by omega) (by omega) (wInsp2_a iA) (pK.mono (wInsp2_k iK (by omega)) (by omega)) (by rw [iP]; exact wInspN2_s i0)  H locs ls hP hD hS (lv_sub hl [0, 1, 2, 3] rfl)
  exact lp38_0 6 0 ((wCopy S2 S1)) (by omega) (by omega) (by omega) (pOK_a ob_4) (pK.mono ob_4 (by omega)) rfl  H locs ls hP hD hS (lv_sub hl [0, 1, 2, 3] rfl)
set_option maxHeartbeats 4000000 in
set_option maxRecDepth 100000 in
theorem c_X7_wouldStamp_b (l : Launch) (hst : l.stackTraces = false) (D : va_G) (k : Nat → ClassId) (a0 : Nat → Nat) (S0 : Nat → Nat → Int) (S1 : Nat → Nat → Int) (p0 : Int) (hp : pOK S1) (h0 : -2147483648 ≤ p0 ∧ p0 < 2147483648) (hc : ¬ (0 ≤ p0 ∧ p0 < 3)) : zMx l yX7_wouldStamp wsX7_wouldStamp ({ frames := 7, cells := 1, slots := 6, locals := 103 } : Room) D k [.ref (a0 0), .int (iI p0)] (wFac k a0 S0 ++ wPlant k (subA a0 1) S1) "java/lang/IndexOutOfBoundsException" (wFac k a0 S0 ++ wPlant k (subA a0 1) S1) 1 6 := by
  refine zMx_of (cc := cX7_wouldStamp) (maxL := 4) (ret := (some .int)) (by decide) rfl (Nat.le_of_ble_eq_true rfl) ?_
  intro p e s m args below meth c A ls hx hb hr hml hown hts hlocks hK hP hD hG hE ht hA hS hl
  have hown : s.vm.findClass RX7 = some m.cls := hown
  have hl : lv_has ls 4 [(0, .ref (a0 0)), (1, .int (iI p0))] := hl
  obtain ⟨H, hH⟩ : ∃ z, z = s.heap := ⟨_, rfl⟩
  obtain ⟨locs, hlc⟩ : ∃ z : List Loc, z = [] := ⟨_, rfl⟩
  rw [← hH] at hP
  have hS : va_S A s.heap H locs := by rw [hH, hlc]; exact hS
  rw [← hlc, ← hH]
  clear hlc hH
  have kp := hp.2
  refine lv_aload_n hx hb dX7_wouldStamp_0 rfl (lv_at hl 0 rfl) ?_
  refine lv_iload_n hx hb dX7_wouldStamp_1 rfl (lv_at hl 1 rfl) ?_
  exact z_axo (vx_runV (As := [.int (iI p0)]) (rest := []) ⟨hx, hb, hml, hown, hts⟩ (c_X7_demandBelt_x l hst D k a0 S0  p0 (by omega) (by omega) _) (cwV 1 hts gX7_wouldStamp_X7_demandBelt rfl rfl rfl (by decide +kernel) ⟨(Nat.le_of_ble_eq_true rfl), (Nat.le_of_ble_eq_true rfl)⟩) (z_preVx hK hG hE hA hP hD hS [0] rfl (by decide) 9 rfl rfl) rfl rfl hl.1 rfl (lv_room (Nat.le_of_ble_eq_true rfl)) dX7_wouldStamp_2 ⟨(Nat.le_of_ble_eq_true rfl), (Nat.le_of_ble_eq_true rfl)⟩) hA hP hD hS [0] rfl rfl ht hlocks rfl (Nat.le_of_ble_eq_true rfl) (Nat.le_of_ble_eq_true rfl)
set_option maxHeartbeats 4000000 in
set_option maxRecDepth 100000 in
theorem c_X7_wouldStamp_i (l : Launch) (hst : l.stackTraces = false) (D : va_G) (k : Nat → ClassId) (a0 : Nat → Nat) (S0 : Nat → Nat → Int) (S1 : Nat → Nat → Int) (p0 : Int) (hp : pOK S1) (h0 : -2147483648 ≤ p0 ∧ p0 < 2147483648) (hc : 0 ≤ p0 ∧ p0 < 3) (hI : S1 13 1 = 0) : zMx l yX7_wouldStamp wsX7_wouldStamp ({ frames := 7, cells := 1, slots := 6, locals := 102 } : Room) D k [.ref (a0 0), .int (iI p0)] (wFac k a0 S0 ++ wPlant k (subA a0 1) S1) "java/util/NoSuchElementException" (wFac k a0 S0 ++ wPlant k (subA a0 1) S1) 1 6 := by
  refine zMx_of (cc := cX7_wouldStamp) (maxL := 4) (ret := (some .int)) (by decide) rfl (Nat.le_of_ble_eq_true rfl) ?_
  intro p e s m args below meth c A ls hx hb hr hml hown hts hlocks hK hP hD hG hE ht hA hS hl
  have hown : s.vm.findClass RX7 = some m.cls := hown
  have hl : lv_has ls 4 [(0, .ref (a0 0)), (1, .int (iI p0))] := hl
  obtain ⟨H, hH⟩ : ∃ z, z = s.heap := ⟨_, rfl⟩
  obtain ⟨locs, hlc⟩ : ∃ z : List Loc, z = [] := ⟨_, rfl⟩
  rw [← hH] at hP
  have hS : va_S A s.heap H locs := by rw [hH, hlc]; exact hS
  rw [← hlc, ← hH]
  clear hlc hH
  have kp := hp.2
  refine lv_aload_n hx hb dX7_wouldStamp_0 rfl (lv_at hl 0 rfl) ?_
  refine lv_iload_n hx hb dX7_wouldStamp_1 rfl (lv_at hl 1 rfl) ?_
  refine z_av0 (va_runV (As := [.int (iI p0)]) (rest := []) ⟨hx, hb, hml, hown, hts⟩ (c_X7_demandBelt_ok l D k a0 S0  p0 (by omega) (by omega) _) (cwV 1 hts gX7_wouldStamp_X7_demandBelt rfl rfl rfl (by decide +kernel) ⟨(Nat.le_of_ble_eq_true rfl), (Nat.le_of_ble_eq_true rfl)⟩) (z_preV hK hG hA hP hD hS [0] rfl (by decide) 9 rfl rfl) rfl rfl hl.1 rfl (lv_room (Nat.le_of_ble_eq_true rfl)) dX7_wouldStamp_2 ⟨(Nat.le_of_ble_eq_true rfl), (Nat.le_of_ble_eq_true rfl)⟩) hA hP hD hS [0] rfl (fun H locs hP hS => ?_)
  refine lv_aload_n hx hb dX7_wouldStamp_5 rfl (lv_at hl 0 rfl) ?_
  exact z_axo (vx_runV (As := []) (rest := []) ⟨hx, hb, hml, hown, hts⟩ (c_X7_demandInspector_x l hst D k a0 S0 S1   hp (by omega) _) (cwV 0 hts gX7_wouldStamp_X7_demandInspector rfl rfl rfl (by decide +kernel) ⟨(Nat.le_of_ble_eq_true rfl), (Nat.le_of_ble_eq_true rfl)⟩) (z_preVx hK hG hE hA hP hD hS (zrg 0 1 ++ zrg 1 15) (z_mcat (z_hd (n := 1) rfl) (z_sk (n := 1) (off := 0) (m := 15) rfl (z_hdl (n := 15) rfl))) (by decide +kernel) 9 rfl rfl) rfl rfl hl.1 rfl (lv_room (Nat.le_of_ble_eq_true rfl)) dX7_wouldStamp_6 ⟨(Nat.le_of_ble_eq_true rfl), (Nat.le_of_ble_eq_true rfl)⟩) hA hP hD hS (zrg 0 1 ++ zrg 1 15) (z_mcat (z_hd (n := 1) rfl) (z_sk (n := 1) (off := 0) (m := 15) rfl (z_hdl (n := 15) rfl))) (z_mfst rfl rfl) ht hlocks (Eq.trans rfl (Eq.symm (zset_same (z_mcat (z_hd (n := 1) rfl) (z_sk (n := 1) (off := 0) (m := 15) rfl (z_hdl (n := 15) rfl)))))) (Nat.le_of_ble_eq_true rfl) (Nat.le_of_ble_eq_true rfl)
set_option maxHeartbeats 4000000 in
set_option maxRecDepth 100000 in
theorem c_X7_pricesByPlaces (l : Launch) (D : va_G) (k : Nat → ClassId) (a0 : Nat → Nat) (S0 : Nat → Nat → Int) (S1 : Nat → Nat → Int) (hp : pOK S1) : zMi l yX7_pricesByPlaces wsX7_pricesByPlaces ({ frames := 2, cells := 0, slots := 0, locals := 45 } : Room) D k [.ref (a0 0)] (wFac k a0 S0 ++ wPlant k (subA a0 1) S1) (wByPlaces (S1 12) (S1 11 1) (S1 0 9)) (wFac k a0 S0 ++ wPlant k (subA a0 1) S1) 0 0 := by
  refine zMi_of (cc := cX7_pricesByPlaces) (maxL := 3) (ret := (some .int)) (by decide) rfl (Nat.le_of_ble_eq_true rfl) ?_
  intro p e s m args below meth c A ls hx hb hr hml hown hts hlocks hK hP hD hG hA hS hl
  have hown : s.vm.findClass RX7 = some m.cls := hown
  have hl : lv_has ls 3 [(0, .ref (a0 0))] := hl
  obtain ⟨H, hH⟩ : ∃ z, z = s.heap := ⟨_, rfl⟩
  obtain ⟨locs, hlc⟩ : ∃ z : List Loc, z = [] := ⟨_, rfl⟩
  rw [← hH] at hP
  have hS : va_S A s.heap H locs := by rw [hH, hlc]; exact hS
  rw [← hlc, ← hH]
  clear hlc hH
  have kp := hp.2
  have h97 := (hp.1 0 (by decide)) 9
  refine lv_iconst (v := iI 0) hx hb dX7_pricesByPlaces_0 rfl ?_
  refine lv_istore_n (lv' := [(1, .int (iI 0)), (0, .ref (a0 0))]) hx hb dX7_pricesByPlaces_1 rfl hl (by decide) rfl (fun ls hl => ?_)
  refine lv_iconst (v := iI 0) hx hb dX7_pricesByPlaces_2 rfl ?_
  refine lv_istore_n (lv' := [(2, .int (iI 0)), (1, .int (iI 0)), (0, .ref (a0 0))]) hx hb dX7_pricesByPlaces_3 rfl hl (by decide) rfl (fun ls hl => ?_)
  have lp4_0 : ∀ (n : Nat) (x1 : Int) (x2 : Int), (8 - x2).toNat < n → (0 ≤ x2) → (x2 ≤ S1 11 1) → (x1 = sumI (fun k => max 1 (wPrice (S1 12) (S1 11 1) k - S1 0 9 - k)) x2) → ∀ (H : Heap) (locs : List Loc) (ls : Array Slot), va_P D vwCl (wFac k a0 S0 ++ wPlant k (subA a0 1) S1) H → va_D A (wFac k a0 S0 ++ wPlant k (subA a0 1) S1) → va_S A s.heap H locs → lv_has ls 3 [(2, .int (iI x2)), (1, .int (iI x1)), (0, .ref (a0 0))] → W p l e ({ frames := 2, cells := 0, slots := 0, locals := 45 } : Room) s m args below meth c H locs 0 0 (MQ below (zQi D A (wByPlaces (S1 12) (S1 11 1) (S1 0 9)) (wFac k a0 S0 ++ wPlant k (subA a0 1) S1)) args s 0 0 A) (F0 m 4 ls []) := by
    intro n4
    induction n4 with
    | zero => intro x1 x2 hm; exact absurd hm (Nat.not_lt_zero _)
    | succ n4 ih4 =>
      intro x1 x2 hm4 i0 i1 iF  H locs ls hP hD hS hl
      refine lv_iload_n hx hb dX7_pricesByPlaces_4 rfl (lv_at hl 0 rfl) ?_
      refine lv_aload_n hx hb dX7_pricesByPlaces_5 rfl (lv_at hl 2 rfl) ?_
      refine va_get (D := D) (ci := 9) (v := .ref ((subA a0 1) 0)) (C := RX7) (T := TX7) (N := 11) hx hb hts (fun w h => List.mem_cons_of_mem _ (List.mem_append_left _ (List.mem_append_left _ (List.mem_append_left _ (List.mem_append_right _ h))))) hown hK hP 0 rfl rfl 0 (by decide) (hts (.fieldLink RX7 10 "MondayFactory" "plant" "LMondayFactory$Plant;") (List.mem_of_getElem? (i := 1) rfl)) (fun _ h9 => h9) rfl dX7_pricesByPlaces_6 ?_
      refine va_get (D := D) (ci := 7) (v := .ref ((subA a0 1) 11)) (C := RX5) (T := TX5) (N := 11) hx hb hts (fun w h => List.mem_cons_of_mem _ (List.mem_append_left _ (List.mem_append_left _ (List.mem_append_right _ h)))) hown hK hP 1 rfl rfl 1 (by decide) (hts (.fieldLink RX7 179 "MondayFactory$Plant" "shelf" "LMondayFactory$Row;") (List.mem_of_getElem? (i := 2) rfl)) (fun _ h9 => h9) rfl dX7_pricesByPlaces_9 ?_
      have f_1 : -1000000000 ≤ S1 11 1 ∧ S1 11 1 ≤ 1000000000 := (pOK_b hp 11 (by decide)) 1
      refine va_get (D := D) (ci := 8) (v := .int (iI (S1 11 1))) (C := RX6) (T := TX6) (N := 2) hx hb hts (fun w h => List.mem_cons_of_mem _ (List.mem_append_left _ (List.mem_append_right _ h))) hown hK hP 12 rfl rfl 1 (by decide) (hts (.fieldLink RX7 82 "MondayFactory$Row" "count" "I") (List.mem_of_getElem? (i := 3) rfl)) (fun _ h9 => h9) rfl dX7_pricesByPlaces_12 ?_
      refine zi_icmp_ge (tgt := 49) hx hb dX7_pricesByPlaces_15 (by decide) ⟨by omega, by omega⟩ ⟨by omega, by omega⟩ (fun c_2 => ?_) (fun c_2 => ?_)
      · have v_3 : x1 = wByPlaces (S1 12) (S1 11 1) (S1 0 9) := (by rw [iF, show x2 = S1 11 1 by omega]; rfl)
        rw [v_3] at hl
        refine lv_iload_n hx hb dX7_pricesByPlaces_49 rfl (lv_at hl 1 rfl) ?_
        exact z_iret hx hb hr hlocks hP hS dX7_pricesByPlaces_50 rfl rfl (Nat.le_refl _) (Nat.le_refl _)
      · refine lv_iload_n hx hb dX7_pricesByPlaces_18 rfl (lv_at hl 1 rfl) ?_
        refine lv_iconst (v := iI 1) hx hb dX7_pricesByPlaces_19 rfl ?_
        refine lv_aload_n hx hb dX7_pricesByPlaces_20 rfl (lv_at hl 2 rfl) ?_
        refine va_get (D := D) (ci := 9) (v := .ref ((subA a0 1) 0)) (C := RX7) (T := TX7) (N := 11) hx hb hts (fun w h => List.mem_cons_of_mem _ (List.mem_append_left _ (List.mem_append_left _ (List.mem_append_left _ (List.mem_append_right _ h))))) hown hK hP 0 rfl rfl 0 (by decide) (hts (.fieldLink RX7 10 "MondayFactory" "plant" "LMondayFactory$Plant;") (List.mem_of_getElem? (i := 1) rfl)) (fun _ h9 => h9) rfl dX7_pricesByPlaces_21 ?_
        refine lv_iload_n hx hb dX7_pricesByPlaces_24 rfl (lv_at hl 0 rfl) ?_
        refine z_ai0 (va_runV (As := [.int (iI x2)]) (rest := [.int (iI 1), .int (iI x1)]) ⟨hx, hb, hml, hown, hts⟩ (c_X5_priceInNewWeek l D k ((subA a0 1)) S1  x2 (pOK_b hp 12 (by decide)) (by omega) (by omega) _) (cwV 1 hts gX7_pricesByPlaces_X5_priceInNewWeek rfl rfl rfl (by decide +kernel) ⟨(Nat.le_of_ble_eq_true rfl), (Nat.le_of_ble_eq_true rfl)⟩) (z_preV hK hG hA hP hD hS (zrg 1 15) (z_sk (n := 1) (off := 0) (m := 15) rfl (z_hdl (n := 15) rfl)) (by decide +kernel) 7 rfl rfl) rfl rfl hl.1 rfl (lv_room (Nat.le_of_ble_eq_true rfl)) dX7_pricesByPlaces_25 ⟨(Nat.le_of_ble_eq_true rfl), (Nat.le_of_ble_eq_true rfl)⟩) hA hP hD hS (zrg 1 15) (z_sk (n := 1) (off := 0) (m := 15) rfl (z_hdl (n := 15) rfl)) (fun H locs hP hS => ?_)
        have q_4 : -1000000100 ≤ wPrice (S1 12) (S1 11 1) x2 ∧ wPrice (S1 12) (S1 11 1) x2 ≤ 1000000100 := wPrice_bd (pOK_b hp 12 (by decide))
        refine lv_aload_n hx hb dX7_pricesByPlaces_28 rfl (lv_at hl 2 rfl) ?_
        refine va_get (D := D) (ci := 9) (v := .ref ((subA a0 1) 0)) (C := RX7) (T := TX7) (N := 11) hx hb hts (fun w h => List.mem_cons_of_mem _ (List.mem_append_left _ (List.mem_append_left _ (List.mem_append_left _ (List.mem_append_right _ h))))) hown hK hP 0 rfl rfl 0 (by decide) (hts (.fieldLink RX7 10 "MondayFactory" "plant" "LMondayFactory$Plant;") (List.mem_of_getElem? (i := 1) rfl)) (fun _ h9 => h9) rfl dX7_pricesByPlaces_29 ?_
        have f_5 : -1000000000 ≤ S1 0 9 ∧ S1 0 9 ≤ 1000000000 := (pOK_b hp 0 (by decide)) 9
        refine va_get (D := D) (ci := 7) (v := .int (iI (S1 0 9))) (C := RX5) (T := TX5) (N := 11) hx hb hts (fun w h => List.mem_cons_of_mem _ (List.mem_append_left _ (List.mem_append_left _ (List.mem_append_right _ h)))) hown hK hP 1 rfl rfl 9 (by decide) (hts (.fieldLink RX7 356 "MondayFactory$Plant" "fridaysOfWeek" "I") (List.mem_of_getElem? (i := 4) rfl)) (fun _ h9 => h9) rfl dX7_pricesByPlaces_32 ?_
        refine zi_sub hx hb dX7_pricesByPlaces_35 ?_
        refine lv_iload_n hx hb dX7_pricesByPlaces_36 rfl (lv_at hl 0 rfl) ?_
        refine zi_sub hx hb dX7_pricesByPlaces_37 ?_
        refine z_mmax hx hb (hml.trans hl.1.symm) hown (hts (.methodLink RX7 359 Lib.Math.max.name) (List.mem_of_getElem? (i := 5) rfl)) (hts (.static Lib.Math.max.name) (List.mem_of_getElem? (i := 6) rfl)) (hts (.initialized "java/lang/Math") (List.mem_of_getElem? (i := 7) rfl)) (hts (.code Lib.Math.max.name Lib.Math.max.code 2 (some .int)) (List.mem_of_getElem? (i := 8) rfl)) (Nat.le_of_ble_eq_true rfl) (Nat.le_of_ble_eq_true rfl) (Nat.le_of_ble_eq_true rfl) (Nat.le_of_ble_eq_true rfl) ⟨by omega, by omega⟩ ⟨by omega, by omega⟩ dX7_pricesByPlaces_38 ?_
        refine zi_add hx hb dX7_pricesByPlaces_41 ?_
        refine lv_istore_n (lv' := [(1, .int (iI (x1 + (max 1 (((wPrice (S1 12) (S1 11 1) x2) - (S1 0 9)) - x2))))), (2, .int (iI x2)), (0, .ref (a0 0))]) hx hb dX7_pricesByPlaces_42 rfl hl (by decide) rfl (fun ls hl => ?_)
        refine lv_iinc (v := iI (x2 + 1)) (lv' := [(2, .int (iI (x2 + 1))), (1, .int (iI (x1 + (max 1 (((wPrice (S1 12) (S1 11 1) x2) - (S1 0 9)) - x2))))), (0, .ref (a0 0))]) hx hb dX7_pricesByPlaces_43 hl (k := 1) rfl (iI_add _ _) (by decide) rfl (fun ls hl => ?_)
        refine lv_goto (tgt := 4) hx hb dX7_pricesByPlaces_46 (by decide) ?_
        exact ih4 (x1 + (max 1 (((wPrice (S1 12) (S1 11 1) x2) - (S1 0 9)) - x2))) (x2 + 1) (by omega) (by omega) (by omega) (by rw [iF]; exact sumI_e i0 rfl)  H locs ls hP hD hS (lv_sub hl [0, 1, 2] rfl)
  exact lp4_0 9 0 0 (by omega) (by omega) (by omega) rfl  H locs ls hP hD hS (lv_sub hl [0, 1, 2] rfl)
set_option maxHeartbeats 4000000 in
set_option maxRecDepth 100000 in
theorem c_X7_pricesInThought_0 (l : Launch) (D : va_G) (k : Nat → ClassId) (a0 : Nat → Nat) (S0 : Nat → Nat → Int) (S1 : Nat → Nat → Int) (S2 : Nat → Nat → Int) (hp : pOK S1) (hat : aOK S2) : zMi l yX7_pricesInThought wsX7_pricesInThought ({ frames := 4, cells := 0, slots := 0, locals := 104 } : Room) D k [.ref (a0 0), .int (iI 0)] (wFac k a0 S0 ++ (wPlant k (subA a0 1) S1 ++ wPlant k (subA a0 16) S2)) (wSellV wFirst (((wCopy S2 S1))) (S1 11 1).toNat) (wFac k a0 S0 ++ (wPlant k (subA a0 1) S1 ++ wPlant k (subA a0 16) ((wSellN wFirst (((wCopy S2 S1))) (S1 11 1).toNat)))) 0 0 := by
  refine zMi_of (cc := cX7_pricesInThought) (maxL := 4) (ret := (some .int)) (by decide) rfl (Nat.le_of_ble_eq_true rfl) ?_
  intro p e s m args below meth c A ls hx hb hr hml hown hts hlocks hK hP hD hG hA hS hl
  have hown : s.vm.findClass RX7 = some m.cls := hown
  have hl : lv_has ls 4 [(0, .ref (a0 0)), (1, .int (iI 0))] := hl
  obtain ⟨H, hH⟩ : ∃ z, z = s.heap := ⟨_, rfl⟩
  obtain ⟨locs, hlc⟩ : ∃ z : List Loc, z = [] := ⟨_, rfl⟩
  rw [← hH] at hP
  have hS : va_S A s.heap H locs := by rw [hH, hlc]; exact hS
  rw [← hlc, ← hH]
  clear hlc hH
  have kp := hp.2
  have h97 := (hp.1 0 (by decide)) 9
  refine lv_aload_n hx hb dX7_pricesInThought_0 rfl (lv_at hl 0 rfl) ?_
  refine va_get (D := D) (ci := 9) (v := .ref ((subA a0 16) 0)) (C := RX7) (T := TX7) (N := 11) hx hb hts (fun w h => List.mem_cons_of_mem _ (List.mem_append_left _ (List.mem_append_left _ (List.mem_append_left _ (List.mem_append_left _ (List.mem_append_left _ (List.mem_append_right _ h))))))) hown hK hP 0 rfl rfl 1 (by decide) (hts (.fieldLink RX7 16 "MondayFactory" "thought" "LMondayFactory$Plant;") (List.mem_of_getElem? (i := 1) rfl)) (fun _ h9 => h9) rfl dX7_pricesInThought_1 ?_
  refine lv_aload_n hx hb dX7_pricesInThought_4 rfl (lv_at hl 0 rfl) ?_
  refine va_get (D := D) (ci := 9) (v := .ref ((subA a0 1) 0)) (C := RX7) (T := TX7) (N := 11) hx hb hts (fun w h => List.mem_cons_of_mem _ (List.mem_append_left _ (List.mem_append_left _ (List.mem_append_left _ (List.mem_append_left _ (List.mem_append_left _ (List.mem_append_right _ h))))))) hown hK hP 0 rfl rfl 0 (by decide) (hts (.fieldLink RX7 10 "MondayFactory" "plant" "LMondayFactory$Plant;") (List.mem_of_getElem? (i := 2) rfl)) (fun _ h9 => h9) rfl dX7_pricesInThought_5 ?_
  refine z_av (va_runV (As := [.ref ((subA a0 1) 0)]) (rest := []) ⟨hx, hb, hml, hown, hts⟩ (c_X5_copyW l D k ((subA a0 16)) S2 ((subA a0 1)) S1   (by omega) (by omega) (by omega) (by omega) _) (cwV 1 hts gX7_pricesInThought_X5_copyFrom rfl rfl rfl (by decide +kernel) ⟨(Nat.le_of_ble_eq_true rfl), (Nat.le_of_ble_eq_true rfl)⟩) (z_preV hK hG hA hP hD hS (zrg 16 15 ++ zrg 1 15) (z_mcat (z_sk (n := 1) (off := 15) (m := 15) rfl (z_sk (n := 15) (off := 0) (m := 15) rfl (z_hdl (n := 15) rfl))) (z_sk (n := 1) (off := 0) (m := 15) rfl (z_hd (n := 15) rfl))) (by decide +kernel) 7 rfl rfl) rfl rfl hl.1 rfl (lv_room (Nat.le_of_ble_eq_true rfl)) dX7_pricesInThought_8 ⟨(Nat.le_of_ble_eq_true rfl), (Nat.le_of_ble_eq_true rfl)⟩) hA hP hD hS (zrg 16 15 ++ zrg 1 15) (z_mcat (z_sk (n := 1) (off := 15) (m := 15) rfl (z_sk (n := 15) (off := 0) (m := 15) rfl (z_hdl (n := 15) rfl))) (z_sk (n := 1) (off := 0) (m := 15) rfl (z_hd (n := 15) rfl))) (z_mfst rfl rfl) (fun H locs hP hD hS => ?_)
  have hz_2 : zset (wFac k a0 S0 ++ (wPlant k (subA a0 1) S1 ++ wPlant k (subA a0 16) S2)) (zrg 16 15) (wPlant k (subA a0 16) ((wCopy S2 S1))) = wFac k a0 S0 ++ (wPlant k (subA a0 1) S1 ++ wPlant k (subA a0 16) ((wCopy S2 S1))) := (z_zsk (n := 1) (off := 15) (m := 15) rfl (z_zsk (n := 15) (off := 0) (m := 15) rfl (z_zhl (n := 15) rfl rfl)))
  have hz_3 : zset (wFac k a0 S0 ++ (wPlant k (subA a0 1) S1 ++ wPlant k (subA a0 16) ((wCopy S2 S1)))) (zrg 1 15) (wPlant k (subA a0 1) S1) = wFac k a0 S0 ++ (wPlant k (subA a0 1) S1 ++ wPlant k (subA a0 16) ((wCopy S2 S1))) := (z_zsk (n := 1) (off := 0) (m := 15) rfl (z_zhd (n := 15) rfl rfl))
  have hE_1 : zset (wFac k a0 S0 ++ (wPlant k (subA a0 1) S1 ++ wPlant k (subA a0 16) S2)) (zrg 16 15 ++ zrg 1 15) (wPlant k (subA a0 16) ((wCopy S2 S1)) ++ wPlant k (subA a0 1) S1) = wFac k a0 S0 ++ (wPlant k (subA a0 1) S1 ++ wPlant k (subA a0 16) ((wCopy S2 S1))) := (z_zcat rfl hz_2 hz_3)
  have hP : va_P D vwCl (wFac k a0 S0 ++ (wPlant k (subA a0 1) S1 ++ wPlant k (subA a0 16) ((wCopy S2 S1)))) H := z_to hE_1 hP
  have hD : va_D A (wFac k a0 S0 ++ (wPlant k (subA a0 1) S1 ++ wPlant k (subA a0 16) ((wCopy S2 S1)))) := z_to2 hE_1 hD
  have ob_4 : pOK ((wCopy S2 S1)) := pOK_copy hat hp
  have ob_4k := ob_4.2
  refine lv_iconst (v := iI 0) hx hb dX7_pricesInThought_11 rfl ?_
  refine lv_istore_n (lv' := [(2, .int (iI 0)), (0, .ref (a0 0)), (1, .int (iI 0))]) hx hb dX7_pricesInThought_12 rfl hl (by decide) rfl (fun ls hl => ?_)
  refine lv_iconst (v := iI 0) hx hb dX7_pricesInThought_13 rfl ?_
  refine lv_istore_n (lv' := [(3, .int (iI 0)), (2, .int (iI 0)), (0, .ref (a0 0)), (1, .int (iI 0))]) hx hb dX7_pricesInThought_14 rfl hl (by decide) rfl (fun ls hl => ?_)
  have lp15_0 : ∀ (n : Nat) (x2 : Int) (x3 : Int) (FP : Nat → Nat → Int), (8 - x3).toNat < n → (0 ≤ x3) → (x3 ≤ S1 11 1) → (aOK FP) → (FP 11 1 = S1 11 1 - x3) → (FP 0 9 = S1 0 9 + x3) → (FP = wSellN wFirst (((wCopy S2 S1))) x3.toNat) → (x2 = wSellV wFirst (((wCopy S2 S1))) x3.toNat) → ∀ (H : Heap) (locs : List Loc) (ls : Array Slot), va_P D vwCl (wFac k a0 S0 ++ (wPlant k (subA a0 1) S1 ++ wPlant k (subA a0 16) FP)) H → va_D A (wFac k a0 S0 ++ (wPlant k (subA a0 1) S1 ++ wPlant k (subA a0 16) FP)) → va_S A s.heap H locs → lv_has ls 4 [(3, .int (iI x3)), (2, .int (iI x2)), (0, .ref (a0 0)), (1, .int (iI 0))] → W p l e ({ frames := 4, cells := 0, slots := 0, locals := 104 } : Room) s m args below meth c H locs 0 0 (MQ below (zQi D A (wSellV wFirst (((wCopy S2 S1))) (S1 11 1).toNat) (wFac k a0 S0 ++ (wPlant k (subA a0 1) S1 ++ wPlant k (subA a0 16) ((wSellN wFirst (((wCopy S2 S1))) (S1 11 1).toNat))))) args s 0 0 A) (F0 m 15 ls []) := by
    intro n15
    induction n15 with
    | zero => intro x2 x3 FP hm; exact absurd hm (Nat.not_lt_zero _)
    | succ n15 ih15 =>
      intro x2 x3 FP hm15 i0 i1 iA i11 i9 iP iV  H locs ls hP hD hS hl
      refine lv_iload_n hx hb dX7_pricesInThought_15 rfl (lv_at hl 0 rfl) ?_
      refine lv_aload_n hx hb dX7_pricesInThought_16 rfl (lv_at hl 2 rfl) ?_
      refine va_get (D := D) (ci := 9) (v := .ref ((subA a0 1) 0)) (C := RX7) (T := TX7) (N := 11) hx hb hts (fun w h => List.mem_cons_of_mem _ (List.mem_append_left _ (List.mem_append_left _ (List.mem_append_left _ (List.mem_append_left _ (List.mem_append_left _ (List.mem_append_right _ h))))))) hown hK hP 0 rfl rfl 0 (by decide) (hts (.fieldLink RX7 10 "MondayFactory" "plant" "LMondayFactory$Plant;") (List.mem_of_getElem? (i := 2) rfl)) (fun _ h9 => h9) rfl dX7_pricesInThought_17 ?_
      refine va_get (D := D) (ci := 7) (v := .ref ((subA a0 1) 11)) (C := RX5) (T := TX5) (N := 11) hx hb hts (fun w h => List.mem_cons_of_mem _ (List.mem_append_left _ (List.mem_append_left _ (List.mem_append_left _ (List.mem_append_left _ (List.mem_append_right _ h)))))) hown hK hP 1 rfl rfl 1 (by decide) (hts (.fieldLink RX7 179 "MondayFactory$Plant" "shelf" "LMondayFactory$Row;") (List.mem_of_getElem? (i := 3) rfl)) (fun _ h9 => h9) rfl dX7_pricesInThought_20 ?_
      have f_5 : -1000000000 ≤ S1 11 1 ∧ S1 11 1 ≤ 1000000000 := (pOK_b hp 11 (by decide)) 1
      refine va_get (D := D) (ci := 8) (v := .int (iI (S1 11 1))) (C := RX6) (T := TX6) (N := 2) hx hb hts (fun w h => List.mem_cons_of_mem _ (List.mem_append_left _ (List.mem_append_left _ (List.mem_append_left _ (List.mem_append_right _ h))))) hown hK hP 12 rfl rfl 1 (by decide) (hts (.fieldLink RX7 82 "MondayFactory$Row" "count" "I") (List.mem_of_getElem? (i := 4) rfl)) (fun _ h9 => h9) rfl dX7_pricesInThought_23 ?_
      refine zi_icmp_ge (tgt := 60) hx hb dX7_pricesInThought_26 (by decide) ⟨by omega, by omega⟩ ⟨by omega, by omega⟩ (fun c_6 => ?_) (fun c_6 => ?_)
      · have v_7 : FP = (wSellN wFirst (((wCopy S2 S1))) (S1 11 1).toNat) := (by rw [iP, show x3 = S1 11 1 by omega])
        rw [v_7] at hP hD
        have oa_8 : aOK ((wSellN wFirst (((wCopy S2 S1))) (S1 11 1).toNat)) := v_7 ▸ iA
        have v_9 : x2 = wSellV wFirst (((wCopy S2 S1))) (S1 11 1).toNat := (by rw [iV, show x3 = S1 11 1 by omega])
        rw [v_9] at hl
        refine lv_iload_n hx hb dX7_pricesInThought_60 rfl (lv_at hl 1 rfl) ?_
        exact z_iret hx hb hr hlocks hP hS dX7_pricesInThought_61 rfl rfl (Nat.le_refl _) (Nat.le_refl _)
      · refine lv_iload_n hx hb dX7_pricesInThought_29 rfl (lv_at hl 1 rfl) ?_
        refine lv_aload_n hx hb dX7_pricesInThought_30 rfl (lv_at hl 2 rfl) ?_
        refine va_get (D := D) (ci := 9) (v := .ref ((subA a0 16) 0)) (C := RX7) (T := TX7) (N := 11) hx hb hts (fun w h => List.mem_cons_of_mem _ (List.mem_append_left _ (List.mem_append_left _ (List.mem_append_left _ (List.mem_append_left _ (List.mem_append_left _ (List.mem_append_right _ h))))))) hown hK hP 0 rfl rfl 1 (by decide) (hts (.fieldLink RX7 16 "MondayFactory" "thought" "LMondayFactory$Plant;") (List.mem_of_getElem? (i := 1) rfl)) (fun _ h9 => h9) rfl dX7_pricesInThought_31 ?_
        refine lv_iload_n hx hb dX7_pricesInThought_34 rfl (lv_at hl 3 rfl) ?_
        refine zi_if_eq (tgt := 48) hx hb dX7_pricesInThought_35 (by decide) ⟨by omega, by omega⟩ (fun _ => ?_) (fun c_10 => absurd c_10 (by omega))
        refine lv_iconst (v := iI 0) hx hb dX7_pricesInThought_48 rfl ?_
        refine z_ai (va_runV (As := [.int (iI 0)]) (rest := [.int (iI x2)]) ⟨hx, hb, hml, hown, hts⟩ (c_X5_sellW l D k ((subA a0 16)) FP  0 ((iA 12 (by omega)).f (by decide)) (by omega) (by omega) _) (cwV 1 hts gX7_pricesInThought_X5_sellReject rfl rfl rfl (by decide +kernel) ⟨(Nat.le_of_ble_eq_true rfl), (Nat.le_of_ble_eq_true rfl)⟩) (z_preV hK hG hA hP hD hS (zrg 16 15) (z_sk (n := 1) (off := 15) (m := 15) rfl (z_sk (n := 15) (off := 0) (m := 15) rfl (z_hdl (n := 15) rfl))) (by decide +kernel) 7 rfl rfl) rfl rfl hl.1 rfl (lv_room (Nat.le_of_ble_eq_true rfl)) dX7_pricesInThought_49 ⟨(Nat.le_of_ble_eq_true rfl), (Nat.le_of_ble_eq_true rfl)⟩) hA hP hD hS (zrg 16 15) (z_sk (n := 1) (off := 15) (m := 15) rfl (z_sk (n := 15) (off := 0) (m := 15) rfl (z_hdl (n := 15) rfl))) rfl (fun H locs hP hD hS => ?_)
        have hz_12 : zset (wFac k a0 S0 ++ (wPlant k (subA a0 1) S1 ++ wPlant k (subA a0 16) FP)) (zrg 16 15) (wPlant k (subA a0 16) ((wSell FP 0))) = wFac k a0 S0 ++ (wPlant k (subA a0 1) S1 ++ wPlant k (subA a0 16) ((wSell FP 0))) := (z_zsk (n := 1) (off := 15) (m := 15) rfl (z_zsk (n := 15) (off := 0) (m := 15) rfl (z_zhl (n := 15) rfl rfl)))
        have hE_11 : zset (wFac k a0 S0 ++ (wPlant k (subA a0 1) S1 ++ wPlant k (subA a0 16) FP)) (zrg 16 15) (wPlant k (subA a0 16) ((wSell FP 0))) = wFac k a0 S0 ++ (wPlant k (subA a0 1) S1 ++ wPlant k (subA a0 16) ((wSell FP 0))) := hz_12
        have hP : va_P D vwCl (wFac k a0 S0 ++ (wPlant k (subA a0 1) S1 ++ wPlant k (subA a0 16) ((wSell FP 0)))) H := z_to hE_11 hP
        have hD : va_D A (wFac k a0 S0 ++ (wPlant k (subA a0 1) S1 ++ wPlant k (subA a0 16) ((wSell FP 0)))) := z_to2 hE_11 hD
        refine zi_add hx hb dX7_pricesInThought_52 ?_
        refine lv_istore_n (lv' := [(2, .int (iI (x2 + (wWorth (FP 12) (FP 11 1) 0 (FP 0 9))))), (3, .int (iI x3)), (0, .ref (a0 0)), (1, .int (iI 0))]) hx hb dX7_pricesInThought_53 rfl hl (by decide) rfl (fun ls hl => ?_)
        refine lv_iinc (v := iI (x3 + 1)) (lv' := [(3, .int (iI (x3 + 1))), (2, .int (iI (x2 + (wWorth (FP 12) (FP 11 1) 0 (FP 0 9))))), (0, .ref (a0 0)), (1, .int (iI 0))]) hx hb dX7_pricesInThought_54 hl (k := 1) rfl (iI_add _ _) (by decide) rfl (fun ls hl => ?_)
        refine lv_goto (tgt := 15) hx hb dX7_pricesInThought_57 (by decide) ?_
        exact ih15 (x2 + (wWorth (FP 12) (FP 11 1) 0 (FP 0 9))) (x3 + 1) ((wSell FP 0)) (by omega) (by omega) (by omega) (wSell_a iA) (by rw [wSell_11 (by omega), i11]; omega) (by rw [wSell_9, i9]; omega) (by rw [iP]; exact wSellN_s i0) (by rw [iV, iP]; exact wSellV_s i0)  H locs ls hP hD hS (lv_sub hl [0, 1, 2, 3] rfl)
  exact lp15_0 9 0 0 ((wCopy S2 S1)) (by omega) (by omega) (by omega) (pOK_a ob_4) (by show S1 11 1 = S1 11 1 - 0; omega) (by show S1 0 9 = S1 0 9 + 0; omega) rfl rfl  H locs ls hP hD hS (lv_sub hl [0, 1, 2, 3] rfl)
set_option maxHeartbeats 4000000 in
set_option maxRecDepth 100000 in
theorem c_X7_pricesInThought_1 (l : Launch) (D : va_G) (k : Nat → ClassId) (a0 : Nat → Nat) (S0 : Nat → Nat → Int) (S1 : Nat → Nat → Int) (S2 : Nat → Nat → Int) (hp : pOK S1) (hat : aOK S2) : zMi l yX7_pricesInThought wsX7_pricesInThought ({ frames := 4, cells := 0, slots := 0, locals := 104 } : Room) D k [.ref (a0 0), .int (iI 1)] (wFac k a0 S0 ++ (wPlant k (subA a0 1) S1 ++ wPlant k (subA a0 16) S2)) (wSellV wDear (((wCopy S2 S1))) (S1 11 1).toNat) (wFac k a0 S0 ++ (wPlant k (subA a0 1) S1 ++ wPlant k (subA a0 16) ((wSellN wDear (((wCopy S2 S1))) (S1 11 1).toNat)))) 0 0 := by
  refine zMi_of (cc := cX7_pricesInThought) (maxL := 4) (ret := (some .int)) (by decide) rfl (Nat.le_of_ble_eq_true rfl) ?_
  intro p e s m args below meth c A ls hx hb hr hml hown hts hlocks hK hP hD hG hA hS hl
  have hown : s.vm.findClass RX7 = some m.cls := hown
  have hl : lv_has ls 4 [(0, .ref (a0 0)), (1, .int (iI 1))] := hl
  obtain ⟨H, hH⟩ : ∃ z, z = s.heap := ⟨_, rfl⟩
  obtain ⟨locs, hlc⟩ : ∃ z : List Loc, z = [] := ⟨_, rfl⟩
  rw [← hH] at hP
  have hS : va_S A s.heap H locs := by rw [hH, hlc]; exact hS
  rw [← hlc, ← hH]
  clear hlc hH
  have kp := hp.2
  have h97 := (hp.1 0 (by decide)) 9
  refine lv_aload_n hx hb dX7_pricesInThought_0 rfl (lv_at hl 0 rfl) ?_
  refine va_get (D := D) (ci := 9) (v := .ref ((subA a0 16) 0)) (C := RX7) (T := TX7) (N := 11) hx hb hts (fun w h => List.mem_cons_of_mem _ (List.mem_append_left _ (List.mem_append_left _ (List.mem_append_left _ (List.mem_append_left _ (List.mem_append_left _ (List.mem_append_right _ h))))))) hown hK hP 0 rfl rfl 1 (by decide) (hts (.fieldLink RX7 16 "MondayFactory" "thought" "LMondayFactory$Plant;") (List.mem_of_getElem? (i := 1) rfl)) (fun _ h9 => h9) rfl dX7_pricesInThought_1 ?_
  refine lv_aload_n hx hb dX7_pricesInThought_4 rfl (lv_at hl 0 rfl) ?_
  refine va_get (D := D) (ci := 9) (v := .ref ((subA a0 1) 0)) (C := RX7) (T := TX7) (N := 11) hx hb hts (fun w h => List.mem_cons_of_mem _ (List.mem_append_left _ (List.mem_append_left _ (List.mem_append_left _ (List.mem_append_left _ (List.mem_append_left _ (List.mem_append_right _ h))))))) hown hK hP 0 rfl rfl 0 (by decide) (hts (.fieldLink RX7 10 "MondayFactory" "plant" "LMondayFactory$Plant;") (List.mem_of_getElem? (i := 2) rfl)) (fun _ h9 => h9) rfl dX7_pricesInThought_5 ?_
  refine z_av (va_runV (As := [.ref ((subA a0 1) 0)]) (rest := []) ⟨hx, hb, hml, hown, hts⟩ (c_X5_copyW l D k ((subA a0 16)) S2 ((subA a0 1)) S1   (by omega) (by omega) (by omega) (by omega) _) (cwV 1 hts gX7_pricesInThought_X5_copyFrom rfl rfl rfl (by decide +kernel) ⟨(Nat.le_of_ble_eq_true rfl), (Nat.le_of_ble_eq_true rfl)⟩) (z_preV hK hG hA hP hD hS (zrg 16 15 ++ zrg 1 15) (z_mcat (z_sk (n := 1) (off := 15) (m := 15) rfl (z_sk (n := 15) (off := 0) (m := 15) rfl (z_hdl (n := 15) rfl))) (z_sk (n := 1) (off := 0) (m := 15) rfl (z_hd (n := 15) rfl))) (by decide +kernel) 7 rfl rfl) rfl rfl hl.1 rfl (lv_room (Nat.le_of_ble_eq_true rfl)) dX7_pricesInThought_8 ⟨(Nat.le_of_ble_eq_true rfl), (Nat.le_of_ble_eq_true rfl)⟩) hA hP hD hS (zrg 16 15 ++ zrg 1 15) (z_mcat (z_sk (n := 1) (off := 15) (m := 15) rfl (z_sk (n := 15) (off := 0) (m := 15) rfl (z_hdl (n := 15) rfl))) (z_sk (n := 1) (off := 0) (m := 15) rfl (z_hd (n := 15) rfl))) (z_mfst rfl rfl) (fun H locs hP hD hS => ?_)
  have hz_2 : zset (wFac k a0 S0 ++ (wPlant k (subA a0 1) S1 ++ wPlant k (subA a0 16) S2)) (zrg 16 15) (wPlant k (subA a0 16) ((wCopy S2 S1))) = wFac k a0 S0 ++ (wPlant k (subA a0 1) S1 ++ wPlant k (subA a0 16) ((wCopy S2 S1))) := (z_zsk (n := 1) (off := 15) (m := 15) rfl (z_zsk (n := 15) (off := 0) (m := 15) rfl (z_zhl (n := 15) rfl rfl)))
  have hz_3 : zset (wFac k a0 S0 ++ (wPlant k (subA a0 1) S1 ++ wPlant k (subA a0 16) ((wCopy S2 S1)))) (zrg 1 15) (wPlant k (subA a0 1) S1) = wFac k a0 S0 ++ (wPlant k (subA a0 1) S1 ++ wPlant k (subA a0 16) ((wCopy S2 S1))) := (z_zsk (n := 1) (off := 0) (m := 15) rfl (z_zhd (n := 15) rfl rfl))
  have hE_1 : zset (wFac k a0 S0 ++ (wPlant k (subA a0 1) S1 ++ wPlant k (subA a0 16) S2)) (zrg 16 15 ++ zrg 1 15) (wPlant k (subA a0 16) ((wCopy S2 S1)) ++ wPlant k (subA a0 1) S1) = wFac k a0 S0 ++ (wPlant k (subA a0 1) S1 ++ wPlant k (subA a0 16) ((wCopy S2 S1))) := (z_zcat rfl hz_2 hz_3)
  have hP : va_P D vwCl (wFac k a0 S0 ++ (wPlant k (subA a0 1) S1 ++ wPlant k (subA a0 16) ((wCopy S2 S1)))) H := z_to hE_1 hP
  have hD : va_D A (wFac k a0 S0 ++ (wPlant k (subA a0 1) S1 ++ wPlant k (subA a0 16) ((wCopy S2 S1)))) := z_to2 hE_1 hD
  have ob_4 : pOK ((wCopy S2 S1)) := pOK_copy hat hp
  have ob_4k := ob_4.2
  refine lv_iconst (v := iI 0) hx hb dX7_pricesInThought_11 rfl ?_
  refine lv_istore_n (lv' := [(2, .int (iI 0)), (0, .ref (a0 0)), (1, .int (iI 1))]) hx hb dX7_pricesInThought_12 rfl hl (by decide) rfl (fun ls hl => ?_)
  refine lv_iconst (v := iI 0) hx hb dX7_pricesInThought_13 rfl ?_
  refine lv_istore_n (lv' := [(3, .int (iI 0)), (2, .int (iI 0)), (0, .ref (a0 0)), (1, .int (iI 1))]) hx hb dX7_pricesInThought_14 rfl hl (by decide) rfl (fun ls hl => ?_)
  have lp15_0 : ∀ (n : Nat) (x2 : Int) (x3 : Int) (FP : Nat → Nat → Int), (8 - x3).toNat < n → (0 ≤ x3) → (x3 ≤ S1 11 1) → (aOK FP) → (FP 11 1 = S1 11 1 - x3) → (FP 0 9 = S1 0 9 + x3) → (FP = wSellN wDear (((wCopy S2 S1))) x3.toNat) → (x2 = wSellV wDear (((wCopy S2 S1))) x3.toNat) → ∀ (H : Heap) (locs : List Loc) (ls : Array Slot), va_P D vwCl (wFac k a0 S0 ++ (wPlant k (subA a0 1) S1 ++ wPlant k (subA a0 16) FP)) H → va_D A (wFac k a0 S0 ++ (wPlant k (subA a0 1) S1 ++ wPlant k (subA a0 16) FP)) → va_S A s.heap H locs → lv_has ls 4 [(3, .int (iI x3)), (2, .int (iI x2)), (0, .ref (a0 0)), (1, .int (iI 1))] → W p l e ({ frames := 4, cells := 0, slots := 0, locals := 104 } : Room) s m args below meth c H locs 0 0 (MQ below (zQi D A (wSellV wDear (((wCopy S2 S1))) (S1 11 1).toNat) (wFac k a0 S0 ++ (wPlant k (subA a0 1) S1 ++ wPlant k (subA a0 16) ((wSellN wDear (((wCopy S2 S1))) (S1 11 1).toNat))))) args s 0 0 A) (F0 m 15 ls []) := by
    intro n15
    induction n15 with
    | zero => intro x2 x3 FP hm; exact absurd hm (Nat.not_lt_zero _)
    | succ n15 ih15 =>
      intro x2 x3 FP hm15 i0 i1 iA i11 i9 iP iV  H locs ls hP hD hS hl
      refine lv_iload_n hx hb dX7_pricesInThought_15 rfl (lv_at hl 0 rfl) ?_
      refine lv_aload_n hx hb dX7_pricesInThought_16 rfl (lv_at hl 2 rfl) ?_
      refine va_get (D := D) (ci := 9) (v := .ref ((subA a0 1) 0)) (C := RX7) (T := TX7) (N := 11) hx hb hts (fun w h => List.mem_cons_of_mem _ (List.mem_append_left _ (List.mem_append_left _ (List.mem_append_left _ (List.mem_append_left _ (List.mem_append_left _ (List.mem_append_right _ h))))))) hown hK hP 0 rfl rfl 0 (by decide) (hts (.fieldLink RX7 10 "MondayFactory" "plant" "LMondayFactory$Plant;") (List.mem_of_getElem? (i := 2) rfl)) (fun _ h9 => h9) rfl dX7_pricesInThought_17 ?_
      refine va_get (D := D) (ci := 7) (v := .ref ((subA a0 1) 11)) (C := RX5) (T := TX5) (N := 11) hx hb hts (fun w h => List.mem_cons_of_mem _ (List.mem_append_left _ (List.mem_append_left _ (List.mem_append_left _ (List.mem_append_left _ (List.mem_append_right _ h)))))) hown hK hP 1 rfl rfl 1 (by decide) (hts (.fieldLink RX7 179 "MondayFactory$Plant" "shelf" "LMondayFactory$Row;") (List.mem_of_getElem? (i := 3) rfl)) (fun _ h9 => h9) rfl dX7_pricesInThought_20 ?_
      have f_5 : -1000000000 ≤ S1 11 1 ∧ S1 11 1 ≤ 1000000000 := (pOK_b hp 11 (by decide)) 1
      refine va_get (D := D) (ci := 8) (v := .int (iI (S1 11 1))) (C := RX6) (T := TX6) (N := 2) hx hb hts (fun w h => List.mem_cons_of_mem _ (List.mem_append_left _ (List.mem_append_left _ (List.mem_append_left _ (List.mem_append_right _ h))))) hown hK hP 12 rfl rfl 1 (by decide) (hts (.fieldLink RX7 82 "MondayFactory$Row" "count" "I") (List.mem_of_getElem? (i := 4) rfl)) (fun _ h9 => h9) rfl dX7_pricesInThought_23 ?_
      refine zi_icmp_ge (tgt := 60) hx hb dX7_pricesInThought_26 (by decide) ⟨by omega, by omega⟩ ⟨by omega, by omega⟩ (fun c_6 => ?_) (fun c_6 => ?_)
      · have v_7 : FP = (wSellN wDear (((wCopy S2 S1))) (S1 11 1).toNat) := (by rw [iP, show x3 = S1 11 1 by omega])
        rw [v_7] at hP hD
        have oa_8 : aOK ((wSellN wDear (((wCopy S2 S1))) (S1 11 1).toNat)) := v_7 ▸ iA
        have v_9 : x2 = wSellV wDear (((wCopy S2 S1))) (S1 11 1).toNat := (by rw [iV, show x3 = S1 11 1 by omega])
        rw [v_9] at hl
        refine lv_iload_n hx hb dX7_pricesInThought_60 rfl (lv_at hl 1 rfl) ?_
        exact z_iret hx hb hr hlocks hP hS dX7_pricesInThought_61 rfl rfl (Nat.le_refl _) (Nat.le_refl _)
      · refine lv_iload_n hx hb dX7_pricesInThought_29 rfl (lv_at hl 1 rfl) ?_
        refine lv_aload_n hx hb dX7_pricesInThought_30 rfl (lv_at hl 2 rfl) ?_
        refine va_get (D := D) (ci := 9) (v := .ref ((subA a0 16) 0)) (C := RX7) (T := TX7) (N := 11) hx hb hts (fun w h => List.mem_cons_of_mem _ (List.mem_append_left _ (List.mem_append_left _ (List.mem_append_left _ (List.mem_append_left _ (List.mem_append_left _ (List.mem_append_right _ h))))))) hown hK hP 0 rfl rfl 1 (by decide) (hts (.fieldLink RX7 16 "MondayFactory" "thought" "LMondayFactory$Plant;") (List.mem_of_getElem? (i := 1) rfl)) (fun _ h9 => h9) rfl dX7_pricesInThought_31 ?_
        refine lv_iload_n hx hb dX7_pricesInThought_34 rfl (lv_at hl 3 rfl) ?_
        refine zi_if_eq (tgt := 48) hx hb dX7_pricesInThought_35 (by decide) ⟨by omega, by omega⟩ (fun c_10 => absurd c_10 (by omega)) (fun _ => ?_)
        refine lv_aload_n hx hb dX7_pricesInThought_38 rfl (lv_at hl 2 rfl) ?_
        refine va_get (D := D) (ci := 9) (v := .ref ((subA a0 16) 0)) (C := RX7) (T := TX7) (N := 11) hx hb hts (fun w h => List.mem_cons_of_mem _ (List.mem_append_left _ (List.mem_append_left _ (List.mem_append_left _ (List.mem_append_left _ (List.mem_append_left _ (List.mem_append_right _ h))))))) hown hK hP 0 rfl rfl 1 (by decide) (hts (.fieldLink RX7 16 "MondayFactory" "thought" "LMondayFactory$Plant;") (List.mem_of_getElem? (i := 1) rfl)) (fun _ h9 => h9) rfl dX7_pricesInThought_39 ?_
        refine z_ai0 (va_runV (As := []) (rest := [.ref ((subA a0 16) 0), .int (iI x2)]) ⟨hx, hb, hml, hown, hts⟩ (c_X5_dearest l D k ((subA a0 16)) FP   ((iA 12 (by omega)).f (by decide)) (by omega) (by omega) _) (cwV 0 hts gX7_pricesInThought_X5_dearest rfl rfl rfl (by decide +kernel) ⟨(Nat.le_of_ble_eq_true rfl), (Nat.le_of_ble_eq_true rfl)⟩) (z_preV hK hG hA hP hD hS (zrg 16 15) (z_sk (n := 1) (off := 15) (m := 15) rfl (z_sk (n := 15) (off := 0) (m := 15) rfl (z_hdl (n := 15) rfl))) (by decide +kernel) 7 rfl rfl) rfl rfl hl.1 rfl (lv_room (Nat.le_of_ble_eq_true rfl)) dX7_pricesInThought_42 ⟨(Nat.le_of_ble_eq_true rfl), (Nat.le_of_ble_eq_true rfl)⟩) hA hP hD hS (zrg 16 15) (z_sk (n := 1) (off := 15) (m := 15) rfl (z_sk (n := 15) (off := 0) (m := 15) rfl (z_hdl (n := 15) rfl))) (fun H locs hP hS => ?_)
        refine lv_goto (tgt := 49) hx hb dX7_pricesInThought_45 (by decide) ?_
        have qb := wBest_rng (N := FP 12) (c := FP 11 1) (d := FP 0 9) (by omega)
        refine z_ai (va_runV (As := [.int (iI (wBest (FP 12) (FP 11 1) (FP 0 9)))]) (rest := [.int (iI x2)]) ⟨hx, hb, hml, hown, hts⟩ (c_X5_sellW l D k ((subA a0 16)) FP  (wBest (FP 12) (FP 11 1) (FP 0 9)) ((iA 12 (by omega)).f (by decide)) (by omega) (by omega) _) (cwV 1 hts gX7_pricesInThought_X5_sellReject rfl rfl rfl (by decide +kernel) ⟨(Nat.le_of_ble_eq_true rfl), (Nat.le_of_ble_eq_true rfl)⟩) (z_preV hK hG hA hP hD hS (zrg 16 15) (z_sk (n := 1) (off := 15) (m := 15) rfl (z_sk (n := 15) (off := 0) (m := 15) rfl (z_hdl (n := 15) rfl))) (by decide +kernel) 7 rfl rfl) rfl rfl hl.1 rfl (lv_room (Nat.le_of_ble_eq_true rfl)) dX7_pricesInThought_49 ⟨(Nat.le_of_ble_eq_true rfl), (Nat.le_of_ble_eq_true rfl)⟩) hA hP hD hS (zrg 16 15) (z_sk (n := 1) (off := 15) (m := 15) rfl (z_sk (n := 15) (off := 0) (m := 15) rfl (z_hdl (n := 15) rfl))) rfl (fun H locs hP hD hS => ?_)
        have hz_12 : zset (wFac k a0 S0 ++ (wPlant k (subA a0 1) S1 ++ wPlant k (subA a0 16) FP)) (zrg 16 15) (wPlant k (subA a0 16) ((wSell FP (wBest (FP 12) (FP 11 1) (FP 0 9))))) = wFac k a0 S0 ++ (wPlant k (subA a0 1) S1 ++ wPlant k (subA a0 16) ((wSell FP (wBest (FP 12) (FP 11 1) (FP 0 9))))) := (z_zsk (n := 1) (off := 15) (m := 15) rfl (z_zsk (n := 15) (off := 0) (m := 15) rfl (z_zhl (n := 15) rfl rfl)))
        have hE_11 : zset (wFac k a0 S0 ++ (wPlant k (subA a0 1) S1 ++ wPlant k (subA a0 16) FP)) (zrg 16 15) (wPlant k (subA a0 16) ((wSell FP (wBest (FP 12) (FP 11 1) (FP 0 9))))) = wFac k a0 S0 ++ (wPlant k (subA a0 1) S1 ++ wPlant k (subA a0 16) ((wSell FP (wBest (FP 12) (FP 11 1) (FP 0 9))))) := hz_12
        have hP : va_P D vwCl (wFac k a0 S0 ++ (wPlant k (subA a0 1) S1 ++ wPlant k (subA a0 16) ((wSell FP (wBest (FP 12) (FP 11 1) (FP 0 9)))))) H := z_to hE_11 hP
        have hD : va_D A (wFac k a0 S0 ++ (wPlant k (subA a0 1) S1 ++ wPlant k (subA a0 16) ((wSell FP (wBest (FP 12) (FP 11 1) (FP 0 9)))))) := z_to2 hE_11 hD
        refine zi_add hx hb dX7_pricesInThought_52 ?_
        refine lv_istore_n (lv' := [(2, .int (iI (x2 + (wWorth (FP 12) (FP 11 1) (wBest (FP 12) (FP 11 1) (FP 0 9)) (FP 0 9))))), (3, .int (iI x3)), (0, .ref (a0 0)), (1, .int (iI 1))]) hx hb dX7_pricesInThought_53 rfl hl (by decide) rfl (fun ls hl => ?_)
        refine lv_iinc (v := iI (x3 + 1)) (lv' := [(3, .int (iI (x3 + 1))), (2, .int (iI (x2 + (wWorth (FP 12) (FP 11 1) (wBest (FP 12) (FP 11 1) (FP 0 9)) (FP 0 9))))), (0, .ref (a0 0)), (1, .int (iI 1))]) hx hb dX7_pricesInThought_54 hl (k := 1) rfl (iI_add _ _) (by decide) rfl (fun ls hl => ?_)
        refine lv_goto (tgt := 15) hx hb dX7_pricesInThought_57 (by decide) ?_
        exact ih15 (x2 + (wWorth (FP 12) (FP 11 1) (wBest (FP 12) (FP 11 1) (FP 0 9)) (FP 0 9))) (x3 + 1) ((wSell FP (wBest (FP 12) (FP 11 1) (FP 0 9)))) (by omega) (by omega) (by omega) (wSell_a iA) (by rw [wSell_11 (by omega), i11]; omega) (by rw [wSell_9, i9]; omega) (by rw [iP]; exact wSellN_s i0) (by rw [iV, iP]; exact wSellV_s i0)  H locs ls hP hD hS (lv_sub hl [0, 1, 2, 3] rfl)
  exact lp15_0 9 0 0 ((wCopy S2 S1)) (by omega) (by omega) (by omega) (pOK_a ob_4) (by show S1 11 1 = S1 11 1 - 0; omega) (by show S1 0 9 = S1 0 9 + 0; omega) rfl rfl  H locs ls hP hD hS (lv_sub hl [0, 1, 2, 3] rfl)
set_option maxHeartbeats 4000000 in
set_option maxRecDepth 100000 in
theorem c_X7_allPrices_f (l : Launch) (D : va_G) (k : Nat → ClassId) (a0 : Nat → Nat) (S0 : Nat → Nat → Int) (S1 : Nat → Nat → Int) (S2 : Nat → Nat → Int) (hp : pOK S1) (hat : aOK S2) : zMi l yX7_allPrices wsX7_allPrices ({ frames := 5, cells := 0, slots := 0, locals := 127 } : Room) D k [.ref (a0 0), .int (iI 0)] (wFac k a0 S0 ++ (wPlant k (subA a0 1) S1 ++ wPlant k (subA a0 16) S2)) (wSellV wFirst (((wCopy S2 S1))) (S1 11 1).toNat) (wFac k a0 S0 ++ (wPlant k (subA a0 1) S1 ++ wPlant k (subA a0 16) ((wSellN wFirst (((wCopy S2 S1))) (S1 11 1).toNat)))) 0 0 := by
  refine zMi_of (cc := cX7_allPrices) (maxL := 2) (ret := (some .int)) (by decide) rfl (Nat.le_of_ble_eq_true rfl) ?_
  intro p e s m args below meth c A ls hx hb hr hml hown hts hlocks hK hP hD hG hA hS hl
  have hown : s.vm.findClass RX7 = some m.cls := hown
  have hl : lv_has ls 2 [(0, .ref (a0 0)), (1, .int (iI 0))] := hl
  obtain ⟨H, hH⟩ : ∃ z, z = s.heap := ⟨_, rfl⟩
  obtain ⟨locs, hlc⟩ : ∃ z : List Loc, z = [] := ⟨_, rfl⟩
  rw [← hH] at hP
  have hS : va_S A s.heap H locs := by rw [hH, hlc]; exact hS
  rw [← hlc, ← hH]
  clear hlc hH
  have kp := hp.2
  refine lv_iload_n hx hb dX7_allPrices_0 rfl (lv_at hl 1 rfl) ?_
  refine zi_if_eq (tgt := 11) hx hb dX7_allPrices_1 (by decide) ⟨by omega, by omega⟩ (fun _ => ?_) (fun c_1 => absurd c_1 (by omega))
  refine lv_aload_n hx hb dX7_allPrices_11 rfl (lv_at hl 0 rfl) ?_
  refine lv_iconst (v := iI 0) hx hb dX7_allPrices_12 rfl ?_
  refine z_ai (va_runV (As := [.int (iI 0)]) (rest := []) ⟨hx, hb, hml, hown, hts⟩ (c_X7_pricesInThought_0 l D k a0 S0 S1 S2   hp hat _) (cwV 1 hts gX7_allPrices_X7_pricesInThought rfl rfl rfl (by decide +kernel) ⟨(Nat.le_of_ble_eq_true rfl), (Nat.le_of_ble_eq_true rfl)⟩) (z_preV hK hG hA hP hD hS (zrg 0 1 ++ (zrg 1 15 ++ zrg 16 15)) (z_mcat (z_hd (n := 1) rfl) (z_mcat (z_sk (n := 1) (off := 0) (m := 15) rfl (z_hd (n := 15) rfl)) (z_sk (n := 1) (off := 15) (m := 15) rfl (z_sk (n := 15) (off := 0) (m := 15) rfl (z_hdl (n := 15) rfl))))) (by decide +kernel) 9 rfl rfl) rfl rfl hl.1 rfl (lv_room (Nat.le_of_ble_eq_true rfl)) dX7_allPrices_13 ⟨(Nat.le_of_ble_eq_true rfl), (Nat.le_of_ble_eq_true rfl)⟩) hA hP hD hS (zrg 0 1 ++ (zrg 1 15 ++ zrg 16 15)) (z_mcat (z_hd (n := 1) rfl) (z_mcat (z_sk (n := 1) (off := 0) (m := 15) rfl (z_hd (n := 15) rfl)) (z_sk (n := 1) (off := 15) (m := 15) rfl (z_sk (n := 15) (off := 0) (m := 15) rfl (z_hdl (n := 15) rfl))))) (z_mfst rfl (z_mfst rfl rfl)) (fun H locs hP hD hS => ?_)
  have hz_3 : zset (wFac k a0 S0 ++ (wPlant k (subA a0 1) S1 ++ wPlant k (subA a0 16) S2)) (zrg 0 1) (wFac k a0 S0) = wFac k a0 S0 ++ (wPlant k (subA a0 1) S1 ++ wPlant k (subA a0 16) S2) := (z_zhd (n := 1) rfl rfl)
  have hz_4 : zset (wFac k a0 S0 ++ (wPlant k (subA a0 1) S1 ++ wPlant k (subA a0 16) S2)) (zrg 1 15) (wPlant k (subA a0 1) S1) = wFac k a0 S0 ++ (wPlant k (subA a0 1) S1 ++ wPlant k (subA a0 16) S2) := (z_zsk (n := 1) (off := 0) (m := 15) rfl (z_zhd (n := 15) rfl rfl))
  have hz_5 : zset (wFac k a0 S0 ++ (wPlant k (subA a0 1) S1 ++ wPlant k (subA a0 16) S2)) (zrg 16 15) (wPlant k (subA a0 16) ((wSellN wFirst (((wCopy S2 S1))) (S1 11 1).toNat))) = wFac k a0 S0 ++ (wPlant k (subA a0 1) S1 ++ wPlant k (subA a0 16) ((wSellN wFirst (((wCopy S2 S1))) (S1 11 1).toNat))) := (z_zsk (n := 1) (off := 15) (m := 15) rfl (z_zsk (n := 15) (off := 0) (m := 15) rfl (z_zhl (n := 15) rfl rfl)))
  have hE_2 : zset (wFac k a0 S0 ++ (wPlant k (subA a0 1) S1 ++ wPlant k (subA a0 16) S2)) (zrg 0 1 ++ (zrg 1 15 ++ zrg 16 15)) (wFac k a0 S0 ++ (wPlant k (subA a0 1) S1 ++ wPlant k (subA a0 16) ((wSellN wFirst (((wCopy S2 S1))) (S1 11 1).toNat)))) = wFac k a0 S0 ++ (wPlant k (subA a0 1) S1 ++ wPlant k (subA a0 16) ((wSellN wFirst (((wCopy S2 S1))) (S1 11 1).toNat))) := (z_zcat rfl hz_3 (z_zcat rfl hz_4 hz_5))
  have hP : va_P D vwCl (wFac k a0 S0 ++ (wPlant k (subA a0 1) S1 ++ wPlant k (subA a0 16) ((wSellN wFirst (((wCopy S2 S1))) (S1 11 1).toNat)))) H := z_to hE_2 hP
  have hD : va_D A (wFac k a0 S0 ++ (wPlant k (subA a0 1) S1 ++ wPlant k (subA a0 16) ((wSellN wFirst (((wCopy S2 S1))) (S1 11 1).toNat)))) := z_to2 hE_2 hD
  have ob_6 : aOK ((wSellN wFirst (((wCopy S2 S1))) (S1 11 1).toNat)) := wSellN_a hat hp
  have f_7 : -1000000000 ≤ S1 11 1 ∧ S1 11 1 ≤ 1000000000 := (pOK_b hp 11 (by decide)) 1
  exact z_iret hx hb hr hlocks hP hS dX7_allPrices_16 rfl rfl (Nat.le_refl _) (Nat.le_refl _)
set_option maxHeartbeats 4000000 in
set_option maxRecDepth 100000 in
theorem c_X7_allPrices_t (l : Launch) (D : va_G) (k : Nat → ClassId) (a0 : Nat → Nat) (S0 : Nat → Nat → Int) (S1 : Nat → Nat → Int) (p0 : Int) (hp : pOK S1) (h0 : -2147483648 ≤ p0 ∧ p0 < 2147483648) (hn : ¬ p0 = 0) : zMi l yX7_allPrices wsX7_allPrices ({ frames := 3, cells := 0, slots := 0, locals := 67 } : Room) D k [.ref (a0 0), .int (iI p0)] (wFac k a0 S0 ++ wPlant k (subA a0 1) S1) (wByPlaces (S1 12) (S1 11 1) (S1 0 9)) (wFac k a0 S0 ++ wPlant k (subA a0 1) S1) 0 0 := by
  refine zMi_of (cc := cX7_allPrices) (maxL := 2) (ret := (some .int)) (by decide) rfl (Nat.le_of_ble_eq_true rfl) ?_
  intro p e s m args below meth c A ls hx hb hr hml hown hts hlocks hK hP hD hG hA hS hl
  have hown : s.vm.findClass RX7 = some m.cls := hown
  have hl : lv_has ls 2 [(0, .ref (a0 0)), (1, .int (iI p0))] := hl
  obtain ⟨H, hH⟩ : ∃ z, z = s.heap := ⟨_, rfl⟩
  obtain ⟨locs, hlc⟩ : ∃ z : List Loc, z = [] := ⟨_, rfl⟩
  rw [← hH] at hP
  have hS : va_S A s.heap H locs := by rw [hH, hlc]; exact hS
  rw [← hlc, ← hH]
  clear hlc hH
  have kp := hp.2
  refine lv_iload_n hx hb dX7_allPrices_0 rfl (lv_at hl 1 rfl) ?_
  refine zi_if_eq (tgt := 11) hx hb dX7_allPrices_1 (by decide) ⟨by omega, by omega⟩ (fun c_1 => absurd c_1 (by omega)) (fun _ => ?_)
  refine lv_aload_n hx hb dX7_allPrices_4 rfl (lv_at hl 0 rfl) ?_
  refine z_ai0 (va_runV (As := []) (rest := []) ⟨hx, hb, hml, hown, hts⟩ (c_X7_pricesByPlaces l D k a0 S0 S1   hp _) (cwV 0 hts gX7_allPrices_X7_pricesByPlaces rfl rfl rfl (by decide +kernel) ⟨(Nat.le_of_ble_eq_true rfl), (Nat.le_of_ble_eq_true rfl)⟩) (z_preV hK hG hA hP hD hS (zrg 0 1 ++ zrg 1 15) (z_mcat (z_hd (n := 1) rfl) (z_sk (n := 1) (off := 0) (m := 15) rfl (z_hdl (n := 15) rfl))) (by decide +kernel) 9 rfl rfl) rfl rfl hl.1 rfl (lv_room (Nat.le_of_ble_eq_true rfl)) dX7_allPrices_5 ⟨(Nat.le_of_ble_eq_true rfl), (Nat.le_of_ble_eq_true rfl)⟩) hA hP hD hS (zrg 0 1 ++ zrg 1 15) (z_mcat (z_hd (n := 1) rfl) (z_sk (n := 1) (off := 0) (m := 15) rfl (z_hdl (n := 15) rfl))) (fun H locs hP hS => ?_)
  have f_2 : -1000000000 ≤ S1 11 1 ∧ S1 11 1 ≤ 1000000000 := (pOK_b hp 11 (by decide)) 1
  have f_3 : -1000000000 ≤ S1 0 9 ∧ S1 0 9 ≤ 1000000000 := (pOK_b hp 0 (by decide)) 9
  refine lv_goto (tgt := 16) hx hb dX7_allPrices_8 (by decide) ?_
  exact z_iret hx hb hr hlocks hP hS dX7_allPrices_16 rfl rfl (Nat.le_refl _) (Nat.le_refl _)
set_option maxHeartbeats 4000000 in
set_option maxRecDepth 100000 in
theorem c_X7_bestOrder (l : Launch) (D : va_G) (k : Nat → ClassId) (a0 : Nat → Nat) (S0 : Nat → Nat → Int) (S1 : Nat → Nat → Int) (S2 : Nat → Nat → Int) (hp : pOK S1) (hat : aOK S2) : zMi l yX7_bestOrder wsX7_bestOrder ({ frames := 5, cells := 0, slots := 0, locals := 127 } : Room) D k [.ref (a0 0)] (wFac k a0 S0 ++ (wPlant k (subA a0 1) S1 ++ wPlant k (subA a0 16) S2)) ((wSellV wDear (((wCopy S2 S1))) (S1 11 1).toNat) - (wSellV wFirst (((wCopy ((wSellN wDear (((wCopy S2 S1))) (S1 11 1).toNat)) S1))) (S1 11 1).toNat)) (wFac k a0 S0 ++ (wPlant k (subA a0 1) S1 ++ wPlant k (subA a0 16) ((wSellN wFirst (((wCopy ((wSellN wDear (((wCopy S2 S1))) (S1 11 1).toNat)) S1))) (S1 11 1).toNat)))) 0 0 := by
  refine zMi_of (cc := cX7_bestOrder) (maxL := 1) (ret := (some .int)) (by decide) rfl (Nat.le_of_ble_eq_true rfl) ?_
  intro p e s m args below meth c A ls hx hb hr hml hown hts hlocks hK hP hD hG hA hS hl
  have hown : s.vm.findClass RX7 = some m.cls := hown
  have hl : lv_has ls 1 [(0, .ref (a0 0))] := hl
  obtain ⟨H, hH⟩ : ∃ z, z = s.heap := ⟨_, rfl⟩
  obtain ⟨locs, hlc⟩ : ∃ z : List Loc, z = [] := ⟨_, rfl⟩
  rw [← hH] at hP
  have hS : va_S A s.heap H locs := by rw [hH, hlc]; exact hS
  rw [← hlc, ← hH]
  clear hlc hH
  have kp := hp.2
  refine lv_aload_n hx hb dX7_bestOrder_0 rfl (lv_at hl 0 rfl) ?_
  refine lv_iconst (v := iI 1) hx hb dX7_bestOrder_1 rfl ?_
  refine z_ai (va_runV (As := [.int (iI 1)]) (rest := []) ⟨hx, hb, hml, hown, hts⟩ (c_X7_pricesInThought_1 l D k a0 S0 S1 S2   hp hat _) (cwV 1 hts gX7_bestOrder_X7_pricesInThought rfl rfl rfl (by decide +kernel) ⟨(Nat.le_of_ble_eq_true rfl), (Nat.le_of_ble_eq_true rfl)⟩) (z_preV hK hG hA hP hD hS (zrg 0 1 ++ (zrg 1 15 ++ zrg 16 15)) (z_mcat (z_hd (n := 1) rfl) (z_mcat (z_sk (n := 1) (off := 0) (m := 15) rfl (z_hd (n := 15) rfl)) (z_sk (n := 1) (off := 15) (m := 15) rfl (z_sk (n := 15) (off := 0) (m := 15) rfl (z_hdl (n := 15) rfl))))) (by decide +kernel) 9 rfl rfl) rfl rfl hl.1 rfl (lv_room (Nat.le_of_ble_eq_true rfl)) dX7_bestOrder_2 ⟨(Nat.le_of_ble_eq_true rfl), (Nat.le_of_ble_eq_true rfl)⟩) hA hP hD hS (zrg 0 1 ++ (zrg 1 15 ++ zrg 16 15)) (z_mcat (z_hd (n := 1) rfl) (z_mcat (z_sk (n := 1) (off := 0) (m := 15) rfl (z_hd (n := 15) rfl)) (z_sk (n := 1) (off := 15) (m := 15) rfl (z_sk (n := 15) (off := 0) (m := 15) rfl (z_hdl (n := 15) rfl))))) (z_mfst rfl (z_mfst rfl rfl)) (fun H locs hP hD hS => ?_)
  have hz_2 : zset (wFac k a0 S0 ++ (wPlant k (subA a0 1) S1 ++ wPlant k (subA a0 16) S2)) (zrg 0 1) (wFac k a0 S0) = wFac k a0 S0 ++ (wPlant k (subA a0 1) S1 ++ wPlant k (subA a0 16) S2) := (z_zhd (n := 1) rfl rfl)
  have hz_3 : zset (wFac k a0 S0 ++ (wPlant k (subA a0 1) S1 ++ wPlant k (subA a0 16) S2)) (zrg 1 15) (wPlant k (subA a0 1) S1) = wFac k a0 S0 ++ (wPlant k (subA a0 1) S1 ++ wPlant k (subA a0 16) S2) := (z_zsk (n := 1) (off := 0) (m := 15) rfl (z_zhd (n := 15) rfl rfl))
  have hz_4 : zset (wFac k a0 S0 ++ (wPlant k (subA a0 1) S1 ++ wPlant k (subA a0 16) S2)) (zrg 16 15) (wPlant k (subA a0 16) ((wSellN wDear (((wCopy S2 S1))) (S1 11 1).toNat))) = wFac k a0 S0 ++ (wPlant k (subA a0 1) S1 ++ wPlant k (subA a0 16) ((wSellN wDear (((wCopy S2 S1))) (S1 11 1).toNat))) := (z_zsk (n := 1) (off := 15) (m := 15) rfl (z_zsk (n := 15) (off := 0) (m := 15) rfl (z_zhl (n := 15) rfl rfl)))
  have hE_1 : zset (wFac k a0 S0 ++ (wPlant k (subA a0 1) S1 ++ wPlant k (subA a0 16) S2)) (zrg 0 1 ++ (zrg 1 15 ++ zrg 16 15)) (wFac k a0 S0 ++ (wPlant k (subA a0 1) S1 ++ wPlant k (subA a0 16) ((wSellN wDear (((wCopy S2 S1))) (S1 11 1).toNat)))) = wFac k a0 S0 ++ (wPlant k (subA a0 1) S1 ++ wPlant k (subA a0 16) ((wSellN wDear (((wCopy S2 S1))) (S1 11 1).toNat))) := (z_zcat rfl hz_2 (z_zcat rfl hz_3 hz_4))
  have hP : va_P D vwCl (wFac k a0 S0 ++ (wPlant k (subA a0 1) S1 ++ wPlant k (subA a0 16) ((wSellN wDear (((wCopy S2 S1))) (S1 11 1).toNat)))) H := z_to hE_1 hP
  have hD : va_D A (wFac k a0 S0 ++ (wPlant k (subA a0 1) S1 ++ wPlant k (subA a0 16) ((wSellN wDear (((wCopy S2 S1))) (S1 11 1).toNat)))) := z_to2 hE_1 hD
  have ob_5 : aOK ((wSellN wDear (((wCopy S2 S1))) (S1 11 1).toNat)) := wSellN_a hat hp
  have f_6 : -1000000000 ≤ S1 11 1 ∧ S1 11 1 ≤ 1000000000 := (pOK_b hp 11 (by decide)) 1
  refine lv_aload_n hx hb dX7_bestOrder_5 rfl (lv_at hl 0 rfl) ?_
  refine lv_iconst (v := iI 0) hx hb dX7_bestOrder_6 rfl ?_
  refine z_ai (va_runV (As := [.int (iI 0)]) (rest := [.int (iI (wSellV wDear (((wCopy S2 S1))) (S1 11 1).toNat))]) ⟨hx, hb, hml, hown, hts⟩ (c_X7_pricesInThought_0 l D k a0 S0 S1 ((wSellN wDear (((wCopy S2 S1))) (S1 11 1).toNat))   hp ob_5 _) (cwV 1 hts gX7_bestOrder_X7_pricesInThought rfl rfl rfl (by decide +kernel) ⟨(Nat.le_of_ble_eq_true rfl), (Nat.le_of_ble_eq_true rfl)⟩) (z_preV hK hG hA hP hD hS (zrg 0 1 ++ (zrg 1 15 ++ zrg 16 15)) (z_mcat (z_hd (n := 1) rfl) (z_mcat (z_sk (n := 1) (off := 0) (m := 15) rfl (z_hd (n := 15) rfl)) (z_sk (n := 1) (off := 15) (m := 15) rfl (z_sk (n := 15) (off := 0) (m := 15) rfl (z_hdl (n := 15) rfl))))) (by decide +kernel) 9 rfl rfl) rfl rfl hl.1 rfl (lv_room (Nat.le_of_ble_eq_true rfl)) dX7_bestOrder_7 ⟨(Nat.le_of_ble_eq_true rfl), (Nat.le_of_ble_eq_true rfl)⟩) hA hP hD hS (zrg 0 1 ++ (zrg 1 15 ++ zrg 16 15)) (z_mcat (z_hd (n := 1) rfl) (z_mcat (z_sk (n := 1) (off := 0) (m := 15) rfl (z_hd (n := 15) rfl)) (z_sk (n := 1) (off := 15) (m := 15) rfl (z_sk (n := 15) (off := 0) (m := 15) rfl (z_hdl (n := 15) rfl))))) (z_mfst rfl (z_mfst rfl rfl)) (fun H locs hP hD hS => ?_)
  have hz_8 : zset (wFac k a0 S0 ++ (wPlant k (subA a0 1) S1 ++ wPlant k (subA a0 16) ((wSellN wDear (((wCopy S2 S1))) (S1 11 1).toNat)))) (zrg 0 1) (wFac k a0 S0) = wFac k a0 S0 ++ (wPlant k (subA a0 1) S1 ++ wPlant k (subA a0 16) ((wSellN wDear (((wCopy S2 S1))) (S1 11 1).toNat))) := (z_zhd (n := 1) rfl rfl)
  have hz_9 : zset (wFac k a0 S0 ++ (wPlant k (subA a0 1) S1 ++ wPlant k (subA a0 16) ((wSellN wDear (((wCopy S2 S1))) (S1 11 1).toNat)))) (zrg 1 15) (wPlant k (subA a0 1) S1) = wFac k a0 S0 ++ (wPlant k (subA a0 1) S1 ++ wPlant k (subA a0 16) ((wSellN wDear (((wCopy S2 S1))) (S1 11 1).toNat))) := (z_zsk (n := 1) (off := 0) (m := 15) rfl (z_zhd (n := 15) rfl rfl))
  have hz_10 : zset (wFac k a0 S0 ++ (wPlant k (subA a0 1) S1 ++ wPlant k (subA a0 16) ((wSellN wDear (((wCopy S2 S1))) (S1 11 1).toNat)))) (zrg 16 15) (wPlant k (subA a0 16) ((wSellN wFirst (((wCopy ((wSellN wDear (((wCopy S2 S1))) (S1 11 1).toNat)) S1))) (S1 11 1).toNat))) = wFac k a0 S0 ++ (wPlant k (subA a0 1) S1 ++ wPlant k (subA a0 16) ((wSellN wFirst (((wCopy ((wSellN wDear (((wCopy S2 S1))) (S1 11 1).toNat)) S1))) (S1 11 1).toNat))) := (z_zsk (n := 1) (off := 15) (m := 15) rfl (z_zsk (n := 15) (off := 0) (m := 15) rfl (z_zhl (n := 15) rfl rfl)))
  have hE_7 : zset (wFac k a0 S0 ++ (wPlant k (subA a0 1) S1 ++ wPlant k (subA a0 16) ((wSellN wDear (((wCopy S2 S1))) (S1 11 1).toNat)))) (zrg 0 1 ++ (zrg 1 15 ++ zrg 16 15)) (wFac k a0 S0 ++ (wPlant k (subA a0 1) S1 ++ wPlant k (subA a0 16) ((wSellN wFirst (((wCopy ((wSellN wDear (((wCopy S2 S1))) (S1 11 1).toNat)) S1))) (S1 11 1).toNat)))) = wFac k a0 S0 ++ (wPlant k (subA a0 1) S1 ++ wPlant k (subA a0 16) ((wSellN wFirst (((wCopy ((wSellN wDear (((wCopy S2 S1))) (S1 11 1).toNat)) S1))) (S1 11 1).toNat))) := (z_zcat rfl hz_8 (z_zcat rfl hz_9 hz_10))
  have hP : va_P D vwCl (wFac k a0 S0 ++ (wPlant k (subA a0 1) S1 ++ wPlant k (subA a0 16) ((wSellN wFirst (((wCopy ((wSellN wDear (((wCopy S2 S1))) (S1 11 1).toNat)) S1))) (S1 11 1).toNat)))) H := z_to hE_7 hP
  have hD : va_D A (wFac k a0 S0 ++ (wPlant k (subA a0 1) S1 ++ wPlant k (subA a0 16) ((wSellN wFirst (((wCopy ((wSellN wDear (((wCopy S2 S1))) (S1 11 1).toNat)) S1))) (S1 11 1).toNat)))) := z_to2 hE_7 hD
  have ob_11 : aOK ((wSellN wFirst (((wCopy ((wSellN wDear (((wCopy S2 S1))) (S1 11 1).toNat)) S1))) (S1 11 1).toNat)) := wSellN_a ob_5 hp
  refine zi_sub hx hb dX7_bestOrder_10 ?_
  exact z_iret hx hb hr hlocks hP hS dX7_bestOrder_11 rfl rfl (Nat.le_refl _) (Nat.le_refl _)
