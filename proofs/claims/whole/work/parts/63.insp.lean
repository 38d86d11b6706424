/-! the freshest inspector; what a carrier fails at; an inspection -/
theorem sumI_cg {f g : Int → Int} {x : Int} (h : ∀ k, 0 ≤ k → k < x → f k = g k) : sumI f x = sumI g x := by
  have key : ∀ n : Nat, (n : Int) ≤ x → sumZ (fun k => f (k : Int)) n = sumZ (fun k => g (k : Int)) n := by
    intro n
    induction n with
    | zero => intro _; rfl
    | succ n ih =>
      intro hn
      show sumZ (fun k => f (k : Int)) n + f (n : Int) = sumZ (fun k => g (k : Int)) n + g (n : Int)
      rw [ih (by omega), h (n : Int) (by omega) (by omega)]
  by_cases hx : 0 ≤ x
  · exact key x.toNat (by omega)
  · unfold sumI
    rw [show x.toNat = 0 by omega]
    rfl
theorem sumI_zero {f : Int → Int} {x : Int} (hx : 0 ≤ x) (h : ∀ k, 0 ≤ k → k < x → f k = 0) : sumI f x = 0 := by
  have a := sumI_bd (f := f) (M := 0) hx (fun k k0 k1 => by rw [h k k0 k1]; omega)
  omega
theorem sumI_ge {f : Int → Int} {x r : Int} (h : ∀ k, 0 ≤ f k) (r0 : 0 ≤ r) (r1 : r < x) : f r ≤ sumI f x := by
  have key : ∀ n : Nat, 0 ≤ sumZ (fun k => f (k : Int)) n ∧ (r < (n : Int) → f r ≤ sumZ (fun k => f (k : Int)) n) := by
    intro n
    induction n with
    | zero => exact ⟨Int.le_refl 0, fun q => by omega⟩
    | succ n ih =>
      have e : sumZ (fun k => f (k : Int)) (n + 1) = sumZ (fun k => f (k : Int)) n + f (n : Int) := rfl
      have hn := h (n : Int)
      rw [e]
      refine ⟨by omega, fun q => ?_⟩
      by_cases z : r = (n : Int)
      · rw [z]; omega
      · have := ih.2 (by omega); omega
  exact (key x.toNat).2 (by omega)
def lexm (Y : Int → Int) (c r : Int) : Prop := (0 ≤ r ∧ r < c) ∧ ∀ o : Int, 0 ≤ o → o < c → Y r < Y o ∨ (Y r = Y o ∧ r ≤ o)
theorem next_min {R : Nat → Nat → Int} (hc : 1 ≤ R 1 9 ∧ R 1 9 ≤ 4) : lexm (fun o => R 1 (11 + o).toNat) (R 1 9) (sp_X8_nextOne R) := by
  have key : ∀ (n : Nat) (x1 x2 : Int), 0 ≤ x2 → x2 ≤ R 1 9 → (R 1 9 - x2).toNat < n → ((x1 = -1 ∧ x2 = 0) ∨ ((0 ≤ x1 ∧ x1 < x2) ∧ ∀ o : Int, 0 ≤ o → o < x2 → R 1 (11 + x1).toNat < R 1 (11 + o).toNat ∨ (R 1 (11 + x1).toNat = R 1 (11 + o).toNat ∧ x1 ≤ o))) → lexm (fun o => R 1 (11 + o).toNat) (R 1 9) (sp_X8_nextOne_L4 R n x1 x2) := by
    intro n
    induction n with
    | zero => intro x1 x2 _ _ h; exact absurd h (Nat.not_lt_zero _)
    | succ n ih =>
      intro x1 x2 h0 h1 hm hI
      unfold sp_X8_nextOne_L4
      rcases Classical.em (R 1 9 ≤ x2) with c | c
      · rw [zif_pos c]
        rcases hI with ⟨e1, e2⟩ | ⟨⟨a0, a1⟩, a2⟩
        · omega
        · exact ⟨⟨a0, by omega⟩, fun o o0 o1 => a2 o o0 (by omega)⟩
      · rw [zif_neg c]
        rcases Classical.em (x1 < 0) with c2 | c2
        · rw [zif_pos c2]
          rcases hI with ⟨e1, e2⟩ | ⟨⟨a0, a1⟩, a2⟩
          · exact ih x2 (x2 + 1) (by omega) (by omega) (by omega) (Or.inr ⟨by omega, fun o o0 o1 => by rw [show o = x2 by omega]; exact Or.inr ⟨rfl, Int.le_refl _⟩⟩)
          · omega
        · rw [zif_neg c2]
          rcases hI with ⟨e1, e2⟩ | ⟨⟨a0, a1⟩, a2⟩
          · omega
          · rcases Classical.em (R 1 (11 + x1).toNat ≤ R 1 (11 + x2).toNat) with c3 | c3
            · rw [zif_pos c3]
              refine ih x1 (x2 + 1) (by omega) (by omega) (by omega) (Or.inr ⟨by omega, fun o o0 o1 => ?_⟩)
              by_cases q : o = x2
              · rw [q]; omega
              · exact a2 o o0 (by omega)
            · rw [zif_neg c3]
              refine ih x2 (x2 + 1) (by omega) (by omega) (by omega) (Or.inr ⟨by omega, fun o o0 o1 => ?_⟩)
              by_cases q : o = x2
              · rw [q]; exact Or.inr ⟨rfl, Int.le_refl _⟩
              · have := a2 o o0 (by omega); omega
  exact key 5 (-1) 0 (by omega) (by omega) (by omega) (Or.inl ⟨rfl, rfl⟩)
theorem ahead_lex {Y : Nat → Int} {c r : Int} (h : lexm (fun o => Y o.toNat) c r) : wAhead Y c r = 0 ∧ ∀ i : Int, 0 ≤ i → i < r → 1 ≤ wAhead Y c i := by
  obtain ⟨⟨r0, r1⟩, hr⟩ := h
  refine ⟨sumI_zero (by omega) (fun o o0 o1 => zif_neg (fun q => ?_)), fun i i0 i1 => ?_⟩
  · have a : Y r.toNat < Y o.toNat ∨ (Y r.toNat = Y o.toNat ∧ r ≤ o) := hr o o0 o1
    omega
  · have a : Y r.toNat < Y i.toNat ∨ (Y r.toNat = Y i.toNat ∧ r ≤ i) := hr i i0 (by omega)
    have g := sumI_ge (f := fun o => zif (Y o.toNat < Y i.toNat ∨ (Y o.toNat = Y i.toNat ∧ o < i)) 1 0) (x := c) (fun k => (zif_01 _).1) r0 r1
    rw [show zif (Y r.toNat < Y i.toNat ∨ (Y r.toNat = Y i.toNat ∧ r < i)) (1 : Int) 0 = 1 from zif_pos (by omega)] at g
    exact g
/-- the freshest of all -/
theorem fresh_next {S R : Nat → Nat → Int} (h : relY (S 13 1) (S 14) (R 1)) (hc : 1 ≤ S 13 1) : sp_X1_freshAt (sub2 S 13) 0 = sp_X8_nextOne R := by
  have h9 := h.2.1
  have h4 := h.1
  have hn := next_min (R := R) (by omega)
  have hl : lexm (fun o => S 14 o.toNat) (S 13 1) (sp_X8_nextOne R) := by
    obtain ⟨⟨r0, r1⟩, hr⟩ := hn
    refine ⟨⟨r0, by omega⟩, fun o o0 o1 => ?_⟩
    have a : R 1 (11 + sp_X8_nextOne R).toNat < R 1 (11 + o).toNat ∨ (R 1 (11 + sp_X8_nextOne R).toNat = R 1 (11 + o).toNat ∧ sp_X8_nextOne R ≤ o) := hr o o0 (by omega)
    have e1 := (h.2.2 (sp_X8_nextOne R) r0 (by omega)).1
    have e2 := (h.2.2 o o0 o1).1
    show S 14 (sp_X8_nextOne R).toNat < S 14 o.toNat ∨ (S 14 (sp_X8_nextOne R).toNat = S 14 o.toNat ∧ sp_X8_nextOne R ≤ o)
    rw [e1, e2]
    exact a
  obtain ⟨z, p⟩ := ahead_lex hl
  have hr0 := hl.1
  generalize sp_X8_nextOne R = r at z p hr0 ⊢
  have z0 : sub2 S 13 0 = S 13 := rfl
  have z1 : sub2 S 13 1 = S 14 := rfl
  have key : ∀ (n : Nat) (x : Int), 0 ≤ x → x ≤ r → (r - x).toNat < n → sp_X1_freshAt_L2 (sub2 S 13) 0 n x = r := by
    intro n
    induction n with
    | zero => intro x _ _ hm; exact absurd hm (Nat.not_lt_zero _)
    | succ n ih =>
      intro x x0 x1 hm
      unfold sp_X1_freshAt_L2
      rw [z0, z1, zif_neg (by omega)]
      by_cases q : x = r
      · rw [q, zif_pos z]
      · have := p x x0 (by omega)
        rw [zif_neg (by omega)]
        exact ih (x + 1) (by omega) (by omega) (by omega)
  exact key 5 0 (by omega) hr0.1 (by omega)
set_option maxHeartbeats 8000000 in
/-- the first test failed -/
theorem fail_eq {R : Nat → Nat → Int} {L : Nat → Nat → Int} {b k g a y : Int} (hy : 0 ≤ y ∧ y ≤ 9) (hb : R 1 (15 + 26 * b + (6 + 4 * k + 0)).toNat = 0) (hg : R 1 (15 + 26 * b + (6 + 4 * k + 1)).toNat = g) (ha : R 1 (15 + 26 * b + (6 + 4 * k + 2)).toNat = a) (h1 : R 1 (15 + 26 * b + 1).toNat = L 0 1) (h2 : R 1 (15 + 26 * b + 2).toNat = L 0 2) (h3 : R 1 (15 + 26 * b + 3).toNat = L 0 3) : sp_X8_failed R b k y = sp_X5_firstFailed L g a y := by
  unfold sp_X8_failed sp_X5_firstFailed
  rw [zif_neg (by omega)]
  obtain ⟨T, ht, hT⟩ : ∃ T, sp_X8_tests y = T ∧ ((y = 9 ∧ T = 1) ∨ ((6 ≤ y ∧ y ≤ 8) ∧ T = 2) ∨ (y ≤ 5 ∧ T = 3)) := by
    refine ⟨_, rfl, ?_⟩
    unfold sp_X8_tests
    rcases (show y = 9 ∨ (6 ≤ y ∧ y ≤ 8) ∨ y ≤ 5 by omega) with q | q | q
    · rw [zif_pos (by omega)]; exact Or.inl ⟨q, rfl⟩
    · rw [zif_neg (by omega), zif_neg (by omega)]; exact Or.inr (Or.inl ⟨q, rfl⟩)
    · rw [zif_neg (by omega), zif_pos (by omega)]; exact Or.inr (Or.inr ⟨q, rfl⟩)
  unfold sp_X8_failed_L14 sp_X5_firstFailed_L3
  unfold sp_X8_failed_L14 sp_X5_firstFailed_L3
  unfold sp_X8_failed_L14 sp_X5_firstFailed_L3
  unfold sp_X8_failed_L14 sp_X5_firstFailed_L3
  unfold wPassed wLeft
  rw [hg, ha, h1, h2, h3, ht]
  clear hg ha h1 h2 h3 ht hb
  generalize L 0 1 = n1
  generalize L 0 2 = n2
  generalize L 0 3 = n3
  rcases Classical.em (n1 ≤ g) with q1 | q1 <;> rcases Classical.em (a ≤ n2) with q2 | q2 <;> rcases Classical.em (g = n3) with q3 | q3 <;> rcases hT with q | q | q <;> (repeat (first | rw [zif_pos (by omega)] | rw [zif_neg (by omega)]))
