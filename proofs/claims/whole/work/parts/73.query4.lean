/-! ranks -/
theorem rk_pair (a b i j : Int) (h : i < j) : ∃ x : Int, zif (a < b ∨ (a = b ∧ i < j)) (1 : Int) 0 = x ∧ zif (b < a ∨ (b = a ∧ j < i)) (1 : Int) 0 = 1 - x ∧ ((x = 1 ∧ a ≤ b) ∨ (x = 0 ∧ b < a)) := by
  rcases Classical.em (a ≤ b) with q | q
  · exact ⟨1, zif_pos (by omega), zif_neg (by omega), Or.inl ⟨rfl, q⟩⟩
  · exact ⟨0, zif_neg (by omega), zif_pos (by omega), Or.inr ⟨rfl, by omega⟩⟩
theorem rk_self (a i : Int) : zif (a < a ∨ (a = a ∧ i < i)) (1 : Int) 0 = 0 := zif_neg (by omega)
noncomputable def rkF (Y : Int → Int) (k : Int) : Int → Int := fun o => zif (Y o < Y k ∨ (Y o = Y k ∧ o < k)) 1 0
theorem sumI_1 (f : Int → Int) : sumI f 1 = f 0 := by
  show (0 + f ((0 : Nat) : Int)) = _
  rw [Int.zero_add]
  rfl
set_option maxHeartbeats 4000000 in
theorem rank_1 (Y : Int → Int) (p : Int) (h0 : 0 ≤ p) (h1 : p < 1) : ∃ k : Int, (0 ≤ k ∧ k < 1) ∧ sumI (rkF Y k) 1 = p := by
  refine Classical.byContradiction (fun hno => ?_)
  have k0 : ¬ sumI (rkF Y 0) 1 = p := fun e => hno ⟨0, ⟨by decide, by decide⟩, e⟩
  have s0 : rkF Y 0 0 = 0 := rk_self _ _
  rw [sumI_1, s0] at k0
  omega
theorem sumI_2 (f : Int → Int) : sumI f 2 = f 0 + f 1 := by
  show ((0 + f ((0 : Nat) : Int)) + f ((1 : Nat) : Int)) = _
  rw [Int.zero_add]
  rfl
set_option maxHeartbeats 4000000 in
theorem rank_2 (Y : Int → Int) (p : Int) (h0 : 0 ≤ p) (h1 : p < 2) : ∃ k : Int, (0 ≤ k ∧ k < 2) ∧ sumI (rkF Y k) 2 = p := by
  refine Classical.byContradiction (fun hno => ?_)
  have k0 : ¬ sumI (rkF Y 0) 2 = p := fun e => hno ⟨0, ⟨by decide, by decide⟩, e⟩
  have k1 : ¬ sumI (rkF Y 1) 2 = p := fun e => hno ⟨1, ⟨by decide, by decide⟩, e⟩
  obtain ⟨x01, a01, b01, d01⟩ := rk_pair (Y 0) (Y 1) 0 1 (by decide)
  have s0 : rkF Y 0 0 = 0 := rk_self _ _
  have s1 : rkF Y 1 1 = 0 := rk_self _ _
  have e01 : rkF Y 1 0 = x01 := a01
  have f01 : rkF Y 0 1 = 1 - x01 := b01
  rw [sumI_2, s0, f01] at k0
  rw [sumI_2, e01, s1] at k1
  rcases d01 with ⟨d01, _⟩ | ⟨d01, _⟩ <;> omega
theorem sumI_3 (f : Int → Int) : sumI f 3 = f 0 + f 1 + f 2 := by
  show (((0 + f ((0 : Nat) : Int)) + f ((1 : Nat) : Int)) + f ((2 : Nat) : Int)) = _
  rw [Int.zero_add]
  rfl
set_option maxHeartbeats 4000000 in
theorem rank_3 (Y : Int → Int) (p : Int) (h0 : 0 ≤ p) (h1 : p < 3) : ∃ k : Int, (0 ≤ k ∧ k < 3) ∧ sumI (rkF Y k) 3 = p := by
  refine Classical.byContradiction (fun hno => ?_)
  have k0 : ¬ sumI (rkF Y 0) 3 = p := fun e => hno ⟨0, ⟨by decide, by decide⟩, e⟩
  have k1 : ¬ sumI (rkF Y 1) 3 = p := fun e => hno ⟨1, ⟨by decide, by decide⟩, e⟩
  have k2 : ¬ sumI (rkF Y 2) 3 = p := fun e => hno ⟨2, ⟨by decide, by decide⟩, e⟩
  obtain ⟨x01, a01, b01, d01⟩ := rk_pair (Y 0) (Y 1) 0 1 (by decide)
  obtain ⟨x02, a02, b02, d02⟩ := rk_pair (Y 0) (Y 2) 0 2 (by decide)
  obtain ⟨x12, a12, b12, d12⟩ := rk_pair (Y 1) (Y 2) 1 2 (by decide)
  have s0 : rkF Y 0 0 = 0 := rk_self _ _
  have s1 : rkF Y 1 1 = 0 := rk_self _ _
  have s2 : rkF Y 2 2 = 0 := rk_self _ _
  have e01 : rkF Y 1 0 = x01 := a01
  have f01 : rkF Y 0 1 = 1 - x01 := b01
  have e02 : rkF Y 2 0 = x02 := a02
  have f02 : rkF Y 0 2 = 1 - x02 := b02
  have e12 : rkF Y 2 1 = x12 := a12
  have f12 : rkF Y 1 2 = 1 - x12 := b12
  rw [sumI_3, s0, f01, f02] at k0
  rw [sumI_3, e01, s1, f12] at k1
  rw [sumI_3, e02, e12, s2] at k2
  rcases d01 with ⟨d01, _⟩ | ⟨d01, _⟩ <;> rcases d02 with ⟨d02, _⟩ | ⟨d02, _⟩ <;> rcases d12 with ⟨d12, _⟩ | ⟨d12, _⟩ <;> omega
theorem sumI_4 (f : Int → Int) : sumI f 4 = f 0 + f 1 + f 2 + f 3 := by
  show ((((0 + f ((0 : Nat) : Int)) + f ((1 : Nat) : Int)) + f ((2 : Nat) : Int)) + f ((3 : Nat) : Int)) = _
  rw [Int.zero_add]
  rfl
set_option maxHeartbeats 4000000 in
theorem rank_4 (Y : Int → Int) (p : Int) (h0 : 0 ≤ p) (h1 : p < 4) : ∃ k : Int, (0 ≤ k ∧ k < 4) ∧ sumI (rkF Y k) 4 = p := by
  refine Classical.byContradiction (fun hno => ?_)
  have k0 : ¬ sumI (rkF Y 0) 4 = p := fun e => hno ⟨0, ⟨by decide, by decide⟩, e⟩
  have k1 : ¬ sumI (rkF Y 1) 4 = p := fun e => hno ⟨1, ⟨by decide, by decide⟩, e⟩
  have k2 : ¬ sumI (rkF Y 2) 4 = p := fun e => hno ⟨2, ⟨by decide, by decide⟩, e⟩
  have k3 : ¬ sumI (rkF Y 3) 4 = p := fun e => hno ⟨3, ⟨by decide, by decide⟩, e⟩
  obtain ⟨x01, a01, b01, d01⟩ := rk_pair (Y 0) (Y 1) 0 1 (by decide)
  obtain ⟨x02, a02, b02, d02⟩ := rk_pair (Y 0) (Y 2) 0 2 (by decide)
  obtain ⟨x03, a03, b03, d03⟩ := rk_pair (Y 0) (Y 3) 0 3 (by decide)
  obtain ⟨x12, a12, b12, d12⟩ := rk_pair (Y 1) (Y 2) 1 2 (by decide)
  obtain ⟨x13, a13, b13, d13⟩ := rk_pair (Y 1) (Y 3) 1 3 (by decide)
  obtain ⟨x23, a23, b23, d23⟩ := rk_pair (Y 2) (Y 3) 2 3 (by decide)
  have s0 : rkF Y 0 0 = 0 := rk_self _ _
  have s1 : rkF Y 1 1 = 0 := rk_self _ _
  have s2 : rkF Y 2 2 = 0 := rk_self _ _
  have s3 : rkF Y 3 3 = 0 := rk_self _ _
  have e01 : rkF Y 1 0 = x01 := a01
  have f01 : rkF Y 0 1 = 1 - x01 := b01
  have e02 : rkF Y 2 0 = x02 := a02
  have f02 : rkF Y 0 2 = 1 - x02 := b02
  have e03 : rkF Y 3 0 = x03 := a03
  have f03 : rkF Y 0 3 = 1 - x03 := b03
  have e12 : rkF Y 2 1 = x12 := a12
  have f12 : rkF Y 1 2 = 1 - x12 := b12
  have e13 : rkF Y 3 1 = x13 := a13
  have f13 : rkF Y 1 3 = 1 - x13 := b13
  have e23 : rkF Y 3 2 = x23 := a23
  have f23 : rkF Y 2 3 = 1 - x23 := b23
  rw [sumI_4, s0, f01, f02, f03] at k0
  rw [sumI_4, e01, s1, f12, f13] at k1
  rw [sumI_4, e02, e12, s2, f23] at k2
  rw [sumI_4, e03, e13, e23, s3] at k3
  rcases d01 with ⟨d01, _⟩ | ⟨d01, _⟩ <;> rcases d02 with ⟨d02, _⟩ | ⟨d02, _⟩ <;> rcases d03 with ⟨d03, _⟩ | ⟨d03, _⟩ <;> rcases d12 with ⟨d12, _⟩ | ⟨d12, _⟩ <;> rcases d13 with ⟨d13, _⟩ | ⟨d13, _⟩ <;> rcases d23 with ⟨d23, _⟩ | ⟨d23, _⟩ <;> omega
theorem rank_ex (Y : Int → Int) (c p : Int) (hc : c ≤ 4) (h0 : 0 ≤ p) (h1 : p < c) : ∃ k : Int, (0 ≤ k ∧ k < c) ∧ sumI (rkF Y k) c = p := by
  rcases (show c = 1 ∨ c = 2 ∨ c = 3 ∨ c = 4 by omega) with q | q | q | q
  · subst q; exact rank_1 Y p h0 h1
  · subst q; exact rank_2 Y p h0 h1
  · subst q; exact rank_3 Y p h0 h1
  · subst q; exact rank_4 Y p h0 h1
theorem rank_lt (Y : Int → Int) (c k : Int) (k0 : 0 ≤ k) (k1 : k < c) : 0 ≤ sumI (rkF Y k) c ∧ sumI (rkF Y k) c < c := by
  have a := sumI_01 (f := rkF Y k) (x := c) (by omega) (fun j _ _ => zif_01 _)
  have g := sumI_ge (f := fun o => 1 - rkF Y k o) (x := c) (r := k) (fun j => by have := zif_01 (Y j < Y k ∨ (Y j = Y k ∧ j < k)); show 0 ≤ 1 - zif (Y j < Y k ∨ (Y j = Y k ∧ j < k)) (1 : Int) 0; omega) k0 k1
  have s : rkF Y k k = 0 := rk_self _ _
  have key : ∀ n : Nat, sumZ (fun j => (fun o => 1 - rkF Y k o) (j : Int)) n = (n : Int) - sumZ (fun j => rkF Y k (j : Int)) n := by
    intro n
    induction n with
    | zero => rfl
    | succ n ih =>
      show sumZ (fun j => (fun o => 1 - rkF Y k o) (j : Int)) n + (1 - rkF Y k (n : Int)) = ((n + 1 : Nat) : Int) - (sumZ (fun j => rkF Y k (j : Int)) n + rkF Y k (n : Int))
      rw [ih]
      omega
  have e : sumI (fun o => 1 - rkF Y k o) c = c - sumI (rkF Y k) c := by
    have z := key c.toNat
    show sumZ (fun j => (fun o => 1 - rkF Y k o) (j : Int)) c.toNat = c - sumZ (fun j => rkF Y k (j : Int)) c.toNat
    rw [z]
    omega
  have g : 1 - rkF Y k k ≤ sumI (fun o => 1 - rkF Y k o) c := g
  rw [e, s] at g
  omega
theorem ahead_rk {c : Int} {Y G : Nat → Int} (h : relY c Y G) {k : Int} (k0 : 0 ≤ k) (k1 : k < c) : wAhead Y c k = sumI (rkF (fun o => G (11 + o).toNat) k) c ∧ rBefore G k = sumI (rkF (fun o => G (11 + o).toNat) k) c := by
  constructor
  · refine sumI_cg (fun o o0 o1 => ?_)
    show zif (Y o.toNat < Y k.toNat ∨ (Y o.toNat = Y k.toNat ∧ o < k)) (1 : Int) 0 = zif (G (11 + o).toNat < G (11 + k).toNat ∨ (G (11 + o).toNat = G (11 + k).toNat ∧ o < k)) 1 0
    rw [(h.2.2 o o0 o1).1, (h.2.2 k k0 k1).1]
  · unfold rBefore
    rw [h.2.1]
    rfl
theorem fresh_all {P R : Nat → Nat → Int} {p : Int} (h : relY (P 13 1) (P 14) (R 1)) :
    (0 ≤ p ∧ p < P 13 1 → sp_X8_fresh R p = sp_X1_freshAt (sub2 P 13) p ∧ sS0_0_X8_fresh R p = upZ (R 0) 8 0) ∧ (¬ (0 ≤ p ∧ p < P 13 1) → sS0_0_X8_fresh R p = upZ (R 0) 8 1) := by
  have c4 := h.1
  have c9 := h.2.1
  have z0 : sub2 P 13 0 = P 13 := rfl
  have z1 : sub2 P 13 1 = P 14 := rfl
  constructor
  · intro hp
    obtain ⟨k, ⟨k0, k1⟩, hk⟩ := rank_ex (fun o => R 1 (11 + o).toNat) (P 13 1) p c4.2 hp.1 hp.2
    have key : ∀ (n : Nat) (x : Int), 0 ≤ x → x ≤ P 13 1 → (∀ i : Int, 0 ≤ i → i < x → ¬ sumI (rkF (fun o => R 1 (11 + o).toNat) i) (P 13 1) = p) → (P 13 1 - x).toNat < n → sp_X8_fresh_L2 R p n x = sp_X1_freshAt_L2 (sub2 P 13) p n x ∧ sS0_0_X8_fresh_L2 R p n x = upZ (R 0) 8 0 := by
      intro n
      induction n with
      | zero => intro x _ _ _ hm; exact absurd hm (Nat.not_lt_zero _)
      | succ n ih =>
        intro x x0 x1 hno hm
        have hx : x < P 13 1 := by
          refine Classical.byContradiction (fun q => hno k k0 (by omega) hk)
        obtain ⟨e1, e2⟩ := ahead_rk h x0 hx
        unfold sp_X8_fresh_L2 sp_X1_freshAt_L2 sS0_0_X8_fresh_L2
        have hx2 : ¬ P 13 1 ≤ x := by omega
        rw [z0, z1, c9, zif_neg hx2, zif_neg hx2, zif_neg hx2, e1, e2]
        rcases Classical.em (sumI (rkF (fun o => R 1 (11 + o).toNat) x) (P 13 1) = p) with q | q
        · rw [zif_pos q, zif_pos q, zif_pos q]; exact ⟨rfl, rfl⟩
        · rw [zif_neg q, zif_neg q, zif_neg q]
          exact ih (x + 1) (by omega) (by omega) (fun i i0 i1 => by
            by_cases z : i = x
            · rw [z]; exact q
            · exact hno i i0 (by omega)) (by omega)
    exact key 5 0 (by omega) (by omega) (fun i i0 i1 => by omega) (by omega)
  · intro hp
    have key : ∀ (n : Nat) (x : Int), 0 ≤ x → x ≤ P 13 1 → (P 13 1 - x).toNat < n → sS0_0_X8_fresh_L2 R p n x = upZ (R 0) 8 1 := by
      intro n
      induction n with
      | zero => intro x _ _ hm; exact absurd hm (Nat.not_lt_zero _)
      | succ n ih =>
        intro x x0 x1 hm
        unfold sS0_0_X8_fresh_L2
        rw [c9]
        rcases Classical.em (P 13 1 ≤ x) with q | q
        · rw [zif_pos q]
        · rw [zif_neg q]
          obtain ⟨e1, e2⟩ := ahead_rk h x0 (by omega)
          have r := rank_lt (fun o => R 1 (11 + o).toNat) (P 13 1) x x0 (by omega)
          rw [e2, zif_neg (by omega)]
          exact ih (x + 1) (by omega) (by omega) (by omega)
    exact key 5 0 (by omega) (by omega) (by omega)
