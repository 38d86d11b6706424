/-! the class's numbers and the reference's: a carrier, a belt, the shelf, the crew -/
theorem upZ_e {f : Nat → Int} {k j : Nat} {v : Int} (h : j = k) : upZ f k v j = v := if_pos h
macro "zev" : tactic => `(tactic| repeat (first | rw [upZ_s] | rw [upZ_e (by omega)] | rw [upZ_n (by omega)] | rw [shf_in (by omega) (by omega)] | rw [shf_out (by omega)] | rw [zer_in (by omega) (by omega)] | rw [zer_out (by omega)] | rw [cpyZ_in (by omega) (by omega)] | rw [cpyZ_out (by omega)] | rw [mapZ_in (by omega) (by omega)] | rw [mapZ_out (by omega)]))
def relC (N : Nat → Int) (k : Int) (G : Nat → Int) (b : Int) : Prop :=
  (G (15 + 26 * b + (6 + 4 * k + 0)).toNat = 1 ∧ N (k * 4 + 0).toNat = -1 ∧ N (k * 4 + 1).toNat = -1 ∧ N (k * 4 + 2).toNat = -1 ∧ G (15 + 26 * b + (6 + 4 * k + 1)).toNat = -1 ∧ G (15 + 26 * b + (6 + 4 * k + 2)).toNat = -1 ∧ G (15 + 26 * b + (6 + 4 * k + 3)).toNat = -1) ∨
  (G (15 + 26 * b + (6 + 4 * k + 0)).toNat = 0 ∧ N (k * 4 + 0).toNat = G (15 + 26 * b + (6 + 4 * k + 1)).toNat ∧ N (k * 4 + 1).toNat = G (15 + 26 * b + (6 + 4 * k + 2)).toNat ∧ N (k * 4 + 2).toNat = G (15 + 26 * b + (6 + 4 * k + 3)).toNat ∧ (0 ≤ N (k * 4 + 0).toNat ∧ N (k * 4 + 0).toNat ≤ 9) ∧ (4 ≤ N (k * 4 + 1).toNat ∧ N (k * 4 + 1).toNat ≤ 9) ∧ 0 ≤ N (k * 4 + 2).toNat)
theorem relC_at {N N' : Nat → Int} {k k' : Int} {G G' : Nat → Int} {b b' : Int} (h : relC N k G b) (n0 : N' (k' * 4 + 0).toNat = N (k * 4 + 0).toNat) (n1 : N' (k' * 4 + 1).toNat = N (k * 4 + 1).toNat) (n2 : N' (k' * 4 + 2).toNat = N (k * 4 + 2).toNat)
    (g0 : G' (15 + 26 * b' + (6 + 4 * k' + 0)).toNat = G (15 + 26 * b + (6 + 4 * k + 0)).toNat) (g1 : G' (15 + 26 * b' + (6 + 4 * k' + 1)).toNat = G (15 + 26 * b + (6 + 4 * k + 1)).toNat) (g2 : G' (15 + 26 * b' + (6 + 4 * k' + 2)).toNat = G (15 + 26 * b + (6 + 4 * k + 2)).toNat) (g3 : G' (15 + 26 * b' + (6 + 4 * k' + 3)).toNat = G (15 + 26 * b + (6 + 4 * k + 3)).toNat) : relC N' k' G' b' := by
  unfold relC at h ⊢
  rw [n0, n1, n2, g0, g1, g2, g3]
  exact h
def relB (C L N G : Nat → Int) (b : Int) : Prop :=
  (0 ≤ C 1 ∧ C 1 ≤ 5) ∧ G (15 + 26 * b + 0).toNat = C 1 ∧ (G (15 + 26 * b + 1).toNat = L 1 ∧ G (15 + 26 * b + 2).toNat = L 2 ∧ G (15 + 26 * b + 3).toNat = L 3 ∧ G (15 + 26 * b + 4).toNat = L 4 ∧ G (15 + 26 * b + 5).toNat = L 5) ∧
  ((0 ≤ L 1 ∧ L 1 ≤ 9) ∧ (4 ≤ L 2 ∧ L 2 ≤ 9) ∧ (-1 ≤ L 3 ∧ L 3 ≤ 9)) ∧ ∀ k : Int, 0 ≤ k → k < C 1 → relC N k G b
theorem relB_fr {C L N G G' : Nat → Int} {b : Int} (hb : 0 ≤ b) (h : relB C L N G b) (hg : ∀ j : Nat, 15 + 26 * b ≤ (j : Int) → (j : Int) < 15 + 26 * b + 26 → G' j = G j) : relB C L N G' b := by
  obtain ⟨hc, h0, ⟨h1, h2, h3, h4, h5⟩, hr, hk⟩ := h
  refine ⟨hc, (hg _ (by omega) (by omega)).trans h0, ⟨(hg _ (by omega) (by omega)).trans h1, (hg _ (by omega) (by omega)).trans h2, (hg _ (by omega) (by omega)).trans h3, (hg _ (by omega) (by omega)).trans h4, (hg _ (by omega) (by omega)).trans h5⟩, hr, fun k k0 k1 => ?_⟩
  exact relC_at (hk k k0 k1) rfl rfl rfl (hg _ (by omega) (by omega)) (hg _ (by omega) (by omega)) (hg _ (by omega) (by omega)) (hg _ (by omega) (by omega))
/-- what a belt's carriers read as -/
theorem relB_num {C L N G : Nat → Int} {b : Int} (h : relB C L N G b) {k : Int} (k0 : 0 ≤ k) (k1 : k < C 1) : wNum N (C 1) k 0 = N (k * 4 + 0).toNat ∧ wNum N (C 1) k 1 = N (k * 4 + 1).toNat ∧ wNum N (C 1) k 2 = N (k * 4 + 2).toNat ∧ wNum N (C 1) k 3 = N (k * 4 + 3).toNat := by
  unfold wNum
  refine ⟨zif_pos ?_, zif_pos ?_, zif_pos ?_, zif_pos ?_⟩ <;> omega
/-- a carrier comes -/
theorem relB_add {C L N G : Nat → Int} {b : Int} (hb : 0 ≤ b) (h : relB C L N G b) (hc : C 1 < 5) {d0 d1 d2 d3 e0 e1 e2 e3 : Int} (hd : (e0 = 1 ∧ d0 = -1 ∧ d1 = -1 ∧ d2 = -1 ∧ e1 = -1 ∧ e2 = -1 ∧ e3 = -1) ∨ (e0 = 0 ∧ d0 = e1 ∧ d1 = e2 ∧ d2 = e3 ∧ (0 ≤ d0 ∧ d0 ≤ 9) ∧ (4 ≤ d1 ∧ d1 ≤ 9) ∧ 0 ≤ d2)) :
    relB (upZ C 1 (C 1 + 1)) L (wAdd N (C 1) d0 d1 d2 d3) (rPuts G b e0 e1 e2 e3) b := by
  obtain ⟨hcc, h0, ⟨h1, h2, h3, h4, h5⟩, hr, hk⟩ := h
  unfold rPuts
  rw [h0]
  have ec : upZ C 1 (C 1 + 1) 1 = C 1 + 1 := upZ_s
  unfold relB
  rw [ec]
  refine ⟨by omega, by zev, ⟨by zev; exact h1, by zev; exact h2, by zev; exact h3, by zev; exact h4, by zev; exact h5⟩, hr, fun k k0 k1 => ?_⟩
  by_cases q : k = C 1
  · subst q
    unfold relC wAdd
    have n0 : upZ (upZ (upZ (upZ N (C 1 * 4 + 0).toNat d0) (C 1 * 4 + 1).toNat d1) (C 1 * 4 + 2).toNat d2) (C 1 * 4 + 3).toNat d3 (C 1 * 4 + 0).toNat = d0 := by zev
    have n1 : upZ (upZ (upZ (upZ N (C 1 * 4 + 0).toNat d0) (C 1 * 4 + 1).toNat d1) (C 1 * 4 + 2).toNat d2) (C 1 * 4 + 3).toNat d3 (C 1 * 4 + 1).toNat = d1 := by zev
    have n2 : upZ (upZ (upZ (upZ N (C 1 * 4 + 0).toNat d0) (C 1 * 4 + 1).toNat d1) (C 1 * 4 + 2).toNat d2) (C 1 * 4 + 3).toNat d3 (C 1 * 4 + 2).toNat = d2 := by zev
    rw [n0, n1, n2]
    have g0 : upZ (upZ (upZ (upZ (upZ G (15 + 26 * b + (6 + 4 * C 1 + 0)).toNat e0) (15 + 26 * b + (6 + 4 * C 1 + 1)).toNat e1) (15 + 26 * b + (6 + 4 * C 1 + 2)).toNat e2) (15 + 26 * b + (6 + 4 * C 1 + 3)).toNat e3) (15 + 26 * b + 0).toNat (C 1 + 1) (15 + 26 * b + (6 + 4 * C 1 + 0)).toNat = e0 := by zev
    have g1 : upZ (upZ (upZ (upZ (upZ G (15 + 26 * b + (6 + 4 * C 1 + 0)).toNat e0) (15 + 26 * b + (6 + 4 * C 1 + 1)).toNat e1) (15 + 26 * b + (6 + 4 * C 1 + 2)).toNat e2) (15 + 26 * b + (6 + 4 * C 1 + 3)).toNat e3) (15 + 26 * b + 0).toNat (C 1 + 1) (15 + 26 * b + (6 + 4 * C 1 + 1)).toNat = e1 := by zev
    have g2 : upZ (upZ (upZ (upZ (upZ G (15 + 26 * b + (6 + 4 * C 1 + 0)).toNat e0) (15 + 26 * b + (6 + 4 * C 1 + 1)).toNat e1) (15 + 26 * b + (6 + 4 * C 1 + 2)).toNat e2) (15 + 26 * b + (6 + 4 * C 1 + 3)).toNat e3) (15 + 26 * b + 0).toNat (C 1 + 1) (15 + 26 * b + (6 + 4 * C 1 + 2)).toNat = e2 := by zev
    have g3 : upZ (upZ (upZ (upZ (upZ G (15 + 26 * b + (6 + 4 * C 1 + 0)).toNat e0) (15 + 26 * b + (6 + 4 * C 1 + 1)).toNat e1) (15 + 26 * b + (6 + 4 * C 1 + 2)).toNat e2) (15 + 26 * b + (6 + 4 * C 1 + 3)).toNat e3) (15 + 26 * b + 0).toNat (C 1 + 1) (15 + 26 * b + (6 + 4 * C 1 + 3)).toNat = e3 := by zev
    rw [g0, g1, g2, g3]
    omega
  · unfold wAdd
    exact relC_at (hk k k0 (by omega)) (by zev) (by zev) (by zev) (by zev) (by zev) (by zev) (by zev)
/-- the front goes -/
theorem relB_goes {C L N G : Nat → Int} {b : Int} (hb : 0 ≤ b) (h : relB C L N G b) (hc : 0 < C 1) : relB (upZ C 1 (wCutK (C 1) 0 1)) L (wCutN N (C 1) 0 1) (rGoes G b) b := by
  obtain ⟨hcc, h0, ⟨h1, h2, h3, h4, h5⟩, hr, hk⟩ := h
  unfold rGoes wCutN wCutK
  rw [h0, zif_pos (by omega), zif_pos (by omega)]
  have ec : upZ C 1 (C 1 - 1) 1 = C 1 - 1 := upZ_s
  unfold relB
  rw [ec]
  refine ⟨by omega, by zev, ⟨by zev; exact h1, by zev; exact h2, by zev; exact h3, by zev; exact h4, by zev; exact h5⟩, hr, fun k k0 k1 => ?_⟩
  refine relC_at (hk (k + 1) (by omega) (by omega)) ?_ ?_ ?_ ?_ ?_ ?_ ?_
  · zev; congr 1; omega
  · zev; congr 1; omega
  · zev; congr 1; omega
  · zev; congr 1; omega
  · zev; congr 1; omega
  · zev; congr 1; omega
  · zev; congr 1; omega
/-- the shelf -/
def relS (K N G : Nat → Int) : Prop :=
  (0 ≤ K 1 ∧ K 1 ≤ 8) ∧ G 10 = K 1 ∧ ∀ k : Int, 0 ≤ k → k < K 1 → (N (k * 4 + 0).toNat = G (93 + 4 * k + 0).toNat ∧ N (k * 4 + 1).toNat = G (93 + 4 * k + 1).toNat ∧ N (k * 4 + 2).toNat = G (93 + 4 * k + 2).toNat ∧ N (k * 4 + 3).toNat = G (93 + 4 * k + 3).toNat) ∧ (0 ≤ N (k * 4 + 0).toNat ∧ N (k * 4 + 0).toNat ≤ 9) ∧ (4 ≤ N (k * 4 + 1).toNat ∧ N (k * 4 + 1).toNat ≤ 9) ∧ 0 ≤ N (k * 4 + 2).toNat ∧ (1 ≤ N (k * 4 + 3).toNat ∧ N (k * 4 + 3).toNat ≤ 3)
theorem relS_fr {K N G G' : Nat → Int} (h : relS K N G) (h10 : G' 10 = G 10) (hg : ∀ j : Nat, 93 ≤ j → j < 125 → G' j = G j) : relS K N G' := by
  obtain ⟨hc, h0, hk⟩ := h
  refine ⟨hc, h10.trans h0, fun k k0 k1 => ?_⟩
  rw [hg _ (by omega) (by omega), hg _ (by omega) (by omega), hg _ (by omega) (by omega), hg _ (by omega) (by omega)]
  exact hk k k0 k1
theorem relS_off {K N G : Nat → Int} {p : Int} (h : relS K N G) (p0 : 0 ≤ p) (p1 : p < K 1) : relS (upZ K 1 (wCutK (K 1) p 1)) (wCutN N (K 1) p 1) (rOff G p) := by
  obtain ⟨hcc, h0, hk⟩ := h
  unfold rOff wCutN wCutK
  rw [h0, zif_pos (by omega), zif_pos (by omega)]
  have ec : upZ K 1 (K 1 - 1) 1 = K 1 - 1 := upZ_s
  unfold relS
  rw [ec]
  refine ⟨by omega, by zev, fun k k0 k1 => ?_⟩
  have N_ : ∀ w : Int, 0 ≤ w → w ≤ 3 → cpyZ N N ((p + 1) * 4).toNat (p * 4).toNat ((K 1 - (p + 1)) * 4).toNat (k * 4 + w).toNat = N ((if k < p then k else k + 1) * 4 + w).toNat := by
    intro w w0 w1
    by_cases q : k < p
    · rw [if_pos q]; zev
    · rw [if_neg q]; zev; congr 1; omega
  have G_ : ∀ w : Int, 0 ≤ w → w ≤ 3 → zer (shf (upZ G 10 (K 1 - 1)) (93 + 4 * p).toNat (93 + 4 * (K 1 - 1)).toNat 4) (93 + 4 * (K 1 - 1)).toNat (93 + 4 * (K 1 - 1) + 4).toNat (93 + 4 * k + w).toNat = G (93 + 4 * (if k < p then k else k + 1) + w).toNat := by
    intro w w0 w1
    by_cases q : k < p
    · rw [if_pos q]; zev
    · rw [if_neg q]; zev; congr 1; omega
  rw [N_ 0 (by omega) (by omega), N_ 1 (by omega) (by omega), N_ 2 (by omega) (by omega), N_ 3 (by omega) (by omega), G_ 0 (by omega) (by omega), G_ 1 (by omega) (by omega), G_ 2 (by omega) (by omega), G_ 3 (by omega) (by omega)]
  by_cases q : k < p
  · rw [if_pos q]; exact hk k k0 (by omega)
  · rw [if_neg q]; exact hk (k + 1) (by omega) (by omega)
/-- the crew -/
def relY (K Y G : Nat → Int) : Prop := (0 ≤ K 1 ∧ K 1 ≤ 4) ∧ G 9 = K 1 ∧ ∀ k : Int, 0 ≤ k → k < K 1 → Y k.toNat = G (11 + k).toNat ∧ 0 ≤ Y k.toNat ∧ Y k.toNat ≤ 9
theorem relY_fr {K Y G G' : Nat → Int} (h : relY K Y G) (h9 : G' 9 = G 9) (hg : ∀ j : Nat, 11 ≤ j → j < 15 → G' j = G j) : relY K Y G' := by
  obtain ⟨hc, h0, hk⟩ := h
  refine ⟨hc, h9.trans h0, fun k k0 k1 => ?_⟩
  rw [hg _ (by omega) (by omega)]
  exact hk k k0 k1
/-- the class's plant and the reference's row -/
def relP (S : Nat → Nat → Int) (G : Nat → Int) : Prop :=
  relB (S 3) (S 2) (S 4) G 0 ∧ relB (S 6) (S 5) (S 7) G 1 ∧ relB (S 9) (S 8) (S 10) G 2 ∧ relS (S 11) (S 12) G ∧ relY (S 13) (S 14) G ∧
  (G 0 = S 0 3 ∧ G 1 = S 0 4 ∧ G 2 = S 0 5 ∧ G 4 = S 0 6 ∧ G 5 = S 0 7 ∧ G 6 = S 0 8 ∧ G 7 = S 0 9 ∧ G 8 = S 0 10) ∧ G 3 = S 2 5 + S 5 5 + S 8 5 ∧ 0 ≤ S 0 9
