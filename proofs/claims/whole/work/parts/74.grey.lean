/-! the greyest belts -/
theorem gr_pair (G : Nat → Int) (a b : Int) (h : a < b) : ∃ x : Int, zif (rGreyer G a b) (1 : Int) 0 = x ∧ zif (rGreyer G b a) (1 : Int) 0 = 1 - x ∧ ((x = 1 ∧ (rGreys G b < rGreys G a ∨ (rGreys G b = rGreys G a ∧ G (15 + 26 * b + 0).toNat ≤ G (15 + 26 * a + 0).toNat))) ∨ (x = 0 ∧ (rGreys G a < rGreys G b ∨ (rGreys G b = rGreys G a ∧ G (15 + 26 * a + 0).toNat < G (15 + 26 * b + 0).toNat)))) := by
  unfold rGreyer
  rcases Classical.em (rGreys G b < rGreys G a ∨ (rGreys G b = rGreys G a ∧ G (15 + 26 * b + 0).toNat ≤ G (15 + 26 * a + 0).toNat)) with q | q
  · exact ⟨1, zif_pos (by omega), zif_neg (by omega), Or.inl ⟨rfl, q⟩⟩
  · exact ⟨0, zif_neg (by omega), zif_pos (by omega), Or.inr ⟨rfl, by omega⟩⟩
theorem gr_self (G : Nat → Int) (a : Int) : zif (rGreyer G a a) (1 : Int) 0 = 0 := by
  unfold rGreyer
  exact zif_neg (by omega)
theorem gr_iff {c d : Int} {L L2 N M G : Nat → Int} {a b : Int} (h : relB c L N G a) (g : relB d L2 M G b) : zif (wGreyer N M c d a b) (1 : Int) 0 = zif (rGreyer G a b) 1 0 := by
  refine zif_iff ?_
  unfold wGreyer rGreyer
  rw [greys_eq h, greys_eq g, h.2.1, g.2.1]
  constructor <;> intro q <;> omega
set_option maxHeartbeats 4000000 in
theorem greyest_all {P R : Nat → Nat → Int} {p : Int} (h : relP P (R 1)) :
    (0 ≤ p ∧ p < 3 → sp_X8_greyest R p = sp_X5_greyestAt P p ∧ sS0_0_X8_greyest R p = upZ (R 0) 8 0) ∧ (¬ (0 ≤ p ∧ p < 3) → sS0_0_X8_greyest R p = upZ (R 0) 8 1) := by
  have b0 := h.1
  have b1 := h.2.1
  have b2 := h.2.2.1
  obtain ⟨x01, a01, f01, d01⟩ := gr_pair (R 1) 0 1 (by decide)
  obtain ⟨x02, a02, f02, d02⟩ := gr_pair (R 1) 0 2 (by decide)
  obtain ⟨x12, a12, f12, d12⟩ := gr_pair (R 1) 1 2 (by decide)
  have s0 := gr_self (R 1) 0
  have s1 := gr_self (R 1) 1
  have s2 := gr_self (R 1) 2
  have A0 : rGreyAhead (R 1) 0 = 0 + (1 - x01) + (1 - x02) := by unfold rGreyAhead; rw [sumI_3, s0, f01, f02]
  have A1 : rGreyAhead (R 1) (0 + 1) = x01 + 0 + (1 - x12) := by show rGreyAhead (R 1) 1 = _; unfold rGreyAhead; rw [sumI_3, s1, a01, f12]
  have A2 : rGreyAhead (R 1) (0 + 1 + 1) = x02 + x12 + 0 := by show rGreyAhead (R 1) 2 = _; unfold rGreyAhead; rw [sumI_3, s2, a02, a12]
  have e : sp_X5_greyestAt P p = zif (0 + 0 + (1 - x01) + (1 - x02) = p) 0 (zif (0 + x01 + 0 + (1 - x12) = p) 1 (zif (0 + x02 + x12 + 0 = p) 2 (-1))) := by
    unfold sp_X5_greyestAt
    rw [gr_iff b0 b0, gr_iff b1 b0, gr_iff b2 b0, gr_iff b0 b1, gr_iff b1 b1, gr_iff b2 b1, gr_iff b0 b2, gr_iff b1 b2, gr_iff b2 b2, s0, s1, s2, a01, a02, a12, f01, f02, f12]
  rw [e]
  unfold sp_X8_greyest sS0_0_X8_greyest
  unfold sp_X8_greyest_L2 sS0_0_X8_greyest_L2
  unfold sp_X8_greyest_L2 sS0_0_X8_greyest_L2
  unfold sp_X8_greyest_L2 sS0_0_X8_greyest_L2
  unfold sp_X8_greyest_L2 sS0_0_X8_greyest_L2
  rw [A0, A1, A2]
  have v01 : x01 = 0 ∨ x01 = 1 := by omega
  have v02 : x02 = 0 ∨ x02 = 1 := by omega
  have v12 : x12 = 0 ∨ x12 = 1 := by omega
  clear A0 A1 A2 e a01 a02 a12 f01 f02 f12 s0 s1 s2
  constructor
  · intro hp
    have ex : 0 + (1 - x01) + (1 - x02) = p ∨ (¬ 0 + (1 - x01) + (1 - x02) = p ∧ x01 + 0 + (1 - x12) = p) ∨ (¬ 0 + (1 - x01) + (1 - x02) = p ∧ ¬ x01 + 0 + (1 - x12) = p ∧ x02 + x12 + 0 = p) := by omega
    clear d01 d02 d12
    rcases ex with q | ⟨q1, q2⟩ | ⟨q1, q2, q3⟩
    · refine ⟨?_, ?_⟩ <;> (repeat (first | rw [zif_pos (by omega)] | rw [zif_neg (by omega)]))
    · refine ⟨?_, ?_⟩ <;> (repeat (first | rw [zif_pos (by omega)] | rw [zif_neg (by omega)])) <;> rfl
    · refine ⟨?_, ?_⟩ <;> (repeat (first | rw [zif_pos (by omega)] | rw [zif_neg (by omega)])) <;> rfl
  · intro hp
    clear d01 d02 d12
    (repeat (first | rw [zif_pos (by omega)] | rw [zif_neg (by omega)]))
