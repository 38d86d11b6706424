/-! verdicts in the reference's words -/
set_option maxHeartbeats 4000000 in
theorem ver_make {S : Nat → Nat → Int} {G : Nat → Int} {p1 p2 p3 : Int} (h : relP S G) : sp_X5_verdictOn S 109 p1 p2 p3 = zif (0 ≤ p1 ∧ p1 ≤ 2) (zif (0 ≤ p2 ∧ p2 ≤ 9) (zif (4 ≤ p3 ∧ p3 ≤ 9) (zif (G (15 + 26 * p1 + 0).toNat = 5) 1 0) 7) 7) 6 := by
  have c0 := relB_c h.1
  have c1 := relB_c h.2.1
  have c2 := relB_c h.2.2.1
  unfold sp_X5_verdictOn
  rcases (show p1 = 0 ∨ p1 = 1 ∨ p1 = 2 ∨ ¬ (0 ≤ p1 ∧ p1 ≤ 2) by omega) with q | q | q | q
  · subst q
    unfold sp_X5_verdictOnBelt_0
    rcases Classical.em (S 3 1 = 5) with e | e <;> rcases (show p2 < 0 ∨ 9 < p2 ∨ (0 ≤ p2 ∧ p2 ≤ 9) by omega) with a | a | a <;> rcases (show p3 < 4 ∨ 9 < p3 ∨ (4 ≤ p3 ∧ p3 ≤ 9) by omega) with b | b | b <;> (repeat (first | rw [zif_pos (by omega)] | rw [zif_neg (by omega)]))
  · subst q
    unfold sp_X5_verdictOnBelt_1
    rcases Classical.em (S 6 1 = 5) with e | e <;> rcases (show p2 < 0 ∨ 9 < p2 ∨ (0 ≤ p2 ∧ p2 ≤ 9) by omega) with a | a | a <;> rcases (show p3 < 4 ∨ 9 < p3 ∨ (4 ≤ p3 ∧ p3 ≤ 9) by omega) with b | b | b <;> (repeat (first | rw [zif_pos (by omega)] | rw [zif_neg (by omega)]))
  · subst q
    unfold sp_X5_verdictOnBelt_2
    rcases Classical.em (S 9 1 = 5) with e | e <;> rcases (show p2 < 0 ∨ 9 < p2 ∨ (0 ≤ p2 ∧ p2 ≤ 9) by omega) with a | a | a <;> rcases (show p3 < 4 ∨ 9 < p3 ∨ (4 ≤ p3 ∧ p3 ≤ 9) by omega) with b | b | b <;> (repeat (first | rw [zif_pos (by omega)] | rw [zif_neg (by omega)]))
  · (repeat (first | rw [zif_pos (by omega)] | rw [zif_neg (by omega)]))
set_option maxHeartbeats 4000000 in
theorem ver_blank {S : Nat → Nat → Int} {G : Nat → Int} {p1 p2 p3 : Int} (h : relP S G) : sp_X5_verdictOn S 98 p1 p2 p3 = zif (0 ≤ p1 ∧ p1 ≤ 2) (zif (G (15 + 26 * p1 + 0).toNat = 5) 1 0) 6 := by
  have c0 := relB_c h.1
  have c1 := relB_c h.2.1
  have c2 := relB_c h.2.2.1
  unfold sp_X5_verdictOn
  rcases (show p1 = 0 ∨ p1 = 1 ∨ p1 = 2 ∨ ¬ (0 ≤ p1 ∧ p1 ≤ 2) by omega) with q | q | q | q
  · subst q
    unfold sp_X5_verdictOnBelt_0
    rcases Classical.em (S 3 1 = 5) with e | e <;> rcases (show p2 < 0 ∨ 9 < p2 ∨ (0 ≤ p2 ∧ p2 ≤ 9) by omega) with a | a | a <;> rcases (show p3 < 4 ∨ 9 < p3 ∨ (4 ≤ p3 ∧ p3 ≤ 9) by omega) with b | b | b <;> (repeat (first | rw [zif_pos (by omega)] | rw [zif_neg (by omega)]))
  · subst q
    unfold sp_X5_verdictOnBelt_1
    rcases Classical.em (S 6 1 = 5) with e | e <;> rcases (show p2 < 0 ∨ 9 < p2 ∨ (0 ≤ p2 ∧ p2 ≤ 9) by omega) with a | a | a <;> rcases (show p3 < 4 ∨ 9 < p3 ∨ (4 ≤ p3 ∧ p3 ≤ 9) by omega) with b | b | b <;> (repeat (first | rw [zif_pos (by omega)] | rw [zif_neg (by omega)]))
  · subst q
    unfold sp_X5_verdictOnBelt_2
    rcases Classical.em (S 9 1 = 5) with e | e <;> rcases (show p2 < 0 ∨ 9 < p2 ∨ (0 ≤ p2 ∧ p2 ≤ 9) by omega) with a | a | a <;> rcases (show p3 < 4 ∨ 9 < p3 ∨ (4 ≤ p3 ∧ p3 ≤ 9) by omega) with b | b | b <;> (repeat (first | rw [zif_pos (by omega)] | rw [zif_neg (by omega)]))
  · (repeat (first | rw [zif_pos (by omega)] | rw [zif_neg (by omega)]))
set_option maxHeartbeats 4000000 in
theorem ver_tell {S : Nat → Nat → Int} {G : Nat → Int} {p1 p2 p3 : Int} (h : relP S G) : sp_X5_verdictOn S 116 p1 p2 p3 = zif (0 ≤ p1 ∧ p1 ≤ 2) (zif (0 ≤ p2 ∧ p2 ≤ 9) (zif (4 ≤ p3 ∧ p3 ≤ 9) (zif (G (15 + 26 * p1 + 1).toNat = p2 ∧ G (15 + 26 * p1 + 2).toNat = p3) 2 0) 7) 7) 6 := by
  have c0 := h.1.2.2.1
  have c1 := h.2.1.2.2.1
  have c2 := h.2.2.1.2.2.1
  unfold sp_X5_verdictOn
  rcases (show p1 = 0 ∨ p1 = 1 ∨ p1 = 2 ∨ ¬ (0 ≤ p1 ∧ p1 ≤ 2) by omega) with q | q | q | q
  · subst q
    unfold sp_X5_verdictOnBelt_0
    rcases Classical.em (p2 = S 2 1) with e | e <;> rcases Classical.em (p3 = S 2 2) with f | f <;> rcases (show p2 < 0 ∨ 9 < p2 ∨ (0 ≤ p2 ∧ p2 ≤ 9) by omega) with a | a | a <;> rcases (show p3 < 4 ∨ 9 < p3 ∨ (4 ≤ p3 ∧ p3 ≤ 9) by omega) with b | b | b <;> (repeat (first | rw [zif_pos (by omega)] | rw [zif_neg (by omega)]))
  · subst q
    unfold sp_X5_verdictOnBelt_1
    rcases Classical.em (p2 = S 5 1) with e | e <;> rcases Classical.em (p3 = S 5 2) with f | f <;> rcases (show p2 < 0 ∨ 9 < p2 ∨ (0 ≤ p2 ∧ p2 ≤ 9) by omega) with a | a | a <;> rcases (show p3 < 4 ∨ 9 < p3 ∨ (4 ≤ p3 ∧ p3 ≤ 9) by omega) with b | b | b <;> (repeat (first | rw [zif_pos (by omega)] | rw [zif_neg (by omega)]))
  · subst q
    unfold sp_X5_verdictOnBelt_2
    rcases Classical.em (p2 = S 8 1) with e | e <;> rcases Classical.em (p3 = S 8 2) with f | f <;> rcases (show p2 < 0 ∨ 9 < p2 ∨ (0 ≤ p2 ∧ p2 ≤ 9) by omega) with a | a | a <;> rcases (show p3 < 4 ∨ 9 < p3 ∨ (4 ≤ p3 ∧ p3 ≤ 9) by omega) with b | b | b <;> (repeat (first | rw [zif_pos (by omega)] | rw [zif_neg (by omega)]))
  · (repeat (first | rw [zif_pos (by omega)] | rw [zif_neg (by omega)]))
set_option maxHeartbeats 4000000 in
theorem ver_inspect {S : Nat → Nat → Int} {G : Nat → Int} {p1 p2 p3 : Int} (h : relP S G) : sp_X5_verdictOn S 105 p1 p2 p3 = zif (0 ≤ p1 ∧ p1 ≤ 2) (zif (G (15 + 26 * p1 + 0).toNat = 0) 3 (zif (G 9 = 0) 4 0)) 6 := by
  have c0 := relB_c h.1
  have c1 := relB_c h.2.1
  have c2 := relB_c h.2.2.1
  have c9 := h.2.2.2.2.1.2.1
  unfold sp_X5_verdictOn
  rcases Classical.em (S 13 1 = 0) with g | g <;> rcases (show p1 = 0 ∨ p1 = 1 ∨ p1 = 2 ∨ ¬ (0 ≤ p1 ∧ p1 ≤ 2) by omega) with q | q | q | q
  · subst q
    unfold sp_X5_verdictOnBelt_0
    rcases Classical.em (S 3 1 = 0) with e | e <;> rcases (show p2 < 0 ∨ 9 < p2 ∨ (0 ≤ p2 ∧ p2 ≤ 9) by omega) with a | a | a <;> rcases (show p3 < 4 ∨ 9 < p3 ∨ (4 ≤ p3 ∧ p3 ≤ 9) by omega) with b | b | b <;> (repeat (first | rw [zif_pos (by omega)] | rw [zif_neg (by omega)]))
  · subst q
    unfold sp_X5_verdictOnBelt_1
    rcases Classical.em (S 6 1 = 0) with e | e <;> rcases (show p2 < 0 ∨ 9 < p2 ∨ (0 ≤ p2 ∧ p2 ≤ 9) by omega) with a | a | a <;> rcases (show p3 < 4 ∨ 9 < p3 ∨ (4 ≤ p3 ∧ p3 ≤ 9) by omega) with b | b | b <;> (repeat (first | rw [zif_pos (by omega)] | rw [zif_neg (by omega)]))
  · subst q
    unfold sp_X5_verdictOnBelt_2
    rcases Classical.em (S 9 1 = 0) with e | e <;> rcases (show p2 < 0 ∨ 9 < p2 ∨ (0 ≤ p2 ∧ p2 ≤ 9) by omega) with a | a | a <;> rcases (show p3 < 4 ∨ 9 < p3 ∨ (4 ≤ p3 ∧ p3 ≤ 9) by omega) with b | b | b <;> (repeat (first | rw [zif_pos (by omega)] | rw [zif_neg (by omega)]))
  · (repeat (first | rw [zif_pos (by omega)] | rw [zif_neg (by omega)]))
  · subst q
    unfold sp_X5_verdictOnBelt_0
    rcases Classical.em (S 3 1 = 0) with e | e <;> rcases (show p2 < 0 ∨ 9 < p2 ∨ (0 ≤ p2 ∧ p2 ≤ 9) by omega) with a | a | a <;> rcases (show p3 < 4 ∨ 9 < p3 ∨ (4 ≤ p3 ∧ p3 ≤ 9) by omega) with b | b | b <;> (repeat (first | rw [zif_pos (by omega)] | rw [zif_neg (by omega)]))
  · subst q
    unfold sp_X5_verdictOnBelt_1
    rcases Classical.em (S 6 1 = 0) with e | e <;> rcases (show p2 < 0 ∨ 9 < p2 ∨ (0 ≤ p2 ∧ p2 ≤ 9) by omega) with a | a | a <;> rcases (show p3 < 4 ∨ 9 < p3 ∨ (4 ≤ p3 ∧ p3 ≤ 9) by omega) with b | b | b <;> (repeat (first | rw [zif_pos (by omega)] | rw [zif_neg (by omega)]))
  · subst q
    unfold sp_X5_verdictOnBelt_2
    rcases Classical.em (S 9 1 = 0) with e | e <;> rcases (show p2 < 0 ∨ 9 < p2 ∨ (0 ≤ p2 ∧ p2 ≤ 9) by omega) with a | a | a <;> rcases (show p3 < 4 ∨ 9 < p3 ∨ (4 ≤ p3 ∧ p3 ≤ 9) by omega) with b | b | b <;> (repeat (first | rw [zif_pos (by omega)] | rw [zif_neg (by omega)]))
  · (repeat (first | rw [zif_pos (by omega)] | rw [zif_neg (by omega)]))
theorem ver_hire {S : Nat → Nat → Int} {G : Nat → Int} {p1 p2 p3 : Int} (h : relP S G) : sp_X5_verdictOn S 104 p1 p2 p3 = zif (G 9 = 4) 1 0 := by
  have c9 := h.2.2.2.2.1.2.1
  have c4 := h.2.2.2.2.1.1
  unfold sp_X5_verdictOn
  rcases Classical.em (S 13 1 = 4) with g | g <;> (repeat (first | rw [zif_pos (by omega)] | rw [zif_neg (by omega)]))
theorem ver_leave {S : Nat → Nat → Int} {G : Nat → Int} {p1 p2 p3 : Int} (h : relP S G) : sp_X5_verdictOn S 111 p1 p2 p3 = zif (0 ≤ p1 ∧ p1 < G 9) 0 6 := by
  have c9 := h.2.2.2.2.1.2.1
  unfold sp_X5_verdictOn
  rcases Classical.em (0 ≤ p1 ∧ p1 < S 13 1) with g | g <;> (repeat (first | rw [zif_pos (by omega)] | rw [zif_neg (by omega)]))
theorem ver_sell {S : Nat → Nat → Int} {G : Nat → Int} {p1 p2 p3 : Int} (h : relP S G) : sp_X5_verdictOn S 115 p1 p2 p3 = zif (0 ≤ p1 ∧ p1 < G 10) 0 6 := by
  have c9 := h.2.2.2.1.2.1
  unfold sp_X5_verdictOn
  rcases Classical.em (0 ≤ p1 ∧ p1 < S 11 1) with g | g <;> (repeat (first | rw [zif_pos (by omega)] | rw [zif_neg (by omega)]))
theorem ver_repair {S : Nat → Nat → Int} {G : Nat → Int} {p1 p2 p3 : Int} (h : relP S G) : sp_X5_verdictOn S 114 p1 p2 p3 = zif (0 ≤ p1 ∧ p1 < G 10) (zif (G 15 = 5) 1 (zif (2 + G (93 + 4 * p1 + 2).toNat ≤ G 0) 0 5)) 6 := by
  have sh := h.2.2.2.1
  have c9 := sh.2.1
  have c0 := relB_c h.1
  have z15 : G (15 + 26 * (0 : Int) + 0).toNat = G 15 := rfl
  have s0 := h.2.2.2.2.2.1.1
  unfold sp_X5_verdictOn sp_X5_verdictOnRepair
  rcases Classical.em (0 ≤ p1 ∧ p1 < S 11 1) with g | g
  · have n := (relS_num sh g.1 g.2).2.2.1
    rcases Classical.em (S 3 1 = 5) with a | a <;> rcases Classical.em (2 + G (93 + 4 * p1 + 2).toNat ≤ G 0) with b | b <;> (repeat (first | rw [zif_pos (by omega)] | rw [zif_neg (by omega)]))
  · (repeat (first | rw [zif_pos (by omega)] | rw [zif_neg (by omega)]))
theorem ver_week {S : Nat → Nat → Int} {p1 p2 p3 : Int} : sp_X5_verdictOn S 119 p1 p2 p3 = 0 := by
  unfold sp_X5_verdictOn
  (repeat (first | rw [zif_pos (by omega)] | rw [zif_neg (by omega)]))
