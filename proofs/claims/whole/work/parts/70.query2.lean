/-! more questions -/
theorem zif_iff {α : Type} {P Q : Prop} {a b : α} (h : P ↔ Q) : zif P a b = zif Q a b := by rw [propext h]
set_option maxHeartbeats 4000000 in
theorem op_passes {F P N Hs : Nat → Nat → Int} {Gs : Nat → Nat → Nat → Int} {I L R : Nat → Nat → Int} {p1 p2 p3 : Int} (h : relA F P N Hs Gs I L R) :
    (¬ (0 ≤ p2 ∧ ((p1 = 0 ∧ p2 < P 3 1) ∨ (p1 = 1 ∧ p2 < P 6 1) ∨ (p1 = 2 ∧ p2 < P 9 1))) → relA F P N Hs Gs I L (upA R 0 (sS0_0_X8_passes R p1 p2 p3)) ∧ (upA R 0 (sS0_0_X8_passes R p1 p2 p3)) 0 8 = 1) ∧ ((0 ≤ p2 ∧ ((p1 = 0 ∧ p2 < P 3 1) ∨ (p1 = 1 ∧ p2 < P 6 1) ∨ (p1 = 2 ∧ p2 < P 9 1))) → ¬ (1 ≤ p3 ∧ p3 ≤ 3) → relA F P N Hs Gs I L (upA R 0 (sS0_0_X8_passes R p1 p2 p3)) ∧ (upA R 0 (sS0_0_X8_passes R p1 p2 p3)) 0 8 = 2) ∧ ((0 ≤ p2 ∧ ((p1 = 0 ∧ p2 < P 3 1) ∨ (p1 = 1 ∧ p2 < P 6 1) ∨ (p1 = 2 ∧ p2 < P 9 1))) → 1 ≤ p3 ∧ p3 ≤ 3 → (relA F P N Hs Gs I L (upA R 0 (sS0_0_X8_passes R p1 p2 p3)) ∧ (upA R 0 (sS0_0_X8_passes R p1 p2 p3)) 0 8 = 0) ∧ sp_X8_passes R p1 p2 p3 = sp_X7_passes_ok F P p1 p2 p3) := by
  have hP := h.1
  have pe := place_eq (p1 := p1) (p2 := p2) hP
  refine ⟨fun q => relA_q h (by unfold sS0_0_X8_passes; rw [zif_neg (fun z => q (pe.mpr z))]), fun q w => relA_q h (by unfold sS0_0_X8_passes; rw [zif_pos (pe.mp q), zif_neg w]), fun q w => ⟨relA_q h (by unfold sS0_0_X8_passes; rw [zif_pos (pe.mp q), zif_pos w, zif_same, zif_same]), ?_⟩⟩
  unfold sp_X8_passes sp_X7_passes_ok
  rw [zif_pos (pe.mp q), zif_pos w]
  rcases (show (p1 = 0 ∧ p2 < P 3 1) ∨ (p1 = 1 ∧ p2 < P 6 1) ∨ (p1 = 2 ∧ p2 < P 9 1) from q.2) with ⟨z, k1⟩ | ⟨z, k1⟩ | ⟨z, k1⟩
  · subst z
    have b0 := hP.1
    have e := relB_blank b0 q.1 k1
    obtain ⟨n0, n1, n2, -⟩ := relB_num b0 q.1 k1
    obtain ⟨l1, l2, l3, -, -⟩ := b0.2.2.1
    rw [zif_pos (rfl : (0 : Int) = 0)]
    rw [zif_iff e]
    rcases b0.2.2.2.2 p2 q.1 k1 with ⟨a0, a1, a2, a3, a4, a5, a6⟩ | ⟨a0, a1, a2, a3, a4, -⟩
    · rw [zif_pos a0, zif_pos a0]
    · have c0 : ¬ R 1 (15 + 26 * (0 : Int) + (6 + 4 * p2 + 0)).toNat = 1 := by omega
      rw [zif_neg c0, zif_neg c0, n0, n1, a1, a2]
      unfold wPassed
      rw [l1, l2, l3]
  · subst z
    have b0 := hP.2.1
    have e := relB_blank b0 q.1 k1
    obtain ⟨n0, n1, n2, -⟩ := relB_num b0 q.1 k1
    obtain ⟨l1, l2, l3, -, -⟩ := b0.2.2.1
    rw [zif_neg (show ¬ (1 : Int) = 0 by decide), zif_pos (rfl : (1 : Int) = 1)]
    rw [zif_iff e]
    rcases b0.2.2.2.2 p2 q.1 k1 with ⟨a0, a1, a2, a3, a4, a5, a6⟩ | ⟨a0, a1, a2, a3, a4, -⟩
    · rw [zif_pos a0, zif_pos a0]
    · have c0 : ¬ R 1 (15 + 26 * (1 : Int) + (6 + 4 * p2 + 0)).toNat = 1 := by omega
      rw [zif_neg c0, zif_neg c0, n0, n1, a1, a2]
      unfold wPassed
      rw [l1, l2, l3]
  · subst z
    have b0 := hP.2.2.1
    have e := relB_blank b0 q.1 k1
    obtain ⟨n0, n1, n2, -⟩ := relB_num b0 q.1 k1
    obtain ⟨l1, l2, l3, -, -⟩ := b0.2.2.1
    rw [zif_neg (show ¬ (2 : Int) = 0 by decide), zif_neg (show ¬ (2 : Int) = 1 by decide)]
    rw [zif_iff e]
    rcases b0.2.2.2.2 p2 q.1 k1 with ⟨a0, a1, a2, a3, a4, a5, a6⟩ | ⟨a0, a1, a2, a3, a4, -⟩
    · rw [zif_pos a0, zif_pos a0]
    · have c0 : ¬ R 1 (15 + 26 * (2 : Int) + (6 + 4 * p2 + 0)).toNat = 1 := by omega
      rw [zif_neg c0, zif_neg c0, n0, n1, a1, a2]
      unfold wPassed
      rw [l1, l2, l3]

set_option maxHeartbeats 4000000 in
theorem op_wouldMend {F P N Hs : Nat → Nat → Int} {Gs : Nat → Nat → Nat → Int} {I L R : Nat → Nat → Int} {p1 : Int} (h : relA F P N Hs Gs I L R) :
    (¬ (0 ≤ p1 ∧ p1 < P 11 1) → relA F P N Hs Gs I L (upA R 0 (sS0_0_X8_wouldMend R p1)) ∧ (upA R 0 (sS0_0_X8_wouldMend R p1)) 0 8 = 1) ∧ (0 ≤ p1 ∧ p1 < P 11 1 → (relA F P N Hs Gs I L (upA R 0 (sS0_0_X8_wouldMend R p1)) ∧ (upA R 0 (sS0_0_X8_wouldMend R p1)) 0 8 = 0) ∧ sp_X8_wouldMend R p1 = sp_X7_wouldMend_ok F P p1) := by
  have sh := h.1.2.2.2.1
  have c10 := sh.2.1
  refine ⟨fun q => relA_q h (by unfold sS0_0_X8_wouldMend; rw [zif_neg (by omega)]), fun q => ⟨relA_q h (by unfold sS0_0_X8_wouldMend; rw [zif_pos (by omega), zif_same, zif_same, zif_same]), ?_⟩⟩
  obtain ⟨n0, n1, n2, n3⟩ := relS_num sh q.1 q.2
  obtain ⟨⟨m0, m1, -, -⟩, r0, r1, -, -⟩ := sh.2.2 p1 q.1 q.2
  obtain ⟨l1, l2, l3, -, -⟩ := h.1.1.2.2.1
  have g16 : R 1 16 = P 2 1 := l1
  have g17 : R 1 17 = P 2 2 := l2
  have g18 : R 1 18 = P 2 3 := l3
  have e0 : min 9 (wNum (P 12) (P 11 1) p1 0 + 2) = max 0 (min (R 1 (93 + 4 * p1 + 0).toNat + 2) 9) := by omega
  have e1 : max 4 (wNum (P 12) (P 11 1) p1 1 - 1) = max 4 (min (R 1 (93 + 4 * p1 + 1).toNat - 1) 9) := by omega
  unfold sp_X8_wouldMend sp_X7_wouldMend_ok
  rw [zif_pos (by omega), e0, e1, g16, g17, g18]
  unfold wPassed
  rfl
set_option maxHeartbeats 4000000 in
theorem op_account {F P N Hs : Nat → Nat → Int} {Gs : Nat → Nat → Nat → Int} {I L R : Nat → Nat → Int} {p1 : Int} (h : relA F P N Hs Gs I L R) :
    (¬ (0 ≤ p1 ∧ p1 ≤ 14) → relA F P N Hs Gs I L (upA R 0 (sS0_0_X8_account R p1)) ∧ (upA R 0 (sS0_0_X8_account R p1)) 0 8 = 1) ∧ (0 ≤ p1 ∧ p1 ≤ 14 → (relA F P N Hs Gs I L (upA R 0 (sS0_0_X8_account R p1)) ∧ (upA R 0 (sS0_0_X8_account R p1)) 0 8 = 0) ∧ sp_X8_account R p1 = sp_X7_account_ok F P Hs I p1) := by
  have hh := h
  obtain ⟨hP, a2, a3, a4, a5, a6, a7, ⟨i1, i2, -⟩, a9⟩ := h
  have hP0 := hP
  refine ⟨fun q => relA_q hh (by unfold sS0_0_X8_account; rw [zif_neg q]), fun q => ⟨relA_q hh (by unfold sS0_0_X8_account; rw [zif_pos q]; simp only [zif_same]), ?_⟩⟩
  have sm0 := rSum_cnt hP
  obtain ⟨b0, b1, b2, sh, cr, ⟨s0, s1, s2, s4, s5, s6, s7, s8⟩, st, f9⟩ := hP
  have sm1 : rSummed (R 1) 1 = wBlanks (P 4) (P 3 1) + wBlanks (P 7) (P 6 1) + wBlanks (P 10) (P 9 1) := by
    rw [rSum3, blanks_eq b0, blanks_eq b1, blanks_eq b2]
    unfold rSumT
    (repeat (first | rw [zif_pos (by omega)] | rw [zif_neg (by omega)]))
  have c10 := sh.2.1
  have c9 := cr.2.1
  unfold sp_X8_account sp_X7_account_ok sp_X5_accountOf
  rw [zif_pos q]
  rcases (show p1 = 0 ∨ p1 = 1 ∨ p1 = 2 ∨ p1 = 3 ∨ p1 = 4 ∨ p1 = 5 ∨ p1 = 6 ∨ p1 = 7 ∨ p1 = 8 ∨ p1 = 9 ∨ p1 = 10 ∨ p1 = 11 ∨ p1 = 12 ∨ p1 = 13 ∨ p1 = 14 by omega) with y | y | y | y | y | y | y | y | y | y | y | y | y | y | y <;> subst y <;> (repeat (first | rw [zif_pos (by omega)] | rw [zif_neg (by omega)]))
  · exact sm0
  · rw [sm1]; omega
  · exact c10
  · exact c9
  · exact s0
  · exact s1
  · exact s2
  · exact st
  · exact s4
  · exact s5
  · exact s6
  · exact s7
  · exact s8
  · exact i2
  · exact a3
theorem byPlaces_eq {c d : Int} {N G : Nat → Int} (h : relS c N G) (h7 : G 7 = d) : wByPlaces N c d = rInOrder G := by
  unfold wByPlaces rInOrder
  rw [h.2.1]
  refine sumI_cg (fun k k0 k1 => ?_)
  obtain ⟨n0, n1, n2, n3⟩ := relS_num h k0 k1
  show max 1 (wPrice N c k - d - k) = rWorth G k (G 7 + k)
  unfold wPrice rWorth
  rw [n0, n3, h7]
  omega
/-- the rejects sold in their order bring what the places tell -/
theorem first_st {S : Nat → Nat → Int} (hc : 0 ≤ S 11 1 ∧ S 11 1 ≤ 8) : ∀ n : Nat, (n : Int) ≤ S 11 1 → (wSellN wFirst S n 11 1 = S 11 1 - n ∧ wSellN wFirst S n 0 9 = S 0 9 + n ∧ ∀ j : Nat, (j : Int) < (S 11 1 - n) * 4 → wSellN wFirst S n 12 j = S 12 (4 * n + j)) := by
  intro n
  induction n with
  | zero => intro _; exact ⟨by show S 11 1 = S 11 1 - ((0 : Nat) : Int); omega, by show S 0 9 = S 0 9 + ((0 : Nat) : Int); omega, fun j _ => by show S 12 j = S 12 (4 * 0 + j); congr 1; omega⟩
  | succ n ih =>
    intro hn
    obtain ⟨a, b, e⟩ := ih (by omega)
    have k11 : wSellN wFirst S (n + 1) 11 1 = wCutK (wSellN wFirst S n 11 1) 0 1 := rfl
    have k0 : wSellN wFirst S (n + 1) 0 9 = wSellN wFirst S n 0 9 + 1 := rfl
    have k12 : wSellN wFirst S (n + 1) 12 = wCutN (wSellN wFirst S n 12) (wSellN wFirst S n 11 1) 0 1 := rfl
    rw [k11, k0, k12]
    unfold wCutK wCutN
    rw [a, b, zif_pos (by omega), zif_pos (by omega)]
    refine ⟨by omega, by omega, fun j hj => ?_⟩
    (repeat (first | rw [upZ_s] | rw [upZ_e (by omega)] | rw [upZ_n (by omega)] | rw [shf_in (by omega) (by omega)] | rw [shf_out (by omega)] | rw [zer_in (by omega) (by omega)] | rw [zer_out (by omega)] | rw [cpyZ_in (by omega) (by omega)] | rw [cpyZ_out (by omega)] | rw [mapZ_in (by omega) (by omega)] | rw [mapZ_out (by omega)]))
    rw [e _ (by omega)]
    congr 1
    omega
theorem first_v {S : Nat → Nat → Int} (hc : 0 ≤ S 11 1 ∧ S 11 1 ≤ 8) : wSellV wFirst S (S 11 1).toNat = wByPlaces (S 12) (S 11 1) (S 0 9) := by
  have key : ∀ n : Nat, (n : Int) ≤ S 11 1 → wSellV wFirst S n = sumZ (fun k => max 1 (wPrice (S 12) (S 11 1) (k : Int) - S 0 9 - (k : Int))) n := by
    intro n
    induction n with
    | zero => intro _; rfl
    | succ n ih =>
      intro hn
      obtain ⟨a, b, e⟩ := first_st hc n (by omega)
      show wSellV wFirst S n + wWorth (wSellN wFirst S n 12) (wSellN wFirst S n 11 1) 0 (wSellN wFirst S n 0 9) = sumZ (fun k => max 1 (wPrice (S 12) (S 11 1) (k : Int) - S 0 9 - (k : Int))) n + max 1 (wPrice (S 12) (S 11 1) (n : Int) - S 0 9 - (n : Int))
      rw [ih (by omega), a, b]
      have n0 : wNum (wSellN wFirst S n 12) (S 11 1 - (n : Int)) 0 0 = S 12 ((n : Int) * 4 + 0).toNat := by unfold wNum; rw [zif_pos (by omega), e _ (by omega)]; congr 1; omega
      have n3 : wNum (wSellN wFirst S n 12) (S 11 1 - (n : Int)) 0 3 = S 12 ((n : Int) * 4 + 3).toNat := by unfold wNum; rw [zif_pos (by omega), e _ (by omega)]; congr 1; omega
      have m0 : wNum (S 12) (S 11 1) (n : Int) 0 = S 12 ((n : Int) * 4 + 0).toNat := by unfold wNum; rw [zif_pos (by omega)]
      have m3 : wNum (S 12) (S 11 1) (n : Int) 3 = S 12 ((n : Int) * 4 + 3).toNat := by unfold wNum; rw [zif_pos (by omega)]
      have w1 : wWorth (wSellN wFirst S n 12) (S 11 1 - (n : Int)) 0 (S 0 9 + (n : Int)) = max 1 (wPrice (S 12) (S 11 1) (n : Int) - S 0 9 - (n : Int)) := by
        unfold wWorth wPrice
        rw [n0, n3, m0, m3]
        omega
      rw [w1]
  exact key (S 11 1).toNat (by omega)
theorem first_copy {P T : Nat → Nat → Int} {G : Nat → Int} (h : relP P G) : wSellV wFirst (wCopy T P) (P 11 1).toNat = rInOrder G := by
  have r := relP_copy (T := T) h
  have sh := r.2.2.2.1
  have v := first_v (S := wCopy T P) sh.1
  have s7 := r.2.2.2.2.2.1.2.2.2.2.2.2.1
  have e : wCopy T P 11 1 = P 11 1 := rfl
  rw [← e, v]
  exact byPlaces_eq sh s7
theorem op_allPrices {F P N Hs : Nat → Nat → Int} {Gs : Nat → Nat → Nat → Int} {I L R : Nat → Nat → Int} {p1 : Int} (h : relA F P N Hs Gs I L R) : wByPlaces (P 12) (P 11 1) (P 0 9) = rInOrder (R 1) ∧ ∀ T : Nat → Nat → Int, wSellV wFirst (wCopy T P) (P 11 1).toNat = rInOrder (R 1) :=
  ⟨byPlaces_eq h.1.2.2.2.1 h.1.2.2.2.2.2.1.2.2.2.2.2.2.1, fun T => first_copy h.1⟩
set_option maxHeartbeats 16000000 in
theorem back_0 {F P R : Nat → Nat → Int} {k : Int} (h : relP P (R 1)) (hi : 1 ≤ P 13 1) (k0 : 0 ≤ k) (k1 : k < P 3 1) : sp_X7_failBackwards_0 F P k = sp_X8_failed R 0 k (R 1 (11 + sp_X8_nextOne R).toNat) := by
  have b0 := h.1
  have cr := h.2.2.2.2.1
  have e := relB_blank b0 k0 k1
  obtain ⟨n0, n1, n2, -⟩ := relB_num b0 k0 k1
  obtain ⟨l1, l2, l3, -, -⟩ := b0.2.2.1
  have hn := fresh_next cr hi
  have c9 := cr.2.1
  have c4 := cr.1
  have hm := (next_min (R := R) (by omega)).1
  have hq : 0 ≤ sp_X8_nextOne R ∧ sp_X8_nextOne R < P 13 1 := by omega
  have hy := cr.2.2 _ hq.1 hq.2
  have yy : wYaw (P 14) (P 13 1) (sp_X1_freshAt (sub2 P 13) 0) = R 1 (11 + sp_X8_nextOne R).toNat := by rw [hn]; unfold wYaw; rw [zif_pos hq]; exact hy.1
  rcases b0.2.2.2.2 k k0 k1 with ⟨a0, -⟩ | ⟨a0, a1, a2, -⟩
  · unfold sp_X7_failBackwards_0 sp_X8_failed
    rw [zif_pos (e.mpr a0), zif_pos a0]
  · rw [fail_eq (L := sub2 P 2) (y := R 1 (11 + sp_X8_nextOne R).toNat) (by omega) a0 a1.symm a2.symm l1 l2 l3]
    unfold sp_X7_failBackwards_0
    rw [zif_neg (fun q => by have := e.mp q; omega), yy, n0, n1]
    have hyr : 0 ≤ R 1 (11 + sp_X8_nextOne R).toNat ∧ R 1 (11 + sp_X8_nextOne R).toNat ≤ 9 := by omega
    have z0 : sub2 P 2 0 = P 2 := rfl
    unfold sp_X5_firstFailed
    unfold sp_X5_firstFailed_L3
    unfold sp_X5_firstFailed_L3
    unfold sp_X5_firstFailed_L3
    unfold sp_X5_firstFailed_L3
    unfold wPassed wLeft
    rw [z0]
    clear yy hn hm hq hy e l1 l2 l3 n0 n1 n2 a0 a1 a2
    generalize R 1 (11 + sp_X8_nextOne R).toNat = y at hyr ⊢
    generalize P 4 (k * 4 + 0).toNat = g
    generalize P 4 (k * 4 + 1).toNat = a
    generalize P 2 1 = m1
    generalize P 2 2 = m2
    generalize P 2 3 = m3
    rcases Classical.em (m1 ≤ g) with q1 | q1 <;> rcases Classical.em (a ≤ m2) with q2 | q2 <;> rcases Classical.em (g = m3) with q3 | q3 <;> rcases (show y = 9 ∨ (6 ≤ y ∧ y ≤ 8) ∨ y ≤ 5 by omega) with q | q | q <;> (repeat (first | rw [zif_pos (by omega)] | rw [zif_neg (by omega)])) <;> omega
set_option maxHeartbeats 16000000 in
theorem back_1 {F P R : Nat → Nat → Int} {k : Int} (h : relP P (R 1)) (hi : 1 ≤ P 13 1) (k0 : 0 ≤ k) (k1 : k < P 6 1) : sp_X7_failBackwards_1 F P k = sp_X8_failed R 1 k (R 1 (11 + sp_X8_nextOne R).toNat) := by
  have b0 := h.2.1
  have cr := h.2.2.2.2.1
  have e := relB_blank b0 k0 k1
  obtain ⟨n0, n1, n2, -⟩ := relB_num b0 k0 k1
  obtain ⟨l1, l2, l3, -, -⟩ := b0.2.2.1
  have hn := fresh_next cr hi
  have c9 := cr.2.1
  have c4 := cr.1
  have hm := (next_min (R := R) (by omega)).1
  have hq : 0 ≤ sp_X8_nextOne R ∧ sp_X8_nextOne R < P 13 1 := by omega
  have hy := cr.2.2 _ hq.1 hq.2
  have yy : wYaw (P 14) (P 13 1) (sp_X1_freshAt (sub2 P 13) 0) = R 1 (11 + sp_X8_nextOne R).toNat := by rw [hn]; unfold wYaw; rw [zif_pos hq]; exact hy.1
  rcases b0.2.2.2.2 k k0 k1 with ⟨a0, -⟩ | ⟨a0, a1, a2, -⟩
  · unfold sp_X7_failBackwards_1 sp_X8_failed
    rw [zif_pos (e.mpr a0), zif_pos a0]
  · rw [fail_eq (L := sub2 P 5) (y := R 1 (11 + sp_X8_nextOne R).toNat) (by omega) a0 a1.symm a2.symm l1 l2 l3]
    unfold sp_X7_failBackwards_1
    rw [zif_neg (fun q => by have := e.mp q; omega), yy, n0, n1]
    have hyr : 0 ≤ R 1 (11 + sp_X8_nextOne R).toNat ∧ R 1 (11 + sp_X8_nextOne R).toNat ≤ 9 := by omega
    have z0 : sub2 P 5 0 = P 5 := rfl
    unfold sp_X5_firstFailed
    unfold sp_X5_firstFailed_L3
    unfold sp_X5_firstFailed_L3
    unfold sp_X5_firstFailed_L3
    unfold sp_X5_firstFailed_L3
    unfold wPassed wLeft
    rw [z0]
    clear yy hn hm hq hy e l1 l2 l3 n0 n1 n2 a0 a1 a2
    generalize R 1 (11 + sp_X8_nextOne R).toNat = y at hyr ⊢
    generalize P 7 (k * 4 + 0).toNat = g
    generalize P 7 (k * 4 + 1).toNat = a
    generalize P 5 1 = m1
    generalize P 5 2 = m2
    generalize P 5 3 = m3
    rcases Classical.em (m1 ≤ g) with q1 | q1 <;> rcases Classical.em (a ≤ m2) with q2 | q2 <;> rcases Classical.em (g = m3) with q3 | q3 <;> rcases (show y = 9 ∨ (6 ≤ y ∧ y ≤ 8) ∨ y ≤ 5 by omega) with q | q | q <;> (repeat (first | rw [zif_pos (by omega)] | rw [zif_neg (by omega)])) <;> omega
set_option maxHeartbeats 16000000 in
theorem back_2 {F P R : Nat → Nat → Int} {k : Int} (h : relP P (R 1)) (hi : 1 ≤ P 13 1) (k0 : 0 ≤ k) (k1 : k < P 9 1) : sp_X7_failBackwards_2 F P k = sp_X8_failed R 2 k (R 1 (11 + sp_X8_nextOne R).toNat) := by
  have b0 := h.2.2.1
  have cr := h.2.2.2.2.1
  have e := relB_blank b0 k0 k1
  obtain ⟨n0, n1, n2, -⟩ := relB_num b0 k0 k1
  obtain ⟨l1, l2, l3, -, -⟩ := b0.2.2.1
  have hn := fresh_next cr hi
  have c9 := cr.2.1
  have c4 := cr.1
  have hm := (next_min (R := R) (by omega)).1
  have hq : 0 ≤ sp_X8_nextOne R ∧ sp_X8_nextOne R < P 13 1 := by omega
  have hy := cr.2.2 _ hq.1 hq.2
  have yy : wYaw (P 14) (P 13 1) (sp_X1_freshAt (sub2 P 13) 0) = R 1 (11 + sp_X8_nextOne R).toNat := by rw [hn]; unfold wYaw; rw [zif_pos hq]; exact hy.1
  rcases b0.2.2.2.2 k k0 k1 with ⟨a0, -⟩ | ⟨a0, a1, a2, -⟩
  · unfold sp_X7_failBackwards_2 sp_X8_failed
    rw [zif_pos (e.mpr a0), zif_pos a0]
  · rw [fail_eq (L := sub2 P 8) (y := R 1 (11 + sp_X8_nextOne R).toNat) (by omega) a0 a1.symm a2.symm l1 l2 l3]
    unfold sp_X7_failBackwards_2
    rw [zif_neg (fun q => by have := e.mp q; omega), yy, n0, n1]
    have hyr : 0 ≤ R 1 (11 + sp_X8_nextOne R).toNat ∧ R 1 (11 + sp_X8_nextOne R).toNat ≤ 9 := by omega
    have z0 : sub2 P 8 0 = P 8 := rfl
    unfold sp_X5_firstFailed
    unfold sp_X5_firstFailed_L3
    unfold sp_X5_firstFailed_L3
    unfold sp_X5_firstFailed_L3
    unfold sp_X5_firstFailed_L3
    unfold wPassed wLeft
    rw [z0]
    clear yy hn hm hq hy e l1 l2 l3 n0 n1 n2 a0 a1 a2
    generalize R 1 (11 + sp_X8_nextOne R).toNat = y at hyr ⊢
    generalize P 10 (k * 4 + 0).toNat = g
    generalize P 10 (k * 4 + 1).toNat = a
    generalize P 8 1 = m1
    generalize P 8 2 = m2
    generalize P 8 3 = m3
    rcases Classical.em (m1 ≤ g) with q1 | q1 <;> rcases Classical.em (a ≤ m2) with q2 | q2 <;> rcases Classical.em (g = m3) with q3 | q3 <;> rcases (show y = 9 ∨ (6 ≤ y ∧ y ≤ 8) ∨ y ≤ 5 by omega) with q | q | q <;> (repeat (first | rw [zif_pos (by omega)] | rw [zif_neg (by omega)])) <;> omega
