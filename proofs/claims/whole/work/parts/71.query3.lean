/-! in thought -/
theorem think_0 {Q X R : Nat → Nat → Int} {k : Int} (h : relP Q (R 1)) (hi : 1 ≤ Q 13 1) (k0 : 0 ≤ k) (k1 : k < Q 3 1) (xC : X 3 1 = wCutK (Q 3 1) 0 k) (xN : X 4 = wCutN (Q 4) (Q 3 1) 0 k) (xL : X 2 = Q 2) (x13 : X 13 = Q 13) (x14 : X 14 = Q 14) : sp_X5_inspectFront_0 X = sp_X8_failed R 0 k (R 1 (11 + sp_X8_nextOne R).toNat) := by
  have b0 := h.1
  have cr : relY (X 13 1) (X 14) (R 1) := by rw [x13, x14]; exact h.2.2.2.2.1
  have c13 : X 13 1 = Q 13 1 := by rw [x13]
  have c0 := relB_c b0
  have hi2 : 1 ≤ X 13 1 := by omega
  have e := relB_blank b0 k0 k1
  obtain ⟨n0, n1, n2, -⟩ := relB_num b0 k0 k1
  obtain ⟨l1, l2, l3, -, -⟩ := b0.2.2.1
  have hn := fresh_next cr hi2
  have c9 := cr.2.1
  have c4 := cr.1
  have hm := (next_min (R := R) (by omega)).1
  have hq : 0 ≤ sp_X8_nextOne R ∧ sp_X8_nextOne R < X 13 1 := by omega
  have hy := cr.2.2 _ hq.1 hq.2
  have yy : wYaw (X 14) (X 13 1) (sp_X1_freshAt (sub2 X 13) 0) = R 1 (11 + sp_X8_nextOne R).toNat := by rw [hn]; unfold wYaw; rw [zif_pos hq]; exact hy.1
  have xc : X 3 1 = Q 3 1 - k := by rw [xC]; unfold wCutK; rw [zif_pos (by omega)]
  have xw : ∀ w : Int, 0 ≤ w → w < 4 → wNum (X 4) (X 3 1) 0 w = wNum (Q 4) (Q 3 1) k w := by
    intro w w0 w1
    rw [xc, xN]
    unfold wNum wCutN
    rw [zif_pos (by omega), zif_pos (by omega), zif_pos (by omega)]
    (repeat (first | rw [upZ_s] | rw [upZ_e (by omega)] | rw [upZ_n (by omega)] | rw [shf_in (by omega) (by omega)] | rw [shf_out (by omega)] | rw [zer_in (by omega) (by omega)] | rw [zer_out (by omega)] | rw [cpyZ_in (by omega) (by omega)] | rw [cpyZ_out (by omega)] | rw [mapZ_in (by omega) (by omega)] | rw [mapZ_out (by omega)]))
    congr 1
    omega
  unfold sp_X5_inspectFront_0
  rcases b0.2.2.2.2 k k0 k1 with ⟨a0, -⟩ | ⟨a0, a1, a2, -⟩
  · unfold sp_X8_failed
    rw [zif_pos a0, zif_pos ((xw 0 (by decide) (by decide)).trans (e.mpr a0))]
  · rw [zif_neg (fun q => by have := e.mp ((xw 0 (by decide) (by decide)).symm.trans q); omega)]
    unfold sp_X5_inspectMonday_0
    rw [zif_same, yy, xw 0 (by decide) (by decide), xw 1 (by decide) (by decide), n0, n1]
    have z0 : sub2 X 2 0 = Q 2 := xL
    exact (fail_eq (L := sub2 X 2) (y := R 1 (11 + sp_X8_nextOne R).toNat) (by omega) a0 a1.symm a2.symm (by rw [z0]; exact l1) (by rw [z0]; exact l2) (by rw [z0]; exact l3)).symm
theorem cut_0 {P T R : Nat → Nat → Int} {k : Int} (h : relP P (R 1)) (hi : 1 ≤ P 13 1) (k0 : 0 ≤ k) (k1 : k < P 3 1) : sp_X5_inspectFront_0 (upA (upA (wCopy T P) 3 (upZ ((wCopy T P) 3) 1 (wCutK ((wCopy T P) 3 1) 0 k))) 4 (wCutN ((wCopy T P) 4) ((wCopy T P) 3 1) 0 k)) = sp_X8_failed R 0 k (R 1 (11 + sp_X8_nextOne R).toNat) :=
  think_0 (Q := wCopy T P) (relP_copy h) hi k0 k1 (upZ_s (f := wCopy T P 3) (k := 1) (v := wCutK (wCopy T P 3 1) 0 k)) rfl rfl rfl rfl
set_option maxHeartbeats 4000000 in
theorem inspN_0 {Q R : Nat → Nat → Int} (h : relP Q (R 1)) (hi : 1 ≤ Q 13 1) : ∀ n : Nat, (n : Int) ≤ Q 3 1 → relP (wInspN0 Q n) (rInspN R 0 n) ∧ wInspN0 Q n 3 1 = Q 3 1 - n ∧ wInspN0 Q n 13 = Q 13 := by
  intro n
  induction n with
  | zero => intro _; exact ⟨h, by show Q 3 1 = Q 3 1 - ((0 : Nat) : Int); omega, rfl⟩
  | succ n ih =>
    intro hn
    obtain ⟨r, c, d⟩ := ih (by omega)
    have g : relP (wInsp0 (wInspN0 Q n)) (rInsp (upA R 1 (rInspN R 0 n)) 0) := (rel_insp_0 (S := wInspN0 Q n) (S' := wInsp0 (wInspN0 Q n)) (R := upA R 1 (rInspN R 0 n)) r (by omega) (by rw [d]; exact hi) rfl rfl rfl rfl rfl rfl rfl rfl rfl rfl rfl rfl rfl rfl).1
    refine ⟨?_, ?_, ?_⟩
    · show relP (wInsp0 (wInspN0 Q n)) (sS0_1_X8_inspects (upA R 1 (rInspN R 0 n)) 0)
      rw [insp_e]
      exact g
    · show sS0_3_X5_inspectFront_0 (wInspN0 Q n) 1 = _
      unfold sS0_3_X5_inspectFront_0
      rw [zif_same, upZ_s, c]
      unfold wCutK
      rw [zif_pos (by omega)]
      omega
    · show wInspN0 Q n 13 = Q 13
      exact d
theorem stamp_0 {P T R : Nat → Nat → Int} (h : relP P (R 1)) (hi : 1 ≤ P 13 1) : wInspN0 (wCopy T P) (P 3 1).toNat 2 5 - P 2 5 = (rInspN R 0 (P 3 1).toNat) (15 + 26 * (0 : Int) + 5).toNat - R 1 (15 + 26 * (0 : Int) + 5).toNat := by
  have c0 := relB_c h.1
  have e : wCopy T P 3 1 = P 3 1 := rfl
  have r := (inspN_0 (Q := wCopy T P) (relP_copy h) hi (P 3 1).toNat (by rw [e]; omega)).1
  have x := r.1.2.2.1.2.2.2.2
  have y := h.1.2.2.1.2.2.2.2
  omega
theorem think_1 {Q X R : Nat → Nat → Int} {k : Int} (h : relP Q (R 1)) (hi : 1 ≤ Q 13 1) (k0 : 0 ≤ k) (k1 : k < Q 6 1) (xC : X 6 1 = wCutK (Q 6 1) 0 k) (xN : X 7 = wCutN (Q 7) (Q 6 1) 0 k) (xL : X 5 = Q 5) (x13 : X 13 = Q 13) (x14 : X 14 = Q 14) : sp_X5_inspectFront_1 X = sp_X8_failed R 1 k (R 1 (11 + sp_X8_nextOne R).toNat) := by
  have b0 := h.2.1
  have cr : relY (X 13 1) (X 14) (R 1) := by rw [x13, x14]; exact h.2.2.2.2.1
  have c13 : X 13 1 = Q 13 1 := by rw [x13]
  have c0 := relB_c b0
  have hi2 : 1 ≤ X 13 1 := by omega
  have e := relB_blank b0 k0 k1
  obtain ⟨n0, n1, n2, -⟩ := relB_num b0 k0 k1
  obtain ⟨l1, l2, l3, -, -⟩ := b0.2.2.1
  have hn := fresh_next cr hi2
  have c9 := cr.2.1
  have c4 := cr.1
  have hm := (next_min (R := R) (by omega)).1
  have hq : 0 ≤ sp_X8_nextOne R ∧ sp_X8_nextOne R < X 13 1 := by omega
  have hy := cr.2.2 _ hq.1 hq.2
  have yy : wYaw (X 14) (X 13 1) (sp_X1_freshAt (sub2 X 13) 0) = R 1 (11 + sp_X8_nextOne R).toNat := by rw [hn]; unfold wYaw; rw [zif_pos hq]; exact hy.1
  have xc : X 6 1 = Q 6 1 - k := by rw [xC]; unfold wCutK; rw [zif_pos (by omega)]
  have xw : ∀ w : Int, 0 ≤ w → w < 4 → wNum (X 7) (X 6 1) 0 w = wNum (Q 7) (Q 6 1) k w := by
    intro w w0 w1
    rw [xc, xN]
    unfold wNum wCutN
    rw [zif_pos (by omega), zif_pos (by omega), zif_pos (by omega)]
    (repeat (first | rw [upZ_s] | rw [upZ_e (by omega)] | rw [upZ_n (by omega)] | rw [shf_in (by omega) (by omega)] | rw [shf_out (by omega)] | rw [zer_in (by omega) (by omega)] | rw [zer_out (by omega)] | rw [cpyZ_in (by omega) (by omega)] | rw [cpyZ_out (by omega)] | rw [mapZ_in (by omega) (by omega)] | rw [mapZ_out (by omega)]))
    congr 1
    omega
  unfold sp_X5_inspectFront_1
  rcases b0.2.2.2.2 k k0 k1 with ⟨a0, -⟩ | ⟨a0, a1, a2, -⟩
  · unfold sp_X8_failed
    rw [zif_pos a0, zif_pos ((xw 0 (by decide) (by decide)).trans (e.mpr a0))]
  · rw [zif_neg (fun q => by have := e.mp ((xw 0 (by decide) (by decide)).symm.trans q); omega)]
    unfold sp_X5_inspectMonday_1
    rw [zif_same, yy, xw 0 (by decide) (by decide), xw 1 (by decide) (by decide), n0, n1]
    have z0 : sub2 X 5 0 = Q 5 := xL
    exact (fail_eq (L := sub2 X 5) (y := R 1 (11 + sp_X8_nextOne R).toNat) (by omega) a0 a1.symm a2.symm (by rw [z0]; exact l1) (by rw [z0]; exact l2) (by rw [z0]; exact l3)).symm
theorem cut_1 {P T R : Nat → Nat → Int} {k : Int} (h : relP P (R 1)) (hi : 1 ≤ P 13 1) (k0 : 0 ≤ k) (k1 : k < P 6 1) : sp_X5_inspectFront_1 (upA (upA (wCopy T P) 6 (upZ ((wCopy T P) 6) 1 (wCutK ((wCopy T P) 6 1) 0 k))) 7 (wCutN ((wCopy T P) 7) ((wCopy T P) 6 1) 0 k)) = sp_X8_failed R 1 k (R 1 (11 + sp_X8_nextOne R).toNat) :=
  think_1 (Q := wCopy T P) (relP_copy h) hi k0 k1 (upZ_s (f := wCopy T P 6) (k := 1) (v := wCutK (wCopy T P 6 1) 0 k)) rfl rfl rfl rfl
set_option maxHeartbeats 4000000 in
theorem inspN_1 {Q R : Nat → Nat → Int} (h : relP Q (R 1)) (hi : 1 ≤ Q 13 1) : ∀ n : Nat, (n : Int) ≤ Q 6 1 → relP (wInspN1 Q n) (rInspN R 1 n) ∧ wInspN1 Q n 6 1 = Q 6 1 - n ∧ wInspN1 Q n 13 = Q 13 := by
  intro n
  induction n with
  | zero => intro _; exact ⟨h, by show Q 6 1 = Q 6 1 - ((0 : Nat) : Int); omega, rfl⟩
  | succ n ih =>
    intro hn
    obtain ⟨r, c, d⟩ := ih (by omega)
    have g : relP (wInsp1 (wInspN1 Q n)) (rInsp (upA R 1 (rInspN R 1 n)) 1) := (rel_insp_1 (S := wInspN1 Q n) (S' := wInsp1 (wInspN1 Q n)) (R := upA R 1 (rInspN R 1 n)) r (by omega) (by rw [d]; exact hi) rfl rfl rfl rfl rfl rfl rfl rfl rfl rfl rfl rfl rfl rfl).1
    refine ⟨?_, ?_, ?_⟩
    · show relP (wInsp1 (wInspN1 Q n)) (sS0_1_X8_inspects (upA R 1 (rInspN R 1 n)) 1)
      rw [insp_e]
      exact g
    · show sS0_6_X5_inspectFront_1 (wInspN1 Q n) 1 = _
      unfold sS0_6_X5_inspectFront_1
      rw [zif_same, upZ_s, c]
      unfold wCutK
      rw [zif_pos (by omega)]
      omega
    · show wInspN1 Q n 13 = Q 13
      exact d
theorem stamp_1 {P T R : Nat → Nat → Int} (h : relP P (R 1)) (hi : 1 ≤ P 13 1) : wInspN1 (wCopy T P) (P 6 1).toNat 5 5 - P 5 5 = (rInspN R 1 (P 6 1).toNat) (15 + 26 * (1 : Int) + 5).toNat - R 1 (15 + 26 * (1 : Int) + 5).toNat := by
  have c0 := relB_c h.2.1
  have e : wCopy T P 6 1 = P 6 1 := rfl
  have r := (inspN_1 (Q := wCopy T P) (relP_copy h) hi (P 6 1).toNat (by rw [e]; omega)).1
  have x := r.2.1.2.2.1.2.2.2.2
  have y := h.2.1.2.2.1.2.2.2.2
  omega
theorem think_2 {Q X R : Nat → Nat → Int} {k : Int} (h : relP Q (R 1)) (hi : 1 ≤ Q 13 1) (k0 : 0 ≤ k) (k1 : k < Q 9 1) (xC : X 9 1 = wCutK (Q 9 1) 0 k) (xN : X 10 = wCutN (Q 10) (Q 9 1) 0 k) (xL : X 8 = Q 8) (x13 : X 13 = Q 13) (x14 : X 14 = Q 14) : sp_X5_inspectFront_2 X = sp_X8_failed R 2 k (R 1 (11 + sp_X8_nextOne R).toNat) := by
  have b0 := h.2.2.1
  have cr : relY (X 13 1) (X 14) (R 1) := by rw [x13, x14]; exact h.2.2.2.2.1
  have c13 : X 13 1 = Q 13 1 := by rw [x13]
  have c0 := relB_c b0
  have hi2 : 1 ≤ X 13 1 := by omega
  have e := relB_blank b0 k0 k1
  obtain ⟨n0, n1, n2, -⟩ := relB_num b0 k0 k1
  obtain ⟨l1, l2, l3, -, -⟩ := b0.2.2.1
  have hn := fresh_next cr hi2
  have c9 := cr.2.1
  have c4 := cr.1
  have hm := (next_min (R := R) (by omega)).1
  have hq : 0 ≤ sp_X8_nextOne R ∧ sp_X8_nextOne R < X 13 1 := by omega
  have hy := cr.2.2 _ hq.1 hq.2
  have yy : wYaw (X 14) (X 13 1) (sp_X1_freshAt (sub2 X 13) 0) = R 1 (11 + sp_X8_nextOne R).toNat := by rw [hn]; unfold wYaw; rw [zif_pos hq]; exact hy.1
  have xc : X 9 1 = Q 9 1 - k := by rw [xC]; unfold wCutK; rw [zif_pos (by omega)]
  have xw : ∀ w : Int, 0 ≤ w → w < 4 → wNum (X 10) (X 9 1) 0 w = wNum (Q 10) (Q 9 1) k w := by
    intro w w0 w1
    rw [xc, xN]
    unfold wNum wCutN
    rw [zif_pos (by omega), zif_pos (by omega), zif_pos (by omega)]
    (repeat (first | rw [upZ_s] | rw [upZ_e (by omega)] | rw [upZ_n (by omega)] | rw [shf_in (by omega) (by omega)] | rw [shf_out (by omega)] | rw [zer_in (by omega) (by omega)] | rw [zer_out (by omega)] | rw [cpyZ_in (by omega) (by omega)] | rw [cpyZ_out (by omega)] | rw [mapZ_in (by omega) (by omega)] | rw [mapZ_out (by omega)]))
    congr 1
    omega
  unfold sp_X5_inspectFront_2
  rcases b0.2.2.2.2 k k0 k1 with ⟨a0, -⟩ | ⟨a0, a1, a2, -⟩
  · unfold sp_X8_failed
    rw [zif_pos a0, zif_pos ((xw 0 (by decide) (by decide)).trans (e.mpr a0))]
  · rw [zif_neg (fun q => by have := e.mp ((xw 0 (by decide) (by decide)).symm.trans q); omega)]
    unfold sp_X5_inspectMonday_2
    rw [zif_same, yy, xw 0 (by decide) (by decide), xw 1 (by decide) (by decide), n0, n1]
    have z0 : sub2 X 8 0 = Q 8 := xL
    exact (fail_eq (L := sub2 X 8) (y := R 1 (11 + sp_X8_nextOne R).toNat) (by omega) a0 a1.symm a2.symm (by rw [z0]; exact l1) (by rw [z0]; exact l2) (by rw [z0]; exact l3)).symm
theorem cut_2 {P T R : Nat → Nat → Int} {k : Int} (h : relP P (R 1)) (hi : 1 ≤ P 13 1) (k0 : 0 ≤ k) (k1 : k < P 9 1) : sp_X5_inspectFront_2 (upA (upA (wCopy T P) 9 (upZ ((wCopy T P) 9) 1 (wCutK ((wCopy T P) 9 1) 0 k))) 10 (wCutN ((wCopy T P) 10) ((wCopy T P) 9 1) 0 k)) = sp_X8_failed R 2 k (R 1 (11 + sp_X8_nextOne R).toNat) :=
  think_2 (Q := wCopy T P) (relP_copy h) hi k0 k1 (upZ_s (f := wCopy T P 9) (k := 1) (v := wCutK (wCopy T P 9 1) 0 k)) rfl rfl rfl rfl
set_option maxHeartbeats 4000000 in
theorem inspN_2 {Q R : Nat → Nat → Int} (h : relP Q (R 1)) (hi : 1 ≤ Q 13 1) : ∀ n : Nat, (n : Int) ≤ Q 9 1 → relP (wInspN2 Q n) (rInspN R 2 n) ∧ wInspN2 Q n 9 1 = Q 9 1 - n ∧ wInspN2 Q n 13 = Q 13 := by
  intro n
  induction n with
  | zero => intro _; exact ⟨h, by show Q 9 1 = Q 9 1 - ((0 : Nat) : Int); omega, rfl⟩
  | succ n ih =>
    intro hn
    obtain ⟨r, c, d⟩ := ih (by omega)
    have g : relP (wInsp2 (wInspN2 Q n)) (rInsp (upA R 1 (rInspN R 2 n)) 2) := (rel_insp_2 (S := wInspN2 Q n) (S' := wInsp2 (wInspN2 Q n)) (R := upA R 1 (rInspN R 2 n)) r (by omega) (by rw [d]; exact hi) rfl rfl rfl rfl rfl rfl rfl rfl rfl rfl rfl rfl rfl rfl).1
    refine ⟨?_, ?_, ?_⟩
    · show relP (wInsp2 (wInspN2 Q n)) (sS0_1_X8_inspects (upA R 1 (rInspN R 2 n)) 2)
      rw [insp_e]
      exact g
    · show sS0_9_X5_inspectFront_2 (wInspN2 Q n) 1 = _
      unfold sS0_9_X5_inspectFront_2
      rw [zif_same, upZ_s, c]
      unfold wCutK
      rw [zif_pos (by omega)]
      omega
    · show wInspN2 Q n 13 = Q 13
      exact d
theorem stamp_2 {P T R : Nat → Nat → Int} (h : relP P (R 1)) (hi : 1 ≤ P 13 1) : wInspN2 (wCopy T P) (P 9 1).toNat 8 5 - P 8 5 = (rInspN R 2 (P 9 1).toNat) (15 + 26 * (2 : Int) + 5).toNat - R 1 (15 + 26 * (2 : Int) + 5).toNat := by
  have c0 := relB_c h.2.2.1
  have e : wCopy T P 9 1 = P 9 1 := rfl
  have r := (inspN_2 (Q := wCopy T P) (relP_copy h) hi (P 9 1).toNat (by rw [e]; omega)).1
  have x := r.2.2.1.2.2.1.2.2.2.2
  have y := h.2.2.1.2.2.1.2.2.2.2
  omega
set_option maxHeartbeats 4000000 in
theorem op_wouldFail {F P N Hs : Nat → Nat → Int} {Gs : Nat → Nat → Nat → Int} {I L R : Nat → Nat → Int} {p1 p2 p3 : Int} (h : relA F P N Hs Gs I L R) :
    (¬ (0 ≤ p2 ∧ ((p1 = 0 ∧ p2 < P 3 1) ∨ (p1 = 1 ∧ p2 < P 6 1) ∨ (p1 = 2 ∧ p2 < P 9 1))) → (relA F P N Hs Gs I L (upA R 0 (sS0_0_X8_wouldFail R p1 p2 p3)) ∧ (upA R 0 (sS0_0_X8_wouldFail R p1 p2 p3)) 0 8 = 1)) ∧ ((0 ≤ p2 ∧ ((p1 = 0 ∧ p2 < P 3 1) ∨ (p1 = 1 ∧ p2 < P 6 1) ∨ (p1 = 2 ∧ p2 < P 9 1))) → P 13 1 = 0 → (relA F P N Hs Gs I L (upA R 0 (sS0_0_X8_wouldFail R p1 p2 p3)) ∧ (upA R 0 (sS0_0_X8_wouldFail R p1 p2 p3)) 0 8 = 2)) ∧ ((0 ≤ p2 ∧ ((p1 = 0 ∧ p2 < P 3 1) ∨ (p1 = 1 ∧ p2 < P 6 1) ∨ (p1 = 2 ∧ p2 < P 9 1))) → 1 ≤ P 13 1 → (relA F P N Hs Gs I L (upA R 0 (sS0_0_X8_wouldFail R p1 p2 p3)) ∧ (upA R 0 (sS0_0_X8_wouldFail R p1 p2 p3)) 0 8 = 0) ∧ sp_X8_wouldFail R p1 p2 p3 = sp_X8_failed R p1 p2 (R 1 (11 + sp_X8_nextOne R).toNat)) := by
  have hP := h.1
  have c9 := hP.2.2.2.2.1.2.1
  have pe := place_eq (p1 := p1) (p2 := p2) hP
  refine ⟨fun q => relA_q h (by unfold sS0_0_X8_wouldFail; rw [zif_neg (fun z => q (pe.mpr z))]), fun q w => relA_q h (by unfold sS0_0_X8_wouldFail; rw [zif_pos (pe.mp q), zif_pos (by omega)]), fun q w => ⟨relA_q h (by unfold sS0_0_X8_wouldFail; rw [zif_pos (pe.mp q), zif_neg (by omega)]), ?_⟩⟩
  unfold sp_X8_wouldFail
  rw [zif_pos (pe.mp q), zif_neg (by omega), nextOne_c (S := upA R 0 (upZ (upZ (R 0) 8 0) 7 0)) (T := R) rfl, failed_c (S := upA R 0 (upZ (upZ (R 0) 8 0) 7 0)) (T := R) rfl]
