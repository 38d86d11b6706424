/-! the questions -/
theorem relA_q {F P N Hs : Nat → Nat → Int} {Gs : Nat → Nat → Nat → Int} {I L R : Nat → Nat → Int} (h : relA F P N Hs Gs I L R) {f : Nat → Int} {c : Int} (e : f = upZ (upZ (R 0) 8 c) 7 0) : relA F P N Hs Gs I L (upA R 0 f) ∧ (upA R 0 f) 0 8 = c := by
  refine ⟨relA_fl h rfl rfl rfl rfl rfl (fun i i7 i8 => ?_), ?_⟩
  · show f i = R 0 i
    rw [e, upZ_n i7, upZ_n i8]
  · show f 8 = c
    rw [e]
    (repeat (first | rw [upZ_s] | rw [upZ_e (by omega)] | rw [upZ_n (by omega)] | rw [shf_in (by omega) (by omega)] | rw [shf_out (by omega)] | rw [zer_in (by omega) (by omega)] | rw [zer_out (by omega)] | rw [cpyZ_in (by omega) (by omega)] | rw [cpyZ_out (by omega)] | rw [mapZ_in (by omega) (by omega)] | rw [mapZ_out (by omega)]))
theorem blanks_eq {c : Int} {L N G : Nat → Int} {b : Int} (h : relB c L N G b) : wBlanks N c = rBlanks G b := by
  unfold wBlanks rBlanks rCnt
  rw [h.2.1]
  refine sumI_cg (fun k k0 k1 => ?_)
  have e := relB_blank h k0 k1
  show zif (wNum N c k 0 = -1) (1 : Int) 0 = G (15 + 26 * b + (6 + 4 * k + 0)).toNat
  rcases h.2.2.2.2 k k0 k1 with ⟨a0, -⟩ | ⟨a0, -⟩
  · rw [zif_pos (e.mpr a0), a0]
  · rw [zif_neg (fun q => by have := e.mp q; omega), a0]
theorem greys_eq {c : Int} {L N G : Nat → Int} {b : Int} (h : relB c L N G b) : wGreys N c = rGreys G b := by
  unfold wGreys rGreys rCnt
  rw [h.2.1]
  refine sumI_cg (fun k k0 k1 => ?_)
  have e := relB_blank h k0 k1
  have n := (relB_num h k0 k1).1
  show zif (wNum N c k 0 = -1) (0 : Int) (wNum N c k 0) = zif (G (15 + 26 * b + (6 + 4 * k + 0)).toNat = 1) 0 (G (15 + 26 * b + (6 + 4 * k + 1)).toNat)
  rcases h.2.2.2.2 k k0 k1 with ⟨a0, -⟩ | ⟨a0, a1, -⟩
  · rw [zif_pos (e.mpr a0), zif_pos a0]
  · rw [zif_neg (fun q => by have := e.mp q; omega), zif_neg (by omega), n, a1]
theorem foldI_cg {f g : Int → Int → Int} {a x : Int} (h : ∀ k v, 0 ≤ k → k < x → (0 ≤ v → f k v = g k v)) (hr : ∀ k v, 0 ≤ k → k < x → 0 ≤ v → 0 ≤ f k v) (ha : 0 ≤ a) : foldI f a x = foldI g a x := by
  have key : ∀ n : Nat, (n : Int) ≤ x → foldN f a n = foldN g a n ∧ 0 ≤ foldN f a n := by
    intro n
    induction n with
    | zero => intro _; exact ⟨rfl, ha⟩
    | succ n ih =>
      intro hn
      obtain ⟨e, p⟩ := ih (by omega)
      refine ⟨?_, hr (n : Int) _ (by omega) (by omega) p⟩
      show f (n : Int) (foldN f a n) = g (n : Int) (foldN g a n)
      rw [← e]
      exact h (n : Int) _ (by omega) (by omega) p
  by_cases hx : 0 ≤ x
  · exact (key x.toNat (by omega)).1
  · unfold foldI
    rw [show x.toNat = 0 by omega]
    rfl
theorem least_eq {c : Int} {L N G : Nat → Int} {b : Int} (h : relB c L N G b) : wLeast N c = rLeast G b := by
  unfold wLeast rLeast
  rw [h.2.1]
  refine foldI_cg (fun k v k0 k1 _ => ?_) (fun k v k0 k1 v0 => ?_) (by decide)
  · have e := relB_blank h k0 k1
    have n := (relB_num h k0 k1).1
    unfold wLeastF rLeastF
    rcases h.2.2.2.2 k k0 k1 with ⟨a0, -⟩ | ⟨a0, a1, -⟩
    · rw [zif_pos (e.mpr a0), zif_pos a0]
    · rw [zif_neg (fun q => by have := e.mp q; omega), zif_neg (by omega), n, a1]
  · have n := (relB_num h k0 k1).1
    unfold wLeastF
    rcases h.2.2.2.2 k k0 k1 with ⟨a0, a1, -⟩ | ⟨a0, a1, a2, a3, a4, -⟩
    · rw [zif_pos (by omega)]; exact v0
    · rw [zif_neg (by omega)]; omega
set_option maxHeartbeats 4000000 in
theorem op_beltOf {F P N Hs : Nat → Nat → Int} {Gs : Nat → Nat → Nat → Int} {I L R : Nat → Nat → Int} {p1 p2 : Int} (h : relA F P N Hs Gs I L R) :
    (¬ (0 ≤ p1 ∧ p1 < 3) → relA F P N Hs Gs I L (upA R 0 (sS0_0_X8_beltOf R p1 p2)) ∧ (upA R 0 (sS0_0_X8_beltOf R p1 p2)) 0 8 = 1) ∧ (0 ≤ p1 ∧ p1 < 3 → ¬ (0 ≤ p2 ∧ p2 ≤ 6) → relA F P N Hs Gs I L (upA R 0 (sS0_0_X8_beltOf R p1 p2)) ∧ (upA R 0 (sS0_0_X8_beltOf R p1 p2)) 0 8 = 2) ∧ (0 ≤ p1 ∧ p1 < 3 → 0 ≤ p2 ∧ p2 ≤ 6 → (relA F P N Hs Gs I L (upA R 0 (sS0_0_X8_beltOf R p1 p2)) ∧ (upA R 0 (sS0_0_X8_beltOf R p1 p2)) 0 8 = 0) ∧ sp_X8_beltOf R p1 p2 = sp_X7_beltOf_ok F P p1 p2) := by
  have hP := h.1
  refine ⟨fun q => relA_q h (by unfold sS0_0_X8_beltOf; (repeat (first | rw [zif_pos (by omega)] | rw [zif_neg (by omega)]))), fun q w => relA_q h (by unfold sS0_0_X8_beltOf; (repeat (first | rw [zif_pos (by omega)] | rw [zif_neg (by omega)]))), fun q w => ⟨relA_q h (by unfold sS0_0_X8_beltOf; rw [zif_same, zif_same]; (repeat (first | rw [zif_pos (by omega)] | rw [zif_neg (by omega)]))), ?_⟩⟩
  unfold sp_X8_beltOf sp_X7_beltOf_ok
  rcases (show p1 = 0 ∨ p1 = 1 ∨ p1 = 2 by omega) with z | z | z
  · subst z
    have b0 := hP.1
    have c := b0.2.1
    have bl := blanks_eq b0
    obtain ⟨l1, l2, l3, l4, l5⟩ := b0.2.2.1
    rcases (show p2 = 0 ∨ p2 = 1 ∨ p2 = 2 ∨ p2 = 3 ∨ p2 = 4 ∨ p2 = 5 ∨ p2 = 6 by omega) with y | y | y | y | y | y | y <;> subst y <;> (repeat (first | rw [zif_pos (by omega)] | rw [zif_neg (by omega)]))
    · exact c
    · exact bl.symm
    · exact l1
    · exact l2
    · exact l3
    · exact l4
    · exact l5
  · subst z
    have b0 := hP.2.1
    have c := b0.2.1
    have bl := blanks_eq b0
    obtain ⟨l1, l2, l3, l4, l5⟩ := b0.2.2.1
    rcases (show p2 = 0 ∨ p2 = 1 ∨ p2 = 2 ∨ p2 = 3 ∨ p2 = 4 ∨ p2 = 5 ∨ p2 = 6 by omega) with y | y | y | y | y | y | y <;> subst y <;> (repeat (first | rw [zif_pos (by omega)] | rw [zif_neg (by omega)]))
    · exact c
    · exact bl.symm
    · exact l1
    · exact l2
    · exact l3
    · exact l4
    · exact l5
  · subst z
    have b0 := hP.2.2.1
    have c := b0.2.1
    have bl := blanks_eq b0
    obtain ⟨l1, l2, l3, l4, l5⟩ := b0.2.2.1
    rcases (show p2 = 0 ∨ p2 = 1 ∨ p2 = 2 ∨ p2 = 3 ∨ p2 = 4 ∨ p2 = 5 ∨ p2 = 6 by omega) with y | y | y | y | y | y | y <;> subst y <;> (repeat (first | rw [zif_pos (by omega)] | rw [zif_neg (by omega)]))
    · exact c
    · exact bl.symm
    · exact l1
    · exact l2
    · exact l3
    · exact l4
    · exact l5

theorem place_eq {P : Nat → Nat → Int} {G : Nat → Int} {p1 p2 : Int} (h : relP P G) : (0 ≤ p2 ∧ ((p1 = 0 ∧ p2 < P 3 1) ∨ (p1 = 1 ∧ p2 < P 6 1) ∨ (p1 = 2 ∧ p2 < P 9 1))) ↔ ((0 ≤ p1 ∧ p1 ≤ 2) ∧ 0 ≤ p2 ∧ p2 < G (15 + 26 * p1 + 0).toNat) := by
  have c0 := relB_c h.1
  have c1 := relB_c h.2.1
  have c2 := relB_c h.2.2.1
  rcases (show p1 = 0 ∨ p1 = 1 ∨ p1 = 2 ∨ ¬ (0 ≤ p1 ∧ p1 ≤ 2) by omega) with q | q | q | q
  · subst q; omega
  · subst q; omega
  · subst q; omega
  · constructor
    · intro _; omega
    · intro z; exact absurd z.1 q
set_option maxHeartbeats 4000000 in
theorem op_carrier {F P N Hs : Nat → Nat → Int} {Gs : Nat → Nat → Nat → Int} {I L R : Nat → Nat → Int} {p1 p2 p3 : Int} (h : relA F P N Hs Gs I L R) :
    (¬ (0 ≤ p2 ∧ ((p1 = 0 ∧ p2 < P 3 1) ∨ (p1 = 1 ∧ p2 < P 6 1) ∨ (p1 = 2 ∧ p2 < P 9 1))) → relA F P N Hs Gs I L (upA R 0 (sS0_0_X8_carrier R p1 p2 p3)) ∧ (upA R 0 (sS0_0_X8_carrier R p1 p2 p3)) 0 8 = 1) ∧ ((0 ≤ p2 ∧ ((p1 = 0 ∧ p2 < P 3 1) ∨ (p1 = 1 ∧ p2 < P 6 1) ∨ (p1 = 2 ∧ p2 < P 9 1))) → ¬ (0 ≤ p3 ∧ p3 ≤ 3) → relA F P N Hs Gs I L (upA R 0 (sS0_0_X8_carrier R p1 p2 p3)) ∧ (upA R 0 (sS0_0_X8_carrier R p1 p2 p3)) 0 8 = 2) ∧ ((0 ≤ p2 ∧ ((p1 = 0 ∧ p2 < P 3 1) ∨ (p1 = 1 ∧ p2 < P 6 1) ∨ (p1 = 2 ∧ p2 < P 9 1))) → 0 ≤ p3 ∧ p3 ≤ 3 → (relA F P N Hs Gs I L (upA R 0 (sS0_0_X8_carrier R p1 p2 p3)) ∧ (upA R 0 (sS0_0_X8_carrier R p1 p2 p3)) 0 8 = 0) ∧ sp_X8_carrier R p1 p2 p3 = sp_X7_carrier_ok F P p1 p2 p3) := by
  have hP := h.1
  have pe := place_eq (p1 := p1) (p2 := p2) hP
  refine ⟨fun q => relA_q h (by unfold sS0_0_X8_carrier; rw [zif_neg (fun z => q (pe.mpr z))]), fun q w => relA_q h (by unfold sS0_0_X8_carrier; rw [zif_pos (pe.mp q), zif_neg w]), fun q w => ⟨relA_q h (by unfold sS0_0_X8_carrier; rw [zif_pos (pe.mp q), zif_pos w]), ?_⟩⟩
  unfold sp_X8_carrier sp_X7_carrier_ok
  rw [zif_pos (pe.mp q), zif_pos w]
  rcases (show (p1 = 0 ∧ p2 < P 3 1) ∨ (p1 = 1 ∧ p2 < P 6 1) ∨ (p1 = 2 ∧ p2 < P 9 1) from q.2) with ⟨z, k1⟩ | ⟨z, k1⟩ | ⟨z, k1⟩
  · subst z
    have b0 := hP.1
    have e := relB_blank b0 q.1 k1
    obtain ⟨n0, n1, n2, -⟩ := relB_num b0 q.1 k1
    rcases (show p3 = 0 ∨ p3 = 1 ∨ p3 = 2 ∨ p3 = 3 by omega) with y | y | y | y <;> subst y <;> rcases b0.2.2.2.2 p2 q.1 k1 with ⟨a0, a1, a2, a3, a4, a5, a6⟩ | ⟨a0, a1, a2, a3, a4, -⟩ <;> (first | rw [n0, n1, n2] | skip) <;> (repeat (first | rw [zif_pos (by omega)] | rw [zif_neg (by omega)])) <;> omega
  · subst z
    have b0 := hP.2.1
    have e := relB_blank b0 q.1 k1
    obtain ⟨n0, n1, n2, -⟩ := relB_num b0 q.1 k1
    rcases (show p3 = 0 ∨ p3 = 1 ∨ p3 = 2 ∨ p3 = 3 by omega) with y | y | y | y <;> subst y <;> rcases b0.2.2.2.2 p2 q.1 k1 with ⟨a0, a1, a2, a3, a4, a5, a6⟩ | ⟨a0, a1, a2, a3, a4, -⟩ <;> (first | rw [n0, n1, n2] | skip) <;> (repeat (first | rw [zif_pos (by omega)] | rw [zif_neg (by omega)])) <;> omega
  · subst z
    have b0 := hP.2.2.1
    have e := relB_blank b0 q.1 k1
    obtain ⟨n0, n1, n2, -⟩ := relB_num b0 q.1 k1
    rcases (show p3 = 0 ∨ p3 = 1 ∨ p3 = 2 ∨ p3 = 3 by omega) with y | y | y | y <;> subst y <;> rcases b0.2.2.2.2 p2 q.1 k1 with ⟨a0, a1, a2, a3, a4, a5, a6⟩ | ⟨a0, a1, a2, a3, a4, -⟩ <;> (first | rw [n0, n1, n2] | skip) <;> (repeat (first | rw [zif_pos (by omega)] | rw [zif_neg (by omega)])) <;> omega

theorem op_yawns {F P N Hs : Nat → Nat → Int} {Gs : Nat → Nat → Nat → Int} {I L R : Nat → Nat → Int} {p1 : Int} (h : relA F P N Hs Gs I L R) :
    (¬ (0 ≤ p1 ∧ p1 < P 13 1) → relA F P N Hs Gs I L (upA R 0 (sS0_0_X8_yawns R p1)) ∧ (upA R 0 (sS0_0_X8_yawns R p1)) 0 8 = 1) ∧ (0 ≤ p1 ∧ p1 < P 13 1 → (relA F P N Hs Gs I L (upA R 0 (sS0_0_X8_yawns R p1)) ∧ (upA R 0 (sS0_0_X8_yawns R p1)) 0 8 = 0) ∧ sp_X8_yawns R p1 = wYaw (P 14) (P 13 1) p1) := by
  have cr := h.1.2.2.2.2.1
  have c9 := cr.2.1
  refine ⟨fun q => relA_q h (by unfold sS0_0_X8_yawns; (repeat (first | rw [zif_pos (by omega)] | rw [zif_neg (by omega)]))), fun q => ⟨relA_q h (by unfold sS0_0_X8_yawns; (repeat (first | rw [zif_pos (by omega)] | rw [zif_neg (by omega)]))), ?_⟩⟩
  unfold sp_X8_yawns wYaw
  rw [zif_pos (by omega), zif_pos q]
  exact (cr.2.2 p1 q.1 q.2).1.symm
theorem op_next {F P N Hs : Nat → Nat → Int} {Gs : Nat → Nat → Nat → Int} {I L R : Nat → Nat → Int} (h : relA F P N Hs Gs I L R) :
    (P 13 1 = 0 → relA F P N Hs Gs I L (upA R 0 (sS0_0_X8_next R)) ∧ (upA R 0 (sS0_0_X8_next R)) 0 8 = 1) ∧ (1 ≤ P 13 1 → (relA F P N Hs Gs I L (upA R 0 (sS0_0_X8_next R)) ∧ (upA R 0 (sS0_0_X8_next R)) 0 8 = 0) ∧ sp_X8_next R = sp_X1_freshAt (sub2 P 13) 0) := by
  have cr := h.1.2.2.2.2.1
  have c9 := cr.2.1
  refine ⟨fun q => relA_q h (by unfold sS0_0_X8_next; (repeat (first | rw [zif_pos (by omega)] | rw [zif_neg (by omega)]))), fun q => ⟨relA_q h (by unfold sS0_0_X8_next; (repeat (first | rw [zif_pos (by omega)] | rw [zif_neg (by omega)]))), ?_⟩⟩
  unfold sp_X8_next
  rw [zif_neg (by omega)]
  exact (fresh_next (R := upA R 0 (upZ (upZ (R 0) 8 0) 7 0)) cr q).symm
theorem op_leastGrey {F P N Hs : Nat → Nat → Int} {Gs : Nat → Nat → Nat → Int} {I L R : Nat → Nat → Int} {p1 : Int} (h : relA F P N Hs Gs I L R) :
    (¬ (0 ≤ p1 ∧ p1 < 3) → relA F P N Hs Gs I L (upA R 0 (sS0_0_X8_leastGrey R p1)) ∧ (upA R 0 (sS0_0_X8_leastGrey R p1)) 0 8 = 1) ∧ (0 ≤ p1 ∧ p1 < 3 → (relA F P N Hs Gs I L (upA R 0 (sS0_0_X8_leastGrey R p1)) ∧ (upA R 0 (sS0_0_X8_leastGrey R p1)) 0 8 = 0) ∧ (p1 = 0 → sp_X8_leastGrey R p1 = wLeast (P 4) (P 3 1)) ∧ (p1 = 1 → sp_X8_leastGrey R p1 = wLeast (P 7) (P 6 1)) ∧ (p1 = 2 → sp_X8_leastGrey R p1 = wLeast (P 10) (P 9 1))) := by
  have hP := h.1
  refine ⟨fun q => relA_q h (by unfold sS0_0_X8_leastGrey; (repeat (first | rw [zif_pos (by omega)] | rw [zif_neg (by omega)]))), fun q => ⟨relA_q h (by unfold sS0_0_X8_leastGrey; (repeat (first | rw [zif_pos (by omega)] | rw [zif_neg (by omega)]))), fun z => ?_, fun z => ?_, fun z => ?_⟩⟩
  · subst z; unfold sp_X8_leastGrey; rw [zif_pos (by omega)]; exact (least_eq hP.1).symm
  · subst z; unfold sp_X8_leastGrey; rw [zif_pos (by omega)]; exact (least_eq hP.2.1).symm
  · subst z; unfold sp_X8_leastGrey; rw [zif_pos (by omega)]; exact (least_eq hP.2.2.1).symm
set_option maxHeartbeats 4000000 in
theorem op_rejectOf {F P N Hs : Nat → Nat → Int} {Gs : Nat → Nat → Nat → Int} {I L R : Nat → Nat → Int} {p1 p2 : Int} (h : relA F P N Hs Gs I L R) :
    (¬ (0 ≤ p1 ∧ p1 < P 11 1) → relA F P N Hs Gs I L (upA R 0 (sS0_0_X8_rejectOf R p1 p2)) ∧ (upA R 0 (sS0_0_X8_rejectOf R p1 p2)) 0 8 = 1) ∧ (0 ≤ p1 ∧ p1 < P 11 1 → ¬ (0 ≤ p2 ∧ p2 ≤ 5) → relA F P N Hs Gs I L (upA R 0 (sS0_0_X8_rejectOf R p1 p2)) ∧ (upA R 0 (sS0_0_X8_rejectOf R p1 p2)) 0 8 = 2) ∧ (0 ≤ p1 ∧ p1 < P 11 1 → 0 ≤ p2 ∧ p2 ≤ 5 → (relA F P N Hs Gs I L (upA R 0 (sS0_0_X8_rejectOf R p1 p2)) ∧ (upA R 0 (sS0_0_X8_rejectOf R p1 p2)) 0 8 = 0) ∧ sp_X8_rejectOf R p1 p2 = sp_X7_rejectOf_ok F P p1 p2) := by
  have sh := h.1.2.2.2.1
  have c10 := sh.2.1
  have s7 := h.1.2.2.2.2.2.1.2.2.2.2.2.2.1
  refine ⟨fun q => relA_q h (by unfold sS0_0_X8_rejectOf; (repeat (first | rw [zif_pos (by omega)] | rw [zif_neg (by omega)]))), fun q w => relA_q h (by unfold sS0_0_X8_rejectOf; (repeat (first | rw [zif_pos (by omega)] | rw [zif_neg (by omega)]))), fun q w => ⟨relA_q h (by unfold sS0_0_X8_rejectOf; rw [zif_same, zif_same]; (repeat (first | rw [zif_pos (by omega)] | rw [zif_neg (by omega)]))), ?_⟩⟩
  obtain ⟨n0, n1, n2, n3⟩ := relS_num sh q.1 q.2
  have nw := relS_worth (d := P 0 9) sh q.1 q.2
  unfold sp_X8_rejectOf sp_X7_rejectOf_ok
  rw [n0, n1, n2, n3, nw, ← s7]
  rcases (show p2 = 0 ∨ p2 = 1 ∨ p2 = 2 ∨ p2 = 3 ∨ p2 = 4 ∨ p2 = 5 by omega) with y | y | y | y | y | y <;> subst y <;> (repeat (first | rw [zif_pos (by omega)] | rw [zif_neg (by omega)]))
theorem op_best {F P N Hs : Nat → Nat → Int} {Gs : Nat → Nat → Nat → Int} {I L R : Nat → Nat → Int} (h : relA F P N Hs Gs I L R) :
    (P 11 1 = 0 → relA F P N Hs Gs I L (upA R 0 (sS0_0_X8_best R)) ∧ (upA R 0 (sS0_0_X8_best R)) 0 8 = 1) ∧ (1 ≤ P 11 1 → (relA F P N Hs Gs I L (upA R 0 (sS0_0_X8_best R)) ∧ (upA R 0 (sS0_0_X8_best R)) 0 8 = 0) ∧ sp_X8_best R = wBest (P 12) (P 11 1) (P 0 9)) := by
  have sh := h.1.2.2.2.1
  have c10 := sh.2.1
  have s7 := h.1.2.2.2.2.2.1.2.2.2.2.2.2.1
  refine ⟨fun q => relA_q h (by unfold sS0_0_X8_best; (repeat (first | rw [zif_pos (by omega)] | rw [zif_neg (by omega)]))), fun q => ⟨relA_q h (by unfold sS0_0_X8_best; (repeat (first | rw [zif_pos (by omega)] | rw [zif_neg (by omega)]))), ?_⟩⟩
  unfold sp_X8_best
  rw [zif_neg (by omega)]
  unfold rBest wBest
  rw [c10]
  have key : ∀ n : Nat, (n : Int) ≤ P 11 1 → foldN (rBestF (R 1)) 0 n = foldN (wBestF (P 12) (P 11 1) (P 0 9)) 0 n ∧ 0 ≤ foldN (rBestF (R 1)) 0 n ∧ foldN (rBestF (R 1)) 0 n < P 11 1 := by
    intro n
    induction n with
    | zero => intro _; exact ⟨rfl, Int.le_refl 0, by show (0 : Int) < _; omega⟩
    | succ n ih =>
      intro hn
      obtain ⟨e, r0, r1⟩ := ih (by omega)
      have w1 := relS_worth (d := P 0 9) sh (p := (n : Int)) (by omega) (by omega)
      have w2 := relS_worth (d := P 0 9) sh r0 r1
      have e2 : foldN (rBestF (R 1)) 0 (n + 1) = zif (rWorth (R 1) (n : Int) (R 1 7) ≤ rWorth (R 1) (foldN (rBestF (R 1)) 0 n) (R 1 7)) (foldN (rBestF (R 1)) 0 n) (n : Int) := rfl
      have e3 : foldN (wBestF (P 12) (P 11 1) (P 0 9)) 0 (n + 1) = zif (wWorth (P 12) (P 11 1) (n : Int) (P 0 9) ≤ wWorth (P 12) (P 11 1) (foldN (wBestF (P 12) (P 11 1) (P 0 9)) 0 n) (P 0 9)) (foldN (wBestF (P 12) (P 11 1) (P 0 9)) 0 n) (n : Int) := rfl
      rw [e2, e3, ← e, w1, w2, s7]
      refine ⟨rfl, ?_⟩
      exact el1 (Q := fun z => 0 ≤ z ∧ z < P 11 1) (fun _ => ⟨r0, r1⟩) (fun _ => ⟨by omega, by omega⟩)
  exact (key (max 1 (P 11 1)).toNat (by omega)).1
