/-! the week -/
theorem relB_pass {c1 c2 : Int} {L1 L2 N1 N2 G : Nat → Int} {b b' : Int} (hb : 0 ≤ b) (e : b' = b + 1) (h1 : relB c1 L1 N1 G b) (h2 : relB c2 L2 N2 G b') (hc : c2 < 5) : relB (wMvK0 c1) L1 (wMvN0 N1 c1) (rPass G b) b ∧ relB (wMvK c1 c2) L2 (wMvN N1 N2 c1 c2) (rPass G b) b' ∧ ∀ j : Nat, ((j : Int) < 15 + 26 * b ∨ 15 + 26 * b + 52 ≤ (j : Int)) → rPass G b j = G j := by
  subst e
  have g1 := relB_c h1
  have g2 := relB_c h2
  unfold rPass
  rcases Classical.em (G (15 + 26 * b + 0).toNat = 0) with z | z
  · rw [zif_pos z]
    have q : ¬ 0 < c1 := by omega
    unfold wMvK0 wMvN0 wMvK wMvN
    rw [zif_neg q, zif_neg q, zif_neg q, zif_neg q]
    exact ⟨h1, h2, fun _ _ => rfl⟩
  · rw [zif_neg z]
    have q : 0 < c1 := by omega
    unfold wMvK0 wMvN0 wMvK wMvN
    rw [zif_pos q, zif_pos q, zif_pos q, zif_pos q]
    obtain ⟨n0, n1, n2, n3⟩ := relB_num h1 (k := 0) (by omega) q
    have hk := h1.2.2.2.2 0 (by omega) q
    have A := relB_add (by omega) h2 hc (d0 := wNum N1 c1 0 0) (d1 := wNum N1 c1 0 1) (d2 := wNum N1 c1 0 2) (d3 := wNum N1 c1 0 3) (e0 := G (15 + 26 * b + (6 + 4 * 0 + 0)).toNat) (e1 := G (15 + 26 * b + (6 + 4 * 0 + 1)).toNat) (e2 := G (15 + 26 * b + (6 + 4 * 0 + 2)).toNat) (e3 := G (15 + 26 * b + (6 + 4 * 0 + 3)).toNat) (by
      rw [n0, n1, n2]
      rcases hk with ⟨a0, a1, a2, a3, a4, a5, a6⟩ | ⟨a0, a1, a2, a3, a4, a5, a6⟩
      · exact Or.inl ⟨a0, a1, a2, a3, a4, a5, a6⟩
      · exact Or.inr ⟨a0, a1, a2, a3, a4, a5, a6⟩)
    generalize hX : rPuts G (b + 1) (G (15 + 26 * b + (6 + 4 * 0 + 0)).toNat) (G (15 + 26 * b + (6 + 4 * 0 + 1)).toNat) (G (15 + 26 * b + (6 + 4 * 0 + 2)).toNat) (G (15 + 26 * b + (6 + 4 * 0 + 3)).toNat) = X at A ⊢
    have fX : ∀ j : Nat, ((j : Int) < 15 + 26 * (b + 1) ∨ 15 + 26 * (b + 1) + 26 ≤ (j : Int)) → X j = G j := fun j hj => by rw [← hX]; exact rPuts_fr (by omega) g2.1 g2.2.1 hc hj
    have h1' : relB c1 L1 N1 X b := relB_fr hb h1 (fun j j0 j1 => fX j (by omega))
    have g1' := relB_c h1'
    have B := relB_goes hb h1' q
    have fB : ∀ j : Nat, ((j : Int) < 15 + 26 * b ∨ 15 + 26 * b + 26 ≤ (j : Int)) → rGoes X b j = X j := fun j hj => rGoes_fr hb g1'.1 q g1'.2.2 hj
    exact ⟨B, relB_fr (by omega) A (fun j j0 j1 => fB j (by omega)), fun j hj => (fB j (by omega)).trans (fX j (by omega))⟩
theorem wMvK0_r4 {c : Int} (h : 0 ≤ c ∧ c ≤ 5) : 0 ≤ wMvK0 c ∧ wMvK0 c ≤ 4 := by
  unfold wMvK0 wCutK
  rcases Classical.em (0 < c) with q | q
  · rw [zif_pos q, zif_pos (by omega)]; omega
  · rw [zif_neg q]; omega
theorem wCutK1_rng {c : Int} (h : 0 ≤ c ∧ c ≤ 5) : 0 ≤ wCutK c 0 1 ∧ wCutK c 0 1 ≤ 4 := by
  unfold wCutK
  rcases Classical.em (0 < c) with q | q
  · rw [zif_pos (by omega)]; omega
  · rw [zif_neg (by omega)]; omega
set_option maxHeartbeats 4000000 in
theorem rel_weekG {S : Nat → Nat → Int} {G G0 : Nat → Int} {d p1 p2 p3 : Int} (h : relP S G) (P2 : relB (wCutK (S 9 1) 0 1) (S 8) (wCutN (S 10) (S 9 1) 0 1) G0 2) (f0 : ∀ j : Nat, (j < 67 ∨ 93 ≤ j) → G0 j = G j) (e0 : wCarry S 119 p1 p2 p3 0 = upZ (upZ (upZ (S 0) 7 ((S 0 7) + d)) 9 0) 4 ((S 0 4) + 1)) :
    relP (wCarry S 119 p1 p2 p3) (upZ (upZ (upZ (mapZ rRest (rPass (rPass G0 1) 0) 11 (11 + G 9).toNat) 5 ((mapZ rRest (rPass (rPass G0 1) 0) 11 (11 + G 9).toNat) 5 + d)) 7 0) 1 ((mapZ rRest (rPass (rPass G0 1) 0) 11 (11 + G 9).toNat) 1 + 1)) := by
  obtain ⟨b0, b1, b2, sh, cr, ⟨s0, s1, s2, s4, s5, s6, s7, s8⟩, st, f9⟩ := h
  have e3 : wCarry S 119 p1 p2 p3 3 = upZ (S 3) 1 (wMvK0 ((S 3 1))) := by show sS0_3_X5_carryOut S 119 p1 p2 p3 = _; unfold sS0_3_X5_carryOut; (repeat (first | rw [zif_pos (by omega)] | rw [zif_neg (by omega)])); try rfl
  have e4 : wCarry S 119 p1 p2 p3 4 = wMvN0 (S 4) ((S 3 1)) := by show sS0_4_X5_carryOut S 119 p1 p2 p3 = _; unfold sS0_4_X5_carryOut; (repeat (first | rw [zif_pos (by omega)] | rw [zif_neg (by omega)])); try rfl
  have e6 : wCarry S 119 p1 p2 p3 6 = upZ ((upZ (S 6) 1 (wMvK0 ((S 6 1))))) 1 (wMvK ((S 3 1)) ((wMvK0 ((S 6 1))))) := by show sS0_6_X5_carryOut S 119 p1 p2 p3 = _; unfold sS0_6_X5_carryOut; (repeat (first | rw [zif_pos (by omega)] | rw [zif_neg (by omega)])); try rfl
  have e7 : wCarry S 119 p1 p2 p3 7 = wMvN (S 4) ((wMvN0 (S 7) ((S 6 1)))) ((S 3 1)) ((wMvK0 ((S 6 1)))) := by show sS0_7_X5_carryOut S 119 p1 p2 p3 = _; unfold sS0_7_X5_carryOut; (repeat (first | rw [zif_pos (by omega)] | rw [zif_neg (by omega)])); try rfl
  have e9 : wCarry S 119 p1 p2 p3 9 = upZ ((upZ (S 9) 1 (wCutK ((S 9 1)) 0 1))) 1 (wMvK ((S 6 1)) ((wCutK ((S 9 1)) 0 1))) := by show sS0_9_X5_carryOut S 119 p1 p2 p3 = _; unfold sS0_9_X5_carryOut; (repeat (first | rw [zif_pos (by omega)] | rw [zif_neg (by omega)])); try rfl
  have e10 : wCarry S 119 p1 p2 p3 10 = wMvN (S 7) ((wCutN (S 10) ((S 9 1)) 0 1)) ((S 6 1)) ((wCutK ((S 9 1)) 0 1)) := by show sS0_10_X5_carryOut S 119 p1 p2 p3 = _; unfold sS0_10_X5_carryOut; (repeat (first | rw [zif_pos (by omega)] | rw [zif_neg (by omega)])); try rfl
  have e14 : wCarry S 119 p1 p2 p3 14 = wTireAll (S 14) (S 13 1) (-2) := by show sS0_14_X5_carryOut S 119 p1 p2 p3 = _; unfold sS0_14_X5_carryOut; (repeat (first | rw [zif_pos (by omega)] | rw [zif_neg (by omega)])); try rfl
  have e2 : wCarry S 119 p1 p2 p3 2 = S 2 := by first | rfl | (show sS0_2_X5_carryOut S 119 p1 p2 p3 = _; unfold sS0_2_X5_carryOut; (repeat (first | rw [zif_pos (by omega)] | rw [zif_neg (by omega)])))
  have e5 : wCarry S 119 p1 p2 p3 5 = S 5 := by first | rfl | (show sS0_5_X5_carryOut S 119 p1 p2 p3 = _; unfold sS0_5_X5_carryOut; (repeat (first | rw [zif_pos (by omega)] | rw [zif_neg (by omega)])))
  have e8 : wCarry S 119 p1 p2 p3 8 = S 8 := by first | rfl | (show sS0_8_X5_carryOut S 119 p1 p2 p3 = _; unfold sS0_8_X5_carryOut; (repeat (first | rw [zif_pos (by omega)] | rw [zif_neg (by omega)])))
  have e11 : wCarry S 119 p1 p2 p3 11 = S 11 := by first | rfl | (show sS0_11_X5_carryOut S 119 p1 p2 p3 = _; unfold sS0_11_X5_carryOut; (repeat (first | rw [zif_pos (by omega)] | rw [zif_neg (by omega)])))
  have e12 : wCarry S 119 p1 p2 p3 12 = S 12 := by first | rfl | (show sS0_12_X5_carryOut S 119 p1 p2 p3 = _; unfold sS0_12_X5_carryOut; (repeat (first | rw [zif_pos (by omega)] | rw [zif_neg (by omega)])))
  have e13 : wCarry S 119 p1 p2 p3 13 = S 13 := by first | rfl | (show sS0_13_X5_carryOut S 119 p1 p2 p3 = _; unfold sS0_13_X5_carryOut; (repeat (first | rw [zif_pos (by omega)] | rw [zif_neg (by omega)])))
  unfold relP
  rw [e2, e3, e4, e5, e6, e7, e8, e9, e10, e11, e12, e13, e14]
  rw [e0]
  have q0 := relB_c b0
  have q1 := relB_c b1
  have q2 := relB_c b2
  have k2 := wCutK1_rng (c := S 9 1) ⟨q2.2.1, q2.2.2⟩
  have k1 := wMvK0_r4 (c := S 6 1) ⟨q1.2.1, q1.2.2⟩
  obtain ⟨a1, a2, af⟩ := relB_pass (b := 1) (b' := 2) (by decide) rfl (relB_fr (by decide) b1 (fun j j0 j1 => f0 j (by omega))) P2 (by omega)
  obtain ⟨c0, c1, cf⟩ := relB_pass (b := 0) (b' := 1) (by decide) rfl (relB_fr (by decide) b0 (fun j j0 j1 => (af j (by omega)).trans (f0 j (by omega)))) a1 (by omega)
  have ff : ∀ j : Nat, (j < 15 ∨ 93 ≤ j) → rPass (rPass G0 1) 0 j = G j := fun j hj => ((cf j (by omega)).trans (af j (by omega))).trans (f0 j (by omega))
  have c2 : relB (wMvK (S 6 1) (wCutK (S 9 1) 0 1)) (S 8) (wMvN (S 7) (wCutN (S 10) (S 9 1) 0 1) (S 6 1) (wCutK (S 9 1) 0 1)) (rPass (rPass G0 1) 0) 2 := relB_fr (by decide) a2 (fun j j0 j1 => cf j (by omega))
  generalize rPass (rPass G0 1) 0 = X at c0 c1 c2 ff ⊢
  have q9 := cr.2.1
  have qc := cr.1
  refine ⟨?_, ?_, ?_, relS_fr sh (by (repeat (first | rw [upZ_s] | rw [upZ_e (by omega)] | rw [upZ_n (by omega)] | rw [shf_in (by omega) (by omega)] | rw [shf_out (by omega)] | rw [zer_in (by omega) (by omega)] | rw [zer_out (by omega)] | rw [cpyZ_in (by omega) (by omega)] | rw [cpyZ_out (by omega)] | rw [mapZ_in (by omega) (by omega)] | rw [mapZ_out (by omega)])); exact ff 10 (by decide)) (fun j j0 j1 => by (repeat (first | rw [upZ_s] | rw [upZ_e (by omega)] | rw [upZ_n (by omega)] | rw [shf_in (by omega) (by omega)] | rw [shf_out (by omega)] | rw [zer_in (by omega) (by omega)] | rw [zer_out (by omega)] | rw [cpyZ_in (by omega) (by omega)] | rw [cpyZ_out (by omega)] | rw [mapZ_in (by omega) (by omega)] | rw [mapZ_out (by omega)])); exact ff j (by omega)), ?_, ⟨by (repeat (first | rw [upZ_s] | rw [upZ_e (by omega)] | rw [upZ_n (by omega)] | rw [shf_in (by omega) (by omega)] | rw [shf_out (by omega)] | rw [zer_in (by omega) (by omega)] | rw [zer_out (by omega)] | rw [cpyZ_in (by omega) (by omega)] | rw [cpyZ_out (by omega)] | rw [mapZ_in (by omega) (by omega)] | rw [mapZ_out (by omega)])); rw [ff 0 (by decide)]; omega, by (repeat (first | rw [upZ_s] | rw [upZ_e (by omega)] | rw [upZ_n (by omega)] | rw [shf_in (by omega) (by omega)] | rw [shf_out (by omega)] | rw [zer_in (by omega) (by omega)] | rw [zer_out (by omega)] | rw [cpyZ_in (by omega) (by omega)] | rw [cpyZ_out (by omega)] | rw [mapZ_in (by omega) (by omega)] | rw [mapZ_out (by omega)])); rw [ff 1 (by decide)]; omega, by (repeat (first | rw [upZ_s] | rw [upZ_e (by omega)] | rw [upZ_n (by omega)] | rw [shf_in (by omega) (by omega)] | rw [shf_out (by omega)] | rw [zer_in (by omega) (by omega)] | rw [zer_out (by omega)] | rw [cpyZ_in (by omega) (by omega)] | rw [cpyZ_out (by omega)] | rw [mapZ_in (by omega) (by omega)] | rw [mapZ_out (by omega)])); rw [ff 2 (by decide)]; omega, by (repeat (first | rw [upZ_s] | rw [upZ_e (by omega)] | rw [upZ_n (by omega)] | rw [shf_in (by omega) (by omega)] | rw [shf_out (by omega)] | rw [zer_in (by omega) (by omega)] | rw [zer_out (by omega)] | rw [cpyZ_in (by omega) (by omega)] | rw [cpyZ_out (by omega)] | rw [mapZ_in (by omega) (by omega)] | rw [mapZ_out (by omega)])); rw [ff 4 (by decide)]; omega, by (repeat (first | rw [upZ_s] | rw [upZ_e (by omega)] | rw [upZ_n (by omega)] | rw [shf_in (by omega) (by omega)] | rw [shf_out (by omega)] | rw [zer_in (by omega) (by omega)] | rw [zer_out (by omega)] | rw [cpyZ_in (by omega) (by omega)] | rw [cpyZ_out (by omega)] | rw [mapZ_in (by omega) (by omega)] | rw [mapZ_out (by omega)])); rw [ff 5 (by decide)]; omega, by (repeat (first | rw [upZ_s] | rw [upZ_e (by omega)] | rw [upZ_n (by omega)] | rw [shf_in (by omega) (by omega)] | rw [shf_out (by omega)] | rw [zer_in (by omega) (by omega)] | rw [zer_out (by omega)] | rw [cpyZ_in (by omega) (by omega)] | rw [cpyZ_out (by omega)] | rw [mapZ_in (by omega) (by omega)] | rw [mapZ_out (by omega)])); rw [ff 6 (by decide)]; omega, by (repeat (first | rw [upZ_s] | rw [upZ_e (by omega)] | rw [upZ_n (by omega)] | rw [shf_in (by omega) (by omega)] | rw [shf_out (by omega)] | rw [zer_in (by omega) (by omega)] | rw [zer_out (by omega)] | rw [cpyZ_in (by omega) (by omega)] | rw [cpyZ_out (by omega)] | rw [mapZ_in (by omega) (by omega)] | rw [mapZ_out (by omega)])), by (repeat (first | rw [upZ_s] | rw [upZ_e (by omega)] | rw [upZ_n (by omega)] | rw [shf_in (by omega) (by omega)] | rw [shf_out (by omega)] | rw [zer_in (by omega) (by omega)] | rw [zer_out (by omega)] | rw [cpyZ_in (by omega) (by omega)] | rw [cpyZ_out (by omega)] | rw [mapZ_in (by omega) (by omega)] | rw [mapZ_out (by omega)])); rw [ff 8 (by decide)]; omega⟩, by (repeat (first | rw [upZ_s] | rw [upZ_e (by omega)] | rw [upZ_n (by omega)] | rw [shf_in (by omega) (by omega)] | rw [shf_out (by omega)] | rw [zer_in (by omega) (by omega)] | rw [zer_out (by omega)] | rw [cpyZ_in (by omega) (by omega)] | rw [cpyZ_out (by omega)] | rw [mapZ_in (by omega) (by omega)] | rw [mapZ_out (by omega)])); rw [ff 3 (by decide)]; omega, by (repeat (first | rw [upZ_s] | rw [upZ_e (by omega)] | rw [upZ_n (by omega)] | rw [shf_in (by omega) (by omega)] | rw [shf_out (by omega)] | rw [zer_in (by omega) (by omega)] | rw [zer_out (by omega)] | rw [cpyZ_in (by omega) (by omega)] | rw [cpyZ_out (by omega)] | rw [mapZ_in (by omega) (by omega)] | rw [mapZ_out (by omega)])); omega⟩
  · rw [upZ_s]; exact relB_fr (by decide) c0 (fun j j0 j1 => by (repeat (first | rw [upZ_s] | rw [upZ_e (by omega)] | rw [upZ_n (by omega)] | rw [shf_in (by omega) (by omega)] | rw [shf_out (by omega)] | rw [zer_in (by omega) (by omega)] | rw [zer_out (by omega)] | rw [cpyZ_in (by omega) (by omega)] | rw [cpyZ_out (by omega)] | rw [mapZ_in (by omega) (by omega)] | rw [mapZ_out (by omega)])))
  · rw [upZ_s]; exact relB_fr (by decide) c1 (fun j j0 j1 => by (repeat (first | rw [upZ_s] | rw [upZ_e (by omega)] | rw [upZ_n (by omega)] | rw [shf_in (by omega) (by omega)] | rw [shf_out (by omega)] | rw [zer_in (by omega) (by omega)] | rw [zer_out (by omega)] | rw [cpyZ_in (by omega) (by omega)] | rw [cpyZ_out (by omega)] | rw [mapZ_in (by omega) (by omega)] | rw [mapZ_out (by omega)])))
  · rw [upZ_s]; exact relB_fr (by decide) c2 (fun j j0 j1 => by (repeat (first | rw [upZ_s] | rw [upZ_e (by omega)] | rw [upZ_n (by omega)] | rw [shf_in (by omega) (by omega)] | rw [shf_out (by omega)] | rw [zer_in (by omega) (by omega)] | rw [zer_out (by omega)] | rw [cpyZ_in (by omega) (by omega)] | rw [cpyZ_out (by omega)] | rw [mapZ_in (by omega) (by omega)] | rw [mapZ_out (by omega)])))
  · refine ⟨qc, by (repeat (first | rw [upZ_s] | rw [upZ_e (by omega)] | rw [upZ_n (by omega)] | rw [shf_in (by omega) (by omega)] | rw [shf_out (by omega)] | rw [zer_in (by omega) (by omega)] | rw [zer_out (by omega)] | rw [cpyZ_in (by omega) (by omega)] | rw [cpyZ_out (by omega)] | rw [mapZ_in (by omega) (by omega)] | rw [mapZ_out (by omega)])); rw [ff 9 (by decide)]; exact q9, fun k k0 k1 => ?_⟩
    obtain ⟨y0, y1, y2⟩ := cr.2.2 k k0 k1
    have y : wTireAll (S 14) (S 13 1) (-2) k.toNat = max 0 (min 9 (S 14 k.toNat + (-2))) := by unfold wTireAll; (repeat (first | rw [upZ_s] | rw [upZ_e (by omega)] | rw [upZ_n (by omega)] | rw [shf_in (by omega) (by omega)] | rw [shf_out (by omega)] | rw [zer_in (by omega) (by omega)] | rw [zer_out (by omega)] | rw [cpyZ_in (by omega) (by omega)] | rw [cpyZ_out (by omega)] | rw [mapZ_in (by omega) (by omega)] | rw [mapZ_out (by omega)]))
    have g : upZ (upZ (upZ (mapZ rRest X 11 (11 + G 9).toNat) 5 ((mapZ rRest X 11 (11 + G 9).toNat) 5 + d)) 7 0) 1 ((mapZ rRest X 11 (11 + G 9).toNat) 1 + 1) (11 + k).toNat = max 0 (min (G (11 + k).toNat + (-2)) 9) := by (repeat (first | rw [upZ_s] | rw [upZ_e (by omega)] | rw [upZ_n (by omega)] | rw [shf_in (by omega) (by omega)] | rw [shf_out (by omega)] | rw [zer_in (by omega) (by omega)] | rw [zer_out (by omega)] | rw [cpyZ_in (by omega) (by omega)] | rw [cpyZ_out (by omega)] | rw [mapZ_in (by omega) (by omega)] | rw [mapZ_out (by omega)])); rw [ff _ (by omega)]
    rw [y, g]
    omega
theorem relB_blank {c : Int} {L N G : Nat → Int} {b : Int} (h : relB c L N G b) {k : Int} (k0 : 0 ≤ k) (k1 : k < c) : wNum N c k 0 = -1 ↔ G (15 + 26 * b + (6 + 4 * k + 0)).toNat = 1 := by
  rw [(relB_num h k0 k1).1]
  rcases h.2.2.2.2 k k0 k1 with ⟨a0, a1, -⟩ | ⟨a0, a1, a2, a3, a4, -⟩
  · exact ⟨fun _ => a0, fun _ => a1⟩
  · exact ⟨fun q => by omega, fun q => by omega⟩
set_option maxHeartbeats 4000000 in
theorem rel_week {S R : Nat → Nat → Int} {p1 p2 p3 : Int} (h : relP S (R 1)) : relP (wCarry S 119 p1 p2 p3) (sS0_1_X8_week R) ∧ sp_X5_carryOut S 119 p1 p2 p3 = sp_X8_week R := by
  have b2 := h.2.2.1
  have q2 := relB_c b2
  have g67 : R 1 67 = S 9 1 := q2.1
  have v : sp_X5_carryOut S 119 p1 p2 p3 = sp_X5_endWeek S := by unfold sp_X5_carryOut; (repeat (first | rw [zif_pos (by omega)] | rw [zif_neg (by omega)]))
  have e0 : wCarry S 119 p1 p2 p3 0 = sS0_0_X5_endWeek S := by show sS0_0_X5_carryOut S 119 p1 p2 p3 = _; unfold sS0_0_X5_carryOut; (repeat (first | rw [zif_pos (by omega)] | rw [zif_neg (by omega)]))
  rw [v]
  unfold sS0_1_X8_week sp_X8_week sp_X5_endWeek
  rcases Classical.em (S 9 1 ≤ 0) with c | c
  · rw [zif_pos (show R 1 67 ≤ 0 by omega), zif_pos (show R 1 67 ≤ 0 by omega), zif_pos c]
    refine ⟨rel_weekG (d := 0) h ?_ (fun _ _ => rfl) ?_, rfl⟩
    · have z : S 9 1 = 0 := by omega
      unfold wCutK wCutN
      rw [zif_neg (by omega), zif_neg (by omega)]
      exact b2
    · rw [e0]; unfold sS0_0_X5_endWeek; rw [zif_pos c]
  · rw [zif_neg (show ¬ R 1 67 ≤ 0 by omega), zif_neg (show ¬ R 1 67 ≤ 0 by omega), zif_neg c]
    have P2 := relB_goes (by decide) b2 (show 0 < S 9 1 by omega)
    have f0 : ∀ j : Nat, (j < 67 ∨ 93 ≤ j) → rGoes (R 1) 2 j = R 1 j := fun j hj => rGoes_fr (by decide) q2.1 (show 0 < S 9 1 by omega) q2.2.2 (by omega)
    have hb : wNum (S 10) (S 9 1) 0 0 = -1 ↔ R 1 73 = 1 := relB_blank b2 (k := 0) (by decide) (by omega)
    rcases Classical.em (R 1 73 = 1) with c2 | c2
    · rw [zif_pos c2, zif_pos c2, zif_pos (hb.mpr c2)]
      exact ⟨rel_weekG (d := 0) h P2 f0 (by rw [e0]; unfold sS0_0_X5_endWeek; rw [zif_neg c, zif_pos (hb.mpr c2)]), rfl⟩
    · rw [zif_neg c2, zif_neg c2, zif_neg (fun q => c2 (hb.mp q))]
      exact ⟨rel_weekG (d := 1) h P2 f0 (by rw [e0]; unfold sS0_0_X5_endWeek; rw [zif_neg c, zif_neg (fun q => c2 (hb.mp q))]), rfl⟩
