/-! the whole of both; the nine orders as changes of their own -/
def relI (I R : Nat → Nat → Int) : Prop := (0 ≤ I 0 1 ∧ I 0 1 ≤ 60) ∧ R 0 12 = I 0 1 ∧ (∀ j : Nat, (j : Int) < I 0 1 → R 5 j = I 1 j) ∧ ∀ j : Nat, 0 ≤ I 1 j ∧ I 1 j < 65536
def relL (L R : Nat → Nat → Int) : Prop := (0 ≤ L 0 1 ∧ L 0 1 ≤ 39) ∧ R 0 15 = L 0 1 ∧ ∀ j : Nat, (j : Int) < L 0 1 → R 6 j = L 1 j
def relA (F P N Hs : Nat → Nat → Int) (Gs : Nat → Nat → Nat → Int) (I L R : Nat → Nat → Int) : Prop :=
  relP P (R 1) ∧ relH (Hs 0 1) (Hs 0 2) Gs (R 2) ∧ R 0 5 = Hs 0 2 ∧ R 0 6 = 0 ∧ ((F 0 7 = 0 ∧ R 0 4 = 0) ∨ (F 0 7 = 1 ∧ R 0 4 = 1 ∧ relP N (R 3))) ∧ R 0 13 = F 0 8 ∧ (R 0 9 = F 0 9 ∧ R 0 10 = F 0 10) ∧ relI I R ∧ relL L R
theorem relA_fl {F P N Hs : Nat → Nat → Int} {Gs : Nat → Nat → Nat → Int} {I L R R' : Nat → Nat → Int} (h : relA F P N Hs Gs I L R) (h1 : R' 1 = R 1) (h2 : R' 2 = R 2) (h3 : R' 3 = R 3) (h5 : R' 5 = R 5) (h6 : R' 6 = R 6) (h0 : ∀ i, i ≠ 7 → i ≠ 8 → R' 0 i = R 0 i) : relA F P N Hs Gs I L R' := by
  unfold relA relI relL at h ⊢
  rw [h1, h2, h3, h5, h6, h0 5 (by decide) (by decide), h0 6 (by decide) (by decide), h0 4 (by decide) (by decide), h0 13 (by decide) (by decide), h0 9 (by decide) (by decide), h0 10 (by decide) (by decide), h0 12 (by decide) (by decide), h0 15 (by decide) (by decide)]
  exact h
theorem relA_why {F P N Hs : Nat → Nat → Int} {Gs : Nat → Nat → Nat → Int} {I L R R' : Nat → Nat → Int} {v d : Int} (h : relA F P N Hs Gs I L R) (h1 : R' 1 = R 1) (h2 : R' 2 = R 2) (h3 : R' 3 = R 3) (h5 : R' 5 = R 5) (h6 : R' 6 = R 6) (h0 : ∀ i, i ≠ 7 → i ≠ 8 → i ≠ 9 → i ≠ 10 → R' 0 i = R 0 i) (hv : R' 0 9 = v) (hd : R' 0 10 = d) : relA (up2 (up2 F 0 9 v) 0 10 d) P N Hs Gs I L R' := by
  unfold relA relI relL at h ⊢
  rw [h1, h2, h3, h5, h6, h0 5 (by decide) (by decide) (by decide) (by decide), h0 6 (by decide) (by decide) (by decide) (by decide), h0 4 (by decide) (by decide) (by decide) (by decide), h0 13 (by decide) (by decide) (by decide) (by decide), h0 12 (by decide) (by decide) (by decide) (by decide), h0 15 (by decide) (by decide) (by decide) (by decide), hv, hd]
  obtain ⟨a1, a2, a3, a4, a5, a6, a7, a8, a9⟩ := h
  exact ⟨a1, a2, a3, a4, a5, a6, ⟨rfl, rfl⟩, a8, a9⟩
theorem relA_ok {F P P' N Hs : Nat → Nat → Int} {Gs : Nat → Nat → Nat → Int} {I L R R' X : Nat → Nat → Int} {i0 : Nat} (h : relA F P N Hs Gs I L R) (ha : Hs 0 1 = (i0 : Int)) (hG : relP P' (R' 1)) (hX1 : X 1 = R 1) (hX2 : X 2 = R 2) (hX0 : ∀ i, i ≠ 7 → i ≠ 8 → X 0 i = R 0 i) (h0 : R' 0 = sS0_0_X8_keeps X 0) (h2 : R' 2 = sS0_2_X8_keeps X 0) (h3 : R' 3 = R 3) (h5 : R' 5 = R 5) (h6 : R' 6 = R 6) : relA F P' N (up2 (up2 Hs 0 1 ((Hs 0 1 + 1) % 8)) 0 2 (min (Hs 0 2 + 1) 8)) (upG Gs i0 (wCopy (Gs i0) P)) I L R' ∧ R' 0 8 = 0 := by
  obtain ⟨a1, a2, a3, a4, a5, a6, a7, a8, a9⟩ := h
  have x5 : X 0 5 = R 0 5 := hX0 5 (by decide) (by decide)
  have x6 : X 0 6 = 0 := (hX0 6 (by decide) (by decide)).trans a4
  have hn := a2.2.1
  rw [keeps_0 x6 (by omega)] at h0
  rw [keeps_2 x6, hX1, hX2, x5, a3] at h2
  have r := relH_rem a2 a1 ha
  have f : ∀ i, i ≠ 5 → i ≠ 7 → i ≠ 8 → R' 0 i = R 0 i := fun i i5 i7 i8 => by rw [h0, upZ_n i5, upZ_n i8]; exact hX0 i i7 i8
  have f5 : R' 0 5 = min (Hs 0 2 + 1) 8 := by rw [h0, upZ_s, x5, a3]
  refine ⟨⟨hG, ?_, f5, (f 6 (by decide) (by decide) (by decide)).trans a4, ?_, (f 13 (by decide) (by decide) (by decide)).trans a6, ⟨(f 9 (by decide) (by decide) (by decide)).trans a7.1, (f 10 (by decide) (by decide) (by decide)).trans a7.2⟩, ?_, ?_⟩, by rw [h0]; (repeat (first | rw [upZ_s] | rw [upZ_e (by omega)] | rw [upZ_n (by omega)] | rw [shf_in (by omega) (by omega)] | rw [shf_out (by omega)] | rw [zer_in (by omega) (by omega)] | rw [zer_out (by omega)] | rw [cpyZ_in (by omega) (by omega)] | rw [cpyZ_out (by omega)] | rw [mapZ_in (by omega) (by omega)] | rw [mapZ_out (by omega)]))⟩
  · rw [h2]; exact r
  · rw [h3, f 4 (by decide) (by decide) (by decide)]; exact a5
  · unfold relI at a8 ⊢
    rw [h5, f 12 (by decide) (by decide) (by decide)]; exact a8
  · unfold relL at a9 ⊢
    rw [h6, f 15 (by decide) (by decide) (by decide)]; exact a9

set_option maxHeartbeats 4000000 in
theorem op_make {F P N Hs : Nat → Nat → Int} {Gs : Nat → Nat → Nat → Int} {I L R : Nat → Nat → Int} {i0 : Nat} {p1 p2 p3 : Int} (h : relA F P N Hs Gs I L R) (ha : Hs 0 1 = (i0 : Int)) :
    (sp_X5_verdictOn P 109 p1 p2 p3 = 0 → relA F (wCarry P 109 p1 p2 p3) N (up2 (up2 Hs 0 1 ((Hs 0 1 + 1) % 8)) 0 2 (min (Hs 0 2 + 1) 8)) (upG Gs i0 (wCopy (Gs i0) P)) I L (upA (upA (upA R 0 (sS0_0_X8_make R p1 p2 p3)) 1 (sS0_1_X8_make R p1 p2 p3)) 2 (sS0_2_X8_make R p1 p2 p3)) ∧ (upA (upA (upA R 0 (sS0_0_X8_make R p1 p2 p3)) 1 (sS0_1_X8_make R p1 p2 p3)) 2 (sS0_2_X8_make R p1 p2 p3)) 0 8 = 0 ∧ sp_X8_make R p1 p2 p3 = sp_X5_carryOut P 109 p1 p2 p3) ∧ (sp_X5_verdictOn P 109 p1 p2 p3 = 6 → relA F P N Hs Gs I L (upA (upA (upA R 0 (sS0_0_X8_make R p1 p2 p3)) 1 (sS0_1_X8_make R p1 p2 p3)) 2 (sS0_2_X8_make R p1 p2 p3)) ∧ (upA (upA (upA R 0 (sS0_0_X8_make R p1 p2 p3)) 1 (sS0_1_X8_make R p1 p2 p3)) 2 (sS0_2_X8_make R p1 p2 p3)) 0 8 = 1) ∧ (sp_X5_verdictOn P 109 p1 p2 p3 = 7 → relA F P N Hs Gs I L (upA (upA (upA R 0 (sS0_0_X8_make R p1 p2 p3)) 1 (sS0_1_X8_make R p1 p2 p3)) 2 (sS0_2_X8_make R p1 p2 p3)) ∧ (upA (upA (upA R 0 (sS0_0_X8_make R p1 p2 p3)) 1 (sS0_1_X8_make R p1 p2 p3)) 2 (sS0_2_X8_make R p1 p2 p3)) 0 8 = 2) ∧ (1 ≤ sp_X5_verdictOn P 109 p1 p2 p3 ∧ sp_X5_verdictOn P 109 p1 p2 p3 ≤ 5 → relA (up2 (up2 F 0 9 (sp_X5_verdictOn P 109 p1 p2 p3)) 0 10 (sp_X5_detailOf P (sp_X5_verdictOn P 109 p1 p2 p3) 109 p1)) P N Hs Gs I L (upA (upA (upA R 0 (sS0_0_X8_make R p1 p2 p3)) 1 (sS0_1_X8_make R p1 p2 p3)) 2 (sS0_2_X8_make R p1 p2 p3)) ∧ (upA (upA (upA R 0 (sS0_0_X8_make R p1 p2 p3)) 1 (sS0_1_X8_make R p1 p2 p3)) 2 (sS0_2_X8_make R p1 p2 p3)) 0 8 = 3) := by
  have hP := h.1
  have hV := ver_make (p1 := p1) (p2 := p2) (p3 := p3) hP
  have c0 := relB_c hP.1
  have c1 := relB_c hP.2.1
  have c2 := relB_c hP.2.2.1
  have cs := hP.2.2.2.1.2.1
  have cy := hP.2.2.2.2.1.2.1
  have cyr := hP.2.2.2.2.1.1
  rcases (show p1 = 0 ∨ p1 = 1 ∨ p1 = 2 ∨ ¬ (0 ≤ p1 ∧ p1 ≤ 2) by omega) with z | z | z | z
  · subst z
    rcases Classical.em (0 ≤ p2 ∧ p2 ≤ 9) with a | a
    · rcases Classical.em (4 ≤ p3 ∧ p3 ≤ 9) with d | d
      · rcases Classical.em (R 1 (15 + 26 * (0 : Int) + 0).toNat = 5) with e | e
        · skip
          have v : sp_X5_verdictOn P 109 0 p2 p3 = 1 := by rw [hV]; (repeat (first | rw [zif_pos (by omega)] | rw [zif_neg (by omega)]))
          refine ⟨fun q => absurd q (by omega), fun q => absurd q (by omega), fun q => absurd q (by omega), fun _ => ?_⟩
          have e0 : sS0_0_X8_make R 0 p2 p3 = upZ (upZ (upZ (upZ (upZ (upZ (R 0) 8 0) 7 0) 8 3) 7 1) 9 1) 10 5 := by unfold sS0_0_X8_make; (repeat (first | rw [zif_pos (by omega)] | rw [zif_neg (by omega)]))
          have e1 : sS0_1_X8_make R 0 p2 p3 = R 1 := by unfold sS0_1_X8_make; (repeat (first | rw [zif_pos (by omega)] | rw [zif_neg (by omega)]))
          have e2 : sS0_2_X8_make R 0 p2 p3 = R 2 := by unfold sS0_2_X8_make; (repeat (first | rw [zif_pos (by omega)] | rw [zif_neg (by omega)]))
          have ed : sp_X5_detailOf P 1 109 0 = 5 := by unfold sp_X5_detailOf; (repeat (first | rw [zif_pos (by omega)] | rw [zif_neg (by omega)]))
          rw [v, ed]
          exact ⟨relA_why h e1 e2 rfl rfl rfl (fun i i7 i8 i9 i10 => by show sS0_0_X8_make R 0 p2 p3 i = R 0 i; rw [e0, upZ_n i10, upZ_n i9, upZ_n i7, upZ_n i8, upZ_n i7, upZ_n i8]) (by show sS0_0_X8_make R 0 p2 p3 9 = 1; rw [e0]; (repeat (first | rw [upZ_s] | rw [upZ_e (by omega)] | rw [upZ_n (by omega)] | rw [shf_in (by omega) (by omega)] | rw [shf_out (by omega)] | rw [zer_in (by omega) (by omega)] | rw [zer_out (by omega)] | rw [cpyZ_in (by omega) (by omega)] | rw [cpyZ_out (by omega)] | rw [mapZ_in (by omega) (by omega)] | rw [mapZ_out (by omega)]))) (by show sS0_0_X8_make R 0 p2 p3 10 = 5; rw [e0]; (repeat (first | rw [upZ_s] | rw [upZ_e (by omega)] | rw [upZ_n (by omega)] | rw [shf_in (by omega) (by omega)] | rw [shf_out (by omega)] | rw [zer_in (by omega) (by omega)] | rw [zer_out (by omega)] | rw [cpyZ_in (by omega) (by omega)] | rw [cpyZ_out (by omega)] | rw [mapZ_in (by omega) (by omega)] | rw [mapZ_out (by omega)]))), by show sS0_0_X8_make R 0 p2 p3 8 = 3; rw [e0]; (repeat (first | rw [upZ_s] | rw [upZ_e (by omega)] | rw [upZ_n (by omega)] | rw [shf_in (by omega) (by omega)] | rw [shf_out (by omega)] | rw [zer_in (by omega) (by omega)] | rw [zer_out (by omega)] | rw [cpyZ_in (by omega) (by omega)] | rw [cpyZ_out (by omega)] | rw [mapZ_in (by omega) (by omega)] | rw [mapZ_out (by omega)]))⟩
        · skip
          have v : sp_X5_verdictOn P 109 0 p2 p3 = 0 := by rw [hV]; (repeat (first | rw [zif_pos (by omega)] | rw [zif_neg (by omega)]))
          refine ⟨fun _ => ?_, fun q => absurd q (by omega), fun q => absurd q (by omega), fun q => absurd q (by omega)⟩
          have r := rel_make_0 (p2 := p2) (p3 := p3) hP (by omega) a d
          have e0 : sS0_0_X8_make R 0 p2 p3 = sS0_0_X8_keeps (upA R 0 (upZ (upZ (R 0) 8 0) 7 0)) 0 := by unfold sS0_0_X8_make; (repeat (first | rw [zif_pos (by omega)] | rw [zif_neg (by omega)]))
          have e1 : sS0_1_X8_make R 0 p2 p3 = rPuts (upZ (R 1) 2 (R 1 2 + 1)) 0 0 p2 p3 0 := by unfold sS0_1_X8_make; (repeat (first | rw [zif_pos (by omega)] | rw [zif_neg (by omega)]))
          have e2 : sS0_2_X8_make R 0 p2 p3 = sS0_2_X8_keeps (upA R 0 (upZ (upZ (R 0) 8 0) 7 0)) 0 := by unfold sS0_2_X8_make; (repeat (first | rw [zif_pos (by omega)] | rw [zif_neg (by omega)]))
          have k := relA_ok (X := (upA R 0 (upZ (upZ (R 0) 8 0) 7 0))) (R' := (upA (upA (upA R 0 (sS0_0_X8_make R 0 p2 p3)) 1 (sS0_1_X8_make R 0 p2 p3)) 2 (sS0_2_X8_make R 0 p2 p3))) (P' := wCarry P 109 0 p2 p3) h ha (by show relP _ (sS0_1_X8_make R 0 p2 p3); rw [e1]; exact r.1) rfl rfl (fun i i7 i8 => by show upZ (upZ (R 0) 8 0) 7 0 i = R 0 i; rw [upZ_n i7, upZ_n i8]) e0 e2 rfl rfl rfl
          exact ⟨k.1, k.2, by rw [r.2]; unfold sp_X8_make; (repeat (first | rw [zif_pos (by omega)] | rw [zif_neg (by omega)])); show upZ (R 1) 2 (R 1 2 + 1) (15 + 26 * (0 : Int) + 0).toNat + 1 = P 3 1 + 1; rw [upZ_n (by decide)]; omega⟩
      · skip
        have v : sp_X5_verdictOn P 109 0 p2 p3 = 7 := by rw [hV]; (repeat (first | rw [zif_pos (by omega)] | rw [zif_neg (by omega)]))
        refine ⟨fun q => absurd q (by omega), fun q => absurd q (by omega), fun _ => ?_, fun q => absurd q (by omega)⟩
        have e0 : sS0_0_X8_make R 0 p2 p3 = upZ (upZ (R 0) 8 2) 7 0 := by unfold sS0_0_X8_make; (repeat (first | rw [zif_pos (by omega)] | rw [zif_neg (by omega)]))
        have e1 : sS0_1_X8_make R 0 p2 p3 = R 1 := by unfold sS0_1_X8_make; (repeat (first | rw [zif_pos (by omega)] | rw [zif_neg (by omega)]))
        have e2 : sS0_2_X8_make R 0 p2 p3 = R 2 := by unfold sS0_2_X8_make; (repeat (first | rw [zif_pos (by omega)] | rw [zif_neg (by omega)]))
        exact ⟨relA_fl h e1 e2 rfl rfl rfl (fun i i7 i8 => by show sS0_0_X8_make R 0 p2 p3 i = R 0 i; rw [e0, upZ_n i7, upZ_n i8]), by show sS0_0_X8_make R 0 p2 p3 8 = 2; rw [e0]; (repeat (first | rw [upZ_s] | rw [upZ_e (by omega)] | rw [upZ_n (by omega)] | rw [shf_in (by omega) (by omega)] | rw [shf_out (by omega)] | rw [zer_in (by omega) (by omega)] | rw [zer_out (by omega)] | rw [cpyZ_in (by omega) (by omega)] | rw [cpyZ_out (by omega)] | rw [mapZ_in (by omega) (by omega)] | rw [mapZ_out (by omega)]))⟩
    · skip
      have v : sp_X5_verdictOn P 109 0 p2 p3 = 7 := by rw [hV]; (repeat (first | rw [zif_pos (by omega)] | rw [zif_neg (by omega)]))
      refine ⟨fun q => absurd q (by omega), fun q => absurd q (by omega), fun _ => ?_, fun q => absurd q (by omega)⟩
      have e0 : sS0_0_X8_make R 0 p2 p3 = upZ (upZ (R 0) 8 2) 7 0 := by unfold sS0_0_X8_make; (repeat (first | rw [zif_pos (by omega)] | rw [zif_neg (by omega)]))
      have e1 : sS0_1_X8_make R 0 p2 p3 = R 1 := by unfold sS0_1_X8_make; (repeat (first | rw [zif_pos (by omega)] | rw [zif_neg (by omega)]))
      have e2 : sS0_2_X8_make R 0 p2 p3 = R 2 := by unfold sS0_2_X8_make; (repeat (first | rw [zif_pos (by omega)] | rw [zif_neg (by omega)]))
      exact ⟨relA_fl h e1 e2 rfl rfl rfl (fun i i7 i8 => by show sS0_0_X8_make R 0 p2 p3 i = R 0 i; rw [e0, upZ_n i7, upZ_n i8]), by show sS0_0_X8_make R 0 p2 p3 8 = 2; rw [e0]; (repeat (first | rw [upZ_s] | rw [upZ_e (by omega)] | rw [upZ_n (by omega)] | rw [shf_in (by omega) (by omega)] | rw [shf_out (by omega)] | rw [zer_in (by omega) (by omega)] | rw [zer_out (by omega)] | rw [cpyZ_in (by omega) (by omega)] | rw [cpyZ_out (by omega)] | rw [mapZ_in (by omega) (by omega)] | rw [mapZ_out (by omega)]))⟩
  · subst z
    rcases Classical.em (0 ≤ p2 ∧ p2 ≤ 9) with a | a
    · rcases Classical.em (4 ≤ p3 ∧ p3 ≤ 9) with d | d
      · rcases Classical.em (R 1 (15 + 26 * (1 : Int) + 0).toNat = 5) with e | e
        · skip
          have v : sp_X5_verdictOn P 109 1 p2 p3 = 1 := by rw [hV]; (repeat (first | rw [zif_pos (by omega)] | rw [zif_neg (by omega)]))
          refine ⟨fun q => absurd q (by omega), fun q => absurd q (by omega), fun q => absurd q (by omega), fun _ => ?_⟩
          have e0 : sS0_0_X8_make R 1 p2 p3 = upZ (upZ (upZ (upZ (upZ (upZ (R 0) 8 0) 7 0) 8 3) 7 1) 9 1) 10 5 := by unfold sS0_0_X8_make; (repeat (first | rw [zif_pos (by omega)] | rw [zif_neg (by omega)]))
          have e1 : sS0_1_X8_make R 1 p2 p3 = R 1 := by unfold sS0_1_X8_make; (repeat (first | rw [zif_pos (by omega)] | rw [zif_neg (by omega)]))
          have e2 : sS0_2_X8_make R 1 p2 p3 = R 2 := by unfold sS0_2_X8_make; (repeat (first | rw [zif_pos (by omega)] | rw [zif_neg (by omega)]))
          have ed : sp_X5_detailOf P 1 109 1 = 5 := by unfold sp_X5_detailOf; (repeat (first | rw [zif_pos (by omega)] | rw [zif_neg (by omega)]))
          rw [v, ed]
          exact ⟨relA_why h e1 e2 rfl rfl rfl (fun i i7 i8 i9 i10 => by show sS0_0_X8_make R 1 p2 p3 i = R 0 i; rw [e0, upZ_n i10, upZ_n i9, upZ_n i7, upZ_n i8, upZ_n i7, upZ_n i8]) (by show sS0_0_X8_make R 1 p2 p3 9 = 1; rw [e0]; (repeat (first | rw [upZ_s] | rw [upZ_e (by omega)] | rw [upZ_n (by omega)] | rw [shf_in (by omega) (by omega)] | rw [shf_out (by omega)] | rw [zer_in (by omega) (by omega)] | rw [zer_out (by omega)] | rw [cpyZ_in (by omega) (by omega)] | rw [cpyZ_out (by omega)] | rw [mapZ_in (by omega) (by omega)] | rw [mapZ_out (by omega)]))) (by show sS0_0_X8_make R 1 p2 p3 10 = 5; rw [e0]; (repeat (first | rw [upZ_s] | rw [upZ_e (by omega)] | rw [upZ_n (by omega)] | rw [shf_in (by omega) (by omega)] | rw [shf_out (by omega)] | rw [zer_in (by omega) (by omega)] | rw [zer_out (by omega)] | rw [cpyZ_in (by omega) (by omega)] | rw [cpyZ_out (by omega)] | rw [mapZ_in (by omega) (by omega)] | rw [mapZ_out (by omega)]))), by show sS0_0_X8_make R 1 p2 p3 8 = 3; rw [e0]; (repeat (first | rw [upZ_s] | rw [upZ_e (by omega)] | rw [upZ_n (by omega)] | rw [shf_in (by omega) (by omega)] | rw [shf_out (by omega)] | rw [zer_in (by omega) (by omega)] | rw [zer_out (by omega)] | rw [cpyZ_in (by omega) (by omega)] | rw [cpyZ_out (by omega)] | rw [mapZ_in (by omega) (by omega)] | rw [mapZ_out (by omega)]))⟩
        · skip
          have v : sp_X5_verdictOn P 109 1 p2 p3 = 0 := by rw [hV]; (repeat (first | rw [zif_pos (by omega)] | rw [zif_neg (by omega)]))
          refine ⟨fun _ => ?_, fun q => absurd q (by omega), fun q => absurd q (by omega), fun q => absurd q (by omega)⟩
          have r := rel_make_1 (p2 := p2) (p3 := p3) hP (by omega) a d
          have e0 : sS0_0_X8_make R 1 p2 p3 = sS0_0_X8_keeps (upA R 0 (upZ (upZ (R 0) 8 0) 7 0)) 0 := by unfold sS0_0_X8_make; (repeat (first | rw [zif_pos (by omega)] | rw [zif_neg (by omega)]))
          have e1 : sS0_1_X8_make R 1 p2 p3 = rPuts (upZ (R 1) 2 (R 1 2 + 1)) 1 0 p2 p3 0 := by unfold sS0_1_X8_make; (repeat (first | rw [zif_pos (by omega)] | rw [zif_neg (by omega)]))
          have e2 : sS0_2_X8_make R 1 p2 p3 = sS0_2_X8_keeps (upA R 0 (upZ (upZ (R 0) 8 0) 7 0)) 0 := by unfold sS0_2_X8_make; (repeat (first | rw [zif_pos (by omega)] | rw [zif_neg (by omega)]))
          have k := relA_ok (X := (upA R 0 (upZ (upZ (R 0) 8 0) 7 0))) (R' := (upA (upA (upA R 0 (sS0_0_X8_make R 1 p2 p3)) 1 (sS0_1_X8_make R 1 p2 p3)) 2 (sS0_2_X8_make R 1 p2 p3))) (P' := wCarry P 109 1 p2 p3) h ha (by show relP _ (sS0_1_X8_make R 1 p2 p3); rw [e1]; exact r.1) rfl rfl (fun i i7 i8 => by show upZ (upZ (R 0) 8 0) 7 0 i = R 0 i; rw [upZ_n i7, upZ_n i8]) e0 e2 rfl rfl rfl
          exact ⟨k.1, k.2, by rw [r.2]; unfold sp_X8_make; (repeat (first | rw [zif_pos (by omega)] | rw [zif_neg (by omega)])); show upZ (R 1) 2 (R 1 2 + 1) (15 + 26 * (1 : Int) + 0).toNat + 1 = P 6 1 + 1; rw [upZ_n (by decide)]; omega⟩
      · skip
        have v : sp_X5_verdictOn P 109 1 p2 p3 = 7 := by rw [hV]; (repeat (first | rw [zif_pos (by omega)] | rw [zif_neg (by omega)]))
        refine ⟨fun q => absurd q (by omega), fun q => absurd q (by omega), fun _ => ?_, fun q => absurd q (by omega)⟩
        have e0 : sS0_0_X8_make R 1 p2 p3 = upZ (upZ (R 0) 8 2) 7 0 := by unfold sS0_0_X8_make; (repeat (first | rw [zif_pos (by omega)] | rw [zif_neg (by omega)]))
        have e1 : sS0_1_X8_make R 1 p2 p3 = R 1 := by unfold sS0_1_X8_make; (repeat (first | rw [zif_pos (by omega)] | rw [zif_neg (by omega)]))
        have e2 : sS0_2_X8_make R 1 p2 p3 = R 2 := by unfold sS0_2_X8_make; (repeat (first | rw [zif_pos (by omega)] | rw [zif_neg (by omega)]))
        exact ⟨relA_fl h e1 e2 rfl rfl rfl (fun i i7 i8 => by show sS0_0_X8_make R 1 p2 p3 i = R 0 i; rw [e0, upZ_n i7, upZ_n i8]), by show sS0_0_X8_make R 1 p2 p3 8 = 2; rw [e0]; (repeat (first | rw [upZ_s] | rw [upZ_e (by omega)] | rw [upZ_n (by omega)] | rw [shf_in (by omega) (by omega)] | rw [shf_out (by omega)] | rw [zer_in (by omega) (by omega)] | rw [zer_out (by omega)] | rw [cpyZ_in (by omega) (by omega)] | rw [cpyZ_out (by omega)] | rw [mapZ_in (by omega) (by omega)] | rw [mapZ_out (by omega)]))⟩
    · skip
      have v : sp_X5_verdictOn P 109 1 p2 p3 = 7 := by rw [hV]; (repeat (first | rw [zif_pos (by omega)] | rw [zif_neg (by omega)]))
      refine ⟨fun q => absurd q (by omega), fun q => absurd q (by omega), fun _ => ?_, fun q => absurd q (by omega)⟩
      have e0 : sS0_0_X8_make R 1 p2 p3 = upZ (upZ (R 0) 8 2) 7 0 := by unfold sS0_0_X8_make; (repeat (first | rw [zif_pos (by omega)] | rw [zif_neg (by omega)]))
      have e1 : sS0_1_X8_make R 1 p2 p3 = R 1 := by unfold sS0_1_X8_make; (repeat (first | rw [zif_pos (by omega)] | rw [zif_neg (by omega)]))
      have e2 : sS0_2_X8_make R 1 p2 p3 = R 2 := by unfold sS0_2_X8_make; (repeat (first | rw [zif_pos (by omega)] | rw [zif_neg (by omega)]))
      exact ⟨relA_fl h e1 e2 rfl rfl rfl (fun i i7 i8 => by show sS0_0_X8_make R 1 p2 p3 i = R 0 i; rw [e0, upZ_n i7, upZ_n i8]), by show sS0_0_X8_make R 1 p2 p3 8 = 2; rw [e0]; (repeat (first | rw [upZ_s] | rw [upZ_e (by omega)] | rw [upZ_n (by omega)] | rw [shf_in (by omega) (by omega)] | rw [shf_out (by omega)] | rw [zer_in (by omega) (by omega)] | rw [zer_out (by omega)] | rw [cpyZ_in (by omega) (by omega)] | rw [cpyZ_out (by omega)] | rw [mapZ_in (by omega) (by omega)] | rw [mapZ_out (by omega)]))⟩
  · subst z
    rcases Classical.em (0 ≤ p2 ∧ p2 ≤ 9) with a | a
    · rcases Classical.em (4 ≤ p3 ∧ p3 ≤ 9) with d | d
      · rcases Classical.em (R 1 (15 + 26 * (2 : Int) + 0).toNat = 5) with e | e
        · skip
          have v : sp_X5_verdictOn P 109 2 p2 p3 = 1 := by rw [hV]; (repeat (first | rw [zif_pos (by omega)] | rw [zif_neg (by omega)]))
          refine ⟨fun q => absurd q (by omega), fun q => absurd q (by omega), fun q => absurd q (by omega), fun _ => ?_⟩
          have e0 : sS0_0_X8_make R 2 p2 p3 = upZ (upZ (upZ (upZ (upZ (upZ (R 0) 8 0) 7 0) 8 3) 7 1) 9 1) 10 5 := by unfold sS0_0_X8_make; (repeat (first | rw [zif_pos (by omega)] | rw [zif_neg (by omega)]))
          have e1 : sS0_1_X8_make R 2 p2 p3 = R 1 := by unfold sS0_1_X8_make; (repeat (first | rw [zif_pos (by omega)] | rw [zif_neg (by omega)]))
          have e2 : sS0_2_X8_make R 2 p2 p3 = R 2 := by unfold sS0_2_X8_make; (repeat (first | rw [zif_pos (by omega)] | rw [zif_neg (by omega)]))
          have ed : sp_X5_detailOf P 1 109 2 = 5 := by unfold sp_X5_detailOf; (repeat (first | rw [zif_pos (by omega)] | rw [zif_neg (by omega)]))
          rw [v, ed]
          exact ⟨relA_why h e1 e2 rfl rfl rfl (fun i i7 i8 i9 i10 => by show sS0_0_X8_make R 2 p2 p3 i = R 0 i; rw [e0, upZ_n i10, upZ_n i9, upZ_n i7, upZ_n i8, upZ_n i7, upZ_n i8]) (by show sS0_0_X8_make R 2 p2 p3 9 = 1; rw [e0]; (repeat (first | rw [upZ_s] | rw [upZ_e (by omega)] | rw [upZ_n (by omega)] | rw [shf_in (by omega) (by omega)] | rw [shf_out (by omega)] | rw [zer_in (by omega) (by omega)] | rw [zer_out (by omega)] | rw [cpyZ_in (by omega) (by omega)] | rw [cpyZ_out (by omega)] | rw [mapZ_in (by omega) (by omega)] | rw [mapZ_out (by omega)]))) (by show sS0_0_X8_make R 2 p2 p3 10 = 5; rw [e0]; (repeat (first | rw [upZ_s] | rw [upZ_e (by omega)] | rw [upZ_n (by omega)] | rw [shf_in (by omega) (by omega)] | rw [shf_out (by omega)] | rw [zer_in (by omega) (by omega)] | rw [zer_out (by omega)] | rw [cpyZ_in (by omega) (by omega)] | rw [cpyZ_out (by omega)] | rw [mapZ_in (by omega) (by omega)] | rw [mapZ_out (by omega)]))), by show sS0_0_X8_make R 2 p2 p3 8 = 3; rw [e0]; (repeat (first | rw [upZ_s] | rw [upZ_e (by omega)] | rw [upZ_n (by omega)] | rw [shf_in (by omega) (by omega)] | rw [shf_out (by omega)] | rw [zer_in (by omega) (by omega)] | rw [zer_out (by omega)] | rw [cpyZ_in (by omega) (by omega)] | rw [cpyZ_out (by omega)] | rw [mapZ_in (by omega) (by omega)] | rw [mapZ_out (by omega)]))⟩
        · skip
          have v : sp_X5_verdictOn P 109 2 p2 p3 = 0 := by rw [hV]; (repeat (first | rw [zif_pos (by omega)] | rw [zif_neg (by omega)]))
          refine ⟨fun _ => ?_, fun q => absurd q (by omega), fun q => absurd q (by omega), fun q => absurd q (by omega)⟩
          have r := rel_make_2 (p2 := p2) (p3 := p3) hP (by omega) a d
          have e0 : sS0_0_X8_make R 2 p2 p3 = sS0_0_X8_keeps (upA R 0 (upZ (upZ (R 0) 8 0) 7 0)) 0 := by unfold sS0_0_X8_make; (repeat (first | rw [zif_pos (by omega)] | rw [zif_neg (by omega)]))
          have e1 : sS0_1_X8_make R 2 p2 p3 = rPuts (upZ (R 1) 2 (R 1 2 + 1)) 2 0 p2 p3 0 := by unfold sS0_1_X8_make; (repeat (first | rw [zif_pos (by omega)] | rw [zif_neg (by omega)]))
          have e2 : sS0_2_X8_make R 2 p2 p3 = sS0_2_X8_keeps (upA R 0 (upZ (upZ (R 0) 8 0) 7 0)) 0 := by unfold sS0_2_X8_make; (repeat (first | rw [zif_pos (by omega)] | rw [zif_neg (by omega)]))
          have k := relA_ok (X := (upA R 0 (upZ (upZ (R 0) 8 0) 7 0))) (R' := (upA (upA (upA R 0 (sS0_0_X8_make R 2 p2 p3)) 1 (sS0_1_X8_make R 2 p2 p3)) 2 (sS0_2_X8_make R 2 p2 p3))) (P' := wCarry P 109 2 p2 p3) h ha (by show relP _ (sS0_1_X8_make R 2 p2 p3); rw [e1]; exact r.1) rfl rfl (fun i i7 i8 => by show upZ (upZ (R 0) 8 0) 7 0 i = R 0 i; rw [upZ_n i7, upZ_n i8]) e0 e2 rfl rfl rfl
          exact ⟨k.1, k.2, by rw [r.2]; unfold sp_X8_make; (repeat (first | rw [zif_pos (by omega)] | rw [zif_neg (by omega)])); show upZ (R 1) 2 (R 1 2 + 1) (15 + 26 * (2 : Int) + 0).toNat + 1 = P 9 1 + 1; rw [upZ_n (by decide)]; omega⟩
      · skip
        have v : sp_X5_verdictOn P 109 2 p2 p3 = 7 := by rw [hV]; (repeat (first | rw [zif_pos (by omega)] | rw [zif_neg (by omega)]))
        refine ⟨fun q => absurd q (by omega), fun q => absurd q (by omega), fun _ => ?_, fun q => absurd q (by omega)⟩
        have e0 : sS0_0_X8_make R 2 p2 p3 = upZ (upZ (R 0) 8 2) 7 0 := by unfold sS0_0_X8_make; (repeat (first | rw [zif_pos (by omega)] | rw [zif_neg (by omega)]))
        have e1 : sS0_1_X8_make R 2 p2 p3 = R 1 := by unfold sS0_1_X8_make; (repeat (first | rw [zif_pos (by omega)] | rw [zif_neg (by omega)]))
        have e2 : sS0_2_X8_make R 2 p2 p3 = R 2 := by unfold sS0_2_X8_make; (repeat (first | rw [zif_pos (by omega)] | rw [zif_neg (by omega)]))
        exact ⟨relA_fl h e1 e2 rfl rfl rfl (fun i i7 i8 => by show sS0_0_X8_make R 2 p2 p3 i = R 0 i; rw [e0, upZ_n i7, upZ_n i8]), by show sS0_0_X8_make R 2 p2 p3 8 = 2; rw [e0]; (repeat (first | rw [upZ_s] | rw [upZ_e (by omega)] | rw [upZ_n (by omega)] | rw [shf_in (by omega) (by omega)] | rw [shf_out (by omega)] | rw [zer_in (by omega) (by omega)] | rw [zer_out (by omega)] | rw [cpyZ_in (by omega) (by omega)] | rw [cpyZ_out (by omega)] | rw [mapZ_in (by omega) (by omega)] | rw [mapZ_out (by omega)]))⟩
    · skip
      have v : sp_X5_verdictOn P 109 2 p2 p3 = 7 := by rw [hV]; (repeat (first | rw [zif_pos (by omega)] | rw [zif_neg (by omega)]))
      refine ⟨fun q => absurd q (by omega), fun q => absurd q (by omega), fun _ => ?_, fun q => absurd q (by omega)⟩
      have e0 : sS0_0_X8_make R 2 p2 p3 = upZ (upZ (R 0) 8 2) 7 0 := by unfold sS0_0_X8_make; (repeat (first | rw [zif_pos (by omega)] | rw [zif_neg (by omega)]))
      have e1 : sS0_1_X8_make R 2 p2 p3 = R 1 := by unfold sS0_1_X8_make; (repeat (first | rw [zif_pos (by omega)] | rw [zif_neg (by omega)]))
      have e2 : sS0_2_X8_make R 2 p2 p3 = R 2 := by unfold sS0_2_X8_make; (repeat (first | rw [zif_pos (by omega)] | rw [zif_neg (by omega)]))
      exact ⟨relA_fl h e1 e2 rfl rfl rfl (fun i i7 i8 => by show sS0_0_X8_make R 2 p2 p3 i = R 0 i; rw [e0, upZ_n i7, upZ_n i8]), by show sS0_0_X8_make R 2 p2 p3 8 = 2; rw [e0]; (repeat (first | rw [upZ_s] | rw [upZ_e (by omega)] | rw [upZ_n (by omega)] | rw [shf_in (by omega) (by omega)] | rw [shf_out (by omega)] | rw [zer_in (by omega) (by omega)] | rw [zer_out (by omega)] | rw [cpyZ_in (by omega) (by omega)] | rw [cpyZ_out (by omega)] | rw [mapZ_in (by omega) (by omega)] | rw [mapZ_out (by omega)]))⟩
  · skip
    have v : sp_X5_verdictOn P 109 p1 p2 p3 = 6 := by rw [hV]; (repeat (first | rw [zif_pos (by omega)] | rw [zif_neg (by omega)]))
    refine ⟨fun q => absurd q (by omega), fun _ => ?_, fun q => absurd q (by omega), fun q => absurd q (by omega)⟩
    have e0 : sS0_0_X8_make R p1 p2 p3 = upZ (upZ (R 0) 8 1) 7 0 := by unfold sS0_0_X8_make; (repeat (first | rw [zif_pos (by omega)] | rw [zif_neg (by omega)]))
    have e1 : sS0_1_X8_make R p1 p2 p3 = R 1 := by unfold sS0_1_X8_make; (repeat (first | rw [zif_pos (by omega)] | rw [zif_neg (by omega)]))
    have e2 : sS0_2_X8_make R p1 p2 p3 = R 2 := by unfold sS0_2_X8_make; (repeat (first | rw [zif_pos (by omega)] | rw [zif_neg (by omega)]))
    exact ⟨relA_fl h e1 e2 rfl rfl rfl (fun i i7 i8 => by show sS0_0_X8_make R p1 p2 p3 i = R 0 i; rw [e0, upZ_n i7, upZ_n i8]), by show sS0_0_X8_make R p1 p2 p3 8 = 1; rw [e0]; (repeat (first | rw [upZ_s] | rw [upZ_e (by omega)] | rw [upZ_n (by omega)] | rw [shf_in (by omega) (by omega)] | rw [shf_out (by omega)] | rw [zer_in (by omega) (by omega)] | rw [zer_out (by omega)] | rw [cpyZ_in (by omega) (by omega)] | rw [cpyZ_out (by omega)] | rw [mapZ_in (by omega) (by omega)] | rw [mapZ_out (by omega)]))⟩
set_option maxHeartbeats 4000000 in
theorem op_blank {F P N Hs : Nat → Nat → Int} {Gs : Nat → Nat → Nat → Int} {I L R : Nat → Nat → Int} {i0 : Nat} {p1 p2 p3 : Int} (h : relA F P N Hs Gs I L R) (ha : Hs 0 1 = (i0 : Int)) :
    (sp_X5_verdictOn P 98 p1 p2 p3 = 0 → relA F (wCarry P 98 p1 p2 p3) N (up2 (up2 Hs 0 1 ((Hs 0 1 + 1) % 8)) 0 2 (min (Hs 0 2 + 1) 8)) (upG Gs i0 (wCopy (Gs i0) P)) I L (upA (upA (upA R 0 (sS0_0_X8_blank R p1)) 1 (sS0_1_X8_blank R p1)) 2 (sS0_2_X8_blank R p1)) ∧ (upA (upA (upA R 0 (sS0_0_X8_blank R p1)) 1 (sS0_1_X8_blank R p1)) 2 (sS0_2_X8_blank R p1)) 0 8 = 0 ∧ sp_X8_blank R p1 = sp_X5_carryOut P 98 p1 p2 p3) ∧ (sp_X5_verdictOn P 98 p1 p2 p3 = 6 → relA F P N Hs Gs I L (upA (upA (upA R 0 (sS0_0_X8_blank R p1)) 1 (sS0_1_X8_blank R p1)) 2 (sS0_2_X8_blank R p1)) ∧ (upA (upA (upA R 0 (sS0_0_X8_blank R p1)) 1 (sS0_1_X8_blank R p1)) 2 (sS0_2_X8_blank R p1)) 0 8 = 1) ∧ (sp_X5_verdictOn P 98 p1 p2 p3 = 7 → relA F P N Hs Gs I L (upA (upA (upA R 0 (sS0_0_X8_blank R p1)) 1 (sS0_1_X8_blank R p1)) 2 (sS0_2_X8_blank R p1)) ∧ (upA (upA (upA R 0 (sS0_0_X8_blank R p1)) 1 (sS0_1_X8_blank R p1)) 2 (sS0_2_X8_blank R p1)) 0 8 = 9) ∧ (1 ≤ sp_X5_verdictOn P 98 p1 p2 p3 ∧ sp_X5_verdictOn P 98 p1 p2 p3 ≤ 5 → relA (up2 (up2 F 0 9 (sp_X5_verdictOn P 98 p1 p2 p3)) 0 10 (sp_X5_detailOf P (sp_X5_verdictOn P 98 p1 p2 p3) 98 p1)) P N Hs Gs I L (upA (upA (upA R 0 (sS0_0_X8_blank R p1)) 1 (sS0_1_X8_blank R p1)) 2 (sS0_2_X8_blank R p1)) ∧ (upA (upA (upA R 0 (sS0_0_X8_blank R p1)) 1 (sS0_1_X8_blank R p1)) 2 (sS0_2_X8_blank R p1)) 0 8 = 2) := by
  have hP := h.1
  have hV := ver_blank (p1 := p1) (p2 := p2) (p3 := p3) hP
  have c0 := relB_c hP.1
  have c1 := relB_c hP.2.1
  have c2 := relB_c hP.2.2.1
  have cs := hP.2.2.2.1.2.1
  have cy := hP.2.2.2.2.1.2.1
  have cyr := hP.2.2.2.2.1.1
  rcases (show p1 = 0 ∨ p1 = 1 ∨ p1 = 2 ∨ ¬ (0 ≤ p1 ∧ p1 ≤ 2) by omega) with z | z | z | z
  · subst z
    rcases Classical.em (R 1 (15 + 26 * (0 : Int) + 0).toNat = 5) with e | e
    · skip
      have v : sp_X5_verdictOn P 98 0 p2 p3 = 1 := by rw [hV]; (repeat (first | rw [zif_pos (by omega)] | rw [zif_neg (by omega)]))
      refine ⟨fun q => absurd q (by omega), fun q => absurd q (by omega), fun q => absurd q (by omega), fun _ => ?_⟩
      have e0 : sS0_0_X8_blank R 0 = upZ (upZ (upZ (upZ (upZ (upZ (R 0) 8 0) 7 0) 8 2) 7 1) 9 1) 10 5 := by unfold sS0_0_X8_blank; (repeat (first | rw [zif_pos (by omega)] | rw [zif_neg (by omega)]))
      have e1 : sS0_1_X8_blank R 0 = R 1 := by unfold sS0_1_X8_blank; (repeat (first | rw [zif_pos (by omega)] | rw [zif_neg (by omega)]))
      have e2 : sS0_2_X8_blank R 0 = R 2 := by unfold sS0_2_X8_blank; (repeat (first | rw [zif_pos (by omega)] | rw [zif_neg (by omega)]))
      have ed : sp_X5_detailOf P 1 98 0 = 5 := by unfold sp_X5_detailOf; (repeat (first | rw [zif_pos (by omega)] | rw [zif_neg (by omega)]))
      rw [v, ed]
      exact ⟨relA_why h e1 e2 rfl rfl rfl (fun i i7 i8 i9 i10 => by show sS0_0_X8_blank R 0 i = R 0 i; rw [e0, upZ_n i10, upZ_n i9, upZ_n i7, upZ_n i8, upZ_n i7, upZ_n i8]) (by show sS0_0_X8_blank R 0 9 = 1; rw [e0]; (repeat (first | rw [upZ_s] | rw [upZ_e (by omega)] | rw [upZ_n (by omega)] | rw [shf_in (by omega) (by omega)] | rw [shf_out (by omega)] | rw [zer_in (by omega) (by omega)] | rw [zer_out (by omega)] | rw [cpyZ_in (by omega) (by omega)] | rw [cpyZ_out (by omega)] | rw [mapZ_in (by omega) (by omega)] | rw [mapZ_out (by omega)]))) (by show sS0_0_X8_blank R 0 10 = 5; rw [e0]; (repeat (first | rw [upZ_s] | rw [upZ_e (by omega)] | rw [upZ_n (by omega)] | rw [shf_in (by omega) (by omega)] | rw [shf_out (by omega)] | rw [zer_in (by omega) (by omega)] | rw [zer_out (by omega)] | rw [cpyZ_in (by omega) (by omega)] | rw [cpyZ_out (by omega)] | rw [mapZ_in (by omega) (by omega)] | rw [mapZ_out (by omega)]))), by show sS0_0_X8_blank R 0 8 = 2; rw [e0]; (repeat (first | rw [upZ_s] | rw [upZ_e (by omega)] | rw [upZ_n (by omega)] | rw [shf_in (by omega) (by omega)] | rw [shf_out (by omega)] | rw [zer_in (by omega) (by omega)] | rw [zer_out (by omega)] | rw [cpyZ_in (by omega) (by omega)] | rw [cpyZ_out (by omega)] | rw [mapZ_in (by omega) (by omega)] | rw [mapZ_out (by omega)]))⟩
    · skip
      have v : sp_X5_verdictOn P 98 0 p2 p3 = 0 := by rw [hV]; (repeat (first | rw [zif_pos (by omega)] | rw [zif_neg (by omega)]))
      refine ⟨fun _ => ?_, fun q => absurd q (by omega), fun q => absurd q (by omega), fun q => absurd q (by omega)⟩
      have r := rel_blank_0 (p2 := p2) (p3 := p3) hP (by omega)
      have e0 : sS0_0_X8_blank R 0 = sS0_0_X8_keeps (upA R 0 (upZ (upZ (R 0) 8 0) 7 0)) 0 := by unfold sS0_0_X8_blank; (repeat (first | rw [zif_pos (by omega)] | rw [zif_neg (by omega)]))
      have e1 : sS0_1_X8_blank R 0 = rPuts (R 1) 0 1 (-1) (-1) (-1) := by unfold sS0_1_X8_blank; (repeat (first | rw [zif_pos (by omega)] | rw [zif_neg (by omega)]))
      have e2 : sS0_2_X8_blank R 0 = sS0_2_X8_keeps (upA R 0 (upZ (upZ (R 0) 8 0) 7 0)) 0 := by unfold sS0_2_X8_blank; (repeat (first | rw [zif_pos (by omega)] | rw [zif_neg (by omega)]))
      have k := relA_ok (X := (upA R 0 (upZ (upZ (R 0) 8 0) 7 0))) (R' := (upA (upA (upA R 0 (sS0_0_X8_blank R 0)) 1 (sS0_1_X8_blank R 0)) 2 (sS0_2_X8_blank R 0))) (P' := wCarry P 98 0 p2 p3) h ha (by show relP _ (sS0_1_X8_blank R 0); rw [e1]; exact r.1) rfl rfl (fun i i7 i8 => by show upZ (upZ (R 0) 8 0) 7 0 i = R 0 i; rw [upZ_n i7, upZ_n i8]) e0 e2 rfl rfl rfl
      exact ⟨k.1, k.2, by rw [r.2]; unfold sp_X8_blank; (repeat (first | rw [zif_pos (by omega)] | rw [zif_neg (by omega)])); show R 1 (15 + 26 * (0 : Int) + 0).toNat + 1 = P 3 1 + 1; omega⟩
  · subst z
    rcases Classical.em (R 1 (15 + 26 * (1 : Int) + 0).toNat = 5) with e | e
    · skip
      have v : sp_X5_verdictOn P 98 1 p2 p3 = 1 := by rw [hV]; (repeat (first | rw [zif_pos (by omega)] | rw [zif_neg (by omega)]))
      refine ⟨fun q => absurd q (by omega), fun q => absurd q (by omega), fun q => absurd q (by omega), fun _ => ?_⟩
      have e0 : sS0_0_X8_blank R 1 = upZ (upZ (upZ (upZ (upZ (upZ (R 0) 8 0) 7 0) 8 2) 7 1) 9 1) 10 5 := by unfold sS0_0_X8_blank; (repeat (first | rw [zif_pos (by omega)] | rw [zif_neg (by omega)]))
      have e1 : sS0_1_X8_blank R 1 = R 1 := by unfold sS0_1_X8_blank; (repeat (first | rw [zif_pos (by omega)] | rw [zif_neg (by omega)]))
      have e2 : sS0_2_X8_blank R 1 = R 2 := by unfold sS0_2_X8_blank; (repeat (first | rw [zif_pos (by omega)] | rw [zif_neg (by omega)]))
      have ed : sp_X5_detailOf P 1 98 1 = 5 := by unfold sp_X5_detailOf; (repeat (first | rw [zif_pos (by omega)] | rw [zif_neg (by omega)]))
      rw [v, ed]
      exact ⟨relA_why h e1 e2 rfl rfl rfl (fun i i7 i8 i9 i10 => by show sS0_0_X8_blank R 1 i = R 0 i; rw [e0, upZ_n i10, upZ_n i9, upZ_n i7, upZ_n i8, upZ_n i7, upZ_n i8]) (by show sS0_0_X8_blank R 1 9 = 1; rw [e0]; (repeat (first | rw [upZ_s] | rw [upZ_e (by omega)] | rw [upZ_n (by omega)] | rw [shf_in (by omega) (by omega)] | rw [shf_out (by omega)] | rw [zer_in (by omega) (by omega)] | rw [zer_out (by omega)] | rw [cpyZ_in (by omega) (by omega)] | rw [cpyZ_out (by omega)] | rw [mapZ_in (by omega) (by omega)] | rw [mapZ_out (by omega)]))) (by show sS0_0_X8_blank R 1 10 = 5; rw [e0]; (repeat (first | rw [upZ_s] | rw [upZ_e (by omega)] | rw [upZ_n (by omega)] | rw [shf_in (by omega) (by omega)] | rw [shf_out (by omega)] | rw [zer_in (by omega) (by omega)] | rw [zer_out (by omega)] | rw [cpyZ_in (by omega) (by omega)] | rw [cpyZ_out (by omega)] | rw [mapZ_in (by omega) (by omega)] | rw [mapZ_out (by omega)]))), by show sS0_0_X8_blank R 1 8 = 2; rw [e0]; (repeat (first | rw [upZ_s] | rw [upZ_e (by omega)] | rw [upZ_n (by omega)] | rw [shf_in (by omega) (by omega)] | rw [shf_out (by omega)] | rw [zer_in (by omega) (by omega)] | rw [zer_out (by omega)] | rw [cpyZ_in (by omega) (by omega)] | rw [cpyZ_out (by omega)] | rw [mapZ_in (by omega) (by omega)] | rw [mapZ_out (by omega)]))⟩
    · skip
      have v : sp_X5_verdictOn P 98 1 p2 p3 = 0 := by rw [hV]; (repeat (first | rw [zif_pos (by omega)] | rw [zif_neg (by omega)]))
      refine ⟨fun _ => ?_, fun q => absurd q (by omega), fun q => absurd q (by omega), fun q => absurd q (by omega)⟩
      have r := rel_blank_1 (p2 := p2) (p3 := p3) hP (by omega)
      have e0 : sS0_0_X8_blank R 1 = sS0_0_X8_keeps (upA R 0 (upZ (upZ (R 0) 8 0) 7 0)) 0 := by unfold sS0_0_X8_blank; (repeat (first | rw [zif_pos (by omega)] | rw [zif_neg (by omega)]))
      have e1 : sS0_1_X8_blank R 1 = rPuts (R 1) 1 1 (-1) (-1) (-1) := by unfold sS0_1_X8_blank; (repeat (first | rw [zif_pos (by omega)] | rw [zif_neg (by omega)]))
      have e2 : sS0_2_X8_blank R 1 = sS0_2_X8_keeps (upA R 0 (upZ (upZ (R 0) 8 0) 7 0)) 0 := by unfold sS0_2_X8_blank; (repeat (first | rw [zif_pos (by omega)] | rw [zif_neg (by omega)]))
      have k := relA_ok (X := (upA R 0 (upZ (upZ (R 0) 8 0) 7 0))) (R' := (upA (upA (upA R 0 (sS0_0_X8_blank R 1)) 1 (sS0_1_X8_blank R 1)) 2 (sS0_2_X8_blank R 1))) (P' := wCarry P 98 1 p2 p3) h ha (by show relP _ (sS0_1_X8_blank R 1); rw [e1]; exact r.1) rfl rfl (fun i i7 i8 => by show upZ (upZ (R 0) 8 0) 7 0 i = R 0 i; rw [upZ_n i7, upZ_n i8]) e0 e2 rfl rfl rfl
      exact ⟨k.1, k.2, by rw [r.2]; unfold sp_X8_blank; (repeat (first | rw [zif_pos (by omega)] | rw [zif_neg (by omega)])); show R 1 (15 + 26 * (1 : Int) + 0).toNat + 1 = P 6 1 + 1; omega⟩
  · subst z
    rcases Classical.em (R 1 (15 + 26 * (2 : Int) + 0).toNat = 5) with e | e
    · skip
      have v : sp_X5_verdictOn P 98 2 p2 p3 = 1 := by rw [hV]; (repeat (first | rw [zif_pos (by omega)] | rw [zif_neg (by omega)]))
      refine ⟨fun q => absurd q (by omega), fun q => absurd q (by omega), fun q => absurd q (by omega), fun _ => ?_⟩
      have e0 : sS0_0_X8_blank R 2 = upZ (upZ (upZ (upZ (upZ (upZ (R 0) 8 0) 7 0) 8 2) 7 1) 9 1) 10 5 := by unfold sS0_0_X8_blank; (repeat (first | rw [zif_pos (by omega)] | rw [zif_neg (by omega)]))
      have e1 : sS0_1_X8_blank R 2 = R 1 := by unfold sS0_1_X8_blank; (repeat (first | rw [zif_pos (by omega)] | rw [zif_neg (by omega)]))
      have e2 : sS0_2_X8_blank R 2 = R 2 := by unfold sS0_2_X8_blank; (repeat (first | rw [zif_pos (by omega)] | rw [zif_neg (by omega)]))
      have ed : sp_X5_detailOf P 1 98 2 = 5 := by unfold sp_X5_detailOf; (repeat (first | rw [zif_pos (by omega)] | rw [zif_neg (by omega)]))
      rw [v, ed]
      exact ⟨relA_why h e1 e2 rfl rfl rfl (fun i i7 i8 i9 i10 => by show sS0_0_X8_blank R 2 i = R 0 i; rw [e0, upZ_n i10, upZ_n i9, upZ_n i7, upZ_n i8, upZ_n i7, upZ_n i8]) (by show sS0_0_X8_blank R 2 9 = 1; rw [e0]; (repeat (first | rw [upZ_s] | rw [upZ_e (by omega)] | rw [upZ_n (by omega)] | rw [shf_in (by omega) (by omega)] | rw [shf_out (by omega)] | rw [zer_in (by omega) (by omega)] | rw [zer_out (by omega)] | rw [cpyZ_in (by omega) (by omega)] | rw [cpyZ_out (by omega)] | rw [mapZ_in (by omega) (by omega)] | rw [mapZ_out (by omega)]))) (by show sS0_0_X8_blank R 2 10 = 5; rw [e0]; (repeat (first | rw [upZ_s] | rw [upZ_e (by omega)] | rw [upZ_n (by omega)] | rw [shf_in (by omega) (by omega)] | rw [shf_out (by omega)] | rw [zer_in (by omega) (by omega)] | rw [zer_out (by omega)] | rw [cpyZ_in (by omega) (by omega)] | rw [cpyZ_out (by omega)] | rw [mapZ_in (by omega) (by omega)] | rw [mapZ_out (by omega)]))), by show sS0_0_X8_blank R 2 8 = 2; rw [e0]; (repeat (first | rw [upZ_s] | rw [upZ_e (by omega)] | rw [upZ_n (by omega)] | rw [shf_in (by omega) (by omega)] | rw [shf_out (by omega)] | rw [zer_in (by omega) (by omega)] | rw [zer_out (by omega)] | rw [cpyZ_in (by omega) (by omega)] | rw [cpyZ_out (by omega)] | rw [mapZ_in (by omega) (by omega)] | rw [mapZ_out (by omega)]))⟩
    · skip
      have v : sp_X5_verdictOn P 98 2 p2 p3 = 0 := by rw [hV]; (repeat (first | rw [zif_pos (by omega)] | rw [zif_neg (by omega)]))
      refine ⟨fun _ => ?_, fun q => absurd q (by omega), fun q => absurd q (by omega), fun q => absurd q (by omega)⟩
      have r := rel_blank_2 (p2 := p2) (p3 := p3) hP (by omega)
      have e0 : sS0_0_X8_blank R 2 = sS0_0_X8_keeps (upA R 0 (upZ (upZ (R 0) 8 0) 7 0)) 0 := by unfold sS0_0_X8_blank; (repeat (first | rw [zif_pos (by omega)] | rw [zif_neg (by omega)]))
      have e1 : sS0_1_X8_blank R 2 = rPuts (R 1) 2 1 (-1) (-1) (-1) := by unfold sS0_1_X8_blank; (repeat (first | rw [zif_pos (by omega)] | rw [zif_neg (by omega)]))
      have e2 : sS0_2_X8_blank R 2 = sS0_2_X8_keeps (upA R 0 (upZ (upZ (R 0) 8 0) 7 0)) 0 := by unfold sS0_2_X8_blank; (repeat (first | rw [zif_pos (by omega)] | rw [zif_neg (by omega)]))
      have k := relA_ok (X := (upA R 0 (upZ (upZ (R 0) 8 0) 7 0))) (R' := (upA (upA (upA R 0 (sS0_0_X8_blank R 2)) 1 (sS0_1_X8_blank R 2)) 2 (sS0_2_X8_blank R 2))) (P' := wCarry P 98 2 p2 p3) h ha (by show relP _ (sS0_1_X8_blank R 2); rw [e1]; exact r.1) rfl rfl (fun i i7 i8 => by show upZ (upZ (R 0) 8 0) 7 0 i = R 0 i; rw [upZ_n i7, upZ_n i8]) e0 e2 rfl rfl rfl
      exact ⟨k.1, k.2, by rw [r.2]; unfold sp_X8_blank; (repeat (first | rw [zif_pos (by omega)] | rw [zif_neg (by omega)])); show R 1 (15 + 26 * (2 : Int) + 0).toNat + 1 = P 9 1 + 1; omega⟩
  · skip
    have v : sp_X5_verdictOn P 98 p1 p2 p3 = 6 := by rw [hV]; (repeat (first | rw [zif_pos (by omega)] | rw [zif_neg (by omega)]))
    refine ⟨fun q => absurd q (by omega), fun _ => ?_, fun q => absurd q (by omega), fun q => absurd q (by omega)⟩
    have e0 : sS0_0_X8_blank R p1 = upZ (upZ (R 0) 8 1) 7 0 := by unfold sS0_0_X8_blank; (repeat (first | rw [zif_pos (by omega)] | rw [zif_neg (by omega)]))
    have e1 : sS0_1_X8_blank R p1 = R 1 := by unfold sS0_1_X8_blank; (repeat (first | rw [zif_pos (by omega)] | rw [zif_neg (by omega)]))
    have e2 : sS0_2_X8_blank R p1 = R 2 := by unfold sS0_2_X8_blank; (repeat (first | rw [zif_pos (by omega)] | rw [zif_neg (by omega)]))
    exact ⟨relA_fl h e1 e2 rfl rfl rfl (fun i i7 i8 => by show sS0_0_X8_blank R p1 i = R 0 i; rw [e0, upZ_n i7, upZ_n i8]), by show sS0_0_X8_blank R p1 8 = 1; rw [e0]; (repeat (first | rw [upZ_s] | rw [upZ_e (by omega)] | rw [upZ_n (by omega)] | rw [shf_in (by omega) (by omega)] | rw [shf_out (by omega)] | rw [zer_in (by omega) (by omega)] | rw [zer_out (by omega)] | rw [cpyZ_in (by omega) (by omega)] | rw [cpyZ_out (by omega)] | rw [mapZ_in (by omega) (by omega)] | rw [mapZ_out (by omega)]))⟩
set_option maxHeartbeats 4000000 in
theorem op_tell {F P N Hs : Nat → Nat → Int} {Gs : Nat → Nat → Nat → Int} {I L R : Nat → Nat → Int} {i0 : Nat} {p1 p2 p3 : Int} (h : relA F P N Hs Gs I L R) (ha : Hs 0 1 = (i0 : Int)) :
    (sp_X5_verdictOn P 116 p1 p2 p3 = 0 → relA F (wCarry P 116 p1 p2 p3) N (up2 (up2 Hs 0 1 ((Hs 0 1 + 1) % 8)) 0 2 (min (Hs 0 2 + 1) 8)) (upG Gs i0 (wCopy (Gs i0) P)) I L (upA (upA (upA R 0 (sS0_0_X8_tell R p1 p2 p3)) 1 (sS0_1_X8_tell R p1 p2 p3)) 2 (sS0_2_X8_tell R p1 p2 p3)) ∧ (upA (upA (upA R 0 (sS0_0_X8_tell R p1 p2 p3)) 1 (sS0_1_X8_tell R p1 p2 p3)) 2 (sS0_2_X8_tell R p1 p2 p3)) 0 8 = 0 ∧ sp_X8_tell R p1 p2 p3 = sp_X5_carryOut P 116 p1 p2 p3) ∧ (sp_X5_verdictOn P 116 p1 p2 p3 = 6 → relA F P N Hs Gs I L (upA (upA (upA R 0 (sS0_0_X8_tell R p1 p2 p3)) 1 (sS0_1_X8_tell R p1 p2 p3)) 2 (sS0_2_X8_tell R p1 p2 p3)) ∧ (upA (upA (upA R 0 (sS0_0_X8_tell R p1 p2 p3)) 1 (sS0_1_X8_tell R p1 p2 p3)) 2 (sS0_2_X8_tell R p1 p2 p3)) 0 8 = 1) ∧ (sp_X5_verdictOn P 116 p1 p2 p3 = 7 → relA F P N Hs Gs I L (upA (upA (upA R 0 (sS0_0_X8_tell R p1 p2 p3)) 1 (sS0_1_X8_tell R p1 p2 p3)) 2 (sS0_2_X8_tell R p1 p2 p3)) ∧ (upA (upA (upA R 0 (sS0_0_X8_tell R p1 p2 p3)) 1 (sS0_1_X8_tell R p1 p2 p3)) 2 (sS0_2_X8_tell R p1 p2 p3)) 0 8 = 2) ∧ (1 ≤ sp_X5_verdictOn P 116 p1 p2 p3 ∧ sp_X5_verdictOn P 116 p1 p2 p3 ≤ 5 → relA (up2 (up2 F 0 9 (sp_X5_verdictOn P 116 p1 p2 p3)) 0 10 (sp_X5_detailOf P (sp_X5_verdictOn P 116 p1 p2 p3) 116 p1)) P N Hs Gs I L (upA (upA (upA R 0 (sS0_0_X8_tell R p1 p2 p3)) 1 (sS0_1_X8_tell R p1 p2 p3)) 2 (sS0_2_X8_tell R p1 p2 p3)) ∧ (upA (upA (upA R 0 (sS0_0_X8_tell R p1 p2 p3)) 1 (sS0_1_X8_tell R p1 p2 p3)) 2 (sS0_2_X8_tell R p1 p2 p3)) 0 8 = 3) := by
  have hP := h.1
  have hV := ver_tell (p1 := p1) (p2 := p2) (p3 := p3) hP
  have c0 := relB_c hP.1
  have c1 := relB_c hP.2.1
  have c2 := relB_c hP.2.2.1
  have cs := hP.2.2.2.1.2.1
  have cy := hP.2.2.2.2.1.2.1
  have cyr := hP.2.2.2.2.1.1
  rcases (show p1 = 0 ∨ p1 = 1 ∨ p1 = 2 ∨ ¬ (0 ≤ p1 ∧ p1 ≤ 2) by omega) with z | z | z | z
  · subst z
    have g5 := hP.1.2.2.1
    rcases Classical.em (0 ≤ p2 ∧ p2 ≤ 9) with a | a
    · rcases Classical.em (4 ≤ p3 ∧ p3 ≤ 9) with d | d
      · rcases Classical.em (R 1 (15 + 26 * (0 : Int) + 1).toNat = p2) with e | e <;> rcases Classical.em (R 1 (15 + 26 * (0 : Int) + 2).toNat = p3) with f | f
        · skip
          have v : sp_X5_verdictOn P 116 0 p2 p3 = 2 := by rw [hV]; (repeat (first | rw [zif_pos (by omega)] | rw [zif_neg (by omega)]))
          refine ⟨fun q => absurd q (by omega), fun q => absurd q (by omega), fun q => absurd q (by omega), fun _ => ?_⟩
          have e0 : sS0_0_X8_tell R 0 p2 p3 = upZ (upZ (upZ (upZ (upZ (upZ (R 0) 8 0) 7 0) 8 3) 7 1) 9 2) 10 p2 := by unfold sS0_0_X8_tell; (repeat (first | rw [zif_pos (by omega)] | rw [zif_neg (by omega)]))
          have e1 : sS0_1_X8_tell R 0 p2 p3 = R 1 := by unfold sS0_1_X8_tell; (repeat (first | rw [zif_pos (by omega)] | rw [zif_neg (by omega)]))
          have e2 : sS0_2_X8_tell R 0 p2 p3 = R 2 := by unfold sS0_2_X8_tell; (repeat (first | rw [zif_pos (by omega)] | rw [zif_neg (by omega)]))
          have ed : sp_X5_detailOf P 2 116 0 = p2 := by unfold sp_X5_detailOf; (repeat (first | rw [zif_pos (by omega)] | rw [zif_neg (by omega)])); omega
          rw [v, ed]
          exact ⟨relA_why h e1 e2 rfl rfl rfl (fun i i7 i8 i9 i10 => by show sS0_0_X8_tell R 0 p2 p3 i = R 0 i; rw [e0, upZ_n i10, upZ_n i9, upZ_n i7, upZ_n i8, upZ_n i7, upZ_n i8]) (by show sS0_0_X8_tell R 0 p2 p3 9 = 2; rw [e0]; (repeat (first | rw [upZ_s] | rw [upZ_e (by omega)] | rw [upZ_n (by omega)] | rw [shf_in (by omega) (by omega)] | rw [shf_out (by omega)] | rw [zer_in (by omega) (by omega)] | rw [zer_out (by omega)] | rw [cpyZ_in (by omega) (by omega)] | rw [cpyZ_out (by omega)] | rw [mapZ_in (by omega) (by omega)] | rw [mapZ_out (by omega)]))) (by show sS0_0_X8_tell R 0 p2 p3 10 = p2; rw [e0]; (repeat (first | rw [upZ_s] | rw [upZ_e (by omega)] | rw [upZ_n (by omega)] | rw [shf_in (by omega) (by omega)] | rw [shf_out (by omega)] | rw [zer_in (by omega) (by omega)] | rw [zer_out (by omega)] | rw [cpyZ_in (by omega) (by omega)] | rw [cpyZ_out (by omega)] | rw [mapZ_in (by omega) (by omega)] | rw [mapZ_out (by omega)]))), by show sS0_0_X8_tell R 0 p2 p3 8 = 3; rw [e0]; (repeat (first | rw [upZ_s] | rw [upZ_e (by omega)] | rw [upZ_n (by omega)] | rw [shf_in (by omega) (by omega)] | rw [shf_out (by omega)] | rw [zer_in (by omega) (by omega)] | rw [zer_out (by omega)] | rw [cpyZ_in (by omega) (by omega)] | rw [cpyZ_out (by omega)] | rw [mapZ_in (by omega) (by omega)] | rw [mapZ_out (by omega)]))⟩
        · skip
          have v : sp_X5_verdictOn P 116 0 p2 p3 = 0 := by rw [hV]; (repeat (first | rw [zif_pos (by omega)] | rw [zif_neg (by omega)]))
          refine ⟨fun _ => ?_, fun q => absurd q (by omega), fun q => absurd q (by omega), fun q => absurd q (by omega)⟩
          have r := rel_tell_0 (p2 := p2) (p3 := p3) hP a d
          have e0 : sS0_0_X8_tell R 0 p2 p3 = sS0_0_X8_keeps (upA R 0 (upZ (upZ (R 0) 8 0) 7 0)) 0 := by unfold sS0_0_X8_tell; (repeat (first | rw [zif_pos (by omega)] | rw [zif_neg (by omega)]))
          have e1 : sS0_1_X8_tell R 0 p2 p3 = upZ (upZ (R 1) (15 + 26 * (0 : Int) + 1).toNat p2) (15 + 26 * (0 : Int) + 2).toNat p3 := by unfold sS0_1_X8_tell; (repeat (first | rw [zif_pos (by omega)] | rw [zif_neg (by omega)]))
          have e2 : sS0_2_X8_tell R 0 p2 p3 = sS0_2_X8_keeps (upA R 0 (upZ (upZ (R 0) 8 0) 7 0)) 0 := by unfold sS0_2_X8_tell; (repeat (first | rw [zif_pos (by omega)] | rw [zif_neg (by omega)]))
          have k := relA_ok (X := (upA R 0 (upZ (upZ (R 0) 8 0) 7 0))) (R' := (upA (upA (upA R 0 (sS0_0_X8_tell R 0 p2 p3)) 1 (sS0_1_X8_tell R 0 p2 p3)) 2 (sS0_2_X8_tell R 0 p2 p3))) (P' := wCarry P 116 0 p2 p3) h ha (by show relP _ (sS0_1_X8_tell R 0 p2 p3); rw [e1]; exact r.1) rfl rfl (fun i i7 i8 => by show upZ (upZ (R 0) 8 0) 7 0 i = R 0 i; rw [upZ_n i7, upZ_n i8]) e0 e2 rfl rfl rfl
          exact ⟨k.1, k.2, by rw [r.2]; unfold sp_X8_tell; (repeat (first | rw [zif_pos (by omega)] | rw [zif_neg (by omega)])); omega⟩
        · skip
          have v : sp_X5_verdictOn P 116 0 p2 p3 = 0 := by rw [hV]; (repeat (first | rw [zif_pos (by omega)] | rw [zif_neg (by omega)]))
          refine ⟨fun _ => ?_, fun q => absurd q (by omega), fun q => absurd q (by omega), fun q => absurd q (by omega)⟩
          have r := rel_tell_0 (p2 := p2) (p3 := p3) hP a d
          have e0 : sS0_0_X8_tell R 0 p2 p3 = sS0_0_X8_keeps (upA R 0 (upZ (upZ (R 0) 8 0) 7 0)) 0 := by unfold sS0_0_X8_tell; (repeat (first | rw [zif_pos (by omega)] | rw [zif_neg (by omega)]))
          have e1 : sS0_1_X8_tell R 0 p2 p3 = upZ (upZ (R 1) (15 + 26 * (0 : Int) + 1).toNat p2) (15 + 26 * (0 : Int) + 2).toNat p3 := by unfold sS0_1_X8_tell; (repeat (first | rw [zif_pos (by omega)] | rw [zif_neg (by omega)]))
          have e2 : sS0_2_X8_tell R 0 p2 p3 = sS0_2_X8_keeps (upA R 0 (upZ (upZ (R 0) 8 0) 7 0)) 0 := by unfold sS0_2_X8_tell; (repeat (first | rw [zif_pos (by omega)] | rw [zif_neg (by omega)]))
          have k := relA_ok (X := (upA R 0 (upZ (upZ (R 0) 8 0) 7 0))) (R' := (upA (upA (upA R 0 (sS0_0_X8_tell R 0 p2 p3)) 1 (sS0_1_X8_tell R 0 p2 p3)) 2 (sS0_2_X8_tell R 0 p2 p3))) (P' := wCarry P 116 0 p2 p3) h ha (by show relP _ (sS0_1_X8_tell R 0 p2 p3); rw [e1]; exact r.1) rfl rfl (fun i i7 i8 => by show upZ (upZ (R 0) 8 0) 7 0 i = R 0 i; rw [upZ_n i7, upZ_n i8]) e0 e2 rfl rfl rfl
          exact ⟨k.1, k.2, by rw [r.2]; unfold sp_X8_tell; (repeat (first | rw [zif_pos (by omega)] | rw [zif_neg (by omega)])); omega⟩
        · skip
          have v : sp_X5_verdictOn P 116 0 p2 p3 = 0 := by rw [hV]; (repeat (first | rw [zif_pos (by omega)] | rw [zif_neg (by omega)]))
          refine ⟨fun _ => ?_, fun q => absurd q (by omega), fun q => absurd q (by omega), fun q => absurd q (by omega)⟩
          have r := rel_tell_0 (p2 := p2) (p3 := p3) hP a d
          have e0 : sS0_0_X8_tell R 0 p2 p3 = sS0_0_X8_keeps (upA R 0 (upZ (upZ (R 0) 8 0) 7 0)) 0 := by unfold sS0_0_X8_tell; (repeat (first | rw [zif_pos (by omega)] | rw [zif_neg (by omega)]))
          have e1 : sS0_1_X8_tell R 0 p2 p3 = upZ (upZ (R 1) (15 + 26 * (0 : Int) + 1).toNat p2) (15 + 26 * (0 : Int) + 2).toNat p3 := by unfold sS0_1_X8_tell; (repeat (first | rw [zif_pos (by omega)] | rw [zif_neg (by omega)]))
          have e2 : sS0_2_X8_tell R 0 p2 p3 = sS0_2_X8_keeps (upA R 0 (upZ (upZ (R 0) 8 0) 7 0)) 0 := by unfold sS0_2_X8_tell; (repeat (first | rw [zif_pos (by omega)] | rw [zif_neg (by omega)]))
          have k := relA_ok (X := (upA R 0 (upZ (upZ (R 0) 8 0) 7 0))) (R' := (upA (upA (upA R 0 (sS0_0_X8_tell R 0 p2 p3)) 1 (sS0_1_X8_tell R 0 p2 p3)) 2 (sS0_2_X8_tell R 0 p2 p3))) (P' := wCarry P 116 0 p2 p3) h ha (by show relP _ (sS0_1_X8_tell R 0 p2 p3); rw [e1]; exact r.1) rfl rfl (fun i i7 i8 => by show upZ (upZ (R 0) 8 0) 7 0 i = R 0 i; rw [upZ_n i7, upZ_n i8]) e0 e2 rfl rfl rfl
          exact ⟨k.1, k.2, by rw [r.2]; unfold sp_X8_tell; (repeat (first | rw [zif_pos (by omega)] | rw [zif_neg (by omega)])); omega⟩
      · skip
        have v : sp_X5_verdictOn P 116 0 p2 p3 = 7 := by rw [hV]; (repeat (first | rw [zif_pos (by omega)] | rw [zif_neg (by omega)]))
        refine ⟨fun q => absurd q (by omega), fun q => absurd q (by omega), fun _ => ?_, fun q => absurd q (by omega)⟩
        have e0 : sS0_0_X8_tell R 0 p2 p3 = upZ (upZ (R 0) 8 2) 7 0 := by unfold sS0_0_X8_tell; (repeat (first | rw [zif_pos (by omega)] | rw [zif_neg (by omega)]))
        have e1 : sS0_1_X8_tell R 0 p2 p3 = R 1 := by unfold sS0_1_X8_tell; (repeat (first | rw [zif_pos (by omega)] | rw [zif_neg (by omega)]))
        have e2 : sS0_2_X8_tell R 0 p2 p3 = R 2 := by unfold sS0_2_X8_tell; (repeat (first | rw [zif_pos (by omega)] | rw [zif_neg (by omega)]))
        exact ⟨relA_fl h e1 e2 rfl rfl rfl (fun i i7 i8 => by show sS0_0_X8_tell R 0 p2 p3 i = R 0 i; rw [e0, upZ_n i7, upZ_n i8]), by show sS0_0_X8_tell R 0 p2 p3 8 = 2; rw [e0]; (repeat (first | rw [upZ_s] | rw [upZ_e (by omega)] | rw [upZ_n (by omega)] | rw [shf_in (by omega) (by omega)] | rw [shf_out (by omega)] | rw [zer_in (by omega) (by omega)] | rw [zer_out (by omega)] | rw [cpyZ_in (by omega) (by omega)] | rw [cpyZ_out (by omega)] | rw [mapZ_in (by omega) (by omega)] | rw [mapZ_out (by omega)]))⟩
    · skip
      have v : sp_X5_verdictOn P 116 0 p2 p3 = 7 := by rw [hV]; (repeat (first | rw [zif_pos (by omega)] | rw [zif_neg (by omega)]))
      refine ⟨fun q => absurd q (by omega), fun q => absurd q (by omega), fun _ => ?_, fun q => absurd q (by omega)⟩
      have e0 : sS0_0_X8_tell R 0 p2 p3 = upZ (upZ (R 0) 8 2) 7 0 := by unfold sS0_0_X8_tell; (repeat (first | rw [zif_pos (by omega)] | rw [zif_neg (by omega)]))
      have e1 : sS0_1_X8_tell R 0 p2 p3 = R 1 := by unfold sS0_1_X8_tell; (repeat (first | rw [zif_pos (by omega)] | rw [zif_neg (by omega)]))
      have e2 : sS0_2_X8_tell R 0 p2 p3 = R 2 := by unfold sS0_2_X8_tell; (repeat (first | rw [zif_pos (by omega)] | rw [zif_neg (by omega)]))
      exact ⟨relA_fl h e1 e2 rfl rfl rfl (fun i i7 i8 => by show sS0_0_X8_tell R 0 p2 p3 i = R 0 i; rw [e0, upZ_n i7, upZ_n i8]), by show sS0_0_X8_tell R 0 p2 p3 8 = 2; rw [e0]; (repeat (first | rw [upZ_s] | rw [upZ_e (by omega)] | rw [upZ_n (by omega)] | rw [shf_in (by omega) (by omega)] | rw [shf_out (by omega)] | rw [zer_in (by omega) (by omega)] | rw [zer_out (by omega)] | rw [cpyZ_in (by omega) (by omega)] | rw [cpyZ_out (by omega)] | rw [mapZ_in (by omega) (by omega)] | rw [mapZ_out (by omega)]))⟩
  · subst z
    have g5 := hP.2.1.2.2.1
    rcases Classical.em (0 ≤ p2 ∧ p2 ≤ 9) with a | a
    · rcases Classical.em (4 ≤ p3 ∧ p3 ≤ 9) with d | d
      · rcases Classical.em (R 1 (15 + 26 * (1 : Int) + 1).toNat = p2) with e | e <;> rcases Classical.em (R 1 (15 + 26 * (1 : Int) + 2).toNat = p3) with f | f
        · skip
          have v : sp_X5_verdictOn P 116 1 p2 p3 = 2 := by rw [hV]; (repeat (first | rw [zif_pos (by omega)] | rw [zif_neg (by omega)]))
          refine ⟨fun q => absurd q (by omega), fun q => absurd q (by omega), fun q => absurd q (by omega), fun _ => ?_⟩
          have e0 : sS0_0_X8_tell R 1 p2 p3 = upZ (upZ (upZ (upZ (upZ (upZ (R 0) 8 0) 7 0) 8 3) 7 1) 9 2) 10 p2 := by unfold sS0_0_X8_tell; (repeat (first | rw [zif_pos (by omega)] | rw [zif_neg (by omega)]))
          have e1 : sS0_1_X8_tell R 1 p2 p3 = R 1 := by unfold sS0_1_X8_tell; (repeat (first | rw [zif_pos (by omega)] | rw [zif_neg (by omega)]))
          have e2 : sS0_2_X8_tell R 1 p2 p3 = R 2 := by unfold sS0_2_X8_tell; (repeat (first | rw [zif_pos (by omega)] | rw [zif_neg (by omega)]))
          have ed : sp_X5_detailOf P 2 116 1 = p2 := by unfold sp_X5_detailOf; (repeat (first | rw [zif_pos (by omega)] | rw [zif_neg (by omega)])); omega
          rw [v, ed]
          exact ⟨relA_why h e1 e2 rfl rfl rfl (fun i i7 i8 i9 i10 => by show sS0_0_X8_tell R 1 p2 p3 i = R 0 i; rw [e0, upZ_n i10, upZ_n i9, upZ_n i7, upZ_n i8, upZ_n i7, upZ_n i8]) (by show sS0_0_X8_tell R 1 p2 p3 9 = 2; rw [e0]; (repeat (first | rw [upZ_s] | rw [upZ_e (by omega)] | rw [upZ_n (by omega)] | rw [shf_in (by omega) (by omega)] | rw [shf_out (by omega)] | rw [zer_in (by omega) (by omega)] | rw [zer_out (by omega)] | rw [cpyZ_in (by omega) (by omega)] | rw [cpyZ_out (by omega)] | rw [mapZ_in (by omega) (by omega)] | rw [mapZ_out (by omega)]))) (by show sS0_0_X8_tell R 1 p2 p3 10 = p2; rw [e0]; (repeat (first | rw [upZ_s] | rw [upZ_e (by omega)] | rw [upZ_n (by omega)] | rw [shf_in (by omega) (by omega)] | rw [shf_out (by omega)] | rw [zer_in (by omega) (by omega)] | rw [zer_out (by omega)] | rw [cpyZ_in (by omega) (by omega)] | rw [cpyZ_out (by omega)] | rw [mapZ_in (by omega) (by omega)] | rw [mapZ_out (by omega)]))), by show sS0_0_X8_tell R 1 p2 p3 8 = 3; rw [e0]; (repeat (first | rw [upZ_s] | rw [upZ_e (by omega)] | rw [upZ_n (by omega)] | rw [shf_in (by omega) (by omega)] | rw [shf_out (by omega)] | rw [zer_in (by omega) (by omega)] | rw [zer_out (by omega)] | rw [cpyZ_in (by omega) (by omega)] | rw [cpyZ_out (by omega)] | rw [mapZ_in (by omega) (by omega)] | rw [mapZ_out (by omega)]))⟩
        · skip
          have v : sp_X5_verdictOn P 116 1 p2 p3 = 0 := by rw [hV]; (repeat (first | rw [zif_pos (by omega)] | rw [zif_neg (by omega)]))
          refine ⟨fun _ => ?_, fun q => absurd q (by omega), fun q => absurd q (by omega), fun q => absurd q (by omega)⟩
          have r := rel_tell_1 (p2 := p2) (p3 := p3) hP a d
          have e0 : sS0_0_X8_tell R 1 p2 p3 = sS0_0_X8_keeps (upA R 0 (upZ (upZ (R 0) 8 0) 7 0)) 0 := by unfold sS0_0_X8_tell; (repeat (first | rw [zif_pos (by omega)] | rw [zif_neg (by omega)]))
          have e1 : sS0_1_X8_tell R 1 p2 p3 = upZ (upZ (R 1) (15 + 26 * (1 : Int) + 1).toNat p2) (15 + 26 * (1 : Int) + 2).toNat p3 := by unfold sS0_1_X8_tell; (repeat (first | rw [zif_pos (by omega)] | rw [zif_neg (by omega)]))
          have e2 : sS0_2_X8_tell R 1 p2 p3 = sS0_2_X8_keeps (upA R 0 (upZ (upZ (R 0) 8 0) 7 0)) 0 := by unfold sS0_2_X8_tell; (repeat (first | rw [zif_pos (by omega)] | rw [zif_neg (by omega)]))
          have k := relA_ok (X := (upA R 0 (upZ (upZ (R 0) 8 0) 7 0))) (R' := (upA (upA (upA R 0 (sS0_0_X8_tell R 1 p2 p3)) 1 (sS0_1_X8_tell R 1 p2 p3)) 2 (sS0_2_X8_tell R 1 p2 p3))) (P' := wCarry P 116 1 p2 p3) h ha (by show relP _ (sS0_1_X8_tell R 1 p2 p3); rw [e1]; exact r.1) rfl rfl (fun i i7 i8 => by show upZ (upZ (R 0) 8 0) 7 0 i = R 0 i; rw [upZ_n i7, upZ_n i8]) e0 e2 rfl rfl rfl
          exact ⟨k.1, k.2, by rw [r.2]; unfold sp_X8_tell; (repeat (first | rw [zif_pos (by omega)] | rw [zif_neg (by omega)])); omega⟩
        · skip
          have v : sp_X5_verdictOn P 116 1 p2 p3 = 0 := by rw [hV]; (repeat (first | rw [zif_pos (by omega)] | rw [zif_neg (by omega)]))
          refine ⟨fun _ => ?_, fun q => absurd q (by omega), fun q => absurd q (by omega), fun q => absurd q (by omega)⟩
          have r := rel_tell_1 (p2 := p2) (p3 := p3) hP a d
          have e0 : sS0_0_X8_tell R 1 p2 p3 = sS0_0_X8_keeps (upA R 0 (upZ (upZ (R 0) 8 0) 7 0)) 0 := by unfold sS0_0_X8_tell; (repeat (first | rw [zif_pos (by omega)] | rw [zif_neg (by omega)]))
          have e1 : sS0_1_X8_tell R 1 p2 p3 = upZ (upZ (R 1) (15 + 26 * (1 : Int) + 1).toNat p2) (15 + 26 * (1 : Int) + 2).toNat p3 := by unfold sS0_1_X8_tell; (repeat (first | rw [zif_pos (by omega)] | rw [zif_neg (by omega)]))
          have e2 : sS0_2_X8_tell R 1 p2 p3 = sS0_2_X8_keeps (upA R 0 (upZ (upZ (R 0) 8 0) 7 0)) 0 := by unfold sS0_2_X8_tell; (repeat (first | rw [zif_pos (by omega)] | rw [zif_neg (by omega)]))
          have k := relA_ok (X := (upA R 0 (upZ (upZ (R 0) 8 0) 7 0))) (R' := (upA (upA (upA R 0 (sS0_0_X8_tell R 1 p2 p3)) 1 (sS0_1_X8_tell R 1 p2 p3)) 2 (sS0_2_X8_tell R 1 p2 p3))) (P' := wCarry P 116 1 p2 p3) h ha (by show relP _ (sS0_1_X8_tell R 1 p2 p3); rw [e1]; exact r.1) rfl rfl (fun i i7 i8 => by show upZ (upZ (R 0) 8 0) 7 0 i = R 0 i; rw [upZ_n i7, upZ_n i8]) e0 e2 rfl rfl rfl
          exact ⟨k.1, k.2, by rw [r.2]; unfold sp_X8_tell; (repeat (first | rw [zif_pos (by omega)] | rw [zif_neg (by omega)])); omega⟩
        · skip
          have v : sp_X5_verdictOn P 116 1 p2 p3 = 0 := by rw [hV]; (repeat (first | rw [zif_pos (by omega)] | rw [zif_neg (by omega)]))
          refine ⟨fun _ => ?_, fun q => absurd q (by omega), fun q => absurd q (by omega), fun q => absurd q (by omega)⟩
          have r := rel_tell_1 (p2 := p2) (p3 := p3) hP a d
          have e0 : sS0_0_X8_tell R 1 p2 p3 = sS0_0_X8_keeps (upA R 0 (upZ (upZ (R 0) 8 0) 7 0)) 0 := by unfold sS0_0_X8_tell; (repeat (first | rw [zif_pos (by omega)] | rw [zif_neg (by omega)]))
          have e1 : sS0_1_X8_tell R 1 p2 p3 = upZ (upZ (R 1) (15 + 26 * (1 : Int) + 1).toNat p2) (15 + 26 * (1 : Int) + 2).toNat p3 := by unfold sS0_1_X8_tell; (repeat (first | rw [zif_pos (by omega)] | rw [zif_neg (by omega)]))
          have e2 : sS0_2_X8_tell R 1 p2 p3 = sS0_2_X8_keeps (upA R 0 (upZ (upZ (R 0) 8 0) 7 0)) 0 := by unfold sS0_2_X8_tell; (repeat (first | rw [zif_pos (by omega)] | rw [zif_neg (by omega)]))
          have k := relA_ok (X := (upA R 0 (upZ (upZ (R 0) 8 0) 7 0))) (R' := (upA (upA (upA R 0 (sS0_0_X8_tell R 1 p2 p3)) 1 (sS0_1_X8_tell R 1 p2 p3)) 2 (sS0_2_X8_tell R 1 p2 p3))) (P' := wCarry P 116 1 p2 p3) h ha (by show relP _ (sS0_1_X8_tell R 1 p2 p3); rw [e1]; exact r.1) rfl rfl (fun i i7 i8 => by show upZ (upZ (R 0) 8 0) 7 0 i = R 0 i; rw [upZ_n i7, upZ_n i8]) e0 e2 rfl rfl rfl
          exact ⟨k.1, k.2, by rw [r.2]; unfold sp_X8_tell; (repeat (first | rw [zif_pos (by omega)] | rw [zif_neg (by omega)])); omega⟩
      · skip
        have v : sp_X5_verdictOn P 116 1 p2 p3 = 7 := by rw [hV]; (repeat (first | rw [zif_pos (by omega)] | rw [zif_neg (by omega)]))
        refine ⟨fun q => absurd q (by omega), fun q => absurd q (by omega), fun _ => ?_, fun q => absurd q (by omega)⟩
        have e0 : sS0_0_X8_tell R 1 p2 p3 = upZ (upZ (R 0) 8 2) 7 0 := by unfold sS0_0_X8_tell; (repeat (first | rw [zif_pos (by omega)] | rw [zif_neg (by omega)]))
        have e1 : sS0_1_X8_tell R 1 p2 p3 = R 1 := by unfold sS0_1_X8_tell; (repeat (first | rw [zif_pos (by omega)] | rw [zif_neg (by omega)]))
        have e2 : sS0_2_X8_tell R 1 p2 p3 = R 2 := by unfold sS0_2_X8_tell; (repeat (first | rw [zif_pos (by omega)] | rw [zif_neg (by omega)]))
        exact ⟨relA_fl h e1 e2 rfl rfl rfl (fun i i7 i8 => by show sS0_0_X8_tell R 1 p2 p3 i = R 0 i; rw [e0, upZ_n i7, upZ_n i8]), by show sS0_0_X8_tell R 1 p2 p3 8 = 2; rw [e0]; (repeat (first | rw [upZ_s] | rw [upZ_e (by omega)] | rw [upZ_n (by omega)] | rw [shf_in (by omega) (by omega)] | rw [shf_out (by omega)] | rw [zer_in (by omega) (by omega)] | rw [zer_out (by omega)] | rw [cpyZ_in (by omega) (by omega)] | rw [cpyZ_out (by omega)] | rw [mapZ_in (by omega) (by omega)] | rw [mapZ_out (by omega)]))⟩
    · skip
      have v : sp_X5_verdictOn P 116 1 p2 p3 = 7 := by rw [hV]; (repeat (first | rw [zif_pos (by omega)] | rw [zif_neg (by omega)]))
      refine ⟨fun q => absurd q (by omega), fun q => absurd q (by omega), fun _ => ?_, fun q => absurd q (by omega)⟩
      have e0 : sS0_0_X8_tell R 1 p2 p3 = upZ (upZ (R 0) 8 2) 7 0 := by unfold sS0_0_X8_tell; (repeat (first | rw [zif_pos (by omega)] | rw [zif_neg (by omega)]))
      have e1 : sS0_1_X8_tell R 1 p2 p3 = R 1 := by unfold sS0_1_X8_tell; (repeat (first | rw [zif_pos (by omega)] | rw [zif_neg (by omega)]))
      have e2 : sS0_2_X8_tell R 1 p2 p3 = R 2 := by unfold sS0_2_X8_tell; (repeat (first | rw [zif_pos (by omega)] | rw [zif_neg (by omega)]))
      exact ⟨relA_fl h e1 e2 rfl rfl rfl (fun i i7 i8 => by show sS0_0_X8_tell R 1 p2 p3 i = R 0 i; rw [e0, upZ_n i7, upZ_n i8]), by show sS0_0_X8_tell R 1 p2 p3 8 = 2; rw [e0]; (repeat (first | rw [upZ_s] | rw [upZ_e (by omega)] | rw [upZ_n (by omega)] | rw [shf_in (by omega) (by omega)] | rw [shf_out (by omega)] | rw [zer_in (by omega) (by omega)] | rw [zer_out (by omega)] | rw [cpyZ_in (by omega) (by omega)] | rw [cpyZ_out (by omega)] | rw [mapZ_in (by omega) (by omega)] | rw [mapZ_out (by omega)]))⟩
  · subst z
    have g5 := hP.2.2.1.2.2.1
    rcases Classical.em (0 ≤ p2 ∧ p2 ≤ 9) with a | a
    · rcases Classical.em (4 ≤ p3 ∧ p3 ≤ 9) with d | d
      · rcases Classical.em (R 1 (15 + 26 * (2 : Int) + 1).toNat = p2) with e | e <;> rcases Classical.em (R 1 (15 + 26 * (2 : Int) + 2).toNat = p3) with f | f
        · skip
          have v : sp_X5_verdictOn P 116 2 p2 p3 = 2 := by rw [hV]; (repeat (first | rw [zif_pos (by omega)] | rw [zif_neg (by omega)]))
          refine ⟨fun q => absurd q (by omega), fun q => absurd q (by omega), fun q => absurd q (by omega), fun _ => ?_⟩
          have e0 : sS0_0_X8_tell R 2 p2 p3 = upZ (upZ (upZ (upZ (upZ (upZ (R 0) 8 0) 7 0) 8 3) 7 1) 9 2) 10 p2 := by unfold sS0_0_X8_tell; (repeat (first | rw [zif_pos (by omega)] | rw [zif_neg (by omega)]))
          have e1 : sS0_1_X8_tell R 2 p2 p3 = R 1 := by unfold sS0_1_X8_tell; (repeat (first | rw [zif_pos (by omega)] | rw [zif_neg (by omega)]))
          have e2 : sS0_2_X8_tell R 2 p2 p3 = R 2 := by unfold sS0_2_X8_tell; (repeat (first | rw [zif_pos (by omega)] | rw [zif_neg (by omega)]))
          have ed : sp_X5_detailOf P 2 116 2 = p2 := by unfold sp_X5_detailOf; (repeat (first | rw [zif_pos (by omega)] | rw [zif_neg (by omega)])); omega
          rw [v, ed]
          exact ⟨relA_why h e1 e2 rfl rfl rfl (fun i i7 i8 i9 i10 => by show sS0_0_X8_tell R 2 p2 p3 i = R 0 i; rw [e0, upZ_n i10, upZ_n i9, upZ_n i7, upZ_n i8, upZ_n i7, upZ_n i8]) (by show sS0_0_X8_tell R 2 p2 p3 9 = 2; rw [e0]; (repeat (first | rw [upZ_s] | rw [upZ_e (by omega)] | rw [upZ_n (by omega)] | rw [shf_in (by omega) (by omega)] | rw [shf_out (by omega)] | rw [zer_in (by omega) (by omega)] | rw [zer_out (by omega)] | rw [cpyZ_in (by omega) (by omega)] | rw [cpyZ_out (by omega)] | rw [mapZ_in (by omega) (by omega)] | rw [mapZ_out (by omega)]))) (by show sS0_0_X8_tell R 2 p2 p3 10 = p2; rw [e0]; (repeat (first | rw [upZ_s] | rw [upZ_e (by omega)] | rw [upZ_n (by omega)] | rw [shf_in (by omega) (by omega)] | rw [shf_out (by omega)] | rw [zer_in (by omega) (by omega)] | rw [zer_out (by omega)] | rw [cpyZ_in (by omega) (by omega)] | rw [cpyZ_out (by omega)] | rw [mapZ_in (by omega) (by omega)] | rw [mapZ_out (by omega)]))), by show sS0_0_X8_tell R 2 p2 p3 8 = 3; rw [e0]; (repeat (first | rw [upZ_s] | rw [upZ_e (by omega)] | rw [upZ_n (by omega)] | rw [shf_in (by omega) (by omega)] | rw [shf_out (by omega)] | rw [zer_in (by omega) (by omega)] | rw [zer_out (by omega)] | rw [cpyZ_in (by omega) (by omega)] | rw [cpyZ_out (by omega)] | rw [mapZ_in (by omega) (by omega)] | rw [mapZ_out (by omega)]))⟩
        · skip
          have v : sp_X5_verdictOn P 116 2 p2 p3 = 0 := by rw [hV]; (repeat (first | rw [zif_pos (by omega)] | rw [zif_neg (by omega)]))
          refine ⟨fun _ => ?_, fun q => absurd q (by omega), fun q => absurd q (by omega), fun q => absurd q (by omega)⟩
          have r := rel_tell_2 (p2 := p2) (p3 := p3) hP a d
          have e0 : sS0_0_X8_tell R 2 p2 p3 = sS0_0_X8_keeps (upA R 0 (upZ (upZ (R 0) 8 0) 7 0)) 0 := by unfold sS0_0_X8_tell; (repeat (first | rw [zif_pos (by omega)] | rw [zif_neg (by omega)]))
          have e1 : sS0_1_X8_tell R 2 p2 p3 = upZ (upZ (R 1) (15 + 26 * (2 : Int) + 1).toNat p2) (15 + 26 * (2 : Int) + 2).toNat p3 := by unfold sS0_1_X8_tell; (repeat (first | rw [zif_pos (by omega)] | rw [zif_neg (by omega)]))
          have e2 : sS0_2_X8_tell R 2 p2 p3 = sS0_2_X8_keeps (upA R 0 (upZ (upZ (R 0) 8 0) 7 0)) 0 := by unfold sS0_2_X8_tell; (repeat (first | rw [zif_pos (by omega)] | rw [zif_neg (by omega)]))
          have k := relA_ok (X := (upA R 0 (upZ (upZ (R 0) 8 0) 7 0))) (R' := (upA (upA (upA R 0 (sS0_0_X8_tell R 2 p2 p3)) 1 (sS0_1_X8_tell R 2 p2 p3)) 2 (sS0_2_X8_tell R 2 p2 p3))) (P' := wCarry P 116 2 p2 p3) h ha (by show relP _ (sS0_1_X8_tell R 2 p2 p3); rw [e1]; exact r.1) rfl rfl (fun i i7 i8 => by show upZ (upZ (R 0) 8 0) 7 0 i = R 0 i; rw [upZ_n i7, upZ_n i8]) e0 e2 rfl rfl rfl
          exact ⟨k.1, k.2, by rw [r.2]; unfold sp_X8_tell; (repeat (first | rw [zif_pos (by omega)] | rw [zif_neg (by omega)])); omega⟩
        · skip
          have v : sp_X5_verdictOn P 116 2 p2 p3 = 0 := by rw [hV]; (repeat (first | rw [zif_pos (by omega)] | rw [zif_neg (by omega)]))
          refine ⟨fun _ => ?_, fun q => absurd q (by omega), fun q => absurd q (by omega), fun q => absurd q (by omega)⟩
          have r := rel_tell_2 (p2 := p2) (p3 := p3) hP a d
          have e0 : sS0_0_X8_tell R 2 p2 p3 = sS0_0_X8_keeps (upA R 0 (upZ (upZ (R 0) 8 0) 7 0)) 0 := by unfold sS0_0_X8_tell; (repeat (first | rw [zif_pos (by omega)] | rw [zif_neg (by omega)]))
          have e1 : sS0_1_X8_tell R 2 p2 p3 = upZ (upZ (R 1) (15 + 26 * (2 : Int) + 1).toNat p2) (15 + 26 * (2 : Int) + 2).toNat p3 := by unfold sS0_1_X8_tell; (repeat (first | rw [zif_pos (by omega)] | rw [zif_neg (by omega)]))
          have e2 : sS0_2_X8_tell R 2 p2 p3 = sS0_2_X8_keeps (upA R 0 (upZ (upZ (R 0) 8 0) 7 0)) 0 := by unfold sS0_2_X8_tell; (repeat (first | rw [zif_pos (by omega)] | rw [zif_neg (by omega)]))
          have k := relA_ok (X := (upA R 0 (upZ (upZ (R 0) 8 0) 7 0))) (R' := (upA (upA (upA R 0 (sS0_0_X8_tell R 2 p2 p3)) 1 (sS0_1_X8_tell R 2 p2 p3)) 2 (sS0_2_X8_tell R 2 p2 p3))) (P' := wCarry P 116 2 p2 p3) h ha (by show relP _ (sS0_1_X8_tell R 2 p2 p3); rw [e1]; exact r.1) rfl rfl (fun i i7 i8 => by show upZ (upZ (R 0) 8 0) 7 0 i = R 0 i; rw [upZ_n i7, upZ_n i8]) e0 e2 rfl rfl rfl
          exact ⟨k.1, k.2, by rw [r.2]; unfold sp_X8_tell; (repeat (first | rw [zif_pos (by omega)] | rw [zif_neg (by omega)])); omega⟩
        · skip
          have v : sp_X5_verdictOn P 116 2 p2 p3 = 0 := by rw [hV]; (repeat (first | rw [zif_pos (by omega)] | rw [zif_neg (by omega)]))
          refine ⟨fun _ => ?_, fun q => absurd q (by omega), fun q => absurd q (by omega), fun q => absurd q (by omega)⟩
          have r := rel_tell_2 (p2 := p2) (p3 := p3) hP a d
          have e0 : sS0_0_X8_tell R 2 p2 p3 = sS0_0_X8_keeps (upA R 0 (upZ (upZ (R 0) 8 0) 7 0)) 0 := by unfold sS0_0_X8_tell; (repeat (first | rw [zif_pos (by omega)] | rw [zif_neg (by omega)]))
          have e1 : sS0_1_X8_tell R 2 p2 p3 = upZ (upZ (R 1) (15 + 26 * (2 : Int) + 1).toNat p2) (15 + 26 * (2 : Int) + 2).toNat p3 := by unfold sS0_1_X8_tell; (repeat (first | rw [zif_pos (by omega)] | rw [zif_neg (by omega)]))
          have e2 : sS0_2_X8_tell R 2 p2 p3 = sS0_2_X8_keeps (upA R 0 (upZ (upZ (R 0) 8 0) 7 0)) 0 := by unfold sS0_2_X8_tell; (repeat (first | rw [zif_pos (by omega)] | rw [zif_neg (by omega)]))
          have k := relA_ok (X := (upA R 0 (upZ (upZ (R 0) 8 0) 7 0))) (R' := (upA (upA (upA R 0 (sS0_0_X8_tell R 2 p2 p3)) 1 (sS0_1_X8_tell R 2 p2 p3)) 2 (sS0_2_X8_tell R 2 p2 p3))) (P' := wCarry P 116 2 p2 p3) h ha (by show relP _ (sS0_1_X8_tell R 2 p2 p3); rw [e1]; exact r.1) rfl rfl (fun i i7 i8 => by show upZ (upZ (R 0) 8 0) 7 0 i = R 0 i; rw [upZ_n i7, upZ_n i8]) e0 e2 rfl rfl rfl
          exact ⟨k.1, k.2, by rw [r.2]; unfold sp_X8_tell; (repeat (first | rw [zif_pos (by omega)] | rw [zif_neg (by omega)])); omega⟩
      · skip
        have v : sp_X5_verdictOn P 116 2 p2 p3 = 7 := by rw [hV]; (repeat (first | rw [zif_pos (by omega)] | rw [zif_neg (by omega)]))
        refine ⟨fun q => absurd q (by omega), fun q => absurd q (by omega), fun _ => ?_, fun q => absurd q (by omega)⟩
        have e0 : sS0_0_X8_tell R 2 p2 p3 = upZ (upZ (R 0) 8 2) 7 0 := by unfold sS0_0_X8_tell; (repeat (first | rw [zif_pos (by omega)] | rw [zif_neg (by omega)]))
        have e1 : sS0_1_X8_tell R 2 p2 p3 = R 1 := by unfold sS0_1_X8_tell; (repeat (first | rw [zif_pos (by omega)] | rw [zif_neg (by omega)]))
        have e2 : sS0_2_X8_tell R 2 p2 p3 = R 2 := by unfold sS0_2_X8_tell; (repeat (first | rw [zif_pos (by omega)] | rw [zif_neg (by omega)]))
        exact ⟨relA_fl h e1 e2 rfl rfl rfl (fun i i7 i8 => by show sS0_0_X8_tell R 2 p2 p3 i = R 0 i; rw [e0, upZ_n i7, upZ_n i8]), by show sS0_0_X8_tell R 2 p2 p3 8 = 2; rw [e0]; (repeat (first | rw [upZ_s] | rw [upZ_e (by omega)] | rw [upZ_n (by omega)] | rw [shf_in (by omega) (by omega)] | rw [shf_out (by omega)] | rw [zer_in (by omega) (by omega)] | rw [zer_out (by omega)] | rw [cpyZ_in (by omega) (by omega)] | rw [cpyZ_out (by omega)] | rw [mapZ_in (by omega) (by omega)] | rw [mapZ_out (by omega)]))⟩
    · skip
      have v : sp_X5_verdictOn P 116 2 p2 p3 = 7 := by rw [hV]; (repeat (first | rw [zif_pos (by omega)] | rw [zif_neg (by omega)]))
      refine ⟨fun q => absurd q (by omega), fun q => absurd q (by omega), fun _ => ?_, fun q => absurd q (by omega)⟩
      have e0 : sS0_0_X8_tell R 2 p2 p3 = upZ (upZ (R 0) 8 2) 7 0 := by unfold sS0_0_X8_tell; (repeat (first | rw [zif_pos (by omega)] | rw [zif_neg (by omega)]))
      have e1 : sS0_1_X8_tell R 2 p2 p3 = R 1 := by unfold sS0_1_X8_tell; (repeat (first | rw [zif_pos (by omega)] | rw [zif_neg (by omega)]))
      have e2 : sS0_2_X8_tell R 2 p2 p3 = R 2 := by unfold sS0_2_X8_tell; (repeat (first | rw [zif_pos (by omega)] | rw [zif_neg (by omega)]))
      exact ⟨relA_fl h e1 e2 rfl rfl rfl (fun i i7 i8 => by show sS0_0_X8_tell R 2 p2 p3 i = R 0 i; rw [e0, upZ_n i7, upZ_n i8]), by show sS0_0_X8_tell R 2 p2 p3 8 = 2; rw [e0]; (repeat (first | rw [upZ_s] | rw [upZ_e (by omega)] | rw [upZ_n (by omega)] | rw [shf_in (by omega) (by omega)] | rw [shf_out (by omega)] | rw [zer_in (by omega) (by omega)] | rw [zer_out (by omega)] | rw [cpyZ_in (by omega) (by omega)] | rw [cpyZ_out (by omega)] | rw [mapZ_in (by omega) (by omega)] | rw [mapZ_out (by omega)]))⟩
  · skip
    have v : sp_X5_verdictOn P 116 p1 p2 p3 = 6 := by rw [hV]; (repeat (first | rw [zif_pos (by omega)] | rw [zif_neg (by omega)]))
    refine ⟨fun q => absurd q (by omega), fun _ => ?_, fun q => absurd q (by omega), fun q => absurd q (by omega)⟩
    have e0 : sS0_0_X8_tell R p1 p2 p3 = upZ (upZ (R 0) 8 1) 7 0 := by unfold sS0_0_X8_tell; (repeat (first | rw [zif_pos (by omega)] | rw [zif_neg (by omega)]))
    have e1 : sS0_1_X8_tell R p1 p2 p3 = R 1 := by unfold sS0_1_X8_tell; (repeat (first | rw [zif_pos (by omega)] | rw [zif_neg (by omega)]))
    have e2 : sS0_2_X8_tell R p1 p2 p3 = R 2 := by unfold sS0_2_X8_tell; (repeat (first | rw [zif_pos (by omega)] | rw [zif_neg (by omega)]))
    exact ⟨relA_fl h e1 e2 rfl rfl rfl (fun i i7 i8 => by show sS0_0_X8_tell R p1 p2 p3 i = R 0 i; rw [e0, upZ_n i7, upZ_n i8]), by show sS0_0_X8_tell R p1 p2 p3 8 = 1; rw [e0]; (repeat (first | rw [upZ_s] | rw [upZ_e (by omega)] | rw [upZ_n (by omega)] | rw [shf_in (by omega) (by omega)] | rw [shf_out (by omega)] | rw [zer_in (by omega) (by omega)] | rw [zer_out (by omega)] | rw [cpyZ_in (by omega) (by omega)] | rw [cpyZ_out (by omega)] | rw [mapZ_in (by omega) (by omega)] | rw [mapZ_out (by omega)]))⟩
set_option maxHeartbeats 4000000 in
theorem op_inspect {F P N Hs : Nat → Nat → Int} {Gs : Nat → Nat → Nat → Int} {I L R : Nat → Nat → Int} {i0 : Nat} {p1 p2 p3 : Int} (h : relA F P N Hs Gs I L R) (ha : Hs 0 1 = (i0 : Int)) :
    (sp_X5_verdictOn P 105 p1 p2 p3 = 0 → relA F (wCarry P 105 p1 p2 p3) N (up2 (up2 Hs 0 1 ((Hs 0 1 + 1) % 8)) 0 2 (min (Hs 0 2 + 1) 8)) (upG Gs i0 (wCopy (Gs i0) P)) I L (upA (upA (upA R 0 (sS0_0_X8_inspect R p1)) 1 (sS0_1_X8_inspect R p1)) 2 (sS0_2_X8_inspect R p1)) ∧ (upA (upA (upA R 0 (sS0_0_X8_inspect R p1)) 1 (sS0_1_X8_inspect R p1)) 2 (sS0_2_X8_inspect R p1)) 0 8 = 0 ∧ sp_X8_inspect R p1 = sp_X5_carryOut P 105 p1 p2 p3) ∧ (sp_X5_verdictOn P 105 p1 p2 p3 = 6 → relA F P N Hs Gs I L (upA (upA (upA R 0 (sS0_0_X8_inspect R p1)) 1 (sS0_1_X8_inspect R p1)) 2 (sS0_2_X8_inspect R p1)) ∧ (upA (upA (upA R 0 (sS0_0_X8_inspect R p1)) 1 (sS0_1_X8_inspect R p1)) 2 (sS0_2_X8_inspect R p1)) 0 8 = 1) ∧ (sp_X5_verdictOn P 105 p1 p2 p3 = 7 → relA F P N Hs Gs I L (upA (upA (upA R 0 (sS0_0_X8_inspect R p1)) 1 (sS0_1_X8_inspect R p1)) 2 (sS0_2_X8_inspect R p1)) ∧ (upA (upA (upA R 0 (sS0_0_X8_inspect R p1)) 1 (sS0_1_X8_inspect R p1)) 2 (sS0_2_X8_inspect R p1)) 0 8 = 9) ∧ (1 ≤ sp_X5_verdictOn P 105 p1 p2 p3 ∧ sp_X5_verdictOn P 105 p1 p2 p3 ≤ 5 → relA (up2 (up2 F 0 9 (sp_X5_verdictOn P 105 p1 p2 p3)) 0 10 (sp_X5_detailOf P (sp_X5_verdictOn P 105 p1 p2 p3) 105 p1)) P N Hs Gs I L (upA (upA (upA R 0 (sS0_0_X8_inspect R p1)) 1 (sS0_1_X8_inspect R p1)) 2 (sS0_2_X8_inspect R p1)) ∧ (upA (upA (upA R 0 (sS0_0_X8_inspect R p1)) 1 (sS0_1_X8_inspect R p1)) 2 (sS0_2_X8_inspect R p1)) 0 8 = 2) := by
  have hP := h.1
  have hV := ver_inspect (p1 := p1) (p2 := p2) (p3 := p3) hP
  have c0 := relB_c hP.1
  have c1 := relB_c hP.2.1
  have c2 := relB_c hP.2.2.1
  have cs := hP.2.2.2.1.2.1
  have cy := hP.2.2.2.2.1.2.1
  have cyr := hP.2.2.2.2.1.1
  rcases (show p1 = 0 ∨ p1 = 1 ∨ p1 = 2 ∨ ¬ (0 ≤ p1 ∧ p1 ≤ 2) by omega) with z | z | z | z
  · subst z
    rcases Classical.em (R 1 (15 + 26 * (0 : Int) + 0).toNat = 0) with e | e
    · skip
      have v : sp_X5_verdictOn P 105 0 p2 p3 = 3 := by rw [hV]; (repeat (first | rw [zif_pos (by omega)] | rw [zif_neg (by omega)]))
      refine ⟨fun q => absurd q (by omega), fun q => absurd q (by omega), fun q => absurd q (by omega), fun _ => ?_⟩
      have e0 : sS0_0_X8_inspect R 0 = upZ (upZ (upZ (upZ (upZ (upZ (R 0) 8 0) 7 0) 8 2) 7 1) 9 3) 10 0 := by unfold sS0_0_X8_inspect; (repeat (first | rw [zif_pos (by omega)] | rw [zif_neg (by omega)]))
      have e1 : sS0_1_X8_inspect R 0 = R 1 := by unfold sS0_1_X8_inspect; (repeat (first | rw [zif_pos (by omega)] | rw [zif_neg (by omega)]))
      have e2 : sS0_2_X8_inspect R 0 = R 2 := by unfold sS0_2_X8_inspect; (repeat (first | rw [zif_pos (by omega)] | rw [zif_neg (by omega)]))
      have ed : sp_X5_detailOf P 3 105 0 = 0 := by unfold sp_X5_detailOf; (repeat (first | rw [zif_pos (by omega)] | rw [zif_neg (by omega)]))
      rw [v, ed]
      exact ⟨relA_why h e1 e2 rfl rfl rfl (fun i i7 i8 i9 i10 => by show sS0_0_X8_inspect R 0 i = R 0 i; rw [e0, upZ_n i10, upZ_n i9, upZ_n i7, upZ_n i8, upZ_n i7, upZ_n i8]) (by show sS0_0_X8_inspect R 0 9 = 3; rw [e0]; (repeat (first | rw [upZ_s] | rw [upZ_e (by omega)] | rw [upZ_n (by omega)] | rw [shf_in (by omega) (by omega)] | rw [shf_out (by omega)] | rw [zer_in (by omega) (by omega)] | rw [zer_out (by omega)] | rw [cpyZ_in (by omega) (by omega)] | rw [cpyZ_out (by omega)] | rw [mapZ_in (by omega) (by omega)] | rw [mapZ_out (by omega)]))) (by show sS0_0_X8_inspect R 0 10 = 0; rw [e0]; (repeat (first | rw [upZ_s] | rw [upZ_e (by omega)] | rw [upZ_n (by omega)] | rw [shf_in (by omega) (by omega)] | rw [shf_out (by omega)] | rw [zer_in (by omega) (by omega)] | rw [zer_out (by omega)] | rw [cpyZ_in (by omega) (by omega)] | rw [cpyZ_out (by omega)] | rw [mapZ_in (by omega) (by omega)] | rw [mapZ_out (by omega)]))), by show sS0_0_X8_inspect R 0 8 = 2; rw [e0]; (repeat (first | rw [upZ_s] | rw [upZ_e (by omega)] | rw [upZ_n (by omega)] | rw [shf_in (by omega) (by omega)] | rw [shf_out (by omega)] | rw [zer_in (by omega) (by omega)] | rw [zer_out (by omega)] | rw [cpyZ_in (by omega) (by omega)] | rw [cpyZ_out (by omega)] | rw [mapZ_in (by omega) (by omega)] | rw [mapZ_out (by omega)]))⟩
    · rcases Classical.em (R 1 9 = 0) with f | f
      · skip
        have v : sp_X5_verdictOn P 105 0 p2 p3 = 4 := by rw [hV]; (repeat (first | rw [zif_pos (by omega)] | rw [zif_neg (by omega)]))
        refine ⟨fun q => absurd q (by omega), fun q => absurd q (by omega), fun q => absurd q (by omega), fun _ => ?_⟩
        have e0 : sS0_0_X8_inspect R 0 = upZ (upZ (upZ (upZ (upZ (upZ (R 0) 8 0) 7 0) 8 2) 7 1) 9 4) 10 (R 1 1) := by unfold sS0_0_X8_inspect; (repeat (first | rw [zif_pos (by omega)] | rw [zif_neg (by omega)]))
        have e1 : sS0_1_X8_inspect R 0 = R 1 := by unfold sS0_1_X8_inspect; (repeat (first | rw [zif_pos (by omega)] | rw [zif_neg (by omega)]))
        have e2 : sS0_2_X8_inspect R 0 = R 2 := by unfold sS0_2_X8_inspect; (repeat (first | rw [zif_pos (by omega)] | rw [zif_neg (by omega)]))
        have ed : sp_X5_detailOf P 4 105 0 = (R 1 1) := by unfold sp_X5_detailOf; (repeat (first | rw [zif_pos (by omega)] | rw [zif_neg (by omega)])); exact hP.2.2.2.2.2.1.2.1.symm
        rw [v, ed]
        exact ⟨relA_why h e1 e2 rfl rfl rfl (fun i i7 i8 i9 i10 => by show sS0_0_X8_inspect R 0 i = R 0 i; rw [e0, upZ_n i10, upZ_n i9, upZ_n i7, upZ_n i8, upZ_n i7, upZ_n i8]) (by show sS0_0_X8_inspect R 0 9 = 4; rw [e0]; (repeat (first | rw [upZ_s] | rw [upZ_e (by omega)] | rw [upZ_n (by omega)] | rw [shf_in (by omega) (by omega)] | rw [shf_out (by omega)] | rw [zer_in (by omega) (by omega)] | rw [zer_out (by omega)] | rw [cpyZ_in (by omega) (by omega)] | rw [cpyZ_out (by omega)] | rw [mapZ_in (by omega) (by omega)] | rw [mapZ_out (by omega)]))) (by show sS0_0_X8_inspect R 0 10 = (R 1 1); rw [e0]; (repeat (first | rw [upZ_s] | rw [upZ_e (by omega)] | rw [upZ_n (by omega)] | rw [shf_in (by omega) (by omega)] | rw [shf_out (by omega)] | rw [zer_in (by omega) (by omega)] | rw [zer_out (by omega)] | rw [cpyZ_in (by omega) (by omega)] | rw [cpyZ_out (by omega)] | rw [mapZ_in (by omega) (by omega)] | rw [mapZ_out (by omega)]))), by show sS0_0_X8_inspect R 0 8 = 2; rw [e0]; (repeat (first | rw [upZ_s] | rw [upZ_e (by omega)] | rw [upZ_n (by omega)] | rw [shf_in (by omega) (by omega)] | rw [shf_out (by omega)] | rw [zer_in (by omega) (by omega)] | rw [zer_out (by omega)] | rw [cpyZ_in (by omega) (by omega)] | rw [cpyZ_out (by omega)] | rw [mapZ_in (by omega) (by omega)] | rw [mapZ_out (by omega)]))⟩
      · skip
        have v : sp_X5_verdictOn P 105 0 p2 p3 = 0 := by rw [hV]; (repeat (first | rw [zif_pos (by omega)] | rw [zif_neg (by omega)]))
        refine ⟨fun _ => ?_, fun q => absurd q (by omega), fun q => absurd q (by omega), fun q => absurd q (by omega)⟩
        have r := (show relP (wCarry P 105 0 p2 p3) (rInsp (upA (upA (upA R 0 (upZ (upZ (R 0) 8 0) 7 0)) 0 (sS0_0_X8_keeps (upA R 0 (upZ (upZ (R 0) 8 0) 7 0)) 0)) 2 (sS0_2_X8_keeps (upA R 0 (upZ (upZ (R 0) 8 0) 7 0)) 0)) 0) ∧ sp_X5_carryOut P 105 0 p2 p3 = sp_X8_inspects (upA (upA (upA R 0 (upZ (upZ (R 0) 8 0) 7 0)) 0 (sS0_0_X8_keeps (upA R 0 (upZ (upZ (R 0) 8 0) 7 0)) 0)) 2 (sS0_2_X8_keeps (upA R 0 (upZ (upZ (R 0) 8 0) 7 0)) 0)) 0 from ⟨(rel_insp_0 (S := P) (S' := wCarry P 105 0 p2 p3) (R := (upA (upA (upA R 0 (upZ (upZ (R 0) 8 0) 7 0)) 0 (sS0_0_X8_keeps (upA R 0 (upZ (upZ (R 0) 8 0) 7 0)) 0)) 2 (sS0_2_X8_keeps (upA R 0 (upZ (upZ (R 0) 8 0) 7 0)) 0))) hP (by omega) (by omega) (by show sS0_0_X5_carryOut P 105 0 p2 p3 = _; unfold sS0_0_X5_carryOut; (repeat (first | rw [zif_pos (by omega)] | rw [zif_neg (by omega)]))) (by show sS0_2_X5_carryOut P 105 0 p2 p3 = _; unfold sS0_2_X5_carryOut; (repeat (first | rw [zif_pos (by omega)] | rw [zif_neg (by omega)]))) (by show sS0_3_X5_carryOut P 105 0 p2 p3 = _; unfold sS0_3_X5_carryOut; (repeat (first | rw [zif_pos (by omega)] | rw [zif_neg (by omega)]))) (by show sS0_4_X5_carryOut P 105 0 p2 p3 = _; unfold sS0_4_X5_carryOut; (repeat (first | rw [zif_pos (by omega)] | rw [zif_neg (by omega)]))) (by show sS0_11_X5_carryOut P 105 0 p2 p3 = _; unfold sS0_11_X5_carryOut; (repeat (first | rw [zif_pos (by omega)] | rw [zif_neg (by omega)]))) (by show sS0_12_X5_carryOut P 105 0 p2 p3 = _; unfold sS0_12_X5_carryOut; (repeat (first | rw [zif_pos (by omega)] | rw [zif_neg (by omega)]))) (by show sS0_14_X5_carryOut P 105 0 p2 p3 = _; unfold sS0_14_X5_carryOut; (repeat (first | rw [zif_pos (by omega)] | rw [zif_neg (by omega)]))) (by show sS0_5_X5_carryOut P 105 0 p2 p3 = _; unfold sS0_5_X5_carryOut; (repeat (first | rw [zif_pos (by omega)] | rw [zif_neg (by omega)]))) (by show sS0_6_X5_carryOut P 105 0 p2 p3 = _; unfold sS0_6_X5_carryOut; (repeat (first | rw [zif_pos (by omega)] | rw [zif_neg (by omega)]))) (by show sS0_7_X5_carryOut P 105 0 p2 p3 = _; unfold sS0_7_X5_carryOut; (repeat (first | rw [zif_pos (by omega)] | rw [zif_neg (by omega)]))) (by show sS0_8_X5_carryOut P 105 0 p2 p3 = _; unfold sS0_8_X5_carryOut; (repeat (first | rw [zif_pos (by omega)] | rw [zif_neg (by omega)]))) (by show sS0_9_X5_carryOut P 105 0 p2 p3 = _; unfold sS0_9_X5_carryOut; (repeat (first | rw [zif_pos (by omega)] | rw [zif_neg (by omega)]))) (by show sS0_10_X5_carryOut P 105 0 p2 p3 = _; unfold sS0_10_X5_carryOut; (repeat (first | rw [zif_pos (by omega)] | rw [zif_neg (by omega)]))) (by show sS0_13_X5_carryOut P 105 0 p2 p3 = _; unfold sS0_13_X5_carryOut; (repeat (first | rw [zif_pos (by omega)] | rw [zif_neg (by omega)])))).1, by unfold sp_X5_carryOut; (repeat (first | rw [zif_pos (by omega)] | rw [zif_neg (by omega)])); rw [insp_v]; exact (rel_insp_0 (S := P) (S' := wCarry P 105 0 p2 p3) (R := (upA (upA (upA R 0 (upZ (upZ (R 0) 8 0) 7 0)) 0 (sS0_0_X8_keeps (upA R 0 (upZ (upZ (R 0) 8 0) 7 0)) 0)) 2 (sS0_2_X8_keeps (upA R 0 (upZ (upZ (R 0) 8 0) 7 0)) 0))) hP (by omega) (by omega) (by show sS0_0_X5_carryOut P 105 0 p2 p3 = _; unfold sS0_0_X5_carryOut; (repeat (first | rw [zif_pos (by omega)] | rw [zif_neg (by omega)]))) (by show sS0_2_X5_carryOut P 105 0 p2 p3 = _; unfold sS0_2_X5_carryOut; (repeat (first | rw [zif_pos (by omega)] | rw [zif_neg (by omega)]))) (by show sS0_3_X5_carryOut P 105 0 p2 p3 = _; unfold sS0_3_X5_carryOut; (repeat (first | rw [zif_pos (by omega)] | rw [zif_neg (by omega)]))) (by show sS0_4_X5_carryOut P 105 0 p2 p3 = _; unfold sS0_4_X5_carryOut; (repeat (first | rw [zif_pos (by omega)] | rw [zif_neg (by omega)]))) (by show sS0_11_X5_carryOut P 105 0 p2 p3 = _; unfold sS0_11_X5_carryOut; (repeat (first | rw [zif_pos (by omega)] | rw [zif_neg (by omega)]))) (by show sS0_12_X5_carryOut P 105 0 p2 p3 = _; unfold sS0_12_X5_carryOut; (repeat (first | rw [zif_pos (by omega)] | rw [zif_neg (by omega)]))) (by show sS0_14_X5_carryOut P 105 0 p2 p3 = _; unfold sS0_14_X5_carryOut; (repeat (first | rw [zif_pos (by omega)] | rw [zif_neg (by omega)]))) (by show sS0_5_X5_carryOut P 105 0 p2 p3 = _; unfold sS0_5_X5_carryOut; (repeat (first | rw [zif_pos (by omega)] | rw [zif_neg (by omega)]))) (by show sS0_6_X5_carryOut P 105 0 p2 p3 = _; unfold sS0_6_X5_carryOut; (repeat (first | rw [zif_pos (by omega)] | rw [zif_neg (by omega)]))) (by show sS0_7_X5_carryOut P 105 0 p2 p3 = _; unfold sS0_7_X5_carryOut; (repeat (first | rw [zif_pos (by omega)] | rw [zif_neg (by omega)]))) (by show sS0_8_X5_carryOut P 105 0 p2 p3 = _; unfold sS0_8_X5_carryOut; (repeat (first | rw [zif_pos (by omega)] | rw [zif_neg (by omega)]))) (by show sS0_9_X5_carryOut P 105 0 p2 p3 = _; unfold sS0_9_X5_carryOut; (repeat (first | rw [zif_pos (by omega)] | rw [zif_neg (by omega)]))) (by show sS0_10_X5_carryOut P 105 0 p2 p3 = _; unfold sS0_10_X5_carryOut; (repeat (first | rw [zif_pos (by omega)] | rw [zif_neg (by omega)]))) (by show sS0_13_X5_carryOut P 105 0 p2 p3 = _; unfold sS0_13_X5_carryOut; (repeat (first | rw [zif_pos (by omega)] | rw [zif_neg (by omega)])))).2⟩)
        have e0 : sS0_0_X8_inspect R 0 = sS0_0_X8_keeps (upA R 0 (upZ (upZ (R 0) 8 0) 7 0)) 0 := by unfold sS0_0_X8_inspect; (repeat (first | rw [zif_pos (by omega)] | rw [zif_neg (by omega)]))
        have e1 : sS0_1_X8_inspect R 0 = rInsp (upA (upA (upA R 0 (upZ (upZ (R 0) 8 0) 7 0)) 0 (sS0_0_X8_keeps (upA R 0 (upZ (upZ (R 0) 8 0) 7 0)) 0)) 2 (sS0_2_X8_keeps (upA R 0 (upZ (upZ (R 0) 8 0) 7 0)) 0)) 0 := by unfold sS0_1_X8_inspect; (repeat (first | rw [zif_pos (by omega)] | rw [zif_neg (by omega)])); exact insp_e _ _
        have e2 : sS0_2_X8_inspect R 0 = sS0_2_X8_keeps (upA R 0 (upZ (upZ (R 0) 8 0) 7 0)) 0 := by unfold sS0_2_X8_inspect; (repeat (first | rw [zif_pos (by omega)] | rw [zif_neg (by omega)]))
        have k := relA_ok (X := (upA R 0 (upZ (upZ (R 0) 8 0) 7 0))) (R' := (upA (upA (upA R 0 (sS0_0_X8_inspect R 0)) 1 (sS0_1_X8_inspect R 0)) 2 (sS0_2_X8_inspect R 0))) (P' := wCarry P 105 0 p2 p3) h ha (by show relP _ (sS0_1_X8_inspect R 0); rw [e1]; exact r.1) rfl rfl (fun i i7 i8 => by show upZ (upZ (R 0) 8 0) 7 0 i = R 0 i; rw [upZ_n i7, upZ_n i8]) e0 e2 rfl rfl rfl
        exact ⟨k.1, k.2, by rw [r.2]; unfold sp_X8_inspect; (repeat (first | rw [zif_pos (by omega)] | rw [zif_neg (by omega)]))⟩
  · subst z
    rcases Classical.em (R 1 (15 + 26 * (1 : Int) + 0).toNat = 0) with e | e
    · skip
      have v : sp_X5_verdictOn P 105 1 p2 p3 = 3 := by rw [hV]; (repeat (first | rw [zif_pos (by omega)] | rw [zif_neg (by omega)]))
      refine ⟨fun q => absurd q (by omega), fun q => absurd q (by omega), fun q => absurd q (by omega), fun _ => ?_⟩
      have e0 : sS0_0_X8_inspect R 1 = upZ (upZ (upZ (upZ (upZ (upZ (R 0) 8 0) 7 0) 8 2) 7 1) 9 3) 10 1 := by unfold sS0_0_X8_inspect; (repeat (first | rw [zif_pos (by omega)] | rw [zif_neg (by omega)]))
      have e1 : sS0_1_X8_inspect R 1 = R 1 := by unfold sS0_1_X8_inspect; (repeat (first | rw [zif_pos (by omega)] | rw [zif_neg (by omega)]))
      have e2 : sS0_2_X8_inspect R 1 = R 2 := by unfold sS0_2_X8_inspect; (repeat (first | rw [zif_pos (by omega)] | rw [zif_neg (by omega)]))
      have ed : sp_X5_detailOf P 3 105 1 = 1 := by unfold sp_X5_detailOf; (repeat (first | rw [zif_pos (by omega)] | rw [zif_neg (by omega)]))
      rw [v, ed]
      exact ⟨relA_why h e1 e2 rfl rfl rfl (fun i i7 i8 i9 i10 => by show sS0_0_X8_inspect R 1 i = R 0 i; rw [e0, upZ_n i10, upZ_n i9, upZ_n i7, upZ_n i8, upZ_n i7, upZ_n i8]) (by show sS0_0_X8_inspect R 1 9 = 3; rw [e0]; (repeat (first | rw [upZ_s] | rw [upZ_e (by omega)] | rw [upZ_n (by omega)] | rw [shf_in (by omega) (by omega)] | rw [shf_out (by omega)] | rw [zer_in (by omega) (by omega)] | rw [zer_out (by omega)] | rw [cpyZ_in (by omega) (by omega)] | rw [cpyZ_out (by omega)] | rw [mapZ_in (by omega) (by omega)] | rw [mapZ_out (by omega)]))) (by show sS0_0_X8_inspect R 1 10 = 1; rw [e0]; (repeat (first | rw [upZ_s] | rw [upZ_e (by omega)] | rw [upZ_n (by omega)] | rw [shf_in (by omega) (by omega)] | rw [shf_out (by omega)] | rw [zer_in (by omega) (by omega)] | rw [zer_out (by omega)] | rw [cpyZ_in (by omega) (by omega)] | rw [cpyZ_out (by omega)] | rw [mapZ_in (by omega) (by omega)] | rw [mapZ_out (by omega)]))), by show sS0_0_X8_inspect R 1 8 = 2; rw [e0]; (repeat (first | rw [upZ_s] | rw [upZ_e (by omega)] | rw [upZ_n (by omega)] | rw [shf_in (by omega) (by omega)] | rw [shf_out (by omega)] | rw [zer_in (by omega) (by omega)] | rw [zer_out (by omega)] | rw [cpyZ_in (by omega) (by omega)] | rw [cpyZ_out (by omega)] | rw [mapZ_in (by omega) (by omega)] | rw [mapZ_out (by omega)]))⟩
    · rcases Classical.em (R 1 9 = 0) with f | f
      · skip
        have v : sp_X5_verdictOn P 105 1 p2 p3 = 4 := by rw [hV]; (repeat (first | rw [zif_pos (by omega)] | rw [zif_neg (by omega)]))
        refine ⟨fun q => absurd q (by omega), fun q => absurd q (by omega), fun q => absurd q (by omega), fun _ => ?_⟩
        have e0 : sS0_0_X8_inspect R 1 = upZ (upZ (upZ (upZ (upZ (upZ (R 0) 8 0) 7 0) 8 2) 7 1) 9 4) 10 (R 1 1) := by unfold sS0_0_X8_inspect; (repeat (first | rw [zif_pos (by omega)] | rw [zif_neg (by omega)]))
        have e1 : sS0_1_X8_inspect R 1 = R 1 := by unfold sS0_1_X8_inspect; (repeat (first | rw [zif_pos (by omega)] | rw [zif_neg (by omega)]))
        have e2 : sS0_2_X8_inspect R 1 = R 2 := by unfold sS0_2_X8_inspect; (repeat (first | rw [zif_pos (by omega)] | rw [zif_neg (by omega)]))
        have ed : sp_X5_detailOf P 4 105 1 = (R 1 1) := by unfold sp_X5_detailOf; (repeat (first | rw [zif_pos (by omega)] | rw [zif_neg (by omega)])); exact hP.2.2.2.2.2.1.2.1.symm
        rw [v, ed]
        exact ⟨relA_why h e1 e2 rfl rfl rfl (fun i i7 i8 i9 i10 => by show sS0_0_X8_inspect R 1 i = R 0 i; rw [e0, upZ_n i10, upZ_n i9, upZ_n i7, upZ_n i8, upZ_n i7, upZ_n i8]) (by show sS0_0_X8_inspect R 1 9 = 4; rw [e0]; (repeat (first | rw [upZ_s] | rw [upZ_e (by omega)] | rw [upZ_n (by omega)] | rw [shf_in (by omega) (by omega)] | rw [shf_out (by omega)] | rw [zer_in (by omega) (by omega)] | rw [zer_out (by omega)] | rw [cpyZ_in (by omega) (by omega)] | rw [cpyZ_out (by omega)] | rw [mapZ_in (by omega) (by omega)] | rw [mapZ_out (by omega)]))) (by show sS0_0_X8_inspect R 1 10 = (R 1 1); rw [e0]; (repeat (first | rw [upZ_s] | rw [upZ_e (by omega)] | rw [upZ_n (by omega)] | rw [shf_in (by omega) (by omega)] | rw [shf_out (by omega)] | rw [zer_in (by omega) (by omega)] | rw [zer_out (by omega)] | rw [cpyZ_in (by omega) (by omega)] | rw [cpyZ_out (by omega)] | rw [mapZ_in (by omega) (by omega)] | rw [mapZ_out (by omega)]))), by show sS0_0_X8_inspect R 1 8 = 2; rw [e0]; (repeat (first | rw [upZ_s] | rw [upZ_e (by omega)] | rw [upZ_n (by omega)] | rw [shf_in (by omega) (by omega)] | rw [shf_out (by omega)] | rw [zer_in (by omega) (by omega)] | rw [zer_out (by omega)] | rw [cpyZ_in (by omega) (by omega)] | rw [cpyZ_out (by omega)] | rw [mapZ_in (by omega) (by omega)] | rw [mapZ_out (by omega)]))⟩
      · skip
        have v : sp_X5_verdictOn P 105 1 p2 p3 = 0 := by rw [hV]; (repeat (first | rw [zif_pos (by omega)] | rw [zif_neg (by omega)]))
        refine ⟨fun _ => ?_, fun q => absurd q (by omega), fun q => absurd q (by omega), fun q => absurd q (by omega)⟩
        have r := (show relP (wCarry P 105 1 p2 p3) (rInsp (upA (upA (upA R 0 (upZ (upZ (R 0) 8 0) 7 0)) 0 (sS0_0_X8_keeps (upA R 0 (upZ (upZ (R 0) 8 0) 7 0)) 0)) 2 (sS0_2_X8_keeps (upA R 0 (upZ (upZ (R 0) 8 0) 7 0)) 0)) 1) ∧ sp_X5_carryOut P 105 1 p2 p3 = sp_X8_inspects (upA (upA (upA R 0 (upZ (upZ (R 0) 8 0) 7 0)) 0 (sS0_0_X8_keeps (upA R 0 (upZ (upZ (R 0) 8 0) 7 0)) 0)) 2 (sS0_2_X8_keeps (upA R 0 (upZ (upZ (R 0) 8 0) 7 0)) 0)) 1 from ⟨(rel_insp_1 (S := P) (S' := wCarry P 105 1 p2 p3) (R := (upA (upA (upA R 0 (upZ (upZ (R 0) 8 0) 7 0)) 0 (sS0_0_X8_keeps (upA R 0 (upZ (upZ (R 0) 8 0) 7 0)) 0)) 2 (sS0_2_X8_keeps (upA R 0 (upZ (upZ (R 0) 8 0) 7 0)) 0))) hP (by omega) (by omega) (by show sS0_0_X5_carryOut P 105 1 p2 p3 = _; unfold sS0_0_X5_carryOut; (repeat (first | rw [zif_pos (by omega)] | rw [zif_neg (by omega)]))) (by show sS0_5_X5_carryOut P 105 1 p2 p3 = _; unfold sS0_5_X5_carryOut; (repeat (first | rw [zif_pos (by omega)] | rw [zif_neg (by omega)]))) (by show sS0_6_X5_carryOut P 105 1 p2 p3 = _; unfold sS0_6_X5_carryOut; (repeat (first | rw [zif_pos (by omega)] | rw [zif_neg (by omega)]))) (by show sS0_7_X5_carryOut P 105 1 p2 p3 = _; unfold sS0_7_X5_carryOut; (repeat (first | rw [zif_pos (by omega)] | rw [zif_neg (by omega)]))) (by show sS0_11_X5_carryOut P 105 1 p2 p3 = _; unfold sS0_11_X5_carryOut; (repeat (first | rw [zif_pos (by omega)] | rw [zif_neg (by omega)]))) (by show sS0_12_X5_carryOut P 105 1 p2 p3 = _; unfold sS0_12_X5_carryOut; (repeat (first | rw [zif_pos (by omega)] | rw [zif_neg (by omega)]))) (by show sS0_14_X5_carryOut P 105 1 p2 p3 = _; unfold sS0_14_X5_carryOut; (repeat (first | rw [zif_pos (by omega)] | rw [zif_neg (by omega)]))) (by show sS0_2_X5_carryOut P 105 1 p2 p3 = _; unfold sS0_2_X5_carryOut; (repeat (first | rw [zif_pos (by omega)] | rw [zif_neg (by omega)]))) (by show sS0_3_X5_carryOut P 105 1 p2 p3 = _; unfold sS0_3_X5_carryOut; (repeat (first | rw [zif_pos (by omega)] | rw [zif_neg (by omega)]))) (by show sS0_4_X5_carryOut P 105 1 p2 p3 = _; unfold sS0_4_X5_carryOut; (repeat (first | rw [zif_pos (by omega)] | rw [zif_neg (by omega)]))) (by show sS0_8_X5_carryOut P 105 1 p2 p3 = _; unfold sS0_8_X5_carryOut; (repeat (first | rw [zif_pos (by omega)] | rw [zif_neg (by omega)]))) (by show sS0_9_X5_carryOut P 105 1 p2 p3 = _; unfold sS0_9_X5_carryOut; (repeat (first | rw [zif_pos (by omega)] | rw [zif_neg (by omega)]))) (by show sS0_10_X5_carryOut P 105 1 p2 p3 = _; unfold sS0_10_X5_carryOut; (repeat (first | rw [zif_pos (by omega)] | rw [zif_neg (by omega)]))) (by show sS0_13_X5_carryOut P 105 1 p2 p3 = _; unfold sS0_13_X5_carryOut; (repeat (first | rw [zif_pos (by omega)] | rw [zif_neg (by omega)])))).1, by unfold sp_X5_carryOut; (repeat (first | rw [zif_pos (by omega)] | rw [zif_neg (by omega)])); rw [insp_v]; exact (rel_insp_1 (S := P) (S' := wCarry P 105 1 p2 p3) (R := (upA (upA (upA R 0 (upZ (upZ (R 0) 8 0) 7 0)) 0 (sS0_0_X8_keeps (upA R 0 (upZ (upZ (R 0) 8 0) 7 0)) 0)) 2 (sS0_2_X8_keeps (upA R 0 (upZ (upZ (R 0) 8 0) 7 0)) 0))) hP (by omega) (by omega) (by show sS0_0_X5_carryOut P 105 1 p2 p3 = _; unfold sS0_0_X5_carryOut; (repeat (first | rw [zif_pos (by omega)] | rw [zif_neg (by omega)]))) (by show sS0_5_X5_carryOut P 105 1 p2 p3 = _; unfold sS0_5_X5_carryOut; (repeat (first | rw [zif_pos (by omega)] | rw [zif_neg (by omega)]))) (by show sS0_6_X5_carryOut P 105 1 p2 p3 = _; unfold sS0_6_X5_carryOut; (repeat (first | rw [zif_pos (by omega)] | rw [zif_neg (by omega)]))) (by show sS0_7_X5_carryOut P 105 1 p2 p3 = _; unfold sS0_7_X5_carryOut; (repeat (first | rw [zif_pos (by omega)] | rw [zif_neg (by omega)]))) (by show sS0_11_X5_carryOut P 105 1 p2 p3 = _; unfold sS0_11_X5_carryOut; (repeat (first | rw [zif_pos (by omega)] | rw [zif_neg (by omega)]))) (by show sS0_12_X5_carryOut P 105 1 p2 p3 = _; unfold sS0_12_X5_carryOut; (repeat (first | rw [zif_pos (by omega)] | rw [zif_neg (by omega)]))) (by show sS0_14_X5_carryOut P 105 1 p2 p3 = _; unfold sS0_14_X5_carryOut; (repeat (first | rw [zif_pos (by omega)] | rw [zif_neg (by omega)]))) (by show sS0_2_X5_carryOut P 105 1 p2 p3 = _; unfold sS0_2_X5_carryOut; (repeat (first | rw [zif_pos (by omega)] | rw [zif_neg (by omega)]))) (by show sS0_3_X5_carryOut P 105 1 p2 p3 = _; unfold sS0_3_X5_carryOut; (repeat (first | rw [zif_pos (by omega)] | rw [zif_neg (by omega)]))) (by show sS0_4_X5_carryOut P 105 1 p2 p3 = _; unfold sS0_4_X5_carryOut; (repeat (first | rw [zif_pos (by omega)] | rw [zif_neg (by omega)]))) (by show sS0_8_X5_carryOut P 105 1 p2 p3 = _; unfold sS0_8_X5_carryOut; (repeat (first | rw [zif_pos (by omega)] | rw [zif_neg (by omega)]))) (by show sS0_9_X5_carryOut P 105 1 p2 p3 = _; unfold sS0_9_X5_carryOut; (repeat (first | rw [zif_pos (by omega)] | rw [zif_neg (by omega)]))) (by show sS0_10_X5_carryOut P 105 1 p2 p3 = _; unfold sS0_10_X5_carryOut; (repeat (first | rw [zif_pos (by omega)] | rw [zif_neg (by omega)]))) (by show sS0_13_X5_carryOut P 105 1 p2 p3 = _; unfold sS0_13_X5_carryOut; (repeat (first | rw [zif_pos (by omega)] | rw [zif_neg (by omega)])))).2⟩)
        have e0 : sS0_0_X8_inspect R 1 = sS0_0_X8_keeps (upA R 0 (upZ (upZ (R 0) 8 0) 7 0)) 0 := by unfold sS0_0_X8_inspect; (repeat (first | rw [zif_pos (by omega)] | rw [zif_neg (by omega)]))
        have e1 : sS0_1_X8_inspect R 1 = rInsp (upA (upA (upA R 0 (upZ (upZ (R 0) 8 0) 7 0)) 0 (sS0_0_X8_keeps (upA R 0 (upZ (upZ (R 0) 8 0) 7 0)) 0)) 2 (sS0_2_X8_keeps (upA R 0 (upZ (upZ (R 0) 8 0) 7 0)) 0)) 1 := by unfold sS0_1_X8_inspect; (repeat (first | rw [zif_pos (by omega)] | rw [zif_neg (by omega)])); exact insp_e _ _
        have e2 : sS0_2_X8_inspect R 1 = sS0_2_X8_keeps (upA R 0 (upZ (upZ (R 0) 8 0) 7 0)) 0 := by unfold sS0_2_X8_inspect; (repeat (first | rw [zif_pos (by omega)] | rw [zif_neg (by omega)]))
        have k := relA_ok (X := (upA R 0 (upZ (upZ (R 0) 8 0) 7 0))) (R' := (upA (upA (upA R 0 (sS0_0_X8_inspect R 1)) 1 (sS0_1_X8_inspect R 1)) 2 (sS0_2_X8_inspect R 1))) (P' := wCarry P 105 1 p2 p3) h ha (by show relP _ (sS0_1_X8_inspect R 1); rw [e1]; exact r.1) rfl rfl (fun i i7 i8 => by show upZ (upZ (R 0) 8 0) 7 0 i = R 0 i; rw [upZ_n i7, upZ_n i8]) e0 e2 rfl rfl rfl
        exact ⟨k.1, k.2, by rw [r.2]; unfold sp_X8_inspect; (repeat (first | rw [zif_pos (by omega)] | rw [zif_neg (by omega)]))⟩
  · subst z
    rcases Classical.em (R 1 (15 + 26 * (2 : Int) + 0).toNat = 0) with e | e
    · skip
      have v : sp_X5_verdictOn P 105 2 p2 p3 = 3 := by rw [hV]; (repeat (first | rw [zif_pos (by omega)] | rw [zif_neg (by omega)]))
      refine ⟨fun q => absurd q (by omega), fun q => absurd q (by omega), fun q => absurd q (by omega), fun _ => ?_⟩
      have e0 : sS0_0_X8_inspect R 2 = upZ (upZ (upZ (upZ (upZ (upZ (R 0) 8 0) 7 0) 8 2) 7 1) 9 3) 10 2 := by unfold sS0_0_X8_inspect; (repeat (first | rw [zif_pos (by omega)] | rw [zif_neg (by omega)]))
      have e1 : sS0_1_X8_inspect R 2 = R 1 := by unfold sS0_1_X8_inspect; (repeat (first | rw [zif_pos (by omega)] | rw [zif_neg (by omega)]))
      have e2 : sS0_2_X8_inspect R 2 = R 2 := by unfold sS0_2_X8_inspect; (repeat (first | rw [zif_pos (by omega)] | rw [zif_neg (by omega)]))
      have ed : sp_X5_detailOf P 3 105 2 = 2 := by unfold sp_X5_detailOf; (repeat (first | rw [zif_pos (by omega)] | rw [zif_neg (by omega)]))
      rw [v, ed]
      exact ⟨relA_why h e1 e2 rfl rfl rfl (fun i i7 i8 i9 i10 => by show sS0_0_X8_inspect R 2 i = R 0 i; rw [e0, upZ_n i10, upZ_n i9, upZ_n i7, upZ_n i8, upZ_n i7, upZ_n i8]) (by show sS0_0_X8_inspect R 2 9 = 3; rw [e0]; (repeat (first | rw [upZ_s] | rw [upZ_e (by omega)] | rw [upZ_n (by omega)] | rw [shf_in (by omega) (by omega)] | rw [shf_out (by omega)] | rw [zer_in (by omega) (by omega)] | rw [zer_out (by omega)] | rw [cpyZ_in (by omega) (by omega)] | rw [cpyZ_out (by omega)] | rw [mapZ_in (by omega) (by omega)] | rw [mapZ_out (by omega)]))) (by show sS0_0_X8_inspect R 2 10 = 2; rw [e0]; (repeat (first | rw [upZ_s] | rw [upZ_e (by omega)] | rw [upZ_n (by omega)] | rw [shf_in (by omega) (by omega)] | rw [shf_out (by omega)] | rw [zer_in (by omega) (by omega)] | rw [zer_out (by omega)] | rw [cpyZ_in (by omega) (by omega)] | rw [cpyZ_out (by omega)] | rw [mapZ_in (by omega) (by omega)] | rw [mapZ_out (by omega)]))), by show sS0_0_X8_inspect R 2 8 = 2; rw [e0]; (repeat (first | rw [upZ_s] | rw [upZ_e (by omega)] | rw [upZ_n (by omega)] | rw [shf_in (by omega) (by omega)] | rw [shf_out (by omega)] | rw [zer_in (by omega) (by omega)] | rw [zer_out (by omega)] | rw [cpyZ_in (by omega) (by omega)] | rw [cpyZ_out (by omega)] | rw [mapZ_in (by omega) (by omega)] | rw [mapZ_out (by omega)]))⟩
    · rcases Classical.em (R 1 9 = 0) with f | f
      · skip
        have v : sp_X5_verdictOn P 105 2 p2 p3 = 4 := by rw [hV]; (repeat (first | rw [zif_pos (by omega)] | rw [zif_neg (by omega)]))
        refine ⟨fun q => absurd q (by omega), fun q => absurd q (by omega), fun q => absurd q (by omega), fun _ => ?_⟩
        have e0 : sS0_0_X8_inspect R 2 = upZ (upZ (upZ (upZ (upZ (upZ (R 0) 8 0) 7 0) 8 2) 7 1) 9 4) 10 (R 1 1) := by unfold sS0_0_X8_inspect; (repeat (first | rw [zif_pos (by omega)] | rw [zif_neg (by omega)]))
        have e1 : sS0_1_X8_inspect R 2 = R 1 := by unfold sS0_1_X8_inspect; (repeat (first | rw [zif_pos (by omega)] | rw [zif_neg (by omega)]))
        have e2 : sS0_2_X8_inspect R 2 = R 2 := by unfold sS0_2_X8_inspect; (repeat (first | rw [zif_pos (by omega)] | rw [zif_neg (by omega)]))
        have ed : sp_X5_detailOf P 4 105 2 = (R 1 1) := by unfold sp_X5_detailOf; (repeat (first | rw [zif_pos (by omega)] | rw [zif_neg (by omega)])); exact hP.2.2.2.2.2.1.2.1.symm
        rw [v, ed]
        exact ⟨relA_why h e1 e2 rfl rfl rfl (fun i i7 i8 i9 i10 => by show sS0_0_X8_inspect R 2 i = R 0 i; rw [e0, upZ_n i10, upZ_n i9, upZ_n i7, upZ_n i8, upZ_n i7, upZ_n i8]) (by show sS0_0_X8_inspect R 2 9 = 4; rw [e0]; (repeat (first | rw [upZ_s] | rw [upZ_e (by omega)] | rw [upZ_n (by omega)] | rw [shf_in (by omega) (by omega)] | rw [shf_out (by omega)] | rw [zer_in (by omega) (by omega)] | rw [zer_out (by omega)] | rw [cpyZ_in (by omega) (by omega)] | rw [cpyZ_out (by omega)] | rw [mapZ_in (by omega) (by omega)] | rw [mapZ_out (by omega)]))) (by show sS0_0_X8_inspect R 2 10 = (R 1 1); rw [e0]; (repeat (first | rw [upZ_s] | rw [upZ_e (by omega)] | rw [upZ_n (by omega)] | rw [shf_in (by omega) (by omega)] | rw [shf_out (by omega)] | rw [zer_in (by omega) (by omega)] | rw [zer_out (by omega)] | rw [cpyZ_in (by omega) (by omega)] | rw [cpyZ_out (by omega)] | rw [mapZ_in (by omega) (by omega)] | rw [mapZ_out (by omega)]))), by show sS0_0_X8_inspect R 2 8 = 2; rw [e0]; (repeat (first | rw [upZ_s] | rw [upZ_e (by omega)] | rw [upZ_n (by omega)] | rw [shf_in (by omega) (by omega)] | rw [shf_out (by omega)] | rw [zer_in (by omega) (by omega)] | rw [zer_out (by omega)] | rw [cpyZ_in (by omega) (by omega)] | rw [cpyZ_out (by omega)] | rw [mapZ_in (by omega) (by omega)] | rw [mapZ_out (by omega)]))⟩
      · skip
        have v : sp_X5_verdictOn P 105 2 p2 p3 = 0 := by rw [hV]; (repeat (first | rw [zif_pos (by omega)] | rw [zif_neg (by omega)]))
        refine ⟨fun _ => ?_, fun q => absurd q (by omega), fun q => absurd q (by omega), fun q => absurd q (by omega)⟩
        have r := (show relP (wCarry P 105 2 p2 p3) (rInsp (upA (upA (upA R 0 (upZ (upZ (R 0) 8 0) 7 0)) 0 (sS0_0_X8_keeps (upA R 0 (upZ (upZ (R 0) 8 0) 7 0)) 0)) 2 (sS0_2_X8_keeps (upA R 0 (upZ (upZ (R 0) 8 0) 7 0)) 0)) 2) ∧ sp_X5_carryOut P 105 2 p2 p3 = sp_X8_inspects (upA (upA (upA R 0 (upZ (upZ (R 0) 8 0) 7 0)) 0 (sS0_0_X8_keeps (upA R 0 (upZ (upZ (R 0) 8 0) 7 0)) 0)) 2 (sS0_2_X8_keeps (upA R 0 (upZ (upZ (R 0) 8 0) 7 0)) 0)) 2 from ⟨(rel_insp_2 (S := P) (S' := wCarry P 105 2 p2 p3) (R := (upA (upA (upA R 0 (upZ (upZ (R 0) 8 0) 7 0)) 0 (sS0_0_X8_keeps (upA R 0 (upZ (upZ (R 0) 8 0) 7 0)) 0)) 2 (sS0_2_X8_keeps (upA R 0 (upZ (upZ (R 0) 8 0) 7 0)) 0))) hP (by omega) (by omega) (by show sS0_0_X5_carryOut P 105 2 p2 p3 = _; unfold sS0_0_X5_carryOut; (repeat (first | rw [zif_pos (by omega)] | rw [zif_neg (by omega)]))) (by show sS0_8_X5_carryOut P 105 2 p2 p3 = _; unfold sS0_8_X5_carryOut; (repeat (first | rw [zif_pos (by omega)] | rw [zif_neg (by omega)]))) (by show sS0_9_X5_carryOut P 105 2 p2 p3 = _; unfold sS0_9_X5_carryOut; (repeat (first | rw [zif_pos (by omega)] | rw [zif_neg (by omega)]))) (by show sS0_10_X5_carryOut P 105 2 p2 p3 = _; unfold sS0_10_X5_carryOut; (repeat (first | rw [zif_pos (by omega)] | rw [zif_neg (by omega)]))) (by show sS0_11_X5_carryOut P 105 2 p2 p3 = _; unfold sS0_11_X5_carryOut; (repeat (first | rw [zif_pos (by omega)] | rw [zif_neg (by omega)]))) (by show sS0_12_X5_carryOut P 105 2 p2 p3 = _; unfold sS0_12_X5_carryOut; (repeat (first | rw [zif_pos (by omega)] | rw [zif_neg (by omega)]))) (by show sS0_14_X5_carryOut P 105 2 p2 p3 = _; unfold sS0_14_X5_carryOut; (repeat (first | rw [zif_pos (by omega)] | rw [zif_neg (by omega)]))) (by show sS0_2_X5_carryOut P 105 2 p2 p3 = _; unfold sS0_2_X5_carryOut; (repeat (first | rw [zif_pos (by omega)] | rw [zif_neg (by omega)]))) (by show sS0_3_X5_carryOut P 105 2 p2 p3 = _; unfold sS0_3_X5_carryOut; (repeat (first | rw [zif_pos (by omega)] | rw [zif_neg (by omega)]))) (by show sS0_4_X5_carryOut P 105 2 p2 p3 = _; unfold sS0_4_X5_carryOut; (repeat (first | rw [zif_pos (by omega)] | rw [zif_neg (by omega)]))) (by show sS0_5_X5_carryOut P 105 2 p2 p3 = _; unfold sS0_5_X5_carryOut; (repeat (first | rw [zif_pos (by omega)] | rw [zif_neg (by omega)]))) (by show sS0_6_X5_carryOut P 105 2 p2 p3 = _; unfold sS0_6_X5_carryOut; (repeat (first | rw [zif_pos (by omega)] | rw [zif_neg (by omega)]))) (by show sS0_7_X5_carryOut P 105 2 p2 p3 = _; unfold sS0_7_X5_carryOut; (repeat (first | rw [zif_pos (by omega)] | rw [zif_neg (by omega)]))) (by show sS0_13_X5_carryOut P 105 2 p2 p3 = _; unfold sS0_13_X5_carryOut; (repeat (first | rw [zif_pos (by omega)] | rw [zif_neg (by omega)])))).1, by unfold sp_X5_carryOut; (repeat (first | rw [zif_pos (by omega)] | rw [zif_neg (by omega)])); rw [insp_v]; exact (rel_insp_2 (S := P) (S' := wCarry P 105 2 p2 p3) (R := (upA (upA (upA R 0 (upZ (upZ (R 0) 8 0) 7 0)) 0 (sS0_0_X8_keeps (upA R 0 (upZ (upZ (R 0) 8 0) 7 0)) 0)) 2 (sS0_2_X8_keeps (upA R 0 (upZ (upZ (R 0) 8 0) 7 0)) 0))) hP (by omega) (by omega) (by show sS0_0_X5_carryOut P 105 2 p2 p3 = _; unfold sS0_0_X5_carryOut; (repeat (first | rw [zif_pos (by omega)] | rw [zif_neg (by omega)]))) (by show sS0_8_X5_carryOut P 105 2 p2 p3 = _; unfold sS0_8_X5_carryOut; (repeat (first | rw [zif_pos (by omega)] | rw [zif_neg (by omega)]))) (by show sS0_9_X5_carryOut P 105 2 p2 p3 = _; unfold sS0_9_X5_carryOut; (repeat (first | rw [zif_pos (by omega)] | rw [zif_neg (by omega)]))) (by show sS0_10_X5_carryOut P 105 2 p2 p3 = _; unfold sS0_10_X5_carryOut; (repeat (first | rw [zif_pos (by omega)] | rw [zif_neg (by omega)]))) (by show sS0_11_X5_carryOut P 105 2 p2 p3 = _; unfold sS0_11_X5_carryOut; (repeat (first | rw [zif_pos (by omega)] | rw [zif_neg (by omega)]))) (by show sS0_12_X5_carryOut P 105 2 p2 p3 = _; unfold sS0_12_X5_carryOut; (repeat (first | rw [zif_pos (by omega)] | rw [zif_neg (by omega)]))) (by show sS0_14_X5_carryOut P 105 2 p2 p3 = _; unfold sS0_14_X5_carryOut; (repeat (first | rw [zif_pos (by omega)] | rw [zif_neg (by omega)]))) (by show sS0_2_X5_carryOut P 105 2 p2 p3 = _; unfold sS0_2_X5_carryOut; (repeat (first | rw [zif_pos (by omega)] | rw [zif_neg (by omega)]))) (by show sS0_3_X5_carryOut P 105 2 p2 p3 = _; unfold sS0_3_X5_carryOut; (repeat (first | rw [zif_pos (by omega)] | rw [zif_neg (by omega)]))) (by show sS0_4_X5_carryOut P 105 2 p2 p3 = _; unfold sS0_4_X5_carryOut; (repeat (first | rw [zif_pos (by omega)] | rw [zif_neg (by omega)]))) (by show sS0_5_X5_carryOut P 105 2 p2 p3 = _; unfold sS0_5_X5_carryOut; (repeat (first | rw [zif_pos (by omega)] | rw [zif_neg (by omega)]))) (by show sS0_6_X5_carryOut P 105 2 p2 p3 = _; unfold sS0_6_X5_carryOut; (repeat (first | rw [zif_pos (by omega)] | rw [zif_neg (by omega)]))) (by show sS0_7_X5_carryOut P 105 2 p2 p3 = _; unfold sS0_7_X5_carryOut; (repeat (first | rw [zif_pos (by omega)] | rw [zif_neg (by omega)]))) (by show sS0_13_X5_carryOut P 105 2 p2 p3 = _; unfold sS0_13_X5_carryOut; (repeat (first | rw [zif_pos (by omega)] | rw [zif_neg (by omega)])))).2⟩)
        have e0 : sS0_0_X8_inspect R 2 = sS0_0_X8_keeps (upA R 0 (upZ (upZ (R 0) 8 0) 7 0)) 0 := by unfold sS0_0_X8_inspect; (repeat (first | rw [zif_pos (by omega)] | rw [zif_neg (by omega)]))
        have e1 : sS0_1_X8_inspect R 2 = rInsp (upA (upA (upA R 0 (upZ (upZ (R 0) 8 0) 7 0)) 0 (sS0_0_X8_keeps (upA R 0 (upZ (upZ (R 0) 8 0) 7 0)) 0)) 2 (sS0_2_X8_keeps (upA R 0 (upZ (upZ (R 0) 8 0) 7 0)) 0)) 2 := by unfold sS0_1_X8_inspect; (repeat (first | rw [zif_pos (by omega)] | rw [zif_neg (by omega)])); exact insp_e _ _
        have e2 : sS0_2_X8_inspect R 2 = sS0_2_X8_keeps (upA R 0 (upZ (upZ (R 0) 8 0) 7 0)) 0 := by unfold sS0_2_X8_inspect; (repeat (first | rw [zif_pos (by omega)] | rw [zif_neg (by omega)]))
        have k := relA_ok (X := (upA R 0 (upZ (upZ (R 0) 8 0) 7 0))) (R' := (upA (upA (upA R 0 (sS0_0_X8_inspect R 2)) 1 (sS0_1_X8_inspect R 2)) 2 (sS0_2_X8_inspect R 2))) (P' := wCarry P 105 2 p2 p3) h ha (by show relP _ (sS0_1_X8_inspect R 2); rw [e1]; exact r.1) rfl rfl (fun i i7 i8 => by show upZ (upZ (R 0) 8 0) 7 0 i = R 0 i; rw [upZ_n i7, upZ_n i8]) e0 e2 rfl rfl rfl
        exact ⟨k.1, k.2, by rw [r.2]; unfold sp_X8_inspect; (repeat (first | rw [zif_pos (by omega)] | rw [zif_neg (by omega)]))⟩
  · skip
    have v : sp_X5_verdictOn P 105 p1 p2 p3 = 6 := by rw [hV]; (repeat (first | rw [zif_pos (by omega)] | rw [zif_neg (by omega)]))
    refine ⟨fun q => absurd q (by omega), fun _ => ?_, fun q => absurd q (by omega), fun q => absurd q (by omega)⟩
    have e0 : sS0_0_X8_inspect R p1 = upZ (upZ (R 0) 8 1) 7 0 := by unfold sS0_0_X8_inspect; (repeat (first | rw [zif_pos (by omega)] | rw [zif_neg (by omega)]))
    have e1 : sS0_1_X8_inspect R p1 = R 1 := by unfold sS0_1_X8_inspect; (repeat (first | rw [zif_pos (by omega)] | rw [zif_neg (by omega)]))
    have e2 : sS0_2_X8_inspect R p1 = R 2 := by unfold sS0_2_X8_inspect; (repeat (first | rw [zif_pos (by omega)] | rw [zif_neg (by omega)]))
    exact ⟨relA_fl h e1 e2 rfl rfl rfl (fun i i7 i8 => by show sS0_0_X8_inspect R p1 i = R 0 i; rw [e0, upZ_n i7, upZ_n i8]), by show sS0_0_X8_inspect R p1 8 = 1; rw [e0]; (repeat (first | rw [upZ_s] | rw [upZ_e (by omega)] | rw [upZ_n (by omega)] | rw [shf_in (by omega) (by omega)] | rw [shf_out (by omega)] | rw [zer_in (by omega) (by omega)] | rw [zer_out (by omega)] | rw [cpyZ_in (by omega) (by omega)] | rw [cpyZ_out (by omega)] | rw [mapZ_in (by omega) (by omega)] | rw [mapZ_out (by omega)]))⟩
set_option maxHeartbeats 4000000 in
theorem op_hire {F P N Hs : Nat → Nat → Int} {Gs : Nat → Nat → Nat → Int} {I L R : Nat → Nat → Int} {i0 : Nat} {p1 p2 p3 : Int} (h : relA F P N Hs Gs I L R) (ha : Hs 0 1 = (i0 : Int)) :
    (sp_X5_verdictOn P 104 p1 p2 p3 = 0 → relA F (wCarry P 104 p1 p2 p3) N (up2 (up2 Hs 0 1 ((Hs 0 1 + 1) % 8)) 0 2 (min (Hs 0 2 + 1) 8)) (upG Gs i0 (wCopy (Gs i0) P)) I L (upA (upA (upA R 0 (sS0_0_X8_hire R)) 1 (sS0_1_X8_hire R)) 2 (sS0_2_X8_hire R)) ∧ (upA (upA (upA R 0 (sS0_0_X8_hire R)) 1 (sS0_1_X8_hire R)) 2 (sS0_2_X8_hire R)) 0 8 = 0 ∧ sp_X8_hire R = sp_X5_carryOut P 104 p1 p2 p3) ∧ (sp_X5_verdictOn P 104 p1 p2 p3 = 6 → relA F P N Hs Gs I L (upA (upA (upA R 0 (sS0_0_X8_hire R)) 1 (sS0_1_X8_hire R)) 2 (sS0_2_X8_hire R)) ∧ (upA (upA (upA R 0 (sS0_0_X8_hire R)) 1 (sS0_1_X8_hire R)) 2 (sS0_2_X8_hire R)) 0 8 = 9) ∧ (sp_X5_verdictOn P 104 p1 p2 p3 = 7 → relA F P N Hs Gs I L (upA (upA (upA R 0 (sS0_0_X8_hire R)) 1 (sS0_1_X8_hire R)) 2 (sS0_2_X8_hire R)) ∧ (upA (upA (upA R 0 (sS0_0_X8_hire R)) 1 (sS0_1_X8_hire R)) 2 (sS0_2_X8_hire R)) 0 8 = 9) ∧ (1 ≤ sp_X5_verdictOn P 104 p1 p2 p3 ∧ sp_X5_verdictOn P 104 p1 p2 p3 ≤ 5 → relA (up2 (up2 F 0 9 (sp_X5_verdictOn P 104 p1 p2 p3)) 0 10 (sp_X5_detailOf P (sp_X5_verdictOn P 104 p1 p2 p3) 104 p1)) P N Hs Gs I L (upA (upA (upA R 0 (sS0_0_X8_hire R)) 1 (sS0_1_X8_hire R)) 2 (sS0_2_X8_hire R)) ∧ (upA (upA (upA R 0 (sS0_0_X8_hire R)) 1 (sS0_1_X8_hire R)) 2 (sS0_2_X8_hire R)) 0 8 = 1) := by
  have hP := h.1
  have hV := ver_hire (p1 := p1) (p2 := p2) (p3 := p3) hP
  have c0 := relB_c hP.1
  have c1 := relB_c hP.2.1
  have c2 := relB_c hP.2.2.1
  have cs := hP.2.2.2.1.2.1
  have cy := hP.2.2.2.2.1.2.1
  have cyr := hP.2.2.2.2.1.1
  rcases Classical.em (R 1 9 = 4) with e | e
  · skip
    have v : sp_X5_verdictOn P 104 p1 p2 p3 = 1 := by rw [hV]; (repeat (first | rw [zif_pos (by omega)] | rw [zif_neg (by omega)]))
    refine ⟨fun q => absurd q (by omega), fun q => absurd q (by omega), fun q => absurd q (by omega), fun _ => ?_⟩
    have e0 : sS0_0_X8_hire R = upZ (upZ (upZ (upZ (R 0) 8 1) 7 1) 9 1) 10 4 := by unfold sS0_0_X8_hire; (repeat (first | rw [zif_pos (by omega)] | rw [zif_neg (by omega)]))
    have e1 : sS0_1_X8_hire R = R 1 := by unfold sS0_1_X8_hire; (repeat (first | rw [zif_pos (by omega)] | rw [zif_neg (by omega)]))
    have e2 : sS0_2_X8_hire R = R 2 := by unfold sS0_2_X8_hire; (repeat (first | rw [zif_pos (by omega)] | rw [zif_neg (by omega)]))
    have ed : sp_X5_detailOf P 1 104 p1 = 4 := by unfold sp_X5_detailOf; (repeat (first | rw [zif_pos (by omega)] | rw [zif_neg (by omega)]))
    rw [v, ed]
    exact ⟨relA_why h e1 e2 rfl rfl rfl (fun i i7 i8 i9 i10 => by show sS0_0_X8_hire R i = R 0 i; rw [e0, upZ_n i10, upZ_n i9, upZ_n i7, upZ_n i8]) (by show sS0_0_X8_hire R 9 = 1; rw [e0]; (repeat (first | rw [upZ_s] | rw [upZ_e (by omega)] | rw [upZ_n (by omega)] | rw [shf_in (by omega) (by omega)] | rw [shf_out (by omega)] | rw [zer_in (by omega) (by omega)] | rw [zer_out (by omega)] | rw [cpyZ_in (by omega) (by omega)] | rw [cpyZ_out (by omega)] | rw [mapZ_in (by omega) (by omega)] | rw [mapZ_out (by omega)]))) (by show sS0_0_X8_hire R 10 = 4; rw [e0]; (repeat (first | rw [upZ_s] | rw [upZ_e (by omega)] | rw [upZ_n (by omega)] | rw [shf_in (by omega) (by omega)] | rw [shf_out (by omega)] | rw [zer_in (by omega) (by omega)] | rw [zer_out (by omega)] | rw [cpyZ_in (by omega) (by omega)] | rw [cpyZ_out (by omega)] | rw [mapZ_in (by omega) (by omega)] | rw [mapZ_out (by omega)]))), by show sS0_0_X8_hire R 8 = 1; rw [e0]; (repeat (first | rw [upZ_s] | rw [upZ_e (by omega)] | rw [upZ_n (by omega)] | rw [shf_in (by omega) (by omega)] | rw [shf_out (by omega)] | rw [zer_in (by omega) (by omega)] | rw [zer_out (by omega)] | rw [cpyZ_in (by omega) (by omega)] | rw [cpyZ_out (by omega)] | rw [mapZ_in (by omega) (by omega)] | rw [mapZ_out (by omega)]))⟩
  · skip
    have v : sp_X5_verdictOn P 104 p1 p2 p3 = 0 := by rw [hV]; (repeat (first | rw [zif_pos (by omega)] | rw [zif_neg (by omega)]))
    refine ⟨fun _ => ?_, fun q => absurd q (by omega), fun q => absurd q (by omega), fun q => absurd q (by omega)⟩
    have r := rel_hire (p1 := p1) (p2 := p2) (p3 := p3) hP (by omega)
    have e0 : sS0_0_X8_hire R = sS0_0_X8_keeps R 0 := by unfold sS0_0_X8_hire; (repeat (first | rw [zif_pos (by omega)] | rw [zif_neg (by omega)]))
    have e1 : sS0_1_X8_hire R = upZ (upZ (R 1) (11 + R 1 9).toNat 0) 9 (R 1 9 + 1) := by unfold sS0_1_X8_hire; (repeat (first | rw [zif_pos (by omega)] | rw [zif_neg (by omega)]))
    have e2 : sS0_2_X8_hire R = sS0_2_X8_keeps R 0 := by unfold sS0_2_X8_hire; (repeat (first | rw [zif_pos (by omega)] | rw [zif_neg (by omega)]))
    have k := relA_ok (X := R) (R' := (upA (upA (upA R 0 (sS0_0_X8_hire R)) 1 (sS0_1_X8_hire R)) 2 (sS0_2_X8_hire R))) (P' := wCarry P 104 p1 p2 p3) h ha (by show relP _ (sS0_1_X8_hire R); rw [e1]; exact r.1) rfl rfl (fun _ _ _ => rfl) e0 e2 rfl rfl rfl
    exact ⟨k.1, k.2, by rw [r.2]; unfold sp_X8_hire; (repeat (first | rw [zif_pos (by omega)] | rw [zif_neg (by omega)])); omega⟩
set_option maxHeartbeats 4000000 in
theorem op_leave {F P N Hs : Nat → Nat → Int} {Gs : Nat → Nat → Nat → Int} {I L R : Nat → Nat → Int} {i0 : Nat} {p1 p2 p3 : Int} (h : relA F P N Hs Gs I L R) (ha : Hs 0 1 = (i0 : Int)) :
    (sp_X5_verdictOn P 111 p1 p2 p3 = 0 → relA F (wCarry P 111 p1 p2 p3) N (up2 (up2 Hs 0 1 ((Hs 0 1 + 1) % 8)) 0 2 (min (Hs 0 2 + 1) 8)) (upG Gs i0 (wCopy (Gs i0) P)) I L (upA (upA (upA R 0 (sS0_0_X8_leave R p1)) 1 (sS0_1_X8_leave R p1)) 2 (sS0_2_X8_leave R p1)) ∧ (upA (upA (upA R 0 (sS0_0_X8_leave R p1)) 1 (sS0_1_X8_leave R p1)) 2 (sS0_2_X8_leave R p1)) 0 8 = 0 ∧ sp_X8_leave R p1 = sp_X5_carryOut P 111 p1 p2 p3) ∧ (sp_X5_verdictOn P 111 p1 p2 p3 = 6 → relA F P N Hs Gs I L (upA (upA (upA R 0 (sS0_0_X8_leave R p1)) 1 (sS0_1_X8_leave R p1)) 2 (sS0_2_X8_leave R p1)) ∧ (upA (upA (upA R 0 (sS0_0_X8_leave R p1)) 1 (sS0_1_X8_leave R p1)) 2 (sS0_2_X8_leave R p1)) 0 8 = 1) ∧ (sp_X5_verdictOn P 111 p1 p2 p3 = 7 → relA F P N Hs Gs I L (upA (upA (upA R 0 (sS0_0_X8_leave R p1)) 1 (sS0_1_X8_leave R p1)) 2 (sS0_2_X8_leave R p1)) ∧ (upA (upA (upA R 0 (sS0_0_X8_leave R p1)) 1 (sS0_1_X8_leave R p1)) 2 (sS0_2_X8_leave R p1)) 0 8 = 9) ∧ (1 ≤ sp_X5_verdictOn P 111 p1 p2 p3 ∧ sp_X5_verdictOn P 111 p1 p2 p3 ≤ 5 → relA (up2 (up2 F 0 9 (sp_X5_verdictOn P 111 p1 p2 p3)) 0 10 (sp_X5_detailOf P (sp_X5_verdictOn P 111 p1 p2 p3) 111 p1)) P N Hs Gs I L (upA (upA (upA R 0 (sS0_0_X8_leave R p1)) 1 (sS0_1_X8_leave R p1)) 2 (sS0_2_X8_leave R p1)) ∧ (upA (upA (upA R 0 (sS0_0_X8_leave R p1)) 1 (sS0_1_X8_leave R p1)) 2 (sS0_2_X8_leave R p1)) 0 8 = 9) := by
  have hP := h.1
  have hV := ver_leave (p1 := p1) (p2 := p2) (p3 := p3) hP
  have c0 := relB_c hP.1
  have c1 := relB_c hP.2.1
  have c2 := relB_c hP.2.2.1
  have cs := hP.2.2.2.1.2.1
  have cy := hP.2.2.2.2.1.2.1
  have cyr := hP.2.2.2.2.1.1
  rcases Classical.em (0 ≤ p1 ∧ p1 < R 1 9) with e | e
  · have z9 : shf (upZ (R 1) 9 (R 1 9 - 1)) (11 + p1).toNat (11 + (R 1 9 - 1)).toNat 1 9 = R 1 9 - 1 := by (repeat (first | rw [upZ_s] | rw [upZ_e (by omega)] | rw [upZ_n (by omega)] | rw [shf_in (by omega) (by omega)] | rw [shf_out (by omega)] | rw [zer_in (by omega) (by omega)] | rw [zer_out (by omega)] | rw [cpyZ_in (by omega) (by omega)] | rw [cpyZ_out (by omega)] | rw [mapZ_in (by omega) (by omega)] | rw [mapZ_out (by omega)]))
    have v : sp_X5_verdictOn P 111 p1 p2 p3 = 0 := by rw [hV]; (repeat (first | rw [zif_pos (by omega)] | rw [zif_neg (by omega)]))
    refine ⟨fun _ => ?_, fun q => absurd q (by omega), fun q => absurd q (by omega), fun q => absurd q (by omega)⟩
    have r := rel_leave (p1 := p1) (p2 := p2) (p3 := p3) hP (by omega)
    have e0 : sS0_0_X8_leave R p1 = sS0_0_X8_keeps (upA R 0 (upZ (upZ (R 0) 8 0) 7 0)) 0 := by unfold sS0_0_X8_leave; (repeat (first | rw [zif_pos (by omega)] | rw [zif_neg (by omega)]))
    have e1 : sS0_1_X8_leave R p1 = upZ (shf (upZ (R 1) 9 (R 1 9 - 1)) (11 + p1).toNat (11 + (R 1 9 - 1)).toNat 1) (11 + (R 1 9 - 1)).toNat 0 := by unfold sS0_1_X8_leave; rw [zif_pos e, z9]
    have e2 : sS0_2_X8_leave R p1 = sS0_2_X8_keeps (upA R 0 (upZ (upZ (R 0) 8 0) 7 0)) 0 := by unfold sS0_2_X8_leave; (repeat (first | rw [zif_pos (by omega)] | rw [zif_neg (by omega)]))
    have k := relA_ok (X := (upA R 0 (upZ (upZ (R 0) 8 0) 7 0))) (R' := (upA (upA (upA R 0 (sS0_0_X8_leave R p1)) 1 (sS0_1_X8_leave R p1)) 2 (sS0_2_X8_leave R p1))) (P' := wCarry P 111 p1 p2 p3) h ha (by show relP _ (sS0_1_X8_leave R p1); rw [e1]; exact r.1) rfl rfl (fun i i7 i8 => by show upZ (upZ (R 0) 8 0) 7 0 i = R 0 i; rw [upZ_n i7, upZ_n i8]) e0 e2 rfl rfl rfl
    exact ⟨k.1, k.2, by rw [r.2]; unfold sp_X8_leave; (repeat (first | rw [zif_pos (by omega)] | rw [zif_neg (by omega)]))⟩
  · skip
    have v : sp_X5_verdictOn P 111 p1 p2 p3 = 6 := by rw [hV]; (repeat (first | rw [zif_pos (by omega)] | rw [zif_neg (by omega)]))
    refine ⟨fun q => absurd q (by omega), fun _ => ?_, fun q => absurd q (by omega), fun q => absurd q (by omega)⟩
    have e0 : sS0_0_X8_leave R p1 = upZ (upZ (R 0) 8 1) 7 0 := by unfold sS0_0_X8_leave; (repeat (first | rw [zif_pos (by omega)] | rw [zif_neg (by omega)]))
    have e1 : sS0_1_X8_leave R p1 = R 1 := by unfold sS0_1_X8_leave; (repeat (first | rw [zif_pos (by omega)] | rw [zif_neg (by omega)]))
    have e2 : sS0_2_X8_leave R p1 = R 2 := by unfold sS0_2_X8_leave; (repeat (first | rw [zif_pos (by omega)] | rw [zif_neg (by omega)]))
    exact ⟨relA_fl h e1 e2 rfl rfl rfl (fun i i7 i8 => by show sS0_0_X8_leave R p1 i = R 0 i; rw [e0, upZ_n i7, upZ_n i8]), by show sS0_0_X8_leave R p1 8 = 1; rw [e0]; (repeat (first | rw [upZ_s] | rw [upZ_e (by omega)] | rw [upZ_n (by omega)] | rw [shf_in (by omega) (by omega)] | rw [shf_out (by omega)] | rw [zer_in (by omega) (by omega)] | rw [zer_out (by omega)] | rw [cpyZ_in (by omega) (by omega)] | rw [cpyZ_out (by omega)] | rw [mapZ_in (by omega) (by omega)] | rw [mapZ_out (by omega)]))⟩
set_option maxHeartbeats 4000000 in
theorem op_sell {F P N Hs : Nat → Nat → Int} {Gs : Nat → Nat → Nat → Int} {I L R : Nat → Nat → Int} {i0 : Nat} {p1 p2 p3 : Int} (h : relA F P N Hs Gs I L R) (ha : Hs 0 1 = (i0 : Int)) :
    (sp_X5_verdictOn P 115 p1 p2 p3 = 0 → relA F (wCarry P 115 p1 p2 p3) N (up2 (up2 Hs 0 1 ((Hs 0 1 + 1) % 8)) 0 2 (min (Hs 0 2 + 1) 8)) (upG Gs i0 (wCopy (Gs i0) P)) I L (upA (upA (upA R 0 (sS0_0_X8_sell R p1)) 1 (sS0_1_X8_sell R p1)) 2 (sS0_2_X8_sell R p1)) ∧ (upA (upA (upA R 0 (sS0_0_X8_sell R p1)) 1 (sS0_1_X8_sell R p1)) 2 (sS0_2_X8_sell R p1)) 0 8 = 0 ∧ sp_X8_sell R p1 = sp_X5_carryOut P 115 p1 p2 p3) ∧ (sp_X5_verdictOn P 115 p1 p2 p3 = 6 → relA F P N Hs Gs I L (upA (upA (upA R 0 (sS0_0_X8_sell R p1)) 1 (sS0_1_X8_sell R p1)) 2 (sS0_2_X8_sell R p1)) ∧ (upA (upA (upA R 0 (sS0_0_X8_sell R p1)) 1 (sS0_1_X8_sell R p1)) 2 (sS0_2_X8_sell R p1)) 0 8 = 1) ∧ (sp_X5_verdictOn P 115 p1 p2 p3 = 7 → relA F P N Hs Gs I L (upA (upA (upA R 0 (sS0_0_X8_sell R p1)) 1 (sS0_1_X8_sell R p1)) 2 (sS0_2_X8_sell R p1)) ∧ (upA (upA (upA R 0 (sS0_0_X8_sell R p1)) 1 (sS0_1_X8_sell R p1)) 2 (sS0_2_X8_sell R p1)) 0 8 = 9) ∧ (1 ≤ sp_X5_verdictOn P 115 p1 p2 p3 ∧ sp_X5_verdictOn P 115 p1 p2 p3 ≤ 5 → relA (up2 (up2 F 0 9 (sp_X5_verdictOn P 115 p1 p2 p3)) 0 10 (sp_X5_detailOf P (sp_X5_verdictOn P 115 p1 p2 p3) 115 p1)) P N Hs Gs I L (upA (upA (upA R 0 (sS0_0_X8_sell R p1)) 1 (sS0_1_X8_sell R p1)) 2 (sS0_2_X8_sell R p1)) ∧ (upA (upA (upA R 0 (sS0_0_X8_sell R p1)) 1 (sS0_1_X8_sell R p1)) 2 (sS0_2_X8_sell R p1)) 0 8 = 9) := by
  have hP := h.1
  have hV := ver_sell (p1 := p1) (p2 := p2) (p3 := p3) hP
  have c0 := relB_c hP.1
  have c1 := relB_c hP.2.1
  have c2 := relB_c hP.2.2.1
  have cs := hP.2.2.2.1.2.1
  have cy := hP.2.2.2.2.1.2.1
  have cyr := hP.2.2.2.2.1.1
  rcases Classical.em (0 ≤ p1 ∧ p1 < R 1 10) with e | e
  · skip
    have v : sp_X5_verdictOn P 115 p1 p2 p3 = 0 := by rw [hV]; (repeat (first | rw [zif_pos (by omega)] | rw [zif_neg (by omega)]))
    refine ⟨fun _ => ?_, fun q => absurd q (by omega), fun q => absurd q (by omega), fun q => absurd q (by omega)⟩
    have r := rel_sell (p1 := p1) (p2 := p2) (p3 := p3) hP (by omega)
    have e0 : sS0_0_X8_sell R p1 = sS0_0_X8_keeps (upA R 0 (upZ (upZ (R 0) 8 0) 7 0)) 0 := by unfold sS0_0_X8_sell; (repeat (first | rw [zif_pos (by omega)] | rw [zif_neg (by omega)]))
    have e1 : sS0_1_X8_sell R p1 = upZ (upZ (upZ (rOff (R 1) p1) 0 (R 1 0 + rWorth (R 1) p1 (R 1 7))) 6 (R 1 6 + 1)) 7 (R 1 7 + 1) := by unfold sS0_1_X8_sell; (repeat (first | rw [zif_pos (by omega)] | rw [zif_neg (by omega)]))
    have e2 : sS0_2_X8_sell R p1 = sS0_2_X8_keeps (upA R 0 (upZ (upZ (R 0) 8 0) 7 0)) 0 := by unfold sS0_2_X8_sell; (repeat (first | rw [zif_pos (by omega)] | rw [zif_neg (by omega)]))
    have k := relA_ok (X := (upA R 0 (upZ (upZ (R 0) 8 0) 7 0))) (R' := (upA (upA (upA R 0 (sS0_0_X8_sell R p1)) 1 (sS0_1_X8_sell R p1)) 2 (sS0_2_X8_sell R p1))) (P' := wCarry P 115 p1 p2 p3) h ha (by show relP _ (sS0_1_X8_sell R p1); rw [e1]; exact r.1) rfl rfl (fun i i7 i8 => by show upZ (upZ (R 0) 8 0) 7 0 i = R 0 i; rw [upZ_n i7, upZ_n i8]) e0 e2 rfl rfl rfl
    exact ⟨k.1, k.2, by rw [r.2]; unfold sp_X8_sell; (repeat (first | rw [zif_pos (by omega)] | rw [zif_neg (by omega)]))⟩
  · skip
    have v : sp_X5_verdictOn P 115 p1 p2 p3 = 6 := by rw [hV]; (repeat (first | rw [zif_pos (by omega)] | rw [zif_neg (by omega)]))
    refine ⟨fun q => absurd q (by omega), fun _ => ?_, fun q => absurd q (by omega), fun q => absurd q (by omega)⟩
    have e0 : sS0_0_X8_sell R p1 = upZ (upZ (R 0) 8 1) 7 0 := by unfold sS0_0_X8_sell; (repeat (first | rw [zif_pos (by omega)] | rw [zif_neg (by omega)]))
    have e1 : sS0_1_X8_sell R p1 = R 1 := by unfold sS0_1_X8_sell; (repeat (first | rw [zif_pos (by omega)] | rw [zif_neg (by omega)]))
    have e2 : sS0_2_X8_sell R p1 = R 2 := by unfold sS0_2_X8_sell; (repeat (first | rw [zif_pos (by omega)] | rw [zif_neg (by omega)]))
    exact ⟨relA_fl h e1 e2 rfl rfl rfl (fun i i7 i8 => by show sS0_0_X8_sell R p1 i = R 0 i; rw [e0, upZ_n i7, upZ_n i8]), by show sS0_0_X8_sell R p1 8 = 1; rw [e0]; (repeat (first | rw [upZ_s] | rw [upZ_e (by omega)] | rw [upZ_n (by omega)] | rw [shf_in (by omega) (by omega)] | rw [shf_out (by omega)] | rw [zer_in (by omega) (by omega)] | rw [zer_out (by omega)] | rw [cpyZ_in (by omega) (by omega)] | rw [cpyZ_out (by omega)] | rw [mapZ_in (by omega) (by omega)] | rw [mapZ_out (by omega)]))⟩
set_option maxHeartbeats 4000000 in
theorem op_repair {F P N Hs : Nat → Nat → Int} {Gs : Nat → Nat → Nat → Int} {I L R : Nat → Nat → Int} {i0 : Nat} {p1 p2 p3 : Int} (h : relA F P N Hs Gs I L R) (ha : Hs 0 1 = (i0 : Int)) :
    (sp_X5_verdictOn P 114 p1 p2 p3 = 0 → relA F (wCarry P 114 p1 p2 p3) N (up2 (up2 Hs 0 1 ((Hs 0 1 + 1) % 8)) 0 2 (min (Hs 0 2 + 1) 8)) (upG Gs i0 (wCopy (Gs i0) P)) I L (upA (upA (upA R 0 (sS0_0_X8_repair R p1)) 1 (sS0_1_X8_repair R p1)) 2 (sS0_2_X8_repair R p1)) ∧ (upA (upA (upA R 0 (sS0_0_X8_repair R p1)) 1 (sS0_1_X8_repair R p1)) 2 (sS0_2_X8_repair R p1)) 0 8 = 0 ∧ sp_X8_repair R p1 = sp_X5_carryOut P 114 p1 p2 p3) ∧ (sp_X5_verdictOn P 114 p1 p2 p3 = 6 → relA F P N Hs Gs I L (upA (upA (upA R 0 (sS0_0_X8_repair R p1)) 1 (sS0_1_X8_repair R p1)) 2 (sS0_2_X8_repair R p1)) ∧ (upA (upA (upA R 0 (sS0_0_X8_repair R p1)) 1 (sS0_1_X8_repair R p1)) 2 (sS0_2_X8_repair R p1)) 0 8 = 1) ∧ (sp_X5_verdictOn P 114 p1 p2 p3 = 7 → relA F P N Hs Gs I L (upA (upA (upA R 0 (sS0_0_X8_repair R p1)) 1 (sS0_1_X8_repair R p1)) 2 (sS0_2_X8_repair R p1)) ∧ (upA (upA (upA R 0 (sS0_0_X8_repair R p1)) 1 (sS0_1_X8_repair R p1)) 2 (sS0_2_X8_repair R p1)) 0 8 = 9) ∧ (1 ≤ sp_X5_verdictOn P 114 p1 p2 p3 ∧ sp_X5_verdictOn P 114 p1 p2 p3 ≤ 5 → relA (up2 (up2 F 0 9 (sp_X5_verdictOn P 114 p1 p2 p3)) 0 10 (sp_X5_detailOf P (sp_X5_verdictOn P 114 p1 p2 p3) 114 p1)) P N Hs Gs I L (upA (upA (upA R 0 (sS0_0_X8_repair R p1)) 1 (sS0_1_X8_repair R p1)) 2 (sS0_2_X8_repair R p1)) ∧ (upA (upA (upA R 0 (sS0_0_X8_repair R p1)) 1 (sS0_1_X8_repair R p1)) 2 (sS0_2_X8_repair R p1)) 0 8 = 2) := by
  have hP := h.1
  have hV := ver_repair (p1 := p1) (p2 := p2) (p3 := p3) hP
  have c0 := relB_c hP.1
  have c1 := relB_c hP.2.1
  have c2 := relB_c hP.2.2.1
  have cs := hP.2.2.2.1.2.1
  have cy := hP.2.2.2.2.1.2.1
  have cyr := hP.2.2.2.2.1.1
  have z15 : R 1 (15 + 26 * (0 : Int) + 0).toNat = R 1 15 := rfl
  have s0 := hP.2.2.2.2.2.1.1
  rcases Classical.em (0 ≤ p1 ∧ p1 < R 1 10) with e | e
  · have n := (relS_num hP.2.2.2.1 (p := p1) e.1 (by omega)).2.2.1
    rcases Classical.em (R 1 15 = 5) with f | f
    · skip
      have v : sp_X5_verdictOn P 114 p1 p2 p3 = 1 := by rw [hV]; (repeat (first | rw [zif_pos (by omega)] | rw [zif_neg (by omega)]))
      refine ⟨fun q => absurd q (by omega), fun q => absurd q (by omega), fun q => absurd q (by omega), fun _ => ?_⟩
      have e0 : sS0_0_X8_repair R p1 = upZ (upZ (upZ (upZ (upZ (upZ (R 0) 8 0) 7 0) 8 2) 7 1) 9 1) 10 5 := by unfold sS0_0_X8_repair; (repeat (first | rw [zif_pos (by omega)] | rw [zif_neg (by omega)]))
      have e1 : sS0_1_X8_repair R p1 = R 1 := by unfold sS0_1_X8_repair; (repeat (first | rw [zif_pos (by omega)] | rw [zif_neg (by omega)]))
      have e2 : sS0_2_X8_repair R p1 = R 2 := by unfold sS0_2_X8_repair; (repeat (first | rw [zif_pos (by omega)] | rw [zif_neg (by omega)]))
      have ed : sp_X5_detailOf P 1 114 p1 = 5 := by unfold sp_X5_detailOf; (repeat (first | rw [zif_pos (by omega)] | rw [zif_neg (by omega)]))
      rw [v, ed]
      exact ⟨relA_why h e1 e2 rfl rfl rfl (fun i i7 i8 i9 i10 => by show sS0_0_X8_repair R p1 i = R 0 i; rw [e0, upZ_n i10, upZ_n i9, upZ_n i7, upZ_n i8, upZ_n i7, upZ_n i8]) (by show sS0_0_X8_repair R p1 9 = 1; rw [e0]; (repeat (first | rw [upZ_s] | rw [upZ_e (by omega)] | rw [upZ_n (by omega)] | rw [shf_in (by omega) (by omega)] | rw [shf_out (by omega)] | rw [zer_in (by omega) (by omega)] | rw [zer_out (by omega)] | rw [cpyZ_in (by omega) (by omega)] | rw [cpyZ_out (by omega)] | rw [mapZ_in (by omega) (by omega)] | rw [mapZ_out (by omega)]))) (by show sS0_0_X8_repair R p1 10 = 5; rw [e0]; (repeat (first | rw [upZ_s] | rw [upZ_e (by omega)] | rw [upZ_n (by omega)] | rw [shf_in (by omega) (by omega)] | rw [shf_out (by omega)] | rw [zer_in (by omega) (by omega)] | rw [zer_out (by omega)] | rw [cpyZ_in (by omega) (by omega)] | rw [cpyZ_out (by omega)] | rw [mapZ_in (by omega) (by omega)] | rw [mapZ_out (by omega)]))), by show sS0_0_X8_repair R p1 8 = 2; rw [e0]; (repeat (first | rw [upZ_s] | rw [upZ_e (by omega)] | rw [upZ_n (by omega)] | rw [shf_in (by omega) (by omega)] | rw [shf_out (by omega)] | rw [zer_in (by omega) (by omega)] | rw [zer_out (by omega)] | rw [cpyZ_in (by omega) (by omega)] | rw [cpyZ_out (by omega)] | rw [mapZ_in (by omega) (by omega)] | rw [mapZ_out (by omega)]))⟩
    · rcases Classical.em (2 + R 1 (93 + 4 * p1 + 2).toNat ≤ R 1 0) with g | g
      · skip
        have v : sp_X5_verdictOn P 114 p1 p2 p3 = 0 := by rw [hV]; (repeat (first | rw [zif_pos (by omega)] | rw [zif_neg (by omega)]))
        refine ⟨fun _ => ?_, fun q => absurd q (by omega), fun q => absurd q (by omega), fun q => absurd q (by omega)⟩
        have r := rel_repair (p1 := p1) (p2 := p2) (p3 := p3) hP (by omega) (by omega)
        have e0 : sS0_0_X8_repair R p1 = sS0_0_X8_keeps (upA R 0 (upZ (upZ (R 0) 8 0) 7 0)) 0 := by unfold sS0_0_X8_repair; (repeat (first | rw [zif_pos (by omega)] | rw [zif_neg (by omega)]))
        have e1 : sS0_1_X8_repair R p1 = upZ (upZ (rOff (rPuts (R 1) 0 0 (max 0 (min (R 1 (93 + 4 * p1 + 0).toNat + 2) 9)) (max 4 (min (R 1 (93 + 4 * p1 + 1).toNat - 1) 9)) (R 1 (93 + 4 * p1 + 2).toNat + 1)) p1) 0 (R 1 0 - (2 + R 1 (93 + 4 * p1 + 2).toNat))) 8 (R 1 8 + 1) := by unfold sS0_1_X8_repair; (repeat (first | rw [zif_pos (by omega)] | rw [zif_neg (by omega)]))
        have e2 : sS0_2_X8_repair R p1 = sS0_2_X8_keeps (upA R 0 (upZ (upZ (R 0) 8 0) 7 0)) 0 := by unfold sS0_2_X8_repair; (repeat (first | rw [zif_pos (by omega)] | rw [zif_neg (by omega)]))
        have k := relA_ok (X := (upA R 0 (upZ (upZ (R 0) 8 0) 7 0))) (R' := (upA (upA (upA R 0 (sS0_0_X8_repair R p1)) 1 (sS0_1_X8_repair R p1)) 2 (sS0_2_X8_repair R p1))) (P' := wCarry P 114 p1 p2 p3) h ha (by show relP _ (sS0_1_X8_repair R p1); rw [e1]; exact r.1) rfl rfl (fun i i7 i8 => by show upZ (upZ (R 0) 8 0) 7 0 i = R 0 i; rw [upZ_n i7, upZ_n i8]) e0 e2 rfl rfl rfl
        exact ⟨k.1, k.2, by rw [r.2]; unfold sp_X8_repair; (repeat (first | rw [zif_pos (by omega)] | rw [zif_neg (by omega)]))⟩
      · skip
        have v : sp_X5_verdictOn P 114 p1 p2 p3 = 5 := by rw [hV]; (repeat (first | rw [zif_pos (by omega)] | rw [zif_neg (by omega)]))
        refine ⟨fun q => absurd q (by omega), fun q => absurd q (by omega), fun q => absurd q (by omega), fun _ => ?_⟩
        have e0 : sS0_0_X8_repair R p1 = upZ (upZ (upZ (upZ (upZ (upZ (R 0) 8 0) 7 0) 8 2) 7 1) 9 5) 10 (2 + R 1 (93 + 4 * p1 + 2).toNat - R 1 0) := by unfold sS0_0_X8_repair; (repeat (first | rw [zif_pos (by omega)] | rw [zif_neg (by omega)]))
        have e1 : sS0_1_X8_repair R p1 = R 1 := by unfold sS0_1_X8_repair; (repeat (first | rw [zif_pos (by omega)] | rw [zif_neg (by omega)]))
        have e2 : sS0_2_X8_repair R p1 = R 2 := by unfold sS0_2_X8_repair; (repeat (first | rw [zif_pos (by omega)] | rw [zif_neg (by omega)]))
        have ed : sp_X5_detailOf P 5 114 p1 = (2 + R 1 (93 + 4 * p1 + 2).toNat - R 1 0) := by unfold sp_X5_detailOf; (repeat (first | rw [zif_pos (by omega)] | rw [zif_neg (by omega)])); omega
        rw [v, ed]
        exact ⟨relA_why h e1 e2 rfl rfl rfl (fun i i7 i8 i9 i10 => by show sS0_0_X8_repair R p1 i = R 0 i; rw [e0, upZ_n i10, upZ_n i9, upZ_n i7, upZ_n i8, upZ_n i7, upZ_n i8]) (by show sS0_0_X8_repair R p1 9 = 5; rw [e0]; (repeat (first | rw [upZ_s] | rw [upZ_e (by omega)] | rw [upZ_n (by omega)] | rw [shf_in (by omega) (by omega)] | rw [shf_out (by omega)] | rw [zer_in (by omega) (by omega)] | rw [zer_out (by omega)] | rw [cpyZ_in (by omega) (by omega)] | rw [cpyZ_out (by omega)] | rw [mapZ_in (by omega) (by omega)] | rw [mapZ_out (by omega)]))) (by show sS0_0_X8_repair R p1 10 = (2 + R 1 (93 + 4 * p1 + 2).toNat - R 1 0); rw [e0]; (repeat (first | rw [upZ_s] | rw [upZ_e (by omega)] | rw [upZ_n (by omega)] | rw [shf_in (by omega) (by omega)] | rw [shf_out (by omega)] | rw [zer_in (by omega) (by omega)] | rw [zer_out (by omega)] | rw [cpyZ_in (by omega) (by omega)] | rw [cpyZ_out (by omega)] | rw [mapZ_in (by omega) (by omega)] | rw [mapZ_out (by omega)]))), by show sS0_0_X8_repair R p1 8 = 2; rw [e0]; (repeat (first | rw [upZ_s] | rw [upZ_e (by omega)] | rw [upZ_n (by omega)] | rw [shf_in (by omega) (by omega)] | rw [shf_out (by omega)] | rw [zer_in (by omega) (by omega)] | rw [zer_out (by omega)] | rw [cpyZ_in (by omega) (by omega)] | rw [cpyZ_out (by omega)] | rw [mapZ_in (by omega) (by omega)] | rw [mapZ_out (by omega)]))⟩
  · skip
    have v : sp_X5_verdictOn P 114 p1 p2 p3 = 6 := by rw [hV]; (repeat (first | rw [zif_pos (by omega)] | rw [zif_neg (by omega)]))
    refine ⟨fun q => absurd q (by omega), fun _ => ?_, fun q => absurd q (by omega), fun q => absurd q (by omega)⟩
    have e0 : sS0_0_X8_repair R p1 = upZ (upZ (R 0) 8 1) 7 0 := by unfold sS0_0_X8_repair; (repeat (first | rw [zif_pos (by omega)] | rw [zif_neg (by omega)]))
    have e1 : sS0_1_X8_repair R p1 = R 1 := by unfold sS0_1_X8_repair; (repeat (first | rw [zif_pos (by omega)] | rw [zif_neg (by omega)]))
    have e2 : sS0_2_X8_repair R p1 = R 2 := by unfold sS0_2_X8_repair; (repeat (first | rw [zif_pos (by omega)] | rw [zif_neg (by omega)]))
    exact ⟨relA_fl h e1 e2 rfl rfl rfl (fun i i7 i8 => by show sS0_0_X8_repair R p1 i = R 0 i; rw [e0, upZ_n i7, upZ_n i8]), by show sS0_0_X8_repair R p1 8 = 1; rw [e0]; (repeat (first | rw [upZ_s] | rw [upZ_e (by omega)] | rw [upZ_n (by omega)] | rw [shf_in (by omega) (by omega)] | rw [shf_out (by omega)] | rw [zer_in (by omega) (by omega)] | rw [zer_out (by omega)] | rw [cpyZ_in (by omega) (by omega)] | rw [cpyZ_out (by omega)] | rw [mapZ_in (by omega) (by omega)] | rw [mapZ_out (by omega)]))⟩
set_option maxHeartbeats 4000000 in
theorem op_week {F P N Hs : Nat → Nat → Int} {Gs : Nat → Nat → Nat → Int} {I L R : Nat → Nat → Int} {i0 : Nat} {p1 p2 p3 : Int} (h : relA F P N Hs Gs I L R) (ha : Hs 0 1 = (i0 : Int)) :
    (sp_X5_verdictOn P 119 p1 p2 p3 = 0 → relA F (wCarry P 119 p1 p2 p3) N (up2 (up2 Hs 0 1 ((Hs 0 1 + 1) % 8)) 0 2 (min (Hs 0 2 + 1) 8)) (upG Gs i0 (wCopy (Gs i0) P)) I L (upA (upA (upA R 0 (sS0_0_X8_week R)) 1 (sS0_1_X8_week R)) 2 (sS0_2_X8_week R)) ∧ (upA (upA (upA R 0 (sS0_0_X8_week R)) 1 (sS0_1_X8_week R)) 2 (sS0_2_X8_week R)) 0 8 = 0 ∧ sp_X8_week R = sp_X5_carryOut P 119 p1 p2 p3) ∧ (sp_X5_verdictOn P 119 p1 p2 p3 = 6 → relA F P N Hs Gs I L (upA (upA (upA R 0 (sS0_0_X8_week R)) 1 (sS0_1_X8_week R)) 2 (sS0_2_X8_week R)) ∧ (upA (upA (upA R 0 (sS0_0_X8_week R)) 1 (sS0_1_X8_week R)) 2 (sS0_2_X8_week R)) 0 8 = 9) ∧ (sp_X5_verdictOn P 119 p1 p2 p3 = 7 → relA F P N Hs Gs I L (upA (upA (upA R 0 (sS0_0_X8_week R)) 1 (sS0_1_X8_week R)) 2 (sS0_2_X8_week R)) ∧ (upA (upA (upA R 0 (sS0_0_X8_week R)) 1 (sS0_1_X8_week R)) 2 (sS0_2_X8_week R)) 0 8 = 9) ∧ (1 ≤ sp_X5_verdictOn P 119 p1 p2 p3 ∧ sp_X5_verdictOn P 119 p1 p2 p3 ≤ 5 → relA (up2 (up2 F 0 9 (sp_X5_verdictOn P 119 p1 p2 p3)) 0 10 (sp_X5_detailOf P (sp_X5_verdictOn P 119 p1 p2 p3) 119 p1)) P N Hs Gs I L (upA (upA (upA R 0 (sS0_0_X8_week R)) 1 (sS0_1_X8_week R)) 2 (sS0_2_X8_week R)) ∧ (upA (upA (upA R 0 (sS0_0_X8_week R)) 1 (sS0_1_X8_week R)) 2 (sS0_2_X8_week R)) 0 8 = 9) := by
  have hP := h.1
  have hV := ver_week (p1 := p1) (p2 := p2) (p3 := p3) (S := P)
  have c0 := relB_c hP.1
  have c1 := relB_c hP.2.1
  have c2 := relB_c hP.2.2.1
  have cs := hP.2.2.2.1.2.1
  have cy := hP.2.2.2.2.1.2.1
  have cyr := hP.2.2.2.2.1.1
  have v : sp_X5_verdictOn P 119 p1 p2 p3 = 0 := by rw [hV]; (repeat (first | rw [zif_pos (by omega)] | rw [zif_neg (by omega)]))
  refine ⟨fun _ => ?_, fun q => absurd q (by omega), fun q => absurd q (by omega), fun q => absurd q (by omega)⟩
  have r := rel_week (p1 := p1) (p2 := p2) (p3 := p3) (R := R) hP
  have e0 : sS0_0_X8_week R = sS0_0_X8_keeps R 0 := by unfold sS0_0_X8_week; rw [zif_same, zif_same]
  have e1 : sS0_1_X8_week R = sS0_1_X8_week R := by rfl
  have e2 : sS0_2_X8_week R = sS0_2_X8_keeps R 0 := by unfold sS0_2_X8_week; rw [zif_same, zif_same]
  have k := relA_ok (X := R) (R' := (upA (upA (upA R 0 (sS0_0_X8_week R)) 1 (sS0_1_X8_week R)) 2 (sS0_2_X8_week R))) (P' := wCarry P 119 p1 p2 p3) h ha (by show relP _ (sS0_1_X8_week R); rw [e1]; exact r.1) rfl rfl (fun _ _ _ => rfl) e0 e2 rfl rfl rfl
  exact ⟨k.1, k.2, by rw [r.2]; skip⟩
