/-! undo, save, restore; the input's and the line's signs; what was refused -/
theorem rSum3 (G : Nat → Int) (w : Int) : rSummed G w = rSumT G w 0 + rSumT G w 1 + rSumT G w 2 := by
  show (0 + rSumT G w ((0 : Nat) : Int)) + rSumT G w ((1 : Nat) : Int) + rSumT G w ((2 : Nat) : Int) = _
  rw [Int.zero_add]
  rfl
theorem rSum_cnt {P : Nat → Nat → Int} {G : Nat → Int} (h : relP P G) : rSummed G 0 = P 3 1 + P 6 1 + P 9 1 := by
  have c0 := relB_c h.1
  have c1 := relB_c h.2.1
  have c2 := relB_c h.2.2.1
  rw [rSum3]
  unfold rSumT
  rw [zif_pos rfl, zif_pos rfl, zif_pos rfl]
  omega
theorem op_undo {F P N Hs : Nat → Nat → Int} {Gs : Nat → Nat → Nat → Int} {I L R : Nat → Nat → Int} {i0 : Nat} (h : relA F P N Hs Gs I L R) :
    (Hs 0 2 = 0 → relA F P N Hs Gs I L (upA (upA R 0 (sS0_0_X8_undo R)) 1 (sS0_1_X8_undo R)) ∧ (upA (upA R 0 (sS0_0_X8_undo R)) 1 (sS0_1_X8_undo R)) 0 8 = 1) ∧
    (1 ≤ Hs 0 2 → (Hs 0 1 + 8 - 1) % 8 = (i0 : Int) → relA F (wCopy P (Gs i0)) N (up2 (up2 Hs 0 1 ((((Hs 0 1) + 8) - 1) % 8)) 0 2 ((Hs 0 2) - 1)) Gs I L (upA (upA R 0 (sS0_0_X8_undo R)) 1 (sS0_1_X8_undo R)) ∧ (upA (upA R 0 (sS0_0_X8_undo R)) 1 (sS0_1_X8_undo R)) 0 8 = 0 ∧ sp_X8_undo R = Hs 0 2 - 1) := by
  obtain ⟨a1, a2, a3, a4, a5, a6, a7, a8, a9⟩ := h
  refine ⟨fun q => ?_, fun q hi => ?_⟩
  · have e0 : sS0_0_X8_undo R = upZ (upZ (R 0) 8 1) 7 0 := by unfold sS0_0_X8_undo; (repeat (first | rw [zif_pos (by omega)] | rw [zif_neg (by omega)]))
    have e1 : sS0_1_X8_undo R = R 1 := by unfold sS0_1_X8_undo; (repeat (first | rw [zif_pos (by omega)] | rw [zif_neg (by omega)]))
    exact ⟨relA_fl ⟨a1, a2, a3, a4, a5, a6, a7, a8, a9⟩ e1 rfl rfl rfl rfl (fun i i7 i8 => by show sS0_0_X8_undo R i = R 0 i; rw [e0, upZ_n i7, upZ_n i8]), by show sS0_0_X8_undo R 8 = 1; rw [e0]; (repeat (first | rw [upZ_s] | rw [upZ_e (by omega)] | rw [upZ_n (by omega)] | rw [shf_in (by omega) (by omega)] | rw [shf_out (by omega)] | rw [zer_in (by omega) (by omega)] | rw [zer_out (by omega)] | rw [cpyZ_in (by omega) (by omega)] | rw [cpyZ_out (by omega)] | rw [mapZ_in (by omega) (by omega)] | rw [mapZ_out (by omega)]))⟩
  · have e0 : sS0_0_X8_undo R = upZ (upZ (upZ (R 0) 8 0) 7 0) 5 (R 0 5 - 1) := by unfold sS0_0_X8_undo; (repeat (first | rw [zif_pos (by omega)] | rw [zif_neg (by omega)]))
    have e1 : sS0_1_X8_undo R = cpyZ (R 2) (R 1) (125 * (R 0 5 - 1)).toNat 0 125 := by unfold sS0_1_X8_undo; (repeat (first | rw [zif_pos (by omega)] | rw [zif_neg (by omega)]))
    have t := relH_take a2 q
    have f : ∀ i, i ≠ 5 → i ≠ 7 → i ≠ 8 → sS0_0_X8_undo R i = R 0 i := fun i i5 i7 i8 => by rw [e0, upZ_n i5, upZ_n i7, upZ_n i8]
    refine ⟨⟨?_, t.1, ?_, (f 6 (by decide) (by decide) (by decide)).trans a4, ?_, (f 13 (by decide) (by decide) (by decide)).trans a6, ⟨(f 9 (by decide) (by decide) (by decide)).trans a7.1, (f 10 (by decide) (by decide) (by decide)).trans a7.2⟩, ?_, ?_⟩, ?_, ?_⟩
    · show relP (wCopy P (Gs i0)) (sS0_1_X8_undo R)
      rw [e1]
      have g := t.2
      rw [hi] at g
      exact relP_ext (relP_copy g) (fun j hj => by (repeat (first | rw [upZ_s] | rw [upZ_e (by omega)] | rw [upZ_n (by omega)] | rw [shf_in (by omega) (by omega)] | rw [shf_out (by omega)] | rw [zer_in (by omega) (by omega)] | rw [zer_out (by omega)] | rw [cpyZ_in (by omega) (by omega)] | rw [cpyZ_out (by omega)] | rw [mapZ_in (by omega) (by omega)] | rw [mapZ_out (by omega)])); rw [a3]; exact congrArg (R 2) (by omega))
    · show sS0_0_X8_undo R 5 = Hs 0 2 - 1
      rw [e0, upZ_s, a3]
    · show (F 0 7 = 0 ∧ sS0_0_X8_undo R 4 = 0) ∨ (F 0 7 = 1 ∧ sS0_0_X8_undo R 4 = 1 ∧ relP N (R 3))
      rw [f 4 (by decide) (by decide) (by decide)]
      exact a5
    · show (0 ≤ I 0 1 ∧ I 0 1 ≤ 60) ∧ sS0_0_X8_undo R 12 = I 0 1 ∧ (∀ j : Nat, (j : Int) < I 0 1 → R 5 j = I 1 j) ∧ ∀ j : Nat, 0 ≤ I 1 j ∧ I 1 j < 65536
      rw [f 12 (by decide) (by decide) (by decide)]
      exact a8
    · show (0 ≤ L 0 1 ∧ L 0 1 ≤ 39) ∧ sS0_0_X8_undo R 15 = L 0 1 ∧ ∀ j : Nat, (j : Int) < L 0 1 → R 6 j = L 1 j
      rw [f 15 (by decide) (by decide) (by decide)]
      exact a9
    · show sS0_0_X8_undo R 8 = 0
      rw [e0]
      (repeat (first | rw [upZ_s] | rw [upZ_e (by omega)] | rw [upZ_n (by omega)] | rw [shf_in (by omega) (by omega)] | rw [shf_out (by omega)] | rw [zer_in (by omega) (by omega)] | rw [zer_out (by omega)] | rw [cpyZ_in (by omega) (by omega)] | rw [cpyZ_out (by omega)] | rw [mapZ_in (by omega) (by omega)] | rw [mapZ_out (by omega)]))
    · unfold sp_X8_undo
      (repeat (first | rw [zif_pos (by omega)] | rw [zif_neg (by omega)]))
      omega
theorem op_save {F P N Hs : Nat → Nat → Int} {Gs : Nat → Nat → Nat → Int} {I L R : Nat → Nat → Int} (h : relA F P N Hs Gs I L R) :
    relA (up2 F 0 7 1) P (wCopy N P) Hs Gs I L (upA (up2 (up2 R 0 8 0) 0 4 1) 3 (cpyZ (R 1) (R 3) 0 0 125)) ∧ rSummed (R 1) 0 = P 3 1 + P 6 1 + P 9 1 := by
  obtain ⟨a1, a2, a3, a4, a5, a6, a7, a8, a9⟩ := h
  exact ⟨⟨a1, a2, a3, a4, Or.inr ⟨rfl, rfl, relP_ext (relP_copy a1) (fun j hj => by show cpyZ (R 1) (R 3) 0 0 125 j = R 1 j; (repeat (first | rw [upZ_s] | rw [upZ_e (by omega)] | rw [upZ_n (by omega)] | rw [shf_in (by omega) (by omega)] | rw [shf_out (by omega)] | rw [zer_in (by omega) (by omega)] | rw [zer_out (by omega)] | rw [cpyZ_in (by omega) (by omega)] | rw [cpyZ_out (by omega)] | rw [mapZ_in (by omega) (by omega)] | rw [mapZ_out (by omega)])); exact congrArg (R 1) (by omega))⟩, a6, a7, a8, a9⟩, rSum_cnt a1⟩
theorem op_restore {F P N Hs : Nat → Nat → Int} {Gs : Nat → Nat → Nat → Int} {I L R : Nat → Nat → Int} (h : relA F P N Hs Gs I L R) :
    (F 0 7 = 0 → relA F P N Hs Gs I L (upA (upA R 0 (sS0_0_X8_restore R)) 1 (sS0_1_X8_restore R)) ∧ (upA (upA R 0 (sS0_0_X8_restore R)) 1 (sS0_1_X8_restore R)) 0 8 = 1) ∧
    (F 0 7 = 1 → relA F (wCopy P N) N (up2 Hs 0 2 0) Gs I L (upA (upA R 0 (sS0_0_X8_restore R)) 1 (sS0_1_X8_restore R)) ∧ (upA (upA R 0 (sS0_0_X8_restore R)) 1 (sS0_1_X8_restore R)) 0 8 = 0 ∧ sp_X8_restore R = (wCopy P N) 3 1 + (wCopy P N) 6 1 + (wCopy P N) 9 1) := by
  obtain ⟨a1, a2, a3, a4, a5, a6, a7, a8, a9⟩ := h
  refine ⟨fun q => ?_, fun q => ?_⟩
  · have q4 : R 0 4 = 0 := by omega
    have e0 : sS0_0_X8_restore R = upZ (upZ (R 0) 8 1) 7 0 := by unfold sS0_0_X8_restore; (repeat (first | rw [zif_pos (by omega)] | rw [zif_neg (by omega)]))
    have e1 : sS0_1_X8_restore R = R 1 := by unfold sS0_1_X8_restore; (repeat (first | rw [zif_pos (by omega)] | rw [zif_neg (by omega)]))
    exact ⟨relA_fl ⟨a1, a2, a3, a4, a5, a6, a7, a8, a9⟩ e1 rfl rfl rfl rfl (fun i i7 i8 => by show sS0_0_X8_restore R i = R 0 i; rw [e0, upZ_n i7, upZ_n i8]), by show sS0_0_X8_restore R 8 = 1; rw [e0]; (repeat (first | rw [upZ_s] | rw [upZ_e (by omega)] | rw [upZ_n (by omega)] | rw [shf_in (by omega) (by omega)] | rw [shf_out (by omega)] | rw [zer_in (by omega) (by omega)] | rw [zer_out (by omega)] | rw [cpyZ_in (by omega) (by omega)] | rw [cpyZ_out (by omega)] | rw [mapZ_in (by omega) (by omega)] | rw [mapZ_out (by omega)]))⟩
  · have q4 : R 0 4 = 1 ∧ relP N (R 3) := by
      rcases a5 with ⟨b1, b2⟩ | ⟨b1, b2, b3⟩
      · omega
      · exact ⟨b2, b3⟩
    obtain ⟨q4, hN⟩ := q4
    have e0 : sS0_0_X8_restore R = upZ (upZ (upZ (R 0) 8 0) 7 0) 5 0 := by unfold sS0_0_X8_restore; (repeat (first | rw [zif_pos (by omega)] | rw [zif_neg (by omega)]))
    have e1 : sS0_1_X8_restore R = cpyZ (R 3) (R 1) 0 0 125 := by unfold sS0_1_X8_restore; (repeat (first | rw [zif_pos (by omega)] | rw [zif_neg (by omega)]))
    have f : ∀ i, i ≠ 5 → i ≠ 7 → i ≠ 8 → sS0_0_X8_restore R i = R 0 i := fun i i5 i7 i8 => by rw [e0, upZ_n i5, upZ_n i7, upZ_n i8]
    have r : relP (wCopy P N) (cpyZ (R 3) (R 1) 0 0 125) := relP_ext (relP_copy hN) (fun j hj => by (repeat (first | rw [upZ_s] | rw [upZ_e (by omega)] | rw [upZ_n (by omega)] | rw [shf_in (by omega) (by omega)] | rw [shf_out (by omega)] | rw [zer_in (by omega) (by omega)] | rw [zer_out (by omega)] | rw [cpyZ_in (by omega) (by omega)] | rw [cpyZ_out (by omega)] | rw [mapZ_in (by omega) (by omega)] | rw [mapZ_out (by omega)])); exact congrArg (R 3) (by omega))
    have h2 := a2.1
    refine ⟨⟨?_, ⟨h2, ⟨Int.le_refl 0, by show (0 : Int) ≤ 8; decide⟩, fun c c0 c1 => ?_⟩, ?_, (f 6 (by decide) (by decide) (by decide)).trans a4, ?_, (f 13 (by decide) (by decide) (by decide)).trans a6, ⟨(f 9 (by decide) (by decide) (by decide)).trans a7.1, (f 10 (by decide) (by decide) (by decide)).trans a7.2⟩, ?_, ?_⟩, ?_, ?_⟩
    · show relP (wCopy P N) (sS0_1_X8_restore R)
      rw [e1]
      exact r
    · exact absurd (show c < 0 from c1) (by omega)
    · show sS0_0_X8_restore R 5 = 0
      rw [e0, upZ_s]
    · show (F 0 7 = 0 ∧ sS0_0_X8_restore R 4 = 0) ∨ (F 0 7 = 1 ∧ sS0_0_X8_restore R 4 = 1 ∧ relP N (R 3))
      rw [f 4 (by decide) (by decide) (by decide)]
      exact a5
    · show (0 ≤ I 0 1 ∧ I 0 1 ≤ 60) ∧ sS0_0_X8_restore R 12 = I 0 1 ∧ (∀ j : Nat, (j : Int) < I 0 1 → R 5 j = I 1 j) ∧ ∀ j : Nat, 0 ≤ I 1 j ∧ I 1 j < 65536
      rw [f 12 (by decide) (by decide) (by decide)]
      exact a8
    · show (0 ≤ L 0 1 ∧ L 0 1 ≤ 39) ∧ sS0_0_X8_restore R 15 = L 0 1 ∧ ∀ j : Nat, (j : Int) < L 0 1 → R 6 j = L 1 j
      rw [f 15 (by decide) (by decide) (by decide)]
      exact a9
    · show sS0_0_X8_restore R 8 = 0
      rw [e0]
      (repeat (first | rw [upZ_s] | rw [upZ_e (by omega)] | rw [upZ_n (by omega)] | rw [shf_in (by omega) (by omega)] | rw [shf_out (by omega)] | rw [zer_in (by omega) (by omega)] | rw [zer_out (by omega)] | rw [cpyZ_in (by omega) (by omega)] | rw [cpyZ_out (by omega)] | rw [mapZ_in (by omega) (by omega)] | rw [mapZ_out (by omega)]))
    · unfold sp_X8_restore
      rw [zif_neg (by omega)]
      exact rSum_cnt r
theorem op_append {F P N Hs : Nat → Nat → Int} {Gs : Nat → Nat → Nat → Int} {I L R : Nat → Nat → Int} {p1 : Int} (h : relA F P N Hs Gs I L R) (hp : 0 ≤ p1 ∧ p1 < 65536) :
    (I 0 1 = 60 → relA F P N Hs Gs I L (upA (upA R 0 (sS0_0_X8_append R p1)) 5 (sS0_5_X8_append R p1)) ∧ (upA (upA R 0 (sS0_0_X8_append R p1)) 5 (sS0_5_X8_append R p1)) 0 8 = 1) ∧
    (I 0 1 < 60 → relA F P N Hs Gs (up2 (up2 I 1 ((I 0 1).toNat) p1) 0 1 ((I 0 1) + 1)) L (upA (upA R 0 (sS0_0_X8_append R p1)) 5 (sS0_5_X8_append R p1)) ∧ (upA (upA R 0 (sS0_0_X8_append R p1)) 5 (sS0_5_X8_append R p1)) 0 8 = 0 ∧ sp_X8_append R p1 = I 0 1 + 1) := by
  obtain ⟨a1, a2, a3, a4, a5, a6, a7, ⟨i1, i2, i3, i4⟩, a9⟩ := h
  refine ⟨fun q => ?_, fun q => ?_⟩
  · have e0 : sS0_0_X8_append R p1 = upZ (upZ (R 0) 8 1) 7 0 := by unfold sS0_0_X8_append; (repeat (first | rw [zif_pos (by omega)] | rw [zif_neg (by omega)]))
    have e1 : sS0_5_X8_append R p1 = R 5 := by unfold sS0_5_X8_append; (repeat (first | rw [zif_pos (by omega)] | rw [zif_neg (by omega)]))
    exact ⟨relA_fl ⟨a1, a2, a3, a4, a5, a6, a7, ⟨i1, i2, i3, i4⟩, a9⟩ rfl rfl rfl e1 rfl (fun i i7 i8 => by show sS0_0_X8_append R p1 i = R 0 i; rw [e0, upZ_n i7, upZ_n i8]), by show sS0_0_X8_append R p1 8 = 1; rw [e0]; (repeat (first | rw [upZ_s] | rw [upZ_e (by omega)] | rw [upZ_n (by omega)] | rw [shf_in (by omega) (by omega)] | rw [shf_out (by omega)] | rw [zer_in (by omega) (by omega)] | rw [zer_out (by omega)] | rw [cpyZ_in (by omega) (by omega)] | rw [cpyZ_out (by omega)] | rw [mapZ_in (by omega) (by omega)] | rw [mapZ_out (by omega)]))⟩
  · have e0 : sS0_0_X8_append R p1 = upZ (upZ (upZ (R 0) 8 0) 7 0) 12 (R 0 12 + 1) := by unfold sS0_0_X8_append; (repeat (first | rw [zif_pos (by omega)] | rw [zif_neg (by omega)]))
    have e1 : sS0_5_X8_append R p1 = upZ (R 5) ((R 0 12).toNat) p1 := by unfold sS0_5_X8_append; (repeat (first | rw [zif_pos (by omega)] | rw [zif_neg (by omega)]))
    have f : ∀ i, i ≠ 12 → i ≠ 7 → i ≠ 8 → sS0_0_X8_append R p1 i = R 0 i := fun i i5 i7 i8 => by rw [e0, upZ_n i5, upZ_n i7, upZ_n i8]
    refine ⟨⟨a1, a2, (f 5 (by decide) (by decide) (by decide)).trans a3, (f 6 (by decide) (by decide) (by decide)).trans a4, ?_, (f 13 (by decide) (by decide) (by decide)).trans a6, ⟨(f 9 (by decide) (by decide) (by decide)).trans a7.1, (f 10 (by decide) (by decide) (by decide)).trans a7.2⟩, ?_, ?_⟩, ?_, ?_⟩
    · show (F 0 7 = 0 ∧ sS0_0_X8_append R p1 4 = 0) ∨ (F 0 7 = 1 ∧ sS0_0_X8_append R p1 4 = 1 ∧ relP N (R 3))
      rw [f 4 (by decide) (by decide) (by decide)]
      exact a5
    · show (0 ≤ I 0 1 + 1 ∧ I 0 1 + 1 ≤ 60) ∧ sS0_0_X8_append R p1 12 = I 0 1 + 1 ∧ (∀ j : Nat, (j : Int) < I 0 1 + 1 → sS0_5_X8_append R p1 j = upZ (I 1) (I 0 1).toNat p1 j) ∧ ∀ j : Nat, 0 ≤ upZ (I 1) (I 0 1).toNat p1 j ∧ upZ (I 1) (I 0 1).toNat p1 j < 65536
      rw [e0, e1, i2]
      refine ⟨by omega, by (repeat (first | rw [upZ_s] | rw [upZ_e (by omega)] | rw [upZ_n (by omega)] | rw [shf_in (by omega) (by omega)] | rw [shf_out (by omega)] | rw [zer_in (by omega) (by omega)] | rw [zer_out (by omega)] | rw [cpyZ_in (by omega) (by omega)] | rw [cpyZ_out (by omega)] | rw [mapZ_in (by omega) (by omega)] | rw [mapZ_out (by omega)])), fun j hj => ?_, fun j => ?_⟩
      · by_cases z : j = (I 0 1).toNat
        · rw [z]; (repeat (first | rw [upZ_s] | rw [upZ_e (by omega)] | rw [upZ_n (by omega)] | rw [shf_in (by omega) (by omega)] | rw [shf_out (by omega)] | rw [zer_in (by omega) (by omega)] | rw [zer_out (by omega)] | rw [cpyZ_in (by omega) (by omega)] | rw [cpyZ_out (by omega)] | rw [mapZ_in (by omega) (by omega)] | rw [mapZ_out (by omega)]))
        · rw [upZ_n z, upZ_n z]; exact i3 j (by omega)
      · by_cases z : j = (I 0 1).toNat
        · rw [z, upZ_s]; exact hp
        · rw [upZ_n z]; exact i4 j
    · show (0 ≤ L 0 1 ∧ L 0 1 ≤ 39) ∧ sS0_0_X8_append R p1 15 = L 0 1 ∧ ∀ j : Nat, (j : Int) < L 0 1 → R 6 j = L 1 j
      rw [f 15 (by decide) (by decide) (by decide)]
      exact a9
    · show sS0_0_X8_append R p1 8 = 0
      rw [e0]
      (repeat (first | rw [upZ_s] | rw [upZ_e (by omega)] | rw [upZ_n (by omega)] | rw [shf_in (by omega) (by omega)] | rw [shf_out (by omega)] | rw [zer_in (by omega) (by omega)] | rw [zer_out (by omega)] | rw [cpyZ_in (by omega) (by omega)] | rw [cpyZ_out (by omega)] | rw [mapZ_in (by omega) (by omega)] | rw [mapZ_out (by omega)]))
    · unfold sp_X8_append
      (repeat (first | rw [zif_pos (by omega)] | rw [zif_neg (by omega)]))
      omega
theorem op_character {F P N Hs : Nat → Nat → Int} {Gs : Nat → Nat → Nat → Int} {I L R : Nat → Nat → Int} {p1 : Int} (h : relA F P N Hs Gs I L R) :
    (¬ (0 ≤ p1 ∧ p1 < L 0 1) → relA F P N Hs Gs I L (upA R 0 (sS0_0_X8_character R p1)) ∧ (upA R 0 (sS0_0_X8_character R p1)) 0 8 = 1) ∧
    (0 ≤ p1 ∧ p1 < L 0 1 → relA F P N Hs Gs I L (upA R 0 (sS0_0_X8_character R p1)) ∧ (upA R 0 (sS0_0_X8_character R p1)) 0 8 = 0 ∧ sp_X8_character R p1 = L 1 p1.toNat) := by
  have l2 := h.2.2.2.2.2.2.2.2.2.1
  have l3 := h.2.2.2.2.2.2.2.2.2.2
  refine ⟨fun q => ?_, fun q => ?_⟩
  · have e0 : sS0_0_X8_character R p1 = upZ (upZ (R 0) 8 1) 7 0 := by unfold sS0_0_X8_character; (repeat (first | rw [zif_pos (by omega)] | rw [zif_neg (by omega)]))
    exact ⟨relA_fl h rfl rfl rfl rfl rfl (fun i i7 i8 => by show sS0_0_X8_character R p1 i = R 0 i; rw [e0, upZ_n i7, upZ_n i8]), by show sS0_0_X8_character R p1 8 = 1; rw [e0]; (repeat (first | rw [upZ_s] | rw [upZ_e (by omega)] | rw [upZ_n (by omega)] | rw [shf_in (by omega) (by omega)] | rw [shf_out (by omega)] | rw [zer_in (by omega) (by omega)] | rw [zer_out (by omega)] | rw [cpyZ_in (by omega) (by omega)] | rw [cpyZ_out (by omega)] | rw [mapZ_in (by omega) (by omega)] | rw [mapZ_out (by omega)]))⟩
  · have e0 : sS0_0_X8_character R p1 = upZ (upZ (R 0) 8 0) 7 0 := by unfold sS0_0_X8_character; (repeat (first | rw [zif_pos (by omega)] | rw [zif_neg (by omega)]))
    exact ⟨relA_fl h rfl rfl rfl rfl rfl (fun i i7 i8 => by show sS0_0_X8_character R p1 i = R 0 i; rw [e0, upZ_n i7, upZ_n i8]), by show sS0_0_X8_character R p1 8 = 0; rw [e0]; (repeat (first | rw [upZ_s] | rw [upZ_e (by omega)] | rw [upZ_n (by omega)] | rw [shf_in (by omega) (by omega)] | rw [shf_out (by omega)] | rw [zer_in (by omega) (by omega)] | rw [zer_out (by omega)] | rw [cpyZ_in (by omega) (by omega)] | rw [cpyZ_out (by omega)] | rw [mapZ_in (by omega) (by omega)] | rw [mapZ_out (by omega)])), by unfold sp_X8_character; rw [zif_pos (by omega)]; exact l3 _ (by omega)⟩
theorem op_refusal {F P N Hs : Nat → Nat → Int} {Gs : Nat → Nat → Nat → Int} {I L R : Nat → Nat → Int} {p1 : Int} (h : relA F P N Hs Gs I L R) :
    (F 0 9 = 0 → relA F P N Hs Gs I L (upA R 0 (sS0_0_X8_refusal R p1)) ∧ (upA R 0 (sS0_0_X8_refusal R p1)) 0 8 = 1) ∧
    (¬ F 0 9 = 0 → relA F P N Hs Gs I L (upA R 0 (sS0_0_X8_refusal R p1)) ∧ (upA R 0 (sS0_0_X8_refusal R p1)) 0 8 = 0 ∧ sp_X8_refusal R p1 = sp_X7_refusal_ok F p1) := by
  have r9 := h.2.2.2.2.2.2.1.1
  have r10 := h.2.2.2.2.2.2.1.2
  refine ⟨fun q => ?_, fun q => ?_⟩
  · have e0 : sS0_0_X8_refusal R p1 = upZ (upZ (R 0) 8 1) 7 0 := by unfold sS0_0_X8_refusal; (repeat (first | rw [zif_pos (by omega)] | rw [zif_neg (by omega)]))
    exact ⟨relA_fl h rfl rfl rfl rfl rfl (fun i i7 i8 => by show sS0_0_X8_refusal R p1 i = R 0 i; rw [e0, upZ_n i7, upZ_n i8]), by show sS0_0_X8_refusal R p1 8 = 1; rw [e0]; (repeat (first | rw [upZ_s] | rw [upZ_e (by omega)] | rw [upZ_n (by omega)] | rw [shf_in (by omega) (by omega)] | rw [shf_out (by omega)] | rw [zer_in (by omega) (by omega)] | rw [zer_out (by omega)] | rw [cpyZ_in (by omega) (by omega)] | rw [cpyZ_out (by omega)] | rw [mapZ_in (by omega) (by omega)] | rw [mapZ_out (by omega)]))⟩
  · have e0 : sS0_0_X8_refusal R p1 = upZ (upZ (R 0) 8 0) 7 0 := by unfold sS0_0_X8_refusal; rw [zif_same, zif_neg (by omega)]
    exact ⟨relA_fl h rfl rfl rfl rfl rfl (fun i i7 i8 => by show sS0_0_X8_refusal R p1 i = R 0 i; rw [e0, upZ_n i7, upZ_n i8]), by show sS0_0_X8_refusal R p1 8 = 0; rw [e0]; (repeat (first | rw [upZ_s] | rw [upZ_e (by omega)] | rw [upZ_n (by omega)] | rw [shf_in (by omega) (by omega)] | rw [shf_out (by omega)] | rw [zer_in (by omega) (by omega)] | rw [zer_out (by omega)] | rw [cpyZ_in (by omega) (by omega)] | rw [cpyZ_out (by omega)] | rw [mapZ_in (by omega) (by omega)] | rw [mapZ_out (by omega)])), by unfold sp_X8_refusal sp_X7_refusal_ok; rw [zif_neg (by omega), r9, r10]⟩
theorem op_flag {F P N Hs : Nat → Nat → Int} {Gs : Nat → Nat → Nat → Int} {I L R : Nat → Nat → Int} {v : Int} (h : relA F P N Hs Gs I L R) : relA F P N Hs Gs I L (up2 R 0 8 v) ∧ (up2 R 0 8 v) 0 8 = v :=
  ⟨relA_fl h rfl rfl rfl rfl rfl (fun i i7 i8 => by show upZ (R 0) 8 v i = R 0 i; rw [upZ_n i8]), by show upZ (R 0) 8 v 8 = v; exact upZ_s⟩
