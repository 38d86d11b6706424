/-! fresh, greyest, wouldStamp, isWell -/
theorem relA_q1 {F P N Hs : Nat → Nat → Int} {Gs : Nat → Nat → Nat → Int} {I L R : Nat → Nat → Int} (h : relA F P N Hs Gs I L R) {f : Nat → Int} {c : Int} (e : f = upZ (R 0) 8 c) : relA F P N Hs Gs I L (upA R 0 f) ∧ (upA R 0 f) 0 8 = c := by
  refine ⟨relA_fl h rfl rfl rfl rfl rfl (fun i i7 i8 => ?_), ?_⟩
  · show f i = R 0 i
    rw [e, upZ_n i8]
  · show f 8 = c
    rw [e, upZ_s]
theorem op_fresh {F P N Hs : Nat → Nat → Int} {Gs : Nat → Nat → Nat → Int} {I L R : Nat → Nat → Int} {p1 : Int} (h : relA F P N Hs Gs I L R) :
    (¬ (0 ≤ p1 ∧ p1 < P 13 1) → relA F P N Hs Gs I L (upA R 0 (sS0_0_X8_fresh R p1)) ∧ (upA R 0 (sS0_0_X8_fresh R p1)) 0 8 = 1) ∧ (0 ≤ p1 ∧ p1 < P 13 1 → (relA F P N Hs Gs I L (upA R 0 (sS0_0_X8_fresh R p1)) ∧ (upA R 0 (sS0_0_X8_fresh R p1)) 0 8 = 0) ∧ sp_X8_fresh R p1 = sp_X1_freshAt (sub2 P 13) p1) := by
  have f := fresh_all (p := p1) h.1.2.2.2.2.1
  exact ⟨fun q => relA_q1 h (f.2 q), fun q => ⟨relA_q1 h (f.1 q).2, (f.1 q).1⟩⟩
theorem op_greyest {F P N Hs : Nat → Nat → Int} {Gs : Nat → Nat → Nat → Int} {I L R : Nat → Nat → Int} {p1 : Int} (h : relA F P N Hs Gs I L R) :
    (¬ (0 ≤ p1 ∧ p1 < 3) → relA F P N Hs Gs I L (upA R 0 (sS0_0_X8_greyest R p1)) ∧ (upA R 0 (sS0_0_X8_greyest R p1)) 0 8 = 1) ∧ (0 ≤ p1 ∧ p1 < 3 → (relA F P N Hs Gs I L (upA R 0 (sS0_0_X8_greyest R p1)) ∧ (upA R 0 (sS0_0_X8_greyest R p1)) 0 8 = 0) ∧ sp_X8_greyest R p1 = sp_X5_greyestAt P p1) := by
  have f := greyest_all (p := p1) h.1
  exact ⟨fun q => relA_q1 h (f.2 q), fun q => ⟨relA_q1 h (f.1 q).2, (f.1 q).1⟩⟩
theorem relA_q4 {F P N Hs : Nat → Nat → Int} {Gs : Nat → Nat → Nat → Int} {I L R : Nat → Nat → Int} (h : relA F P N Hs Gs I L R) {f g : Nat → Int} {c : Int} (e : f = upZ (upZ (R 0) 8 c) 7 0) : relA F P N Hs Gs I L (upA (upA (upA R 0 f) 1 (R 1)) 4 g) ∧ (upA (upA (upA R 0 f) 1 (R 1)) 4 g) 0 8 = c := by
  refine ⟨relA_fl h rfl rfl rfl rfl rfl (fun i i7 i8 => ?_), ?_⟩
  · show f i = R 0 i
    rw [e, upZ_n i7, upZ_n i8]
  · show f 8 = c
    rw [e]
    (repeat (first | rw [upZ_s] | rw [upZ_e (by omega)] | rw [upZ_n (by omega)] | rw [shf_in (by omega) (by omega)] | rw [shf_out (by omega)] | rw [zer_in (by omega) (by omega)] | rw [zer_out (by omega)] | rw [cpyZ_in (by omega) (by omega)] | rw [cpyZ_out (by omega)] | rw [mapZ_in (by omega) (by omega)] | rw [mapZ_out (by omega)]))
theorem op_wouldStamp {F P N Hs : Nat → Nat → Int} {Gs : Nat → Nat → Nat → Int} {I L R : Nat → Nat → Int} {p1 : Int} (h : relA F P N Hs Gs I L R) :
    (¬ (0 ≤ p1 ∧ p1 < 3) → relA F P N Hs Gs I L (upA (upA (upA R 0 (sS0_0_X8_wouldStamp R p1)) 1 (R 1)) 4 (sS0_4_X8_wouldStamp R p1)) ∧ (upA (upA (upA R 0 (sS0_0_X8_wouldStamp R p1)) 1 (R 1)) 4 (sS0_4_X8_wouldStamp R p1)) 0 8 = 1) ∧ (0 ≤ p1 ∧ p1 < 3 → P 13 1 = 0 → relA F P N Hs Gs I L (upA (upA (upA R 0 (sS0_0_X8_wouldStamp R p1)) 1 (R 1)) 4 (sS0_4_X8_wouldStamp R p1)) ∧ (upA (upA (upA R 0 (sS0_0_X8_wouldStamp R p1)) 1 (R 1)) 4 (sS0_4_X8_wouldStamp R p1)) 0 8 = 2) ∧ (0 ≤ p1 ∧ p1 < 3 → 1 ≤ P 13 1 → (relA F P N Hs Gs I L (upA (upA (upA R 0 (sS0_0_X8_wouldStamp R p1)) 1 (R 1)) 4 (sS0_4_X8_wouldStamp R p1)) ∧ (upA (upA (upA R 0 (sS0_0_X8_wouldStamp R p1)) 1 (R 1)) 4 (sS0_4_X8_wouldStamp R p1)) 0 8 = 0) ∧ (∀ T : Nat → Nat → Int, p1 = 0 → sp_X8_wouldStamp R p1 = wInspN0 (wCopy T P) (P 3 1).toNat 2 5 - P 2 5) ∧ (∀ T : Nat → Nat → Int, p1 = 1 → sp_X8_wouldStamp R p1 = wInspN1 (wCopy T P) (P 6 1).toNat 5 5 - P 5 5) ∧ (∀ T : Nat → Nat → Int, p1 = 2 → sp_X8_wouldStamp R p1 = wInspN2 (wCopy T P) (P 9 1).toNat 8 5 - P 8 5)) := by
  have hP := h.1
  have c9 := hP.2.2.2.2.1.2.1
  refine ⟨fun q => relA_q4 h (by unfold sS0_0_X8_wouldStamp; rw [zif_neg (by omega)]), fun q w => relA_q4 h (by unfold sS0_0_X8_wouldStamp; rw [zif_pos (by omega), zif_pos (by omega)]), fun q w => ⟨relA_q4 h (by unfold sS0_0_X8_wouldStamp; rw [zif_pos (by omega), zif_neg (by omega)]), fun T z => ?_, fun T z => ?_, fun T z => ?_⟩⟩
  · subst z
    have c0 := relB_c hP.1
    unfold sp_X8_wouldStamp
    rw [zif_pos (by omega), zif_neg (by omega), c0.1]
    exact (stamp_0 hP w).symm
  · subst z
    have c0 := relB_c hP.2.1
    unfold sp_X8_wouldStamp
    rw [zif_pos (by omega), zif_neg (by omega), c0.1]
    exact (stamp_1 hP w).symm
  · subst z
    have c0 := relB_c hP.2.2.1
    unfold sp_X8_wouldStamp
    rw [zif_pos (by omega), zif_neg (by omega), c0.1]
    exact (stamp_2 hP w).symm
theorem op_isWell {F P N Hs : Nat → Nat → Int} {Gs : Nat → Nat → Nat → Int} {I L R : Nat → Nat → Int} (h : relA F P N Hs Gs I L R) : relA F P N Hs Gs I L (upA R 0 (sS0_0_X8_isWell R)) ∧ sp_X8_isWell R = zb (P 0 5 = (P 3 1 - wBlanks (P 4) (P 3 1)) + (P 6 1 - wBlanks (P 7) (P 6 1)) + (P 9 1 - wBlanks (P 10) (P 9 1)) + P 11 1 + (P 2 5 + P 5 5 + P 8 5) + P 0 7 + P 0 8) := by
  have hP := h.1
  have sm0 := rSum_cnt hP
  obtain ⟨b0, b1, b2, sh, cr, ⟨s0, s1, s2, s4, s5, s6, s7, s8⟩, st, f9⟩ := hP
  have sm1 : rSummed (R 1) 1 = wBlanks (P 4) (P 3 1) + wBlanks (P 7) (P 6 1) + wBlanks (P 10) (P 9 1) := by
    rw [rSum3, blanks_eq b0, blanks_eq b1, blanks_eq b2]
    unfold rSumT
    (repeat (first | rw [zif_pos (by omega)] | rw [zif_neg (by omega)]))
  have c10 := sh.2.1
  have e0 : sS0_0_X8_isWell R = upZ (R 0) 8 0 := by unfold sS0_0_X8_isWell; rw [zif_same]
  refine ⟨(relA_q1 h e0).1, ?_⟩
  unfold sp_X8_isWell zb
  refine zif_iff ?_
  rw [sm0, sm1, s2, st, s5, s6, c10]
  constructor <;> intro q <;> omega
