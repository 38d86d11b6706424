/-! the two questions of doubles -/
section STD
variable {l : Launch} {D : va_G} {k : Nat → ClassId} {a r o d : Nat → Nat} {K : Int} {F P T B N Hs : Nat → Nat → Int} {Gs : Nat → Nat → Nat → Int} {I L R J : Nat → Nat → Int} {X : Nat → UInt64}
theorem sm_2 {G : Nat → Int} (h : relP P G) : rSummed G 2 = wGreys (P 4) (P 3 1) + wGreys (P 7) (P 6 1) + wGreys (P 10) (P 9 1) := by
  rw [rSum3, greys_eq h.1, greys_eq h.2.1, greys_eq h.2.2.1]
  unfold rSumT
  (repeat (first | rw [zif_pos (by omega)] | rw [zif_neg (by omega)]))
theorem sm_1 {G : Nat → Int} (h : relP P G) : rSummed G 1 = wBlanks (P 4) (P 3 1) + wBlanks (P 7) (P 6 1) + wBlanks (P 10) (P 9 1) := by
  rw [rSum3, blanks_eq h.1, blanks_eq h.2.1, blanks_eq h.2.2.1]
  unfold rSumT
  (repeat (first | rw [zif_pos (by omega)] | rw [zif_neg (by omega)]))
theorem sm_3 {G : Nat → Int} (h : relP P G) : rSummed G 3 = P 2 4 + P 5 4 + P 8 4 := by
  obtain ⟨-, -, -, a4, -⟩ := h.1.2.2.1
  obtain ⟨-, -, -, b4, -⟩ := h.2.1.2.2.1
  obtain ⟨-, -, -, c4, -⟩ := h.2.2.1.2.2.1
  rw [rSum3]
  unfold rSumT
  (repeat (first | rw [zif_pos (by omega)] | rw [zif_neg (by omega)]))
  rw [← a4, ← b4, ← c4]
def zStd (l : Launch) (D : va_G) (k : Nat → ClassId) (a r o d : Nat → Nat) (K : Int) (F P T B N Hs : Nat → Nat → Int) (Gs : Nat → Nat → Nat → Int) (I L R J : Nat → Nat → Int) (X : Nat → UInt64) : Prop :=
  ∃ (R' : Nat → Nat → Int) (X' : Nat → UInt64) (kx : Int) (v : UInt64),
    zLC l yL_meanGrey wsL_meanGrey D k [.ref (a 0), .ref (d 0)] (wLaw k a r o d F P T B N Hs Gs I L R J X) kx (wLaw k a r o d F P T B N Hs Gs I L R J X') ∧
    zXd l yX8_meanGrey wsX8_meanGrey D k (r 0) 10 [] (wLaw k a r o d F P T B N Hs Gs I L R J X') v (wLaw k a r o d F P T B N Hs Gs I L R' J X') ∧
    R' 0 8 = kx ∧ (0 ≤ kx ∧ kx ≤ 3) ∧ (kx = 0 → ∃ n, fOk64 n ∧ v = UInt64.ofNat n ∧ X' 0 = v) ∧ Iv (K + 620) F P T B N Hs Gs I L R'
def zStf (l : Launch) (D : va_G) (k : Nat → ClassId) (a r o d : Nat → Nat) (K : Int) (F P T B N Hs : Nat → Nat → Int) (Gs : Nat → Nat → Nat → Int) (I L R J : Nat → Nat → Int) (X : Nat → UInt64) : Prop :=
  ∃ (R' : Nat → Nat → Int) (X' : Nat → UInt64) (kx : Int) (v : UInt32),
    zLC l yL_stampShare wsL_stampShare D k [.ref (a 0), .ref (d 0)] (wLaw k a r o d F P T B N Hs Gs I L R J X) kx (wLaw k a r o d F P T B N Hs Gs I L R J X') ∧
    zXf l yX8_stampShare wsX8_stampShare D k (r 0) 10 [] (wLaw k a r o d F P T B N Hs Gs I L R J X') v (wLaw k a r o d F P T B N Hs Gs I L R' J X') ∧
    R' 0 8 = kx ∧ (0 ≤ kx ∧ kx ≤ 3) ∧ (kx = 0 → ∃ m, fOk64 m ∧ FP.f2d v = UInt64.ofNat m ∧ X' 0 = FP.f2d v) ∧ Iv (K + 620) F P T B N Hs Gs I L R'
set_option maxHeartbeats 4000000 in
theorem st_meanGrey (hst : l.stackTraces = false) (h : Iv K F P T B N Hs Gs I L R) (hK : K + 620 ≤ 320000) : zStd l D k a r o d K F P T B N Hs Gs I L R J X := by
  have hP := h.1.1
  have kp := (iv_p h).2
  have w0 := wBlanks_bd (N := P 4) (c := P 3 1) kp.1.1
  have w1 := wBlanks_bd (N := P 7) (c := P 6 1) kp.2.1.1
  have w2 := wBlanks_bd (N := P 10) (c := P 9 1) kp.2.2.1.1
  have sd : rSummed (R 1) 0 - rSummed (R 1) 1 = (P 3 1 - wBlanks (P 4) (P 3 1)) + (P 6 1 - wBlanks (P 7) (P 6 1)) + (P 9 1 - wBlanks (P 10) (P 9 1)) := by rw [rSum_cnt hP, sm_1 hP]; omega
  have hd : 0 ≤ (P 3 1 - wBlanks (P 4) (P 3 1)) + (P 6 1 - wBlanks (P 7) (P 6 1)) + (P 9 1 - wBlanks (P 10) (P 9 1)) ∧ (P 3 1 - wBlanks (P 4) (P 3 1)) + (P 6 1 - wBlanks (P 7) (P 6 1)) + (P 9 1 - wBlanks (P 10) (P 9 1)) < 1000000 := ⟨by omega, by omega⟩
  have hd8 : 0 ≤ (rSummed (R 1) 0 - rSummed (R 1) 1) ∧ (rSummed (R 1) 0 - rSummed (R 1) 1) < 1000000 := by rw [sd]; exact hd
  have hk := h.2.1
  unfold zStd
  rcases (show (P 3 1 - wBlanks (P 4) (P 3 1)) + (P 6 1 - wBlanks (P 7) (P 6 1)) + (P 9 1 - wBlanks (P 10) (P 9 1)) = 0 ∨ 1 ≤ (P 3 1 - wBlanks (P 4) (P 3 1)) + (P 6 1 - wBlanks (P 7) (P 6 1)) + (P 9 1 - wBlanks (P 10) (P 9 1)) by omega) with c | c
  · have q := relA_q (f := upZ (upZ (R 0) 8 1) 7 0) (c := 1) h.1 rfl
    have hB := bA_q h.2 hK (((iv_r0 h).up (k := 8) (v := 1) ⟨by omega, by omega⟩).up (k := 7) (v := 0) ⟨by omega, by omega⟩)
    have hL := c_L_meanGrey_x l hst D k a d F P X (iv_p h) hd c
    have hX := c_X8_meanGrey_x l D k r R (iv_B h) (iv_T h) (iv_C h) hd8 (sd.trans c)
    refine ⟨_, _, 1, 0, lc_of hL (rm_i rfl rfl rfl rfl) sel_fpx, ?_, q.2, ⟨by decide, by decide⟩, fun w => absurd w (by decide), q.1, hB⟩
    unfold zXd
    exact ⟨_, _, _, _, rm_i rfl rfl rfl rfl, hX, sel_r, rfl⟩
  · have q := relA_q (f := upZ (upZ (R 0) 8 0) 7 0) (c := 0) h.1 rfl
    have hB := bA_q h.2 hK (((iv_r0 h).up (k := 8) (v := 0) ⟨by omega, by omega⟩).up (k := 7) (v := 0) ⟨by omega, by omega⟩)
    have hL := c_L_meanGrey_ok l hst D k a d F P X (iv_p h) hd c
    have hX := c_X8_meanGrey_ok l D k r R (iv_B h) (iv_T h) (iv_C h) hd8 (by rw [sd]; exact c)
    rw [sd, sm_2 hP] at hX
    obtain ⟨n, n1, n2⟩ := ddiv_ok (iI (wGreys (P 4) (P 3 1) + wGreys (P 7) (P 6 1) + wGreys (P 10) (P 9 1))) (y := (P 3 1 - wBlanks (P 4) (P 3 1)) + (P 6 1 - wBlanks (P 7) (P 6 1)) + (P 9 1 - wBlanks (P 10) (P 9 1))) ⟨c, by omega⟩
    refine ⟨_, _, 0, _, lc_of hL (rm_i rfl rfl rfl rfl) sel_fpx, ?_, q.2, ⟨by decide, by decide⟩, fun _ => ⟨n, n1, n2, rfl⟩, q.1, hB⟩
    unfold zXd
    exact ⟨_, _, _, _, rm_i rfl rfl rfl rfl, hX, sel_r, rfl⟩
set_option maxHeartbeats 4000000 in
theorem st_stampShare (hst : l.stackTraces = false) (h : Iv K F P T B N Hs Gs I L R) (hK : K + 620 ≤ 320000) : zStf l D k a r o d K F P T B N Hs Gs I L R J X := by
  have hP := h.1.1
  obtain ⟨bK, bp, bt, bb, bn, bg, b0, b1, b2, b3, b4, b5, b6, b7, bl, bf, bc, bq⟩ := id h.2
  have u0 := bp.1 2 (by decide) 4
  have u1 := bp.1 5 (by decide) 4
  have u2 := bp.1 8 (by decide) 4
  have nn := bq.1
  unfold nnP at nn
  have sd := sm_3 hP
  have hd : 0 ≤ P 2 4 + P 5 4 + P 8 4 ∧ P 2 4 + P 5 4 + P 8 4 < 1000000 := ⟨by omega, by omega⟩
  have hd8 : 0 ≤ (rSummed (R 1) 3) ∧ (rSummed (R 1) 3) < 1000000 := by rw [sd]; exact hd
  have g3 : R 1 3 = P 2 5 + P 5 5 + P 8 5 := hP.2.2.2.2.2.2.1
  unfold zStf
  rcases (show P 2 4 + P 5 4 + P 8 4 = 0 ∨ 1 ≤ P 2 4 + P 5 4 + P 8 4 by omega) with c | c
  · have q := relA_q (f := upZ (upZ (R 0) 8 1) 7 0) (c := 1) h.1 rfl
    have hB := bA_q h.2 hK ((b0.up (k := 8) (v := 1) ⟨by omega, by omega⟩).up (k := 7) (v := 0) ⟨by omega, by omega⟩)
    have hL := c_L_stampShare_x l hst D k a d F P X (iv_p h) hd c
    have hX := c_X8_stampShare_x l D k r R (iv_B h) (iv_T h) (iv_C h) hd8 (sd.trans c)
    refine ⟨_, _, 1, 0, lc_of hL (rm_i rfl rfl rfl rfl) sel_fpx, ?_, q.2, ⟨by decide, by decide⟩, fun w => absurd w (by decide), q.1, hB⟩
    unfold zXf
    exact ⟨_, _, _, _, rm_i rfl rfl rfl rfl, hX, sel_r, rfl⟩
  · have q := relA_q (f := upZ (upZ (R 0) 8 0) 7 0) (c := 0) h.1 rfl
    have hB := bA_q h.2 hK ((b0.up (k := 8) (v := 0) ⟨by omega, by omega⟩).up (k := 7) (v := 0) ⟨by omega, by omega⟩)
    have hL := c_L_stampShare_ok l hst D k a d F P X (iv_p h) hd c
    have hX := c_X8_stampShare_ok l D k r R (iv_B h) (iv_T h) (iv_C h) hd8 (by rw [sd]; exact c)
    rw [sd, g3] at hX
    obtain ⟨n, n1, n2⟩ := fdiv_ok (iI (P 2 5 + P 5 5 + P 8 5)) (y := P 2 4 + P 5 4 + P 8 4) ⟨c, by omega⟩
    obtain ⟨m, m1, m2⟩ := f2d_ok n1
    refine ⟨_, _, 0, _, lc_of hL (rm_i rfl rfl rfl rfl) sel_fpx, ?_, q.2, ⟨by decide, by decide⟩, fun _ => ⟨m, m1, by rw [n2]; exact m2, rfl⟩, q.1, hB⟩
    unfold zXf
    exact ⟨_, _, _, _, rm_i rfl rfl rfl rfl, hX, sel_r, rfl⟩
end STD
