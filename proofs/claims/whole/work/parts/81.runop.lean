/-! run -/
theorem relI_s {I R : Nat → Nat → Int} (h : relI I R) : ∀ y : Int, 0 ≤ y → y < I 0 1 → rHr (R 5) (I 0 1) y = iSign (I 1) y := by
  intro y y0 y1
  obtain ⟨h1, -, h3, -⟩ := h
  rw [rHr_in y1, h3 y.toNat (by omega)]
  unfold iSign
  rw [zif_pos (by omega)]
set_option maxHeartbeats 4000000 in
theorem run_read {I R : Nat → Nat → Int} (h : relI I R) :
    (∀ j, j ≠ 16 → j ≠ 18 → sS0_0_X8_isText R j = R 0 j) ∧ (0 ≤ sS0_0_X8_isText R 16 ∧ sS0_0_X8_isText R 16 ≤ I 0 1) ∧ (0 ≤ sS0_0_X8_isText R 18 ∧ sS0_0_X8_isText R 18 ≤ 31) ∧
    ((sp_X8_isText R = 0 ∧ sp_X3_findError (up2 I 0 1 0) (I 0 1) = sS0_0_X8_isText R 16) ∨ (sp_X8_isText R = 1 ∧ sp_X3_findError (up2 I 0 1 0) (I 0 1) = -1 ∧ ∃ q : Nat, 1 ≤ q ∧ sS0_0_X8_isText R 18 = q ∧ (q : Int) ≤ 30 ∧ tOrd (I 1) (I 0 1) 0 q 0 (sS0_7_X8_isText R))) := by
  have t := text_eq (C := up2 I 0 1 0) (S := R) (n := I 0 1) (relI_s h) h.1 31 (upZ (upZ (R 0) 16 0) 18 0) (R 7) 0 0 61 (by rw [upZ_n (by decide), upZ_n (by decide)]; exact h.2.1) (by rw [upZ_n (by decide), upZ_s]) upZ_s (by decide) (by decide) (by have := h.1; omega) (by decide) (by have := h.1; omega)
  obtain ⟨t0, t16, t18, t⟩ := t
  refine ⟨fun j j6 j8 => ?_, t16, t18, ?_⟩
  · have e := t0 j j6 j8
    rw [upZ_n j8, upZ_n j6] at e
    exact e
  · rcases t with ⟨a, b⟩ | ⟨a, b, -, q, c, d, e, f⟩
    · exact Or.inl ⟨a, b⟩
    · refine Or.inr ⟨a, b, q, c, ?_, by omega, f⟩
      rw [show (q : Int) = 0 + (q : Int) by omega]
      exact d
theorem relA_run {F F' P P' N Hs Hs' : Nat → Nat → Int} {Gs Gs' : Nat → Nat → Nat → Int} {I L R R' : Nat → Nat → Int} (h : relA F P N Hs Gs I L R) (r1 : relP P' (R' 1)) (r2 : relH (Hs' 0 1) (Hs' 0 2) Gs' (R' 2)) (r3 : R' 3 = R 3) (r6 : R' 6 = R 6) (z5 : R' 0 5 = Hs' 0 2) (z6 : R' 0 6 = 0) (z4 : R' 0 4 = R 0 4) (z13 : R' 0 13 = F' 0 8) (z9 : R' 0 9 = F' 0 9) (z10 : R' 0 10 = F' 0 10) (z12 : R' 0 12 = 0) (z15 : R' 0 15 = R 0 15) (f7 : F' 0 7 = F 0 7) : relA F' P' N Hs' Gs' (up2 I 0 1 0) L R' := by
  obtain ⟨a1, a2, a3, a4, a5, a6, a7, a8, a9⟩ := h
  refine ⟨r1, r2, z5, z6, ?_, z13, ⟨z9, z10⟩, ⟨⟨by show (0 : Int) ≤ 0; omega, by show (0 : Int) ≤ 60; omega⟩, z12, fun j hj => absurd (show (j : Int) < 0 from hj) (by omega), a8.2.2.2⟩, ?_⟩
  · rw [f7, z4, r3]; exact a5
  · unfold relL at a9 ⊢
    rw [z15, r6]; exact a9
/-- the reference behind a text with an error -/
noncomputable def rErr (R : Nat → Nat → Int) : Nat → Nat → Int := upA (up2 (up2 (upA (upA R 0 (sS0_0_X8_isText R)) 7 (sS0_7_X8_isText R)) 0 13 ((sS0_0_X8_isText R) 16)) 0 12 0) 0 (upZ (upZ ((upZ (upZ (sS0_0_X8_isText R) 13 ((sS0_0_X8_isText R) 16)) 12 0)) 8 1) 7 0)
theorem op_run_e {F P N Hs : Nat → Nat → Int} {Gs : Nat → Nat → Nat → Int} {I L R : Nat → Nat → Int} (h : relA F P N Hs Gs I L R) (ht : sp_X8_isText R = 0) : ¬ sp_X3_findError (up2 I 0 1 0) (I 0 1) = -1 ∧ relA (up2 F 0 8 (sp_X3_findError (up2 I 0 1 0) (I 0 1))) P N Hs Gs (up2 I 0 1 0) L (rErr R) ∧ rErr R 0 8 = 1 := by
  obtain ⟨t0, t16, -, t⟩ := run_read h.2.2.2.2.2.2.2.1
  rcases t with ⟨a, b⟩ | ⟨a, -⟩
  · have e : ∀ i, i ≠ 7 → i ≠ 8 → i ≠ 12 → i ≠ 13 → i ≠ 16 → i ≠ 18 → rErr R 0 i = R 0 i := fun i i7 i8 i12 i13 i16 i18 => by
      show upZ (upZ ((upZ (upZ (sS0_0_X8_isText R) 13 ((sS0_0_X8_isText R) 16)) 12 0)) 8 1) 7 0 i = R 0 i
      rw [upZ_n i7, upZ_n i8, upZ_n i12, upZ_n i13]
      exact t0 i i16 i18
    obtain ⟨a1, a2, a3, a4, a5, a6, a7, a8, a9⟩ := id h
    refine ⟨by omega, relA_run h a1 a2 rfl rfl ?_ ?_ ?_ ?_ ?_ ?_ ?_ ?_ rfl, ?_⟩
    · rw [e 5 (by decide) (by decide) (by decide) (by decide) (by decide) (by decide)]; exact a3
    · rw [e 6 (by decide) (by decide) (by decide) (by decide) (by decide) (by decide)]; exact a4
    · exact e 4 (by decide) (by decide) (by decide) (by decide) (by decide) (by decide)
    · show upZ (upZ ((upZ (upZ (sS0_0_X8_isText R) 13 ((sS0_0_X8_isText R) 16)) 12 0)) 8 1) 7 0 13 = sp_X3_findError (up2 I 0 1 0) (I 0 1)
      rw [upZ_n (by decide), upZ_n (by decide), upZ_n (by decide), upZ_s, b]
    · rw [e 9 (by decide) (by decide) (by decide) (by decide) (by decide) (by decide)]; exact a7.1
    · rw [e 10 (by decide) (by decide) (by decide) (by decide) (by decide) (by decide)]; exact a7.2
    · show upZ (upZ ((upZ (upZ (sS0_0_X8_isText R) 13 ((sS0_0_X8_isText R) 16)) 12 0)) 8 1) 7 0 12 = 0
      rw [upZ_n (by decide), upZ_n (by decide), upZ_s]
    · exact e 15 (by decide) (by decide) (by decide) (by decide) (by decide) (by decide)
    · show upZ (upZ ((upZ (upZ (sS0_0_X8_isText R) 13 ((sS0_0_X8_isText R) 16)) 12 0)) 8 1) 7 0 8 = 1
      rw [upZ_n (by decide), upZ_s]
  · omega
/-- the reference as the orders begin -/
theorem rB_f {I R : Nat → Nat → Int} (h : relI I R) : (∀ i, i ≠ 6 → i ≠ 7 → i ≠ 8 → i ≠ 12 → i ≠ 13 → i ≠ 16 → i ≠ 18 → rB R 0 i = R 0 i) ∧ rB R 0 6 = 1 ∧ rB R 0 7 = 0 ∧ rB R 0 8 = 0 ∧ rB R 0 12 = 0 ∧ rB R 0 13 = -1 ∧ rB R 0 18 = sS0_0_X8_isText R 18 := by
  obtain ⟨t0, -⟩ := run_read h
  have e : rB R 0 = upZ (upZ (upZ ((upZ (upZ (sS0_0_X8_isText R) 13 (-1)) 12 0)) 8 0) 7 0) 6 1 := rfl
  rw [e]
  refine ⟨fun i i6 i7 i8 i12 i13 i16 i18 => ?_, upZ_s, ?_, ?_, ?_, ?_, ?_⟩
  · rw [upZ_n i6, upZ_n i7, upZ_n i8, upZ_n i12, upZ_n i13]
    exact t0 i i16 i18
  · rw [upZ_n (by decide), upZ_s]
  · rw [upZ_n (by decide), upZ_n (by decide), upZ_s]
  · rw [upZ_n (by decide), upZ_n (by decide), upZ_n (by decide), upZ_s]
  · rw [upZ_n (by decide), upZ_n (by decide), upZ_n (by decide), upZ_n (by decide), upZ_s]
  · rw [upZ_n (by decide), upZ_n (by decide), upZ_n (by decide), upZ_n (by decide), upZ_n (by decide)]
theorem keeps1_2 {S0 : Nat → Nat → Int} (hw : S0 0 6 = 0) : sS0_2_X8_keeps S0 1 = zif (S0 0 5 = 8) (cpyZ (S0 4) (shf (S0 2) 0 875 125) 0 (125 * (S0 0 5 - 1)).toNat 125) (cpyZ (S0 4) (S0 2) 0 (125 * S0 0 5).toNat 125) := by
  unfold sS0_2_X8_keeps
  rw [zif_neg (by decide), zif_pos hw]
theorem keeps1_0 {S0 : Nat → Nat → Int} (hw : S0 0 6 = 0) (h8 : S0 0 5 ≤ 8) : sS0_0_X8_keeps S0 1 = upZ (upZ (S0 0) 8 0) 5 (min (S0 0 5 + 1) 8) := by
  unfold sS0_0_X8_keeps
  rw [zif_neg (by decide), zif_pos hw]
  rcases Classical.em (S0 0 5 = 8) with q | q
  · rw [zif_pos q]
    funext j
    by_cases z : j = 5
    · rw [z]; (repeat (first | rw [upZ_s] | rw [upZ_e (by omega)] | rw [upZ_n (by omega)] | rw [shf_in (by omega) (by omega)] | rw [shf_out (by omega)] | rw [zer_in (by omega) (by omega)] | rw [zer_out (by omega)] | rw [cpyZ_in (by omega) (by omega)] | rw [cpyZ_out (by omega)] | rw [mapZ_in (by omega) (by omega)] | rw [mapZ_out (by omega)])); omega
    · (repeat (first | rw [upZ_s] | rw [upZ_e (by omega)] | rw [upZ_n (by omega)] | rw [shf_in (by omega) (by omega)] | rw [shf_out (by omega)] | rw [zer_in (by omega) (by omega)] | rw [zer_out (by omega)] | rw [cpyZ_in (by omega) (by omega)] | rw [cpyZ_out (by omega)] | rw [mapZ_in (by omega) (by omega)] | rw [mapZ_out (by omega)])); exact (upZ_n z).symm
  · rw [zif_neg q]
    rw [show min (S0 0 5 + 1) 8 = S0 0 5 + 1 by omega]
/-- the reference's end of a text that can be -/
noncomputable def rOk (S0 : Nat → Nat → Int) (q : Nat) : Nat → Nat → Int := upA (upA (up2 ((rPl (rB S0) q)) 0 6 0) 0 (sS0_0_X8_keeps (up2 ((rPl (rB S0) q)) 0 6 0) 1)) 2 (sS0_2_X8_keeps (up2 ((rPl (rB S0) q)) 0 6 0) 1)
/-- the start of the walk -/
theorem run_w {F P N Hs : Nat → Nat → Int} {Gs : Nat → Nat → Nat → Int} {I L R : Nat → Nat → Int} {K : Int} {q : Nat} (h : relA F P N Hs Gs I L R) (hq : 1 ≤ q) (ho : tOrd (I 1) (I 0 1) 0 q 0 (sS0_7_X8_isText R)) (hp : pK K P) (hg : zBk K (R 1)) (hK : 20 ≤ K) : ∀ j : Nat, j ≤ q → (∀ i : Nat, i < j → cVer (I 1) P (I 0 1) i = 0) → wkQ F (rB R) (rPl (rB R) j) (cPl (I 1) P (I 0 1) j) K j := by
  obtain ⟨f, f6, f7, f8, f12, f13, f18⟩ := rB_f h.2.2.2.2.2.2.2.1
  obtain ⟨a1, a2, a3, a4, a5, a6, a7, a8, a9⟩ := id h
  have hw : relW F P (rB R) := ⟨a1, f6, by rw [f 9 (by decide) (by decide) (by decide) (by decide) (by decide) (by decide) (by decide)]; exact a7.1, by rw [f 10 (by decide) (by decide) (by decide) (by decide) (by decide) (by decide) (by decide)]; exact a7.2⟩
  exact run_walk ho hq hw rfl f8 (by rw [f7]; decide) hp hg hK
set_option maxHeartbeats 4000000 in
theorem op_run_ok {F P N Hs Bp : Nat → Nat → Int} {Gs : Nat → Nat → Nat → Int} {I L R : Nat → Nat → Int} {i0 : Nat} {K : Int} {q : Nat} (h : relA F P N Hs Gs I L R) (ha : Hs 0 1 = (i0 : Int)) (hq : 1 ≤ q) (h18 : sS0_0_X8_isText R 18 = q) (ho : tOrd (I 1) (I 0 1) 0 q 0 (sS0_7_X8_isText R)) (hp : pK K P) (hg : zBk K (R 1)) (hK : 20 ≤ K) (hv : ∀ i : Nat, i < q → cVer (I 1) P (I 0 1) i = 0) :
    relA (up2 F 0 8 (-1)) (tPl (I 1) P (I 0 1).toNat) N (up2 (up2 Hs 0 1 (((Hs 0 1) + 1) % 8)) 0 2 (min ((Hs 0 2) + 1) 8)) (upG Gs i0 (wCopy (Gs i0) (wCopy Bp P))) (up2 I 0 1 0) L (rOk R q) ∧ rOk R q 0 8 = 0 ∧ sS0_0_X8_keeps (up2 ((rPl (rB R) q)) 0 6 0) 1 18 = iCount (I 1) (I 0 1) ∧ pK (K + 20 * q) (tPl (I 1) P (I 0 1).toNat) ∧ zBk (K + 20 * q) (rOk R q 1) := by
  obtain ⟨w1, w2, -, w4, w5⟩ := run_w h hq ho hp hg hK q (Nat.le_refl q) hv
  obtain ⟨f, f6, f7, f8, f12, f13, f18⟩ := rB_f h.2.2.2.2.2.2.2.1
  obtain ⟨a1, a2, a3, a4, a5, a6, a7, a8, a9⟩ := id h
  have n0 := (tPos_n ho hq).1
  have em : min (tPos (I 1) 0 q) (I 0 1) = I 0 1 := by rw [ho.1]; omega
  have ec : cPl (I 1) P (I 0 1) q = tPl (I 1) P (I 0 1).toNat := by unfold cPl; rw [em]
  have cq := cnt_q ho hq q (Nat.le_refl q)
  rw [em] at cq
  rw [ec] at w1 w4
  have y6 : (up2 ((rPl (rB R) q)) 0 6 0) 0 6 = 0 := rfl
  have y0 : ∀ i, i ≠ 6 → (up2 ((rPl (rB R) q)) 0 6 0) 0 i = rPl (rB R) q 0 i := fun i hi => upZ_n hi
  have x0 : ∀ i, i ≠ 6 → i ≠ 7 → i ≠ 8 → i ≠ 9 → i ≠ 10 → i ≠ 12 → i ≠ 13 → i ≠ 16 → i ≠ 18 → rPl (rB R) q 0 i = R 0 i := fun i i6 i7 i8 i9 i10 i12 i13 i16 i18 => (w2.1 i i7 i8 i9 i10).trans (f i i6 i7 i8 i12 i13 i16 i18)
  have y5 : (up2 ((rPl (rB R) q)) 0 6 0) 0 5 = Hs 0 2 := by rw [y0 5 (by decide), x0 5 (by decide) (by decide) (by decide) (by decide) (by decide) (by decide) (by decide) (by decide) (by decide)]; exact a3
  have hn := a2.2.1
  have k0 := keeps1_0 y6 (by omega)
  have k2 := keeps1_2 y6
  have G4 : (up2 ((rPl (rB R) q)) 0 6 0) 4 = cpyZ (R 1) (R 4) 0 0 125 := w2.2 4 (by decide) (by decide)
  have G2 : (up2 ((rPl (rB R) q)) 0 6 0) 2 = R 2 := w2.2 2 (by decide) (by decide)
  have hp4 : relP (wCopy Bp P) (cpyZ (R 1) (R 4) 0 0 125) := relP_ext (relP_copy a1) (fun j hj => by (repeat (first | rw [upZ_s] | rw [upZ_e (by omega)] | rw [upZ_n (by omega)] | rw [shf_in (by omega) (by omega)] | rw [shf_out (by omega)] | rw [zer_in (by omega) (by omega)] | rw [zer_out (by omega)] | rw [cpyZ_in (by omega) (by omega)] | rw [cpyZ_out (by omega)] | rw [mapZ_in (by omega) (by omega)] | rw [mapZ_out (by omega)])); exact congrArg (R 1) (by omega))
  have r := relH_rem a2 hp4 ha
  rw [G4, G2, y5] at k2
  rw [y5] at k0
  have z : ∀ i, i ≠ 5 → i ≠ 8 → rOk R q 0 i = (up2 ((rPl (rB R) q)) 0 6 0) 0 i := fun i i5 i8 => by
    show sS0_0_X8_keeps (up2 ((rPl (rB R) q)) 0 6 0) 1 i = _
    rw [k0, upZ_n i5, upZ_n i8]
  have zx : ∀ i, i ≠ 5 → i ≠ 8 → i ≠ 6 → rOk R q 0 i = rPl (rB R) q 0 i := fun i i5 i8 i6 => (z i i5 i8).trans (y0 i i6)
  refine ⟨relA_run h w1.1 ?_ ?_ ?_ ?_ ?_ ?_ ?_ ?_ ?_ ?_ ?_ rfl, ?_, ?_, w4, w5⟩
  · show relH _ _ _ (sS0_2_X8_keeps (up2 ((rPl (rB R) q)) 0 6 0) 1)
    rw [k2]
    exact r
  · exact w2.2 3 (by decide) (by decide)
  · exact w2.2 6 (by decide) (by decide)
  · show sS0_0_X8_keeps (up2 ((rPl (rB R) q)) 0 6 0) 1 5 = min (Hs 0 2 + 1) 8
    rw [k0, upZ_s]
  · rw [z 6 (by decide) (by decide)]; exact y6
  · rw [zx 4 (by decide) (by decide) (by decide)]; exact x0 4 (by decide) (by decide) (by decide) (by decide) (by decide) (by decide) (by decide) (by decide) (by decide)
  · rw [zx 13 (by decide) (by decide) (by decide), w2.1 13 (by decide) (by decide) (by decide) (by decide)]; exact f13
  · rw [zx 9 (by decide) (by decide) (by decide)]; exact w1.2.2.1
  · rw [zx 10 (by decide) (by decide) (by decide)]; exact w1.2.2.2
  · rw [zx 12 (by decide) (by decide) (by decide), w2.1 12 (by decide) (by decide) (by decide) (by decide)]; exact f12
  · rw [zx 15 (by decide) (by decide) (by decide)]; exact x0 15 (by decide) (by decide) (by decide) (by decide) (by decide) (by decide) (by decide) (by decide) (by decide)
  · show sS0_0_X8_keeps (up2 ((rPl (rB R) q)) 0 6 0) 1 8 = 0
    rw [k0, upZ_n (by decide), upZ_s]
  · rw [k0, upZ_n (by decide), upZ_n (by decide), y0 18 (by decide), w2.1 18 (by decide) (by decide) (by decide) (by decide), f18, h18, ← cq]
    unfold cntZ iCount
    rw [show (((I 0 1).toNat : Nat) : Int) = I 0 1 by omega]
/-- a text's end at the first order that can't be -/
theorem op_run_x {F F' P N Hs Bp Q X : Nat → Nat → Int} {Gs : Nat → Nat → Nat → Int} {I L R : Nat → Nat → Int} {c : Int} (h : relA F P N Hs Gs I L R) (hf : frW (rB R) X) (z9 : X 0 9 = F' 0 9) (z10 : X 0 10 = F' 0 10) (f8 : F' 0 8 = -1) (f7 : F' 0 7 = F 0 7) : relA F' (wCopy Q (wCopy Bp P)) N Hs Gs (up2 I 0 1 0) L (up2 (upA (up2 X 0 6 0) 1 (cpyZ (X 4) (X 1) 0 0 125)) 0 8 c) ∧ (up2 (upA (up2 X 0 6 0) 1 (cpyZ (X 4) (X 1) 0 0 125)) 0 8 c) 0 8 = c := by
  obtain ⟨f, f6, f7', f8', f12, f13, f18⟩ := rB_f h.2.2.2.2.2.2.2.1
  obtain ⟨a1, a2, a3, a4, a5, a6, a7, a8, a9⟩ := id h
  have e : ∀ i, i ≠ 6 → i ≠ 8 → (up2 (upA (up2 X 0 6 0) 1 (cpyZ (X 4) (X 1) 0 0 125)) 0 8 c) 0 i = X 0 i := fun i i6 i8 => by
    show upZ (upZ (X 0) 6 0) 8 c i = X 0 i
    rw [upZ_n i8, upZ_n i6]
  have x0 : ∀ i, i ≠ 6 → i ≠ 7 → i ≠ 8 → i ≠ 9 → i ≠ 10 → i ≠ 12 → i ≠ 13 → i ≠ 16 → i ≠ 18 → X 0 i = R 0 i := fun i i6 i7 i8 i9 i10 i12 i13 i16 i18 => (hf.1 i i7 i8 i9 i10).trans (f i i6 i7 i8 i12 i13 i16 i18)
  refine ⟨relA_run h ?_ ?_ ?_ ?_ ?_ ?_ ?_ ?_ ?_ ?_ ?_ ?_ f7, rfl⟩
  · show relP _ (cpyZ (X 4) (X 1) 0 0 125)
    rw [hf.2 4 (by decide) (by decide)]
    refine relP_ext (relP_copy (relP_copy a1)) (fun j hj => ?_)
    show cpyZ (cpyZ (R 1) (R 4) 0 0 125) (X 1) 0 0 125 j = R 1 j
    (repeat (first | rw [upZ_s] | rw [upZ_e (by omega)] | rw [upZ_n (by omega)] | rw [shf_in (by omega) (by omega)] | rw [shf_out (by omega)] | rw [zer_in (by omega) (by omega)] | rw [zer_out (by omega)] | rw [cpyZ_in (by omega) (by omega)] | rw [cpyZ_out (by omega)] | rw [mapZ_in (by omega) (by omega)] | rw [mapZ_out (by omega)]))
    exact congrArg (R 1) (by omega)
  · show relH _ _ _ (X 2)
    rw [hf.2 2 (by decide) (by decide)]
    exact a2
  · exact hf.2 3 (by decide) (by decide)
  · exact hf.2 6 (by decide) (by decide)
  · rw [e 5 (by decide) (by decide), x0 5 (by decide) (by decide) (by decide) (by decide) (by decide) (by decide) (by decide) (by decide) (by decide)]; exact a3
  · show upZ (upZ (X 0) 6 0) 8 c 6 = 0
    rw [upZ_n (by decide), upZ_s]
  · rw [e 4 (by decide) (by decide)]; exact x0 4 (by decide) (by decide) (by decide) (by decide) (by decide) (by decide) (by decide) (by decide) (by decide)
  · rw [e 13 (by decide) (by decide), hf.1 13 (by decide) (by decide) (by decide) (by decide), f13, f8]
  · rw [e 9 (by decide) (by decide)]; exact z9
  · rw [e 10 (by decide) (by decide)]; exact z10
  · rw [e 12 (by decide) (by decide), hf.1 12 (by decide) (by decide) (by decide) (by decide)]; exact f12
  · rw [e 15 (by decide) (by decide)]; exact x0 15 (by decide) (by decide) (by decide) (by decide) (by decide) (by decide) (by decide) (by decide) (by decide)

