/-! a text carried out: both -/
theorem vr_any {S : Nat → Nat → Int} {G : Nat → Int} {c b1 b2 b3 : Int} (h : relP S G) (hn : ¬ iNums c = -2) : sp_X5_verdictOn S c b1 b2 b3 = 0 ∨ sp_X5_verdictOn S c b1 b2 b3 = 6 ∨ sp_X5_verdictOn S c b1 b2 b3 = 7 ∨ (1 ≤ sp_X5_verdictOn S c b1 b2 b3 ∧ sp_X5_verdictOn S c b1 b2 b3 ≤ 5) := by
  have hc : c = 109 ∨ c = 116 ∨ c = 98 ∨ c = 105 ∨ c = 111 ∨ c = 115 ∨ c = 114 ∨ c = 104 ∨ c = 119 := by
    refine Classical.byContradiction fun q => hn ?_
    unfold iNums
    rw [zif_neg (by omega), zif_neg (by omega), zif_neg (by omega)]
  rcases hc with z | z | z | z | z | z | z | z | z
  · subst z
    rw [ver_make h]
    repeat (first | exact Or.inl rfl | exact Or.inr (Or.inl rfl) | exact Or.inr (Or.inr (Or.inl rfl)) | exact Or.inr (Or.inr (Or.inr ⟨by decide, by decide⟩)) | refine el1 (Q := fun z => z = 0 ∨ z = 6 ∨ z = 7 ∨ (1 ≤ z ∧ z ≤ 5)) (fun _ => ?_) (fun _ => ?_))
  · subst z
    rw [ver_tell h]
    repeat (first | exact Or.inl rfl | exact Or.inr (Or.inl rfl) | exact Or.inr (Or.inr (Or.inl rfl)) | exact Or.inr (Or.inr (Or.inr ⟨by decide, by decide⟩)) | refine el1 (Q := fun z => z = 0 ∨ z = 6 ∨ z = 7 ∨ (1 ≤ z ∧ z ≤ 5)) (fun _ => ?_) (fun _ => ?_))
  · subst z
    rw [ver_blank h]
    repeat (first | exact Or.inl rfl | exact Or.inr (Or.inl rfl) | exact Or.inr (Or.inr (Or.inl rfl)) | exact Or.inr (Or.inr (Or.inr ⟨by decide, by decide⟩)) | refine el1 (Q := fun z => z = 0 ∨ z = 6 ∨ z = 7 ∨ (1 ≤ z ∧ z ≤ 5)) (fun _ => ?_) (fun _ => ?_))
  · subst z
    rw [ver_inspect h]
    repeat (first | exact Or.inl rfl | exact Or.inr (Or.inl rfl) | exact Or.inr (Or.inr (Or.inl rfl)) | exact Or.inr (Or.inr (Or.inr ⟨by decide, by decide⟩)) | refine el1 (Q := fun z => z = 0 ∨ z = 6 ∨ z = 7 ∨ (1 ≤ z ∧ z ≤ 5)) (fun _ => ?_) (fun _ => ?_))
  · subst z
    rw [ver_leave h]
    repeat (first | exact Or.inl rfl | exact Or.inr (Or.inl rfl) | exact Or.inr (Or.inr (Or.inl rfl)) | exact Or.inr (Or.inr (Or.inr ⟨by decide, by decide⟩)) | refine el1 (Q := fun z => z = 0 ∨ z = 6 ∨ z = 7 ∨ (1 ≤ z ∧ z ≤ 5)) (fun _ => ?_) (fun _ => ?_))
  · subst z
    rw [ver_sell h]
    repeat (first | exact Or.inl rfl | exact Or.inr (Or.inl rfl) | exact Or.inr (Or.inr (Or.inl rfl)) | exact Or.inr (Or.inr (Or.inr ⟨by decide, by decide⟩)) | refine el1 (Q := fun z => z = 0 ∨ z = 6 ∨ z = 7 ∨ (1 ≤ z ∧ z ≤ 5)) (fun _ => ?_) (fun _ => ?_))
  · subst z
    rw [ver_repair h]
    repeat (first | exact Or.inl rfl | exact Or.inr (Or.inl rfl) | exact Or.inr (Or.inr (Or.inl rfl)) | exact Or.inr (Or.inr (Or.inr ⟨by decide, by decide⟩)) | refine el1 (Q := fun z => z = 0 ∨ z = 6 ∨ z = 7 ∨ (1 ≤ z ∧ z ≤ 5)) (fun _ => ?_) (fun _ => ?_))
  · subst z
    rw [ver_hire h]
    repeat (first | exact Or.inl rfl | exact Or.inr (Or.inl rfl) | exact Or.inr (Or.inr (Or.inl rfl)) | exact Or.inr (Or.inr (Or.inr ⟨by decide, by decide⟩)) | refine el1 (Q := fun z => z = 0 ∨ z = 6 ∨ z = 7 ∨ (1 ≤ z ∧ z ≤ 5)) (fun _ => ?_) (fun _ => ?_))
  · subst z
    rw [ver_week]
    repeat (first | exact Or.inl rfl | exact Or.inr (Or.inl rfl) | exact Or.inr (Or.inr (Or.inl rfl)) | exact Or.inr (Or.inr (Or.inr ⟨by decide, by decide⟩)) | refine el1 (Q := fun z => z = 0 ∨ z = 6 ∨ z = 7 ∨ (1 ≤ z ∧ z ≤ 5)) (fun _ => ?_) (fun _ => ?_))
section STR
variable {l : Launch} {D : va_G} {k : Nat → ClassId} {a r o d : Nat → Nat} {K : Int} {F P T B N Hs : Nat → Nat → Int} {Gs : Nat → Nat → Nat → Int} {I L R J : Nat → Nat → Int} {X : Nat → UInt64}
theorem it_0 (h : Iv K F P T B N Hs Gs I L R) : zBk (4 * K) (sS0_0_X8_isText R) := by
  obtain ⟨t0, t16, t18, -⟩ := run_read h.1.2.2.2.2.2.2.2.1
  have hi := iv_I0 h
  have hk := h.2.1
  refine zBk_fr (iv_r0 h) (fun j => ?_)
  by_cases z : j = 16
  · subst z; exact Or.inr ⟨by omega, by omega⟩
  · by_cases y : j = 18
    · subst y; exact Or.inr ⟨by omega, by omega⟩
    · exact Or.inl (t0 j z y)
theorem it_7 (h : Iv K F P T B N Hs Gs I L R) : zBk 70000 (sS0_7_X8_isText R) := by
  unfold sS0_7_X8_isText
  exact text_bd (K := 70000) (fun j => by have := iv_r5 h j; exact ⟨by omega, by omega⟩) (by decide) _ _ _ (iv_r7 h)
theorem rB_0 (h : Iv K F P T B N Hs Gs I L R) : zBk (4 * K) (rB R 0) := by
  have hk := h.2.1
  have z := it_0 h
  show zBk (4 * K) (upZ (upZ (upZ (upZ (upZ (sS0_0_X8_isText R) 13 (-1)) 12 0) 8 0) 7 0) 6 1)
  exact ((((z.up ⟨by omega, by omega⟩).up ⟨by omega, by omega⟩).up ⟨by omega, by omega⟩).up ⟨by omega, by omega⟩).up ⟨by omega, by omega⟩
/-- a state of the walk -/
theorem rn_0 {K1 : Int} {Y : Nat → Nat → Int} (h : Iv K F P T B N Hs Gs I L R) (hK : K ≤ K1) (hf : frW (rB R) Y) (h7 : -(4 * K1) ≤ Y 0 7 ∧ Y 0 7 ≤ 4 * K1) (h8 : -(4 * K1) ≤ Y 0 8 ∧ Y 0 8 ≤ 4 * K1) (h9 : -(4 * K1) ≤ Y 0 9 ∧ Y 0 9 ≤ 4 * K1) (h10 : -(4 * K1) ≤ Y 0 10 ∧ Y 0 10 ≤ 4 * K1) : zBk (4 * K1) (Y 0) := by
  refine zBk_fr ((rB_0 h).mono (by omega)) (fun j => ?_)
  by_cases z7 : j = 7
  · subst z7; exact Or.inr h7
  · by_cases z8 : j = 8
    · subst z8; exact Or.inr h8
    · by_cases z9 : j = 9
      · subst z9; exact Or.inr h9
      · by_cases z10 : j = 10
        · subst z10; exact Or.inr h10
        · exact Or.inl (hf.1 j z7 z8 z9 z10)
theorem rn_ok {F' S Y : Nat → Nat → Int} (h : Iv K F P T B N Hs Gs I L R) (hw : relW F' S Y) (hf : frW (rB R) Y) (g : zBk 900000 (Y 1)) (b : zBf (Y 0)) : rOK Y ∧ Y 0 18 = sS0_0_X8_isText R 18 ∧ Y 7 = sS0_7_X8_isText R := by
  obtain ⟨f, f6, f7, f8, f12, f13, f18⟩ := rB_f h.1.2.2.2.2.2.2.2.1
  have e5 : Y 0 5 = R 0 5 := (hf.1 5 (by decide) (by decide) (by decide) (by decide)).trans (f 5 (by decide) (by decide) (by decide) (by decide) (by decide) (by decide) (by decide))
  refine ⟨⟨g, b, relP_C hw.1, relP_I hw.1, relP_F hw.1, by rw [e5]; exact iv_5 h, Or.inr hw.2.1⟩, (hf.1 18 (by decide) (by decide) (by decide) (by decide)).trans f18, hf.2 7 (by decide) (by decide)⟩
set_option maxHeartbeats 4000000 in
theorem st_run (hst : l.stackTraces = false) (h : Iv K F P T B N Hs Gs I L R) (hK : K + 620 ≤ 320000) : zStp l D k a r o d yL_run wsL_run yX8_run wsX8_run [] zAny K F P T B N Hs Gs I L R J X := by
  have hI := h.1.2.2.2.2.2.2.2.1
  obtain ⟨t0, t16, t18, t⟩ := run_read hI
  obtain ⟨bK, bp, bt, bb, bn, bg, b0, b1, b2, b3, b4, b5, b6, b7, bl, bf, bc, bq⟩ := id h.2
  have i0r := iv_I0 h
  have z0 := it_0 h
  have z7 := it_7 h
  have hBt : zBf (sS0_7_X8_isText R) := z7.f (by decide)
  have cb := pK_copy bb bp
  rcases t with ⟨ht, -⟩ | ⟨ht, he, q, q1, h18, q30, ho⟩
  · obtain ⟨he, y1, y2⟩ := op_run_e h.1 ht
    have hX := c_X8_run_e l D k r R (iv_B0 h) (iv_B5 h) (iv_12 h) ht
    have s0 : zBk (4 * K) (rErr R 0) := by
      show zBk (4 * K) (upZ (upZ (upZ (upZ (sS0_0_X8_isText R) 13 (sS0_0_X8_isText R 16)) 12 0) 8 1) 7 0)
      exact (((z0.up ⟨by omega, by omega⟩).up ⟨by omega, by omega⟩).up ⟨by omega, by omega⟩).up ⟨by omega, by omega⟩
    exact stp_i (c_L_run_e l hst D k a o F I J (iv_I1 h) (iv_I0 h) he) (rm_i rfl rfl rfl rfl) sel_fij hX (rm_i rfl rfl rfl rfl) y2 ⟨by decide, by decide⟩ (fun w => absurd w (by decide)) (fun _ => trivial) ⟨y1, bA_i ⟨by omega, hK⟩ (bp.mono (by omega)) bt (bb.mono (by omega)) (bn.mono (by omega)) (fun i hi => (bg i hi).mono (by omega)) (s0.mono (by omega)) (b1.mono (by omega)) (b2.mono (by omega)) (b3.mono (by omega)) (b4.mono (by omega)) b5 b6 z7 bl bf bc bq⟩
  · have n0 := tPos_n ho q1
    have ww := run_w h.1 q1 ho bp b1 (by omega)
    have a7 := h.1.2.2.2.2.2.2.1
    have b10 := b0 10
    have fin : ∀ j : Nat, j ≤ q → (∀ i : Nat, i < j → cVer (I 1) P (I 0 1) i = 0) → rOK (rPl (rB R) j) ∧ (rPl (rB R) j) 0 18 = sS0_0_X8_isText R 18 ∧ (rPl (rB R) j) 7 = sS0_7_X8_isText R := by
      intro j hj hv
      obtain ⟨w1, w2, w3, w4, w5⟩ := ww j hj hv
      have zz := rn_0 h (Int.le_refl K) w2 ⟨by omega, by omega⟩ ⟨by omega, by omega⟩ (by rw [w1.2.2.1]; exact ⟨by omega, by omega⟩) (by rw [w1.2.2.2, ← a7.2]; exact b10)
      exact rn_ok h w1 w2 (w5.mono (by omega)) (zz.f (by omega))
    have pin : ∀ j : Nat, j ≤ q → (∀ i : Nat, i < j → cVer (I 1) P (I 0 1) i = 0) → pOK (cPl (I 1) P (I 0 1) j) := fun j hj hv => (ww j hj hv).2.2.2.1.mono (by omega)
    rcases first_bad (cVer (I 1) P (I 0 1)) q with hv | ⟨j, hj, hb, hv⟩
    · obtain ⟨i0, hi, ha⟩ := iv_i h
      obtain ⟨y1, y2, y3, y4, y5⟩ := op_run_ok (Bp := B) h.1 ha q1 h18 ho bp b1 (by omega) hv
      obtain ⟨w1, w2, w3, w4, w5⟩ := ww q (Nat.le_refl q) hv
      have eq : (sS0_0_X8_isText R 18).toNat = q := by omega
      have hX := c_X8_run_ok l D k r R (iv_B0 h) (iv_B5 h) (iv_12 h) ⟨by omega, by omega⟩ hBt ht (iv_5 h) (iv_B h) (t0 5 (by decide) (by decide)) (fun n hn => fin n (by omega) (fun i hi => hv i (by omega))) (fun n n1 hn => (ww n (by omega) (fun i hi => hv i (by omega))).2.2.1.1)
      rw [eq] at hX
      have hL := c_L_run_ok l hst D k a o F P B Hs (Gs i0) I J i0 (iv_p h) (iv_b h) (iv_I1 h) (iv_I0 h) he (fun y hy => by obtain ⟨i, hi, ei⟩ := tPl_loc (P := P) ho q1 q (Nat.le_refl q) y hy (by rw [ho.1]; omega); rw [ei]; exact pin i hi (fun u hu => hv u (by omega))) (fun x x0 x1 xn => by obtain ⟨i, hi, ei⟩ := tPos_loc ho q (Nat.le_refl q) x x0 x1 (by rw [ho.1]; omega) xn; have z := hv i hi; have nn := (n0.2 i (by omega)).2.2 hi; unfold cVer cPl at z; rw [show min (tPos (I 1) 0 i) (I 0 1) = tPos (I 1) 0 i by omega, ← ei] at z; exact z) ⟨ha, hi⟩ (iv_hn h)
      rw [he] at hL
      have zz := rn_0 h (Int.le_refl K) w2 ⟨by omega, by omega⟩ ⟨by omega, by omega⟩ (by rw [w1.2.2.1]; exact ⟨by omega, by omega⟩) (by rw [w1.2.2.2, ← a7.2]; exact b10)
      have y6 : zBk (4 * K) ((up2 (rPl (rB R) q) 0 6 0) 0) := zz.up ⟨by omega, by omega⟩
      have e5 : (up2 (rPl (rB R) q) 0 6 0) 0 5 = R 0 5 := by
        obtain ⟨f, -⟩ := rB_f hI
        exact (w2.1 5 (by decide) (by decide) (by decide) (by decide)).trans (f 5 (by decide) (by decide) (by decide) (by decide) (by decide) (by decide) (by decide))
      have s0 : zBk (4 * K) (rOk R q 0) := sc_keeps (S := up2 (rPl (rB R) q) 0 6 0) y6 bK.1 (by rw [e5]; exact iv_5 h)
      have r4 : rPl (rB R) q 4 = cpyZ (R 1) (R 4) 0 0 125 := w2.2 4 (by decide) (by decide)
      have r2 : rPl (rB R) q 2 = R 2 := w2.2 2 (by decide) (by decide)
      have s4 : zBk K (rPl (rB R) q 4) := by rw [r4]; exact b1.cpy b4 _ _ _
      have s2 : zBk (K + 20 * q) (rOk R q 2) := sd_keeps (S := up2 (rPl (rB R) q) 0 6 0) w5 (show zBk _ (rPl (rB R) q 2) by rw [r2]; exact b2.mono (by omega)) (s4.mono (by omega))
      have r3 : rOk R q 3 = R 3 := w2.2 3 (by decide) (by decide)
      have r5 : rOk R q 5 = R 5 := w2.2 5 (by decide) (by decide)
      have r6 : rOk R q 6 = R 6 := w2.2 6 (by decide) (by decide)
      have r7 : rOk R q 7 = sS0_7_X8_isText R := w2.2 7 (by decide) (by decide)
      exact stp_i hL (rm_i rfl rfl rfl rfl) (sel_fpbhgij i0 hi) hX (rm_i rfl rfl rfl rfl) y2 ⟨by decide, by decide⟩ (fun _ => y3.symm) (fun _ => trivial) ⟨y1, bA_i ⟨by omega, hK⟩ (y4.mono (by omega)) bt (cb.mono (by omega)) (bn.mono (by omega)) (fun i hi2 => (bg_up bg hi cb i hi2).mono (by omega)) (s0.mono (by omega)) (y5.mono (by omega)) (s2.mono (by omega)) (show zBk (K + 620) (rOk R q 3) by rw [r3]; exact b3.mono (by omega)) (s4.mono (by omega)) (show rowR (rOk R q 5) by rw [r5]; exact b5) (show rowR (rOk R q 6) by rw [r6]; exact b6) (show zBk 70000 (rOk R q 7) by rw [r7]; exact z7) bl bf (show ∀ b : Int, 0 ≤ b → b ≤ 2 → 0 ≤ rOk R q 3 (15 + 26 * b + 0).toNat ∧ rOk R q 3 (15 + 26 * b + 0).toNat ≤ 5 by rw [r3]; exact bc) ⟨nn_tPl bq.1 _, bq.2.1, nq_up bq.2.2 (nn_copy (S := B) bq.1)⟩⟩
    · obtain ⟨w1, w2, w3, w4, w5⟩ := ww j (by omega) hv
      have nj := (n0.2 j (by omega)).2.2 hj
      have nj0 := (n0.2 j (by omega)).1
      have to := ho.2 j hj
      obtain ⟨x, ex⟩ : ∃ x : Nat, (x : Int) = tPos (I 1) 0 j := ⟨(tPos (I 1) 0 j).toNat, by omega⟩
      have ec : cPl (I 1) P (I 0 1) j = tPl (I 1) P x := by
        unfold cPl
        rw [show min (tPos (I 1) 0 j) (I 0 1) = (x : Int) by omega, Int.toNat_natCast]
      have hn : ¬ iNums (iSign (I 1) (x : Int)) = -2 := by rw [ex]; exact to.2.1
      have B7 : rPl (rB R) j 7 = sS0_7_X8_isText R := w2.2 7 (by decide) (by decide)
      have cw := carW (t := 4 * (j : Int)) (c := iSign (I 1) (x : Int)) (b1 := iNumb (I 1) ((x : Int) + 1)) (b2 := iNumb (I 1) ((x : Int) + 2)) (b3 := iNumb (I 1) ((x : Int) + 3)) w1 (by rw [B7, ex]; have z := to.2.2.1; rw [Int.zero_add] at z; exact z) hn (fun u => by rw [B7, ex]; have z := to.2.2.2.1 (by rw [← ex]; exact u); rw [Int.zero_add] at z; exact z) (fun u => by rw [B7, ex]; have z := to.2.2.2.2.1 (by rw [← ex]; exact u); rw [Int.zero_add] at z; exact z)
      rw [ec] at cw w1 w4
      have hb : ¬ sp_X5_verdictOn (tPl (I 1) P x) (iSign (I 1) (x : Int)) (iNumb (I 1) ((x : Int) + 1)) (iNumb (I 1) ((x : Int) + 2)) (iNumb (I 1) ((x : Int) + 3)) = 0 := by
        intro z
        refine hb ?_
        unfold cVer
        rw [ec, ← ex]
        exact z
      have gx : zBk (K + 20 * j + 20) (rCrr (rPl (rB R) j) (4 * (j : Int)) 1) := gb_car w1.1 w5 (by omega)
      obtain ⟨Y, eY⟩ : ∃ Y, Y = rCrr (rPl (rB R) j) (4 * (j : Int)) := ⟨_, rfl⟩
      have hPk : ∀ y : Nat, y ≤ x → pOK (tPl (I 1) P y) := fun y hy => by
        obtain ⟨i, hi, ei⟩ := tPl_loc (P := P) ho q1 j (by omega) y (by omega) (by omega)
        rw [ei]
        exact pin i (by omega) (fun u hu => hv u (by omega))
      have hV : ∀ y : Int, 0 ≤ y → y < (x : Int) → ¬ iNums (iSign (I 1) y) = -2 → tVer (I 1) (tPl (I 1) P y.toNat) y = 0 := fun y y0 y1 yn => by
        obtain ⟨i, hi, ei⟩ := tPos_loc ho j (by omega) y y0 (by omega) (by omega) yn
        have z := hv i hi
        have nn := (n0.2 i (by omega)).2.2 (by omega)
        unfold cVer cPl at z
        rw [show min (tPos (I 1) 0 i) (I 0 1) = tPos (I 1) 0 i by omega, ← ei] at z
        exact z
      have go : ∀ (F' : Nat → Nat → Int) (c : Int), frW (rPl (rB R) j) Y → relW F' (tPl (I 1) P x) Y → (1 ≤ Y 0 8 ∧ Y 0 8 ≤ 3) → (0 ≤ Y 0 7 ∧ Y 0 7 ≤ 1) → (0 ≤ F' 0 9 ∧ F' 0 9 ≤ 5) → (-(4 * (K + 620)) ≤ F' 0 10 ∧ F' 0 10 ≤ 4 * (K + 620)) → F' 0 8 = -1 → F' 0 7 = F 0 7 → (0 ≤ c ∧ c ≤ 3) →
          (∀ n : Nat, (n : Int) ≤ (j : Int) + 1 → rOK (rPl (rB R) n) ∧ (rPl (rB R) n) 0 18 = sS0_0_X8_isText R 18 ∧ (rPl (rB R) n) 7 = sS0_7_X8_isText R) ∧
          (up2 (upA (up2 Y 0 6 0) 1 (cpyZ (Y 4) (Y 1) 0 0 125)) 0 8 c) 0 8 = c ∧ Iv (K + 620) F' (wCopy (tPl (I 1) P x) (wCopy B P)) T (wCopy B P) N Hs Gs (up2 I 0 1 0) L (up2 (upA (up2 Y 0 6 0) 1 (cpyZ (Y 4) (Y 1) 0 0 125)) 0 8 c) := by
        intro F' c fr rw8 h8 h7 h9 h10 f8 f7 hc
        have fr2 := frW_tr w2 fr
        have zz := rn_0 (K1 := K + 620) h (by omega) fr2 ⟨by omega, by omega⟩ ⟨by omega, by omega⟩ (by rw [rw8.2.2.1]; exact ⟨by omega, by omega⟩) (by rw [rw8.2.2.2]; exact h10)
        have x4 : Y 4 = cpyZ (R 1) (R 4) 0 0 125 := fr2.2 4 (by decide) (by decide)
        have s4 : zBk K (Y 4) := by rw [x4]; exact b1.cpy b4 _ _ _
        have g1 : zBk (K + 620) (Y 1) := by rw [eY]; exact gx.mono (by omega)
        have x2 : Y 2 = R 2 := fr2.2 2 (by decide) (by decide)
        have x3 : Y 3 = R 3 := fr2.2 3 (by decide) (by decide)
        have x5 : Y 5 = R 5 := fr2.2 5 (by decide) (by decide)
        have x6 : Y 6 = R 6 := fr2.2 6 (by decide) (by decide)
        have x7 : Y 7 = sS0_7_X8_isText R := fr2.2 7 (by decide) (by decide)
        obtain ⟨y1, y2⟩ := op_run_x (Q := tPl (I 1) P x) (Bp := B) (c := c) h.1 fr2 rw8.2.2.1 rw8.2.2.2 f8 f7
        refine ⟨fun n hn => ?_, y2, y1, bA_i ⟨by omega, hK⟩ (pK_copy (w4.mono (by omega)) (cb.mono (by omega))) bt (cb.mono (by omega)) (bn.mono (by omega)) (fun i hi => (bg i hi).mono (by omega)) ((zz.up (k := 6) (v := 0) ⟨by omega, by omega⟩).up (k := 8) (v := c) ⟨by omega, by omega⟩) (show zBk (K + 620) (cpyZ (Y 4) (Y 1) 0 0 125) from (s4.mono (by omega)).cpy g1 _ _ _) (show zBk (K + 620) (Y 2) by rw [x2]; exact b2.mono (by omega)) (show zBk (K + 620) (Y 3) by rw [x3]; exact b3.mono (by omega)) (s4.mono (by omega)) (show rowR (Y 5) by rw [x5]; exact b5) (show rowR (Y 6) by rw [x6]; exact b6) (show zBk 70000 (Y 7) by rw [x7]; exact z7) bl h9 (show ∀ b : Int, 0 ≤ b → b ≤ 2 → 0 ≤ Y 3 (15 + 26 * b + 0).toNat ∧ Y 3 (15 + 26 * b + 0).toNat ≤ 5 by rw [x3]; exact bc) ⟨nn_copy (nn_copy bq.1), bq.2⟩⟩
        rcases (show n ≤ j ∨ n = j + 1 by omega) with z | z
        · exact fin n (by omega) (fun i hi => hv i (by omega))
        · subst z
          rw [show rPl (rB R) (j + 1) = Y from eY.symm]
          exact rn_ok h rw8 fr2 (g1.mono (by omega)) (zz.f (by omega))
      rw [← eY] at cw
      obtain ⟨-, c6, c7, cr⟩ := cw
      rcases vr_any (b1 := iNumb (I 1) ((x : Int) + 1)) (b2 := iNumb (I 1) ((x : Int) + 2)) (b3 := iNumb (I 1) ((x : Int) + 3)) w1.1 hn with v | v | v | v
      · exact absurd v hb
      · obtain ⟨yw, y8, y7, yf, yv⟩ := c6 v
        obtain ⟨g1, g2, g3⟩ := go (up2 F 0 8 (-1)) 1 yf ⟨yw.1, yw.2.1, yw.2.2⟩ y8 ⟨by omega, by omega⟩ bf (show -(4 * (K + 620)) ≤ F 0 10 ∧ F 0 10 ≤ 4 * (K + 620) by rw [← a7.2]; exact ⟨by omega, by omega⟩) rfl rfl (by decide)
        have hX := c_X8_run_f1 l D k r R j (iv_B0 h) (iv_B5 h) (iv_12 h) ⟨by omega, by omega⟩ hBt ht (iv_5 h) (iv_B h) (t0 5 (by decide) (by decide)) g1 (by rw [h18]; omega) (fun n n1 hn => (ww n (by omega) (fun i hi => hv i (by omega))).2.2.1.1) (by rw [← eY]; exact y8) (by rw [← eY]; exact y7) (by rw [yv]; exact ⟨by decide, by decide⟩)
        have hL := c_L_run_6 l hst D k a o F P B I J x (iv_p h) (iv_b h) (iv_I1 h) (iv_I0 h) he (by omega) hPk hV hn v
        rw [he] at hL
        rw [eY] at g2 g3
        exact stp_i hL (rm_i rfl rfl rfl rfl) sel_fpbij hX (rm_i rfl rfl rfl rfl) g2 ⟨by decide, by decide⟩ (fun w => absurd w (by decide)) (fun _ => trivial) g3
      · obtain ⟨yw, y8, y7, yf, yv⟩ := c7 v
        obtain ⟨g1, g2, g3⟩ := go (up2 F 0 8 (-1)) 1 yf ⟨yw.1, yw.2.1, yw.2.2⟩ y8 ⟨by omega, by omega⟩ bf (show -(4 * (K + 620)) ≤ F 0 10 ∧ F 0 10 ≤ 4 * (K + 620) by rw [← a7.2]; exact ⟨by omega, by omega⟩) rfl rfl (by decide)
        have hX := c_X8_run_f1 l D k r R j (iv_B0 h) (iv_B5 h) (iv_12 h) ⟨by omega, by omega⟩ hBt ht (iv_5 h) (iv_B h) (t0 5 (by decide) (by decide)) g1 (by rw [h18]; omega) (fun n n1 hn => (ww n (by omega) (fun i hi => hv i (by omega))).2.2.1.1) (by rw [← eY]; exact y8) (by rw [← eY]; exact y7) (by rw [yv]; exact ⟨by decide, by decide⟩)
        have hL := c_L_run_7 l hst D k a o F P B I J x (iv_p h) (iv_b h) (iv_I1 h) (iv_I0 h) he (by omega) hPk hV hn v
        rw [he] at hL
        rw [eY] at g2 g3
        exact stp_i hL (rm_i rfl rfl rfl rfl) sel_fpbij hX (rm_i rfl rfl rfl rfl) g2 ⟨by decide, by decide⟩ (fun w => absurd w (by decide)) (fun _ => trivial) g3
      · obtain ⟨yw, y8, y7, yf, yv⟩ := cr v
        have dt := det_bd (v := sp_X5_verdictOn (tPl (I 1) P x) (iSign (I 1) (x : Int)) (iNumb (I 1) ((x : Int) + 1)) (iNumb (I 1) ((x : Int) + 2)) (iNumb (I 1) ((x : Int) + 3))) (c := iSign (I 1) (x : Int)) w4 (iNumb_rng (I := I 1) (x := (x : Int) + 1)) (by omega)
        obtain ⟨g1, g2, g3⟩ := go (up2 (up2 (up2 F 0 8 (-1)) 0 9 (sp_X5_verdictOn (tPl (I 1) P x) (iSign (I 1) (x : Int)) (iNumb (I 1) ((x : Int) + 1)) (iNumb (I 1) ((x : Int) + 2)) (iNumb (I 1) ((x : Int) + 3)))) 0 10 (sp_X5_detailOf (tPl (I 1) P x) (sp_X5_verdictOn (tPl (I 1) P x) (iSign (I 1) (x : Int)) (iNumb (I 1) ((x : Int) + 1)) (iNumb (I 1) ((x : Int) + 2)) (iNumb (I 1) ((x : Int) + 3))) (iSign (I 1) (x : Int)) (iNumb (I 1) ((x : Int) + 1)))) 2 yf ⟨yw.1, yw.2.1, yw.2.2⟩ y8 ⟨by omega, by omega⟩ (show 0 ≤ sp_X5_verdictOn (tPl (I 1) P x) (iSign (I 1) (x : Int)) (iNumb (I 1) ((x : Int) + 1)) (iNumb (I 1) ((x : Int) + 2)) (iNumb (I 1) ((x : Int) + 3)) ∧ sp_X5_verdictOn (tPl (I 1) P x) (iSign (I 1) (x : Int)) (iNumb (I 1) ((x : Int) + 1)) (iNumb (I 1) ((x : Int) + 2)) (iNumb (I 1) ((x : Int) + 3)) ≤ 5 from ⟨by omega, v.2⟩) (show -(4 * (K + 620)) ≤ sp_X5_detailOf (tPl (I 1) P x) (sp_X5_verdictOn (tPl (I 1) P x) (iSign (I 1) (x : Int)) (iNumb (I 1) ((x : Int) + 1)) (iNumb (I 1) ((x : Int) + 2)) (iNumb (I 1) ((x : Int) + 3))) (iSign (I 1) (x : Int)) (iNumb (I 1) ((x : Int) + 1)) ∧ sp_X5_detailOf (tPl (I 1) P x) (sp_X5_verdictOn (tPl (I 1) P x) (iSign (I 1) (x : Int)) (iNumb (I 1) ((x : Int) + 1)) (iNumb (I 1) ((x : Int) + 2)) (iNumb (I 1) ((x : Int) + 3))) (iSign (I 1) (x : Int)) (iNumb (I 1) ((x : Int) + 1)) ≤ 4 * (K + 620) from ⟨by omega, by omega⟩) rfl rfl (by decide)
        have hX := c_X8_run_f2 l D k r R j (iv_B0 h) (iv_B5 h) (iv_12 h) ⟨by omega, by omega⟩ hBt ht (iv_5 h) (iv_B h) (t0 5 (by decide) (by decide)) g1 (by rw [h18]; omega) (fun n n1 hn => (ww n (by omega) (fun i hi => hv i (by omega))).2.2.1.1) (by rw [← eY]; exact y8) (by rw [← eY]; exact y7) (by rw [yv]; exact ⟨by decide, by decide⟩)
        have hL := c_L_run_k l hst D k a o F P B I J x (iv_p h) (iv_b h) (iv_I1 h) (iv_I0 h) he (by omega) hPk hV hn v
        rw [he] at hL
        rw [eY] at g2 g3
        exact stp_i hL (rm_i rfl rfl rfl rfl) sel_fpbij hX (rm_i rfl rfl rfl rfl) g2 ⟨by decide, by decide⟩ (fun w => absurd w (by decide)) (fun _ => trivial) g3
end STR
