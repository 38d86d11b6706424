/-! what each call of the law does to both -/
abbrev zAny : Int → Prop := fun _ => True
abbrev zBoo : Int → Prop := fun z => z = 0 ∨ z = 1
def zStp (l : Launch) (D : va_G) (k : Nat → ClassId) (a r o d : Nat → Nat) (yL : MethodName) (wL : List Cond) (yX : MethodName) (wX : List Cond) (As : List Value) (Z : Int → Prop) (K : Int) (F P T B N Hs : Nat → Nat → Int) (G : Nat → Nat → Nat → Int) (I L R J : Nat → Nat → Int) (X : Nat → UInt64) : Prop :=
  ∃ (F' P' T' B' N' Hs' : Nat → Nat → Int) (G' : Nat → Nat → Nat → Int) (I' L' R' J' : Nat → Nat → Int) (kx bx : Int),
    zLC l yL wL D k (.ref (a 0) :: (As ++ [.ref (o 0)])) (wLaw k a r o d F P T B N Hs G I L R J X) kx (wLaw k a r o d F' P' T' B' N' Hs' G' I' L' R J' X) ∧
    zXc l yX wX D k (r 0) 10 As (wLaw k a r o d F' P' T' B' N' Hs' G' I' L' R J' X) bx (wLaw k a r o d F' P' T' B' N' Hs' G' I' L' R' J' X) ∧
    R' 0 8 = kx ∧ (0 ≤ kx ∧ kx ≤ 3) ∧ (kx = 0 → J' 0 0 = bx) ∧ (kx = 0 → Z bx) ∧ Iv (K + 620) F' P' T' B' N' Hs' G' I' L' R'
def zStq (l : Launch) (D : va_G) (k : Nat → ClassId) (a r o d : Nat → Nat) (y7 : MethodName) (w7 : List Cond) (y8 : MethodName) (w8 : List Cond) (As : List Value) (K : Int) (F P T B N Hs : Nat → Nat → Int) (G : Nat → Nat → Nat → Int) (I L R J : Nat → Nat → Int) (X : Nat → UInt64) : Prop :=
  ∃ (F' P' T' B' N' Hs' : Nat → Nat → Int) (G' : Nat → Nat → Nat → Int) (I' L' R' : Nat → Nat → Int) (v : Int),
    zXc l y7 w7 D k (a 0) 9 As (wLaw k a r o d F P T B N Hs G I L R J X) v (wLaw k a r o d F' P' T' B' N' Hs' G' I' L' R J X) ∧
    zXc l y8 w8 D k (r 0) 10 As (wLaw k a r o d F' P' T' B' N' Hs' G' I' L' R J X) v (wLaw k a r o d F' P' T' B' N' Hs' G' I' L' R' J X) ∧ Iv (K + 620) F' P' T' B' N' Hs' G' I' L' R'
theorem rm_i {rm : Room} {mc ms : Nat} (h1 : rm.frames.ble 10 = true) (h2 : rm.locals.ble 400 = true) (h3 : rm.cells = mc) (h4 : rm.slots = ms) : rmOk rm mc ms := by
  unfold rmOk
  exact ⟨Nat.le_of_ble_eq_true h1, Nat.le_of_ble_eq_true h2, h3, h4⟩
section STP
variable {l : Launch} {D : va_G} {k : Nat → ClassId} {a r o d : Nat → Nat} {K : Int} {F P T B N Hs : Nat → Nat → Int} {Gs : Nat → Nat → Nat → Int} {I L R J : Nat → Nat → Int} {X : Nat → UInt64}
theorem stp_i {yL yX : MethodName} {wL wX : List Cond} {As : List Value} {Z : Int → Prop} {F' P' T' B' N' Hs' : Nat → Nat → Int} {G' : Nat → Nat → Nat → Int} {I' L' R' J' : Nat → Nat → Int} {kx bx : Int} {rm rm' : Room} {wc wc' : va_W}
    (hL : zML l yL wL rm D k (.ref (a 0) :: (As ++ [.ref (o 0)])) wc kx wc' 1 6) (hr : rmOk rm 1 6) (hs : zSel (wLaw k a r o d F P T B N Hs Gs I L R J X) wc (wLaw k a r o d F' P' T' B' N' Hs' G' I' L' R J' X) wc')
    (hX : zMi l yX wX rm' D k (.ref (r 0) :: As) (wRef k r R) bx (wRef k r R') 0 0) (hr' : rmOk rm' 0 0) (e8 : R' 0 8 = kx) (hk : 0 ≤ kx ∧ kx ≤ 3) (hJ : kx = 0 → J' 0 0 = bx) (hZ : kx = 0 → Z bx) (hI : Iv (K + 620) F' P' T' B' N' Hs' G' I' L' R') :
    zStp l D k a r o d yL wL yX wX As Z K F P T B N Hs Gs I L R J X := by
  unfold zStp
  exact ⟨F', P', T', B', N', Hs', G', I', L', R', J', kx, bx, lc_of hL hr hs, xc_of hX hr' sel_r rfl, e8, hk, hJ, hZ, hI⟩
theorem stq_i {y7 y8 : MethodName} {w7 w8 : List Cond} {As : List Value} {F' P' T' B' N' Hs' : Nat → Nat → Int} {G' : Nat → Nat → Nat → Int} {I' L' R' : Nat → Nat → Int} {v v8 : Int} {rm rm' : Room} {wc wc' : va_W} {fs : List Value}
    (h7 : zMi l y7 w7 rm D k (.ref (a 0) :: As) wc v wc' 0 0) (hr : rmOk rm 0 0) (hs : zSel (wLaw k a r o d F P T B N Hs Gs I L R J X) wc (wLaw k a r o d F' P' T' B' N' Hs' G' I' L' R J X) wc') (h0 : wc[0]? = some (a 0, .inr (9, fs)))
    (hX : zMi l y8 w8 rm' D k (.ref (r 0) :: As) (wRef k r R) v8 (wRef k r R') 0 0) (hr' : rmOk rm' 0 0) (hv : v8 = v) (hI : Iv (K + 620) F' P' T' B' N' Hs' G' I' L' R') :
    zStq l D k a r o d y7 w7 y8 w8 As K F P T B N Hs Gs I L R J X := by
  subst hv
  unfold zStq
  exact ⟨F', P', T', B', N', Hs', G', I', L', R', v8, xc_of h7 hr hs h0, xc_of hX hr' sel_r rfl, hI⟩
theorem sel_fphij {F' P' Hs' I' J' : Nat → Nat → Int} : zSel (wLaw k a r o d F P T B N Hs Gs I L R J X) (wFac k a F ++ (wPlant k (subA a 1) P ++ (wHist k (subA a 61) Hs ++ (wInput k (subA a 183) I ++ wArrJ k o J)))) (wLaw k a r o d F' P' T B N Hs' Gs I' L R J' X) (wFac k a F' ++ (wPlant k (subA a 1) P' ++ (wHist k (subA a 61) Hs' ++ (wInput k (subA a 183) I' ++ wArrJ k o J')))) := by
  have h := zSel_q (zQ k a r o d F P T B N Hs Gs I L R J X (some (wFac k a F')) (some (wPlant k (subA a 1) P')) none none none (some (wHist k (subA a 61) Hs')) none none none none none none none none (some (wInput k (subA a 183) I')) none none (some (wArrJ k o J')) none) (And.intro rfl (And.intro rfl (And.intro rfl (And.intro rfl (And.intro fst_J True.intro)))))
  simp only [zQ, zOld, zIn, zNew, zOut, List.append_nil] at h
  exact h
/-- only the reference's scalars change -/
theorem bA_q {f : Nat → Int} (h : bA K F P T B N Gs L R) (hK : K + 620 ≤ 320000) (h0 : zBk (4 * K) f) : bA (K + 620) F P T B N Gs L (upA R 0 f) := by
  obtain ⟨bK, bp, bt, bb, bn, bg, b0, b1, b2, b3, b4, b5, b6, b7, bl, bf, bc, bq⟩ := h
  exact bA_i ⟨by omega, hK⟩ (bp.mono (by omega)) bt (bb.mono (by omega)) (bn.mono (by omega)) (fun i hi => (bg i hi).mono (by omega)) (h0.mono (by omega)) (b1.mono (by omega)) (b2.mono (by omega)) (b3.mono (by omega)) (b4.mono (by omega)) b5 b6 b7 bl bf bc bq
/-- .. and the class's trial plant -/
theorem bA_t {T' : Nat → Nat → Int} (h : bA K F P T B N Gs L R) (t : aOK T') : bA K F P T' B N Gs L R := by
  obtain ⟨bK, bp, bt, bb, bn, bg, b0, b1, b2, b3, b4, b5, b6, b7, bl, bf, bc, bq⟩ := h
  exact bA_i bK bp t bb bn bg b0 b1 b2 b3 b4 b5 b6 b7 bl bf bc bq
/-- .. and an order's row and history -/
theorem bA_o {P' : Nat → Nat → Int} {F' : Nat → Nat → Int} {G' : Nat → Nat → Nat → Int} {f0 f1 f2 : Nat → Int} (h : bA K F P T B N Gs L R) (hK : K + 620 ≤ 320000) (p : pK (K + 20) P') (g : ∀ i, i < 8 → pK K (G' i)) (h0 : zBk (4 * K) f0) (h1 : zBk (K + 20) f1) (h2 : zBk K f2) (hf : 0 ≤ F' 0 9 ∧ F' 0 9 ≤ 5) (nn : nnP P' ∧ nnP N ∧ ∀ i, i < 8 → nnP (G' i)) : bA (K + 620) F' P' T B N G' L (upA (upA (upA R 0 f0) 1 f1) 2 f2) := by
  obtain ⟨bK, bp, bt, bb, bn, bg, b0, b1, b2, b3, b4, b5, b6, b7, bl, bf, bc, bq⟩ := h
  exact bA_i ⟨by omega, hK⟩ (p.mono (by omega)) bt (bb.mono (by omega)) (bn.mono (by omega)) (fun i hi => (g i hi).mono (by omega)) (h0.mono (by omega)) (h1.mono (by omega)) (h2.mono (by omega)) (b3.mono (by omega)) (b4.mono (by omega)) b5 b6 b7 bl hf bc nn
theorem bg_up {i0 : Nat} (g : ∀ i, i < 8 → pK K (Gs i)) (hi : i0 < 8) (p : pK K P) : ∀ i, i < 8 → pK K (upG Gs i0 (wCopy (Gs i0) P) i) := by
  intro i h
  unfold upG
  by_cases z : i = i0
  · rw [if_pos z]; exact pK_copy (g i0 hi) p
  · rw [if_neg z]; exact g i h
theorem vr_make {S : Nat → Nat → Int} {G : Nat → Int} {p1 p2 p3 : Int} (h : relP S G) : sp_X5_verdictOn S 109 p1 p2 p3 = 0 ∨ sp_X5_verdictOn S 109 p1 p2 p3 = 6 ∨ sp_X5_verdictOn S 109 p1 p2 p3 = 7 ∨ (1 ≤ sp_X5_verdictOn S 109 p1 p2 p3 ∧ sp_X5_verdictOn S 109 p1 p2 p3 ≤ 5) := by
  rw [ver_make h]
  repeat (first | exact Or.inl rfl | exact Or.inr (Or.inl rfl) | exact Or.inr (Or.inr (Or.inl rfl)) | exact Or.inr (Or.inr (Or.inr (⟨by decide, by decide⟩))) | refine el1 (Q := fun z => z = 0 ∨ z = 6 ∨ z = 7 ∨ (1 ≤ z ∧ z ≤ 5)) (fun _ => ?_) (fun _ => ?_))
set_option maxHeartbeats 4000000 in
theorem st_make (hst : l.stackTraces = false) (h : Iv K F P T B N Hs Gs I L R) (hK : K + 620 ≤ 320000) {p1 p2 p3 : Int} (z1 : zR p1) (z2 : zR p2) (z3 : zR p3) : zStp l D k a r o d yL_make wsL_make yX8_make wsX8_make [.int (iI p1), .int (iI p2), .int (iI p3)] zAny K F P T B N Hs Gs I L R J X := by
  obtain ⟨i0, hi, ha⟩ := iv_i h
  have V := op_make (p1 := p1) (p2 := p2) (p3 := p3) h.1 ha
  have hX := c_X8_make l D k r R p1 p2 p3 (iv_B h) (iv_B0 h) (iv_C h) (iv_I h) (iv_F h) (iv_5 h) (iv_w h) z1 z2 z3
  obtain ⟨bK, bp, bt, bb, bn, bg, b0, b1, b2, b3, b4, b5, b6, b7, bl, bf, bc, bq⟩ := id h.2
  have s0 := sc_make (p0 := p1) (p1 := p2) (p2 := p3) b0 b1 bK.1 (iv_5 h) (iv_12 h)
  have s1 := gb_make (p0 := p1) (p1 := p2) (p2 := p3) h.1.1 b1 (by omega)
  have s2 := sd_make (p0 := p1) (p1 := p2) (p2 := p3) b1 b2 b4
  rcases vr_make (p1 := p1) (p2 := p2) (p3 := p3) h.1.1 with v | v | v | v
  · obtain ⟨q1, q2, q3⟩ := V.1 v
    have pp := pb_make (p1 := p1) (p2 := p2) (p3 := p3) h.1.1 bp (by omega) v ⟨_, q1.1⟩
    exact stp_i (c_L_make_ok l hst D k a o F P Hs (Gs i0) J i0 p1 p2 p3 (iv_p h) z1 z2 z3 v ⟨ha, hi⟩ (iv_hn h)) (rm_i rfl rfl rfl rfl) (sel_fphgj i0 hi) hX (rm_i rfl rfl rfl rfl) q2 ⟨by decide, by decide⟩ (fun _ => q3.symm) (fun _ => trivial) ⟨q1, bA_o h.2 hK pp (bg_up bg hi bp) s0 s1 s2 bf ⟨nn_carry bq.1, bq.2.1, nq_up bq.2.2 bq.1⟩⟩
  · obtain ⟨q1, q2⟩ := V.2.1 v
    exact stp_i (c_L_make_6 l hst D k a o F P J p1 p2 p3 (iv_p h) z1 z2 z3 v) (rm_i rfl rfl rfl rfl) (sel_fpj) hX (rm_i rfl rfl rfl rfl) q2 ⟨by decide, by decide⟩ (fun w => absurd w (by decide)) (fun _ => trivial) ⟨q1, bA_o h.2 hK (bp.mono (by omega)) bg s0 s1 s2 bf bq⟩
  · obtain ⟨q1, q2⟩ := V.2.2.1 v
    exact stp_i (c_L_make_7 l hst D k a o F P J p1 p2 p3 (iv_p h) z1 z2 z3 v) (rm_i rfl rfl rfl rfl) (sel_fpj) hX (rm_i rfl rfl rfl rfl) q2 ⟨by decide, by decide⟩ (fun w => absurd w (by decide)) (fun _ => trivial) ⟨q1, bA_o h.2 hK (bp.mono (by omega)) bg s0 s1 s2 bf bq⟩
  · obtain ⟨q1, q2⟩ := V.2.2.2 v
    exact stp_i (c_L_make_r l hst D k a o F P J p1 p2 p3 (iv_p h) z1 z2 z3 v) (rm_i rfl rfl rfl rfl) (sel_fpj) hX (rm_i rfl rfl rfl rfl) q2 ⟨by decide, by decide⟩ (fun w => absurd w (by decide)) (fun _ => trivial) ⟨q1, bA_o h.2 hK (bp.mono (by omega)) bg s0 s1 s2 (show 0 ≤ sp_X5_verdictOn P 109 p1 p2 p3 ∧ sp_X5_verdictOn P 109 p1 p2 p3 ≤ 5 from ⟨by omega, by omega⟩) bq⟩
theorem vr_blank {S : Nat → Nat → Int} {G : Nat → Int} {p1 : Int} (h : relP S G) : sp_X5_verdictOn S 98 p1 0 0 = 0 ∨ sp_X5_verdictOn S 98 p1 0 0 = 6 ∨ (1 ≤ sp_X5_verdictOn S 98 p1 0 0 ∧ sp_X5_verdictOn S 98 p1 0 0 ≤ 5) := by
  rw [ver_blank h]
  repeat (first | exact Or.inl rfl | exact Or.inr (Or.inl rfl) | exact Or.inr (Or.inr (⟨by decide, by decide⟩)) | refine el1 (Q := fun z => z = 0 ∨ z = 6 ∨ (1 ≤ z ∧ z ≤ 5)) (fun _ => ?_) (fun _ => ?_))
set_option maxHeartbeats 4000000 in
theorem st_blank (hst : l.stackTraces = false) (h : Iv K F P T B N Hs Gs I L R) (hK : K + 620 ≤ 320000) {p1 : Int} (z1 : zR p1) : zStp l D k a r o d yL_blank wsL_blank yX8_blank wsX8_blank [.int (iI p1)] zAny K F P T B N Hs Gs I L R J X := by
  obtain ⟨i0, hi, ha⟩ := iv_i h
  have V := op_blank (p1 := p1) (p2 := 0) (p3 := 0) h.1 ha
  have hX := c_X8_blank l D k r R p1 (iv_B h) (iv_B0 h) (iv_C h) (iv_I h) (iv_F h) (iv_5 h) (iv_w h) z1
  obtain ⟨bK, bp, bt, bb, bn, bg, b0, b1, b2, b3, b4, b5, b6, b7, bl, bf, bc, bq⟩ := id h.2
  have s0 := sc_blank (p0 := p1) b0 b1 bK.1 (iv_5 h) (iv_12 h)
  have s1 := gb_blank (p0 := p1) h.1.1 b1 (by omega)
  have s2 := sd_blank (p0 := p1) b1 b2 b4
  rcases vr_blank (p1 := p1) h.1.1 with v | v | v
  · obtain ⟨q1, q2, q3⟩ := V.1 v
    have pp := pb_blank (p1 := p1) (p2 := 0) (p3 := 0) h.1.1 bp (by omega) v ⟨_, q1.1⟩
    exact stp_i (c_L_blank_ok l hst D k a o F P Hs (Gs i0) J i0 p1 (iv_p h) z1 v ⟨ha, hi⟩ (iv_hn h)) (rm_i rfl rfl rfl rfl) (sel_fphgj i0 hi) hX (rm_i rfl rfl rfl rfl) q2 ⟨by decide, by decide⟩ (fun _ => q3.symm) (fun _ => trivial) ⟨q1, bA_o h.2 hK pp (bg_up bg hi bp) s0 s1 s2 bf ⟨nn_carry bq.1, bq.2.1, nq_up bq.2.2 bq.1⟩⟩
  · obtain ⟨q1, q2⟩ := V.2.1 v
    exact stp_i (c_L_blank_6 l hst D k a o F P J p1 (iv_p h) z1 v) (rm_i rfl rfl rfl rfl) (sel_fpj) hX (rm_i rfl rfl rfl rfl) q2 ⟨by decide, by decide⟩ (fun w => absurd w (by decide)) (fun _ => trivial) ⟨q1, bA_o h.2 hK (bp.mono (by omega)) bg s0 s1 s2 bf bq⟩
  · obtain ⟨q1, q2⟩ := V.2.2.2 v
    exact stp_i (c_L_blank_r l hst D k a o F P J p1 (iv_p h) z1 v) (rm_i rfl rfl rfl rfl) (sel_fpj) hX (rm_i rfl rfl rfl rfl) q2 ⟨by decide, by decide⟩ (fun w => absurd w (by decide)) (fun _ => trivial) ⟨q1, bA_o h.2 hK (bp.mono (by omega)) bg s0 s1 s2 (show 0 ≤ sp_X5_verdictOn P 98 p1 0 0 ∧ sp_X5_verdictOn P 98 p1 0 0 ≤ 5 from ⟨by omega, by omega⟩) bq⟩
theorem vr_tell {S : Nat → Nat → Int} {G : Nat → Int} {p1 p2 p3 : Int} (h : relP S G) : sp_X5_verdictOn S 116 p1 p2 p3 = 0 ∨ sp_X5_verdictOn S 116 p1 p2 p3 = 6 ∨ sp_X5_verdictOn S 116 p1 p2 p3 = 7 ∨ (1 ≤ sp_X5_verdictOn S 116 p1 p2 p3 ∧ sp_X5_verdictOn S 116 p1 p2 p3 ≤ 5) := by
  rw [ver_tell h]
  repeat (first | exact Or.inl rfl | exact Or.inr (Or.inl rfl) | exact Or.inr (Or.inr (Or.inl rfl)) | exact Or.inr (Or.inr (Or.inr (⟨by decide, by decide⟩))) | refine el1 (Q := fun z => z = 0 ∨ z = 6 ∨ z = 7 ∨ (1 ≤ z ∧ z ≤ 5)) (fun _ => ?_) (fun _ => ?_))
set_option maxHeartbeats 4000000 in
theorem st_tell (hst : l.stackTraces = false) (h : Iv K F P T B N Hs Gs I L R) (hK : K + 620 ≤ 320000) {p1 p2 p3 : Int} (z1 : zR p1) (z2 : zR p2) (z3 : zR p3) : zStp l D k a r o d yL_tell wsL_tell yX8_tell wsX8_tell [.int (iI p1), .int (iI p2), .int (iI p3)] zAny K F P T B N Hs Gs I L R J X := by
  obtain ⟨i0, hi, ha⟩ := iv_i h
  have V := op_tell (p1 := p1) (p2 := p2) (p3 := p3) h.1 ha
  have hX := c_X8_tell l D k r R p1 p2 p3 (iv_B h) (iv_B0 h) (iv_C h) (iv_I h) (iv_F h) (iv_5 h) (iv_w h) z1 z2 z3
  obtain ⟨bK, bp, bt, bb, bn, bg, b0, b1, b2, b3, b4, b5, b6, b7, bl, bf, bc, bq⟩ := id h.2
  have s0 := sc_tell (p0 := p1) (p1 := p2) (p2 := p3) b0 b1 bK.1 (iv_5 h) (iv_12 h)
  have s1 := gb_tell (p0 := p1) (p1 := p2) (p2 := p3) h.1.1 b1 (by omega)
  have s2 := sd_tell (p0 := p1) (p1 := p2) (p2 := p3) b1 b2 b4
  rcases vr_tell (p1 := p1) (p2 := p2) (p3 := p3) h.1.1 with v | v | v | v
  · obtain ⟨q1, q2, q3⟩ := V.1 v
    have pp := pb_tell (p1 := p1) (p2 := p2) (p3 := p3) h.1.1 bp (by omega) v ⟨_, q1.1⟩
    exact stp_i (c_L_tell_ok l hst D k a o F P Hs (Gs i0) J i0 p1 p2 p3 (iv_p h) z1 z2 z3 v ⟨ha, hi⟩ (iv_hn h)) (rm_i rfl rfl rfl rfl) (sel_fphgj i0 hi) hX (rm_i rfl rfl rfl rfl) q2 ⟨by decide, by decide⟩ (fun _ => q3.symm) (fun _ => trivial) ⟨q1, bA_o h.2 hK pp (bg_up bg hi bp) s0 s1 s2 bf ⟨nn_carry bq.1, bq.2.1, nq_up bq.2.2 bq.1⟩⟩
  · obtain ⟨q1, q2⟩ := V.2.1 v
    exact stp_i (c_L_tell_6 l hst D k a o F P J p1 p2 p3 (iv_p h) z1 z2 z3 v) (rm_i rfl rfl rfl rfl) (sel_fpj) hX (rm_i rfl rfl rfl rfl) q2 ⟨by decide, by decide⟩ (fun w => absurd w (by decide)) (fun _ => trivial) ⟨q1, bA_o h.2 hK (bp.mono (by omega)) bg s0 s1 s2 bf bq⟩
  · obtain ⟨q1, q2⟩ := V.2.2.1 v
    exact stp_i (c_L_tell_7 l hst D k a o F P J p1 p2 p3 (iv_p h) z1 z2 z3 v) (rm_i rfl rfl rfl rfl) (sel_fpj) hX (rm_i rfl rfl rfl rfl) q2 ⟨by decide, by decide⟩ (fun w => absurd w (by decide)) (fun _ => trivial) ⟨q1, bA_o h.2 hK (bp.mono (by omega)) bg s0 s1 s2 bf bq⟩
  · obtain ⟨q1, q2⟩ := V.2.2.2 v
    exact stp_i (c_L_tell_r l hst D k a o F P J p1 p2 p3 (iv_p h) z1 z2 z3 v) (rm_i rfl rfl rfl rfl) (sel_fpj) hX (rm_i rfl rfl rfl rfl) q2 ⟨by decide, by decide⟩ (fun w => absurd w (by decide)) (fun _ => trivial) ⟨q1, bA_o h.2 hK (bp.mono (by omega)) bg s0 s1 s2 (show 0 ≤ sp_X5_verdictOn P 116 p1 p2 p3 ∧ sp_X5_verdictOn P 116 p1 p2 p3 ≤ 5 from ⟨by omega, by omega⟩) bq⟩
theorem vr_inspect {S : Nat → Nat → Int} {G : Nat → Int} {p1 : Int} (h : relP S G) : sp_X5_verdictOn S 105 p1 0 0 = 0 ∨ sp_X5_verdictOn S 105 p1 0 0 = 6 ∨ (1 ≤ sp_X5_verdictOn S 105 p1 0 0 ∧ sp_X5_verdictOn S 105 p1 0 0 ≤ 5) := by
  rw [ver_inspect h]
  repeat (first | exact Or.inl rfl | exact Or.inr (Or.inl rfl) | exact Or.inr (Or.inr (⟨by decide, by decide⟩)) | refine el1 (Q := fun z => z = 0 ∨ z = 6 ∨ (1 ≤ z ∧ z ≤ 5)) (fun _ => ?_) (fun _ => ?_))
set_option maxHeartbeats 4000000 in
theorem st_inspect (hst : l.stackTraces = false) (h : Iv K F P T B N Hs Gs I L R) (hK : K + 620 ≤ 320000) {p1 : Int} (z1 : zR p1) : zStp l D k a r o d yL_inspect wsL_inspect yX8_inspect wsX8_inspect [.int (iI p1)] zAny K F P T B N Hs Gs I L R J X := by
  obtain ⟨i0, hi, ha⟩ := iv_i h
  have V := op_inspect (p1 := p1) (p2 := 0) (p3 := 0) h.1 ha
  have hX := c_X8_inspect l D k r R p1 (iv_B h) (iv_T h) (iv_B0 h) (iv_C h) (iv_I h) (iv_F h) (iv_5 h) (iv_w h) z1
  obtain ⟨bK, bp, bt, bb, bn, bg, b0, b1, b2, b3, b4, b5, b6, b7, bl, bf, bc, bq⟩ := id h.2
  have s0 := sc_inspect (p0 := p1) b0 b1 bK.1 (iv_5 h) (iv_12 h)
  have s1 := gb_inspect (p0 := p1) h.1.1 b1 (by omega)
  have s2 := sd_inspect (p0 := p1) b1 b2 b4
  rcases vr_inspect (p1 := p1) h.1.1 with v | v | v
  · obtain ⟨q1, q2, q3⟩ := V.1 v
    have pp := pb_inspect (p1 := p1) (p2 := 0) (p3 := 0) h.1.1 bp (by omega) v ⟨_, q1.1⟩
    exact stp_i (c_L_inspect_ok l hst D k a o F P Hs (Gs i0) J i0 p1 (iv_p h) z1 v ⟨ha, hi⟩ (iv_hn h)) (rm_i rfl rfl rfl rfl) (sel_fphgj i0 hi) hX (rm_i rfl rfl rfl rfl) q2 ⟨by decide, by decide⟩ (fun _ => q3.symm) (fun _ => trivial) ⟨q1, bA_o h.2 hK pp (bg_up bg hi bp) s0 s1 s2 bf ⟨nn_carry bq.1, bq.2.1, nq_up bq.2.2 bq.1⟩⟩
  · obtain ⟨q1, q2⟩ := V.2.1 v
    exact stp_i (c_L_inspect_6 l hst D k a o F P J p1 (iv_p h) z1 v) (rm_i rfl rfl rfl rfl) (sel_fpj) hX (rm_i rfl rfl rfl rfl) q2 ⟨by decide, by decide⟩ (fun w => absurd w (by decide)) (fun _ => trivial) ⟨q1, bA_o h.2 hK (bp.mono (by omega)) bg s0 s1 s2 bf bq⟩
  · obtain ⟨q1, q2⟩ := V.2.2.2 v
    exact stp_i (c_L_inspect_r l hst D k a o F P J p1 (iv_p h) z1 v) (rm_i rfl rfl rfl rfl) (sel_fpj) hX (rm_i rfl rfl rfl rfl) q2 ⟨by decide, by decide⟩ (fun w => absurd w (by decide)) (fun _ => trivial) ⟨q1, bA_o h.2 hK (bp.mono (by omega)) bg s0 s1 s2 (show 0 ≤ sp_X5_verdictOn P 105 p1 0 0 ∧ sp_X5_verdictOn P 105 p1 0 0 ≤ 5 from ⟨by omega, by omega⟩) bq⟩
theorem vr_hire {S : Nat → Nat → Int} {G : Nat → Int} (h : relP S G) : sp_X5_verdictOn S 104 0 0 0 = 0 ∨ (1 ≤ sp_X5_verdictOn S 104 0 0 0 ∧ sp_X5_verdictOn S 104 0 0 0 ≤ 5) := by
  rw [ver_hire h]
  repeat (first | exact Or.inl rfl | exact Or.inr (⟨by decide, by decide⟩) | refine el1 (Q := fun z => z = 0 ∨ (1 ≤ z ∧ z ≤ 5)) (fun _ => ?_) (fun _ => ?_))
set_option maxHeartbeats 4000000 in
theorem st_hire (hst : l.stackTraces = false) (h : Iv K F P T B N Hs Gs I L R) (hK : K + 620 ≤ 320000)  : zStp l D k a r o d yL_hire wsL_hire yX8_hire wsX8_hire [] zAny K F P T B N Hs Gs I L R J X := by
  obtain ⟨i0, hi, ha⟩ := iv_i h
  have V := op_hire (p1 := 0) (p2 := 0) (p3 := 0) h.1 ha
  have hX := c_X8_hire l D k r R (iv_B h) (iv_T h) (iv_B0 h) (iv_C h) (iv_I h) (iv_F h) (iv_5 h) (iv_w h)
  obtain ⟨bK, bp, bt, bb, bn, bg, b0, b1, b2, b3, b4, b5, b6, b7, bl, bf, bc, bq⟩ := id h.2
  have s0 := sc_hire  b0 b1 bK.1 (iv_5 h) (iv_12 h)
  have s1 := gb_hire  h.1.1 b1 (by omega)
  have s2 := sd_hire  b1 b2 b4
  rcases vr_hire  h.1.1 with v | v
  · obtain ⟨q1, q2, q3⟩ := V.1 v
    have pp := pb_hire (p1 := 0) (p2 := 0) (p3 := 0) h.1.1 bp (by omega) v ⟨_, q1.1⟩
    exact stp_i (c_L_hire_ok l hst D k a o F P Hs (Gs i0) J i0 (iv_p h) v ⟨ha, hi⟩ (iv_hn h)) (rm_i rfl rfl rfl rfl) (sel_fphgj i0 hi) hX (rm_i rfl rfl rfl rfl) q2 ⟨by decide, by decide⟩ (fun _ => q3.symm) (fun _ => trivial) ⟨q1, bA_o h.2 hK pp (bg_up bg hi bp) s0 s1 s2 bf ⟨nn_carry bq.1, bq.2.1, nq_up bq.2.2 bq.1⟩⟩
  · obtain ⟨q1, q2⟩ := V.2.2.2 v
    exact stp_i (c_L_hire_r l hst D k a o F P J (iv_p h) v) (rm_i rfl rfl rfl rfl) (sel_fpj) hX (rm_i rfl rfl rfl rfl) q2 ⟨by decide, by decide⟩ (fun w => absurd w (by decide)) (fun _ => trivial) ⟨q1, bA_o h.2 hK (bp.mono (by omega)) bg s0 s1 s2 (show 0 ≤ sp_X5_verdictOn P 104 0 0 0 ∧ sp_X5_verdictOn P 104 0 0 0 ≤ 5 from ⟨by omega, by omega⟩) bq⟩
theorem vr_leave {S : Nat → Nat → Int} {G : Nat → Int} {p1 : Int} (h : relP S G) : sp_X5_verdictOn S 111 p1 0 0 = 0 ∨ sp_X5_verdictOn S 111 p1 0 0 = 6 := by
  rw [ver_leave h]
  repeat (first | exact Or.inl rfl | exact Or.inr (rfl) | refine el1 (Q := fun z => z = 0 ∨ z = 6) (fun _ => ?_) (fun _ => ?_))
set_option maxHeartbeats 4000000 in
theorem st_leave (hst : l.stackTraces = false) (h : Iv K F P T B N Hs Gs I L R) (hK : K + 620 ≤ 320000) {p1 : Int} (z1 : zR p1) : zStp l D k a r o d yL_leave wsL_leave yX8_leave wsX8_leave [.int (iI p1)] zAny K F P T B N Hs Gs I L R J X := by
  obtain ⟨i0, hi, ha⟩ := iv_i h
  have V := op_leave (p1 := p1) (p2 := 0) (p3 := 0) h.1 ha
  have hX := c_X8_leave l D k r R p1 (iv_B h) (iv_T h) (iv_B0 h) (iv_C h) (iv_I h) (iv_F h) (iv_5 h) (iv_w h) z1
  obtain ⟨bK, bp, bt, bb, bn, bg, b0, b1, b2, b3, b4, b5, b6, b7, bl, bf, bc, bq⟩ := id h.2
  have s0 := sc_leave (p0 := p1) b0 b1 bK.1 (iv_5 h) (iv_12 h)
  have s1 := gb_leave (p0 := p1) h.1.1 b1 (by omega)
  have s2 := sd_leave (p0 := p1) b1 b2 b4
  rcases vr_leave (p1 := p1) h.1.1 with v | v
  · obtain ⟨q1, q2, q3⟩ := V.1 v
    have pp := pb_leave (p1 := p1) (p2 := 0) (p3 := 0) h.1.1 bp (by omega) v ⟨_, q1.1⟩
    exact stp_i (c_L_leave_ok l hst D k a o F P Hs (Gs i0) J i0 p1 (iv_p h) z1 v ⟨ha, hi⟩ (iv_hn h)) (rm_i rfl rfl rfl rfl) (sel_fphgj i0 hi) hX (rm_i rfl rfl rfl rfl) q2 ⟨by decide, by decide⟩ (fun _ => q3.symm) (fun _ => trivial) ⟨q1, bA_o h.2 hK pp (bg_up bg hi bp) s0 s1 s2 bf ⟨nn_carry bq.1, bq.2.1, nq_up bq.2.2 bq.1⟩⟩
  · obtain ⟨q1, q2⟩ := V.2.1 v
    exact stp_i (c_L_leave_6 l hst D k a o F P J p1 (iv_p h) z1 v) (rm_i rfl rfl rfl rfl) (sel_fpj) hX (rm_i rfl rfl rfl rfl) q2 ⟨by decide, by decide⟩ (fun w => absurd w (by decide)) (fun _ => trivial) ⟨q1, bA_o h.2 hK (bp.mono (by omega)) bg s0 s1 s2 bf bq⟩
theorem vr_sell {S : Nat → Nat → Int} {G : Nat → Int} {p1 : Int} (h : relP S G) : sp_X5_verdictOn S 115 p1 0 0 = 0 ∨ sp_X5_verdictOn S 115 p1 0 0 = 6 := by
  rw [ver_sell h]
  repeat (first | exact Or.inl rfl | exact Or.inr (rfl) | refine el1 (Q := fun z => z = 0 ∨ z = 6) (fun _ => ?_) (fun _ => ?_))
set_option maxHeartbeats 4000000 in
theorem st_sell (hst : l.stackTraces = false) (h : Iv K F P T B N Hs Gs I L R) (hK : K + 620 ≤ 320000) {p1 : Int} (z1 : zR p1) : zStp l D k a r o d yL_sell wsL_sell yX8_sell wsX8_sell [.int (iI p1)] zAny K F P T B N Hs Gs I L R J X := by
  obtain ⟨i0, hi, ha⟩ := iv_i h
  have V := op_sell (p1 := p1) (p2 := 0) (p3 := 0) h.1 ha
  have hX := c_X8_sell l D k r R p1 (iv_B h) (iv_T h) (iv_B0 h) (iv_C h) (iv_I h) (iv_F h) (iv_5 h) (iv_w h) z1
  obtain ⟨bK, bp, bt, bb, bn, bg, b0, b1, b2, b3, b4, b5, b6, b7, bl, bf, bc, bq⟩ := id h.2
  have s0 := sc_sell (p0 := p1) b0 b1 bK.1 (iv_5 h) (iv_12 h)
  have s1 := gb_sell (p0 := p1) h.1.1 b1 (by omega)
  have s2 := sd_sell (p0 := p1) b1 b2 b4
  rcases vr_sell (p1 := p1) h.1.1 with v | v
  · obtain ⟨q1, q2, q3⟩ := V.1 v
    have pp := pb_sell (p1 := p1) (p2 := 0) (p3 := 0) h.1.1 bp (by omega) v ⟨_, q1.1⟩
    exact stp_i (c_L_sell_ok l hst D k a o F P Hs (Gs i0) J i0 p1 (iv_p h) z1 v ⟨ha, hi⟩ (iv_hn h)) (rm_i rfl rfl rfl rfl) (sel_fphgj i0 hi) hX (rm_i rfl rfl rfl rfl) q2 ⟨by decide, by decide⟩ (fun _ => q3.symm) (fun _ => trivial) ⟨q1, bA_o h.2 hK pp (bg_up bg hi bp) s0 s1 s2 bf ⟨nn_carry bq.1, bq.2.1, nq_up bq.2.2 bq.1⟩⟩
  · obtain ⟨q1, q2⟩ := V.2.1 v
    exact stp_i (c_L_sell_6 l hst D k a o F P J p1 (iv_p h) z1 v) (rm_i rfl rfl rfl rfl) (sel_fpj) hX (rm_i rfl rfl rfl rfl) q2 ⟨by decide, by decide⟩ (fun w => absurd w (by decide)) (fun _ => trivial) ⟨q1, bA_o h.2 hK (bp.mono (by omega)) bg s0 s1 s2 bf bq⟩
theorem vr_repair {S : Nat → Nat → Int} {G : Nat → Int} {p1 : Int} (h : relP S G) : sp_X5_verdictOn S 114 p1 0 0 = 0 ∨ sp_X5_verdictOn S 114 p1 0 0 = 6 ∨ (1 ≤ sp_X5_verdictOn S 114 p1 0 0 ∧ sp_X5_verdictOn S 114 p1 0 0 ≤ 5) := by
  rw [ver_repair h]
  repeat (first | exact Or.inl rfl | exact Or.inr (Or.inl rfl) | exact Or.inr (Or.inr (⟨by decide, by decide⟩)) | refine el1 (Q := fun z => z = 0 ∨ z = 6 ∨ (1 ≤ z ∧ z ≤ 5)) (fun _ => ?_) (fun _ => ?_))
set_option maxHeartbeats 4000000 in
theorem st_repair (hst : l.stackTraces = false) (h : Iv K F P T B N Hs Gs I L R) (hK : K + 620 ≤ 320000) {p1 : Int} (z1 : zR p1) : zStp l D k a r o d yL_repair wsL_repair yX8_repair wsX8_repair [.int (iI p1)] zAny K F P T B N Hs Gs I L R J X := by
  obtain ⟨i0, hi, ha⟩ := iv_i h
  have V := op_repair (p1 := p1) (p2 := 0) (p3 := 0) h.1 ha
  have hX := c_X8_repair l D k r R p1 (iv_B h) (iv_T h) (iv_B0 h) (iv_C h) (iv_I h) (iv_F h) (iv_5 h) (iv_w h) z1
  obtain ⟨bK, bp, bt, bb, bn, bg, b0, b1, b2, b3, b4, b5, b6, b7, bl, bf, bc, bq⟩ := id h.2
  have s0 := sc_repair (p0 := p1) b0 b1 bK.1 (iv_5 h) (iv_12 h)
  have s1 := gb_repair (p0 := p1) h.1.1 b1 (by omega)
  have s2 := sd_repair (p0 := p1) b1 b2 b4
  rcases vr_repair (p1 := p1) h.1.1 with v | v | v
  · obtain ⟨q1, q2, q3⟩ := V.1 v
    have pp := pb_repair (p1 := p1) (p2 := 0) (p3 := 0) h.1.1 bp (by omega) v ⟨_, q1.1⟩
    exact stp_i (c_L_repair_ok l hst D k a o F P Hs (Gs i0) J i0 p1 (iv_p h) z1 v ⟨ha, hi⟩ (iv_hn h)) (rm_i rfl rfl rfl rfl) (sel_fphgj i0 hi) hX (rm_i rfl rfl rfl rfl) q2 ⟨by decide, by decide⟩ (fun _ => q3.symm) (fun _ => trivial) ⟨q1, bA_o h.2 hK pp (bg_up bg hi bp) s0 s1 s2 bf ⟨nn_carry bq.1, bq.2.1, nq_up bq.2.2 bq.1⟩⟩
  · obtain ⟨q1, q2⟩ := V.2.1 v
    exact stp_i (c_L_repair_6 l hst D k a o F P J p1 (iv_p h) z1 v) (rm_i rfl rfl rfl rfl) (sel_fpj) hX (rm_i rfl rfl rfl rfl) q2 ⟨by decide, by decide⟩ (fun w => absurd w (by decide)) (fun _ => trivial) ⟨q1, bA_o h.2 hK (bp.mono (by omega)) bg s0 s1 s2 bf bq⟩
  · obtain ⟨q1, q2⟩ := V.2.2.2 v
    exact stp_i (c_L_repair_r l hst D k a o F P J p1 (iv_p h) z1 v) (rm_i rfl rfl rfl rfl) (sel_fpj) hX (rm_i rfl rfl rfl rfl) q2 ⟨by decide, by decide⟩ (fun w => absurd w (by decide)) (fun _ => trivial) ⟨q1, bA_o h.2 hK (bp.mono (by omega)) bg s0 s1 s2 (show 0 ≤ sp_X5_verdictOn P 114 p1 0 0 ∧ sp_X5_verdictOn P 114 p1 0 0 ≤ 5 from ⟨by omega, by omega⟩) bq⟩
set_option maxHeartbeats 4000000 in
theorem st_beltOf (hst : l.stackTraces = false) (h : Iv K F P T B N Hs Gs I L R) (hK : K + 620 ≤ 320000) {p1 p2 : Int} (z1 : zR p1) (z2 : zR p2) : zStp l D k a r o d yL_beltOf wsL_beltOf yX8_beltOf wsX8_beltOf [.int (iI p1), .int (iI p2)] zAny K F P T B N Hs Gs I L R J X := by
  have V := op_beltOf (p1 := p1) (p2 := p2) h.1
  have hX := c_X8_beltOf l D k r R p1 p2 (iv_B h) (iv_B0 h) (iv_C h) z1 z2
  have s0 := sc_beltOf (p0 := p1) (p1 := p2) (iv_r0 h) (iv_r1 h) h.2.1.1 (iv_5 h) (iv_12 h)
  have hB := bA_q h.2 hK s0
  rcases Classical.em (0 ≤ p1 ∧ p1 < 3) with c | c
  · rcases Classical.em (0 ≤ p2 ∧ p2 ≤ 6) with w | w
    · obtain ⟨⟨q1, q2⟩, q3⟩ := V.2.2 c w
      exact stp_i (c_L_beltOf_ok l hst D k a o F P J p1 p2 (iv_p h) z1 z2 c w) (rm_i rfl rfl rfl rfl) (sel_fpj) hX (rm_i rfl rfl rfl rfl) q2 ⟨by decide, by decide⟩ (fun _ => q3.symm) (fun _ => trivial) ⟨q1, hB⟩
    · obtain ⟨q1, q2⟩ := V.2.1 c w
      exact stp_i (c_L_beltOf_w l hst D k a o F P J p1 p2 (iv_p h) z1 z2 c w) (rm_i rfl rfl rfl rfl) (sel_fpj) hX (rm_i rfl rfl rfl rfl) q2 ⟨by decide, by decide⟩ (fun w => absurd w (by decide)) (fun _ => trivial) ⟨q1, hB⟩
  · obtain ⟨q1, q2⟩ := V.1 c
    exact stp_i (c_L_beltOf_b l hst D k a o F P J p1 p2 (iv_p h) z1 c) (rm_i rfl rfl rfl rfl) (sel_fpj) hX (rm_i rfl rfl rfl rfl) q2 ⟨by decide, by decide⟩ (fun w => absurd w (by decide)) (fun _ => trivial) ⟨q1, hB⟩
set_option maxHeartbeats 4000000 in
theorem st_carrier (hst : l.stackTraces = false) (h : Iv K F P T B N Hs Gs I L R) (hK : K + 620 ≤ 320000) {p1 p2 p3 : Int} (z1 : zR p1) (z2 : zR p2) (z3 : zR p3) : zStp l D k a r o d yL_carrier wsL_carrier yX8_carrier wsX8_carrier [.int (iI p1), .int (iI p2), .int (iI p3)] zAny K F P T B N Hs Gs I L R J X := by
  have V := op_carrier (p1 := p1) (p2 := p2) (p3 := p3) h.1
  have hX := c_X8_carrier l D k r R p1 p2 p3 (iv_B h) (iv_B0 h) (iv_C h) z1 z2 z3
  have s0 := sc_carrier (p0 := p1) (p1 := p2) (p2 := p3) (iv_r0 h) (iv_r1 h) h.2.1.1 (iv_5 h) (iv_12 h)
  have hB := bA_q h.2 hK s0
  rcases Classical.em ((0 ≤ p2 ∧ ((p1 = 0 ∧ p2 < P 3 1) ∨ (p1 = 1 ∧ p2 < P 6 1) ∨ (p1 = 2 ∧ p2 < P 9 1)))) with c | c
  · rcases Classical.em (0 ≤ p3 ∧ p3 ≤ 3) with w | w
    · obtain ⟨⟨q1, q2⟩, q3⟩ := V.2.2 c w
      exact stp_i (c_L_carrier_ok l hst D k a o F P J p1 p2 p3 (iv_p h) z1 z2 z3 c w) (rm_i rfl rfl rfl rfl) (sel_fpj) hX (rm_i rfl rfl rfl rfl) q2 ⟨by decide, by decide⟩ (fun _ => q3.symm) (fun _ => trivial) ⟨q1, hB⟩
    · obtain ⟨q1, q2⟩ := V.2.1 c w
      exact stp_i (c_L_carrier_w l hst D k a o F P J p1 p2 p3 (iv_p h) z1 z2 z3 c w) (rm_i rfl rfl rfl rfl) (sel_fpj) hX (rm_i rfl rfl rfl rfl) q2 ⟨by decide, by decide⟩ (fun w => absurd w (by decide)) (fun _ => trivial) ⟨q1, hB⟩
  · obtain ⟨q1, q2⟩ := V.1 c
    exact stp_i (c_L_carrier_b l hst D k a o F P J p1 p2 p3 (iv_p h) z1 z2 c) (rm_i rfl rfl rfl rfl) (sel_fpj) hX (rm_i rfl rfl rfl rfl) q2 ⟨by decide, by decide⟩ (fun w => absurd w (by decide)) (fun _ => trivial) ⟨q1, hB⟩
set_option maxHeartbeats 4000000 in
theorem st_rejectOf (hst : l.stackTraces = false) (h : Iv K F P T B N Hs Gs I L R) (hK : K + 620 ≤ 320000) {p1 p2 : Int} (z1 : zR p1) (z2 : zR p2) : zStp l D k a r o d yL_rejectOf wsL_rejectOf yX8_rejectOf wsX8_rejectOf [.int (iI p1), .int (iI p2)] zAny K F P T B N Hs Gs I L R J X := by
  have V := op_rejectOf (p1 := p1) (p2 := p2) h.1
  have hX := c_X8_rejectOf l D k r R p1 p2 (iv_B h) (iv_B0 h) (iv_C h) (iv_F h) (iv_7 h) z1 z2
  have s0 := sc_rejectOf (p0 := p1) (p1 := p2) (iv_r0 h) (iv_r1 h) h.2.1.1 (iv_5 h) (iv_12 h)
  have hB := bA_q h.2 hK s0
  rcases Classical.em (0 ≤ p1 ∧ p1 < P 11 1) with c | c
  · rcases Classical.em (0 ≤ p2 ∧ p2 ≤ 5) with w | w
    · obtain ⟨⟨q1, q2⟩, q3⟩ := V.2.2 c w
      exact stp_i (c_L_rejectOf_ok l hst D k a o F P J p1 p2 (iv_p h) z1 z2 c w) (rm_i rfl rfl rfl rfl) (sel_fpj) hX (rm_i rfl rfl rfl rfl) q2 ⟨by decide, by decide⟩ (fun _ => q3.symm) (fun _ => trivial) ⟨q1, hB⟩
    · obtain ⟨q1, q2⟩ := V.2.1 c w
      exact stp_i (c_L_rejectOf_w l hst D k a o F P J p1 p2 (iv_p h) z1 z2 c w) (rm_i rfl rfl rfl rfl) (sel_fpj) hX (rm_i rfl rfl rfl rfl) q2 ⟨by decide, by decide⟩ (fun w => absurd w (by decide)) (fun _ => trivial) ⟨q1, hB⟩
  · obtain ⟨q1, q2⟩ := V.1 c
    exact stp_i (c_L_rejectOf_b l hst D k a o F P J p1 p2 (iv_p h) z1 c) (rm_i rfl rfl rfl rfl) (sel_fpj) hX (rm_i rfl rfl rfl rfl) q2 ⟨by decide, by decide⟩ (fun w => absurd w (by decide)) (fun _ => trivial) ⟨q1, hB⟩
set_option maxHeartbeats 4000000 in
theorem st_yawns (hst : l.stackTraces = false) (h : Iv K F P T B N Hs Gs I L R) (hK : K + 620 ≤ 320000) {p1 : Int} (z1 : zR p1) : zStp l D k a r o d yL_yawns wsL_yawns yX8_yawns wsX8_yawns [.int (iI p1)] zAny K F P T B N Hs Gs I L R J X := by
  have V := op_yawns (p1 := p1) h.1
  have hX := c_X8_yawns l D k r R p1 (iv_B h) (iv_B0 h) (iv_C h) (iv_I h) z1
  have s0 := sc_yawns (p0 := p1) (iv_r0 h) (iv_r1 h) h.2.1.1 (iv_5 h) (iv_12 h)
  have hB := bA_q h.2 hK s0
  rcases Classical.em (0 ≤ p1 ∧ p1 < P 13 1) with c | c
  · obtain ⟨⟨q1, q2⟩, q3⟩ := V.2 c
    exact stp_i (c_L_yawns_ok l hst D k a o F P J p1 (iv_p h) z1 c) (rm_i rfl rfl rfl rfl) (sel_fpj) hX (rm_i rfl rfl rfl rfl) q2 ⟨by decide, by decide⟩ (fun _ => q3.symm) (fun _ => trivial) ⟨q1, hB⟩
  · obtain ⟨q1, q2⟩ := V.1 c
    exact stp_i (c_L_yawns_x l hst D k a o F P J p1 (iv_p h) z1 c) (rm_i rfl rfl rfl rfl) (sel_fpj) hX (rm_i rfl rfl rfl rfl) q2 ⟨by decide, by decide⟩ (fun w => absurd w (by decide)) (fun _ => trivial) ⟨q1, hB⟩
set_option maxHeartbeats 4000000 in
theorem st_fresh (hst : l.stackTraces = false) (h : Iv K F P T B N Hs Gs I L R) (hK : K + 620 ≤ 320000) {p1 : Int} (z1 : zR p1) : zStp l D k a r o d yL_fresh wsL_fresh yX8_fresh wsX8_fresh [.int (iI p1)] zAny K F P T B N Hs Gs I L R J X := by
  have V := op_fresh (p1 := p1) h.1
  have hX := c_X8_fresh l D k r R p1 (iv_B h) (iv_B0 h) (iv_I h) z1
  have s0 := sc_fresh (p0 := p1) (iv_r0 h) (iv_r1 h) h.2.1.1 (iv_5 h) (iv_12 h)
  have hB := bA_q h.2 hK s0
  rcases Classical.em (0 ≤ p1 ∧ p1 < P 13 1) with c | c
  · obtain ⟨⟨q1, q2⟩, q3⟩ := V.2 c
    exact stp_i (c_L_fresh_ok l hst D k a o F P J p1 (iv_p h) z1 c) (rm_i rfl rfl rfl rfl) (sel_fpj) hX (rm_i rfl rfl rfl rfl) q2 ⟨by decide, by decide⟩ (fun _ => q3.symm) (fun _ => trivial) ⟨q1, hB⟩
  · obtain ⟨q1, q2⟩ := V.1 c
    exact stp_i (c_L_fresh_x l hst D k a o F P J p1 (iv_p h) z1 c) (rm_i rfl rfl rfl rfl) (sel_fpj) hX (rm_i rfl rfl rfl rfl) q2 ⟨by decide, by decide⟩ (fun w => absurd w (by decide)) (fun _ => trivial) ⟨q1, hB⟩
set_option maxHeartbeats 4000000 in
theorem st_greyest (hst : l.stackTraces = false) (h : Iv K F P T B N Hs Gs I L R) (hK : K + 620 ≤ 320000) {p1 : Int} (z1 : zR p1) : zStp l D k a r o d yL_greyest wsL_greyest yX8_greyest wsX8_greyest [.int (iI p1)] zAny K F P T B N Hs Gs I L R J X := by
  have V := op_greyest (p1 := p1) h.1
  have hX := c_X8_greyest l D k r R p1 (iv_B h) (iv_B0 h) (iv_T h) (iv_C h) z1
  have s0 := sc_greyest (p0 := p1) (iv_r0 h) (iv_r1 h) h.2.1.1 (iv_5 h) (iv_12 h)
  have hB := bA_q h.2 hK s0
  rcases Classical.em (0 ≤ p1 ∧ p1 < 3) with c | c
  · obtain ⟨⟨q1, q2⟩, q3⟩ := V.2 c
    exact stp_i (c_L_greyest_ok l hst D k a o F P J p1 (iv_p h) z1 c) (rm_i rfl rfl rfl rfl) (sel_fpj) hX (rm_i rfl rfl rfl rfl) q2 ⟨by decide, by decide⟩ (fun _ => q3.symm) (fun _ => trivial) ⟨q1, hB⟩
  · obtain ⟨q1, q2⟩ := V.1 c
    exact stp_i (c_L_greyest_x l hst D k a o F P J p1 (iv_p h) z1 c) (rm_i rfl rfl rfl rfl) (sel_fpj) hX (rm_i rfl rfl rfl rfl) q2 ⟨by decide, by decide⟩ (fun w => absurd w (by decide)) (fun _ => trivial) ⟨q1, hB⟩
set_option maxHeartbeats 4000000 in
theorem st_account (hst : l.stackTraces = false) (h : Iv K F P T B N Hs Gs I L R) (hK : K + 620 ≤ 320000) {p1 : Int} (z1 : zR p1) : zStp l D k a r o d yL_account wsL_account yX8_account wsX8_account [.int (iI p1)] zAny K F P T B N Hs Gs I L R J X := by
  have V := op_account (p1 := p1) h.1
  have hX := c_X8_account l D k r R p1 (iv_B0 h) (iv_B h) (iv_T h) (iv_C h) z1
  have s0 := sc_account (p0 := p1) (iv_r0 h) (iv_r1 h) h.2.1.1 (iv_5 h) (iv_12 h)
  have hB := bA_q h.2 hK s0
  rcases Classical.em (0 ≤ p1 ∧ p1 ≤ 14) with c | c
  · obtain ⟨⟨q1, q2⟩, q3⟩ := V.2 c
    exact stp_i (c_L_account_ok l hst D k a o F P Hs I J p1 (iv_p h) z1 c) (rm_i rfl rfl rfl rfl) (sel_fphij) hX (rm_i rfl rfl rfl rfl) q2 ⟨by decide, by decide⟩ (fun _ => q3.symm) (fun _ => trivial) ⟨q1, hB⟩
  · obtain ⟨q1, q2⟩ := V.1 c
    exact stp_i (c_L_account_x l hst D k a o F P Hs I J p1 (iv_p h) z1 c) (rm_i rfl rfl rfl rfl) (sel_fphij) hX (rm_i rfl rfl rfl rfl) q2 ⟨by decide, by decide⟩ (fun w => absurd w (by decide)) (fun _ => trivial) ⟨q1, hB⟩
set_option maxHeartbeats 4000000 in
theorem st_character (hst : l.stackTraces = false) (h : Iv K F P T B N Hs Gs I L R) (hK : K + 620 ≤ 320000) {p1 : Int} (z1 : zR p1) : zStp l D k a r o d yL_character wsL_character yX8_character wsX8_character [.int (iI p1)] zAny K F P T B N Hs Gs I L R J X := by
  have V := op_character (p1 := p1) h.1
  have hX := c_X8_character l D k r R p1 (iv_B0 h) (iv_15 h) (iv_r6 h) z1
  have s0 := sc_character (p0 := p1) (iv_r0 h) (iv_r1 h) h.2.1.1 (iv_5 h) (iv_12 h)
  have hB := bA_q h.2 hK s0
  rcases Classical.em (0 ≤ p1 ∧ p1 < L 0 1) with c | c
  · obtain ⟨q1, q2, q3⟩ := V.2 c
    exact stp_i (c_L_character_ok l hst D k a o F L J p1 (iv_L0 h) z1 (iv_l h) c) (rm_i rfl rfl rfl rfl) (sel_flj) hX (rm_i rfl rfl rfl rfl) q2 ⟨by decide, by decide⟩ (fun _ => q3.symm) (fun _ => trivial) ⟨q1, hB⟩
  · obtain ⟨q1, q2⟩ := V.1 c
    exact stp_i (c_L_character_x l hst D k a o F L J p1 (iv_L0 h) z1 c) (rm_i rfl rfl rfl rfl) (sel_flj) hX (rm_i rfl rfl rfl rfl) q2 ⟨by decide, by decide⟩ (fun w => absurd w (by decide)) (fun _ => trivial) ⟨q1, hB⟩
set_option maxHeartbeats 4000000 in
theorem st_refusal (hst : l.stackTraces = false) (h : Iv K F P T B N Hs Gs I L R) (hK : K + 620 ≤ 320000) {p1 : Int} (z1 : zR p1) : zStp l D k a r o d yL_refusal wsL_refusal yX8_refusal wsX8_refusal [.int (iI p1)] zAny K F P T B N Hs Gs I L R J X := by
  have V := op_refusal (p1 := p1) h.1
  have hX := c_X8_refusal l D k r R p1 (iv_B0 h) z1
  have s0 := sc_refusal (p0 := p1) (iv_r0 h) (iv_r1 h) h.2.1.1 (iv_5 h) (iv_12 h)
  have hB := bA_q h.2 hK s0
  rcases Classical.em (F 0 9 = 0) with c | c
  · obtain ⟨q1, q2⟩ := V.1 c
    exact stp_i (c_L_refusal_x l hst D k a o F J p1 z1 c) (rm_i rfl rfl rfl rfl) (sel_fj) hX (rm_i rfl rfl rfl rfl) q2 ⟨by decide, by decide⟩ (fun w => absurd w (by decide)) (fun _ => trivial) ⟨q1, hB⟩
  · obtain ⟨q1, q2, q3⟩ := V.2 c
    exact stp_i (c_L_refusal_ok l hst D k a o F J p1 z1 (iv_f h) c) (rm_i rfl rfl rfl rfl) (sel_fj) hX (rm_i rfl rfl rfl rfl) q2 ⟨by decide, by decide⟩ (fun _ => q3.symm) (fun _ => trivial) ⟨q1, hB⟩
set_option maxHeartbeats 4000000 in
theorem st_next (hst : l.stackTraces = false) (h : Iv K F P T B N Hs Gs I L R) (hK : K + 620 ≤ 320000)  : zStp l D k a r o d yL_next wsL_next yX8_next wsX8_next [] zAny K F P T B N Hs Gs I L R J X := by
  have V := op_next  h.1
  have hX := c_X8_next l D k r R (iv_B h) (iv_B0 h) (iv_C h) (iv_I h)
  have s0 := sc_next  (iv_r0 h) (iv_r1 h) h.2.1.1 (iv_5 h) (iv_12 h)
  have hB := bA_q h.2 hK s0
  have rg := (iv_p h).2.2.2.2.2
  rcases (show P 13 1 = 0 ∨ 1 ≤ P 13 1 by omega) with c | c
  · obtain ⟨q1, q2⟩ := V.1 c
    exact stp_i (c_L_next_x l hst D k a o F P J (iv_p h) c) (rm_i rfl rfl rfl rfl) (sel_fpj) hX (rm_i rfl rfl rfl rfl) q2 ⟨by decide, by decide⟩ (fun w => absurd w (by decide)) (fun _ => trivial) ⟨q1, hB⟩
  · obtain ⟨⟨q1, q2⟩, q3⟩ := V.2 c
    exact stp_i (c_L_next_ok l hst D k a o F P J (iv_p h) c) (rm_i rfl rfl rfl rfl) (sel_fpj) hX (rm_i rfl rfl rfl rfl) q2 ⟨by decide, by decide⟩ (fun _ => q3.symm) (fun _ => trivial) ⟨q1, hB⟩
set_option maxHeartbeats 4000000 in
theorem st_best (hst : l.stackTraces = false) (h : Iv K F P T B N Hs Gs I L R) (hK : K + 620 ≤ 320000)  : zStp l D k a r o d yL_best wsL_best yX8_best wsX8_best [] zAny K F P T B N Hs Gs I L R J X := by
  have V := op_best  h.1
  have hX := c_X8_best l D k r R (iv_B h) (iv_B0 h) (iv_F h) (iv_7 h)
  have s0 := sc_best  (iv_r0 h) (iv_r1 h) h.2.1.1 (iv_5 h) (iv_12 h)
  have hB := bA_q h.2 hK s0
  have rg := (iv_p h).2.2.2.2.1
  rcases (show P 11 1 = 0 ∨ 1 ≤ P 11 1 by omega) with c | c
  · obtain ⟨q1, q2⟩ := V.1 c
    exact stp_i (c_L_best_x l hst D k a o F P J (iv_p h) c) (rm_i rfl rfl rfl rfl) (sel_fpj) hX (rm_i rfl rfl rfl rfl) q2 ⟨by decide, by decide⟩ (fun w => absurd w (by decide)) (fun _ => trivial) ⟨q1, hB⟩
  · obtain ⟨⟨q1, q2⟩, q3⟩ := V.2 c
    exact stp_i (c_L_best_ok l hst D k a o F P J (iv_p h) c) (rm_i rfl rfl rfl rfl) (sel_fpj) hX (rm_i rfl rfl rfl rfl) q2 ⟨by decide, by decide⟩ (fun _ => q3.symm) (fun _ => trivial) ⟨q1, hB⟩
set_option maxHeartbeats 4000000 in
theorem st_leastGrey (hst : l.stackTraces = false) (h : Iv K F P T B N Hs Gs I L R) (hK : K + 620 ≤ 320000) {p1 : Int} (z1 : zR p1) : zStp l D k a r o d yL_leastGrey wsL_leastGrey yX8_leastGrey wsX8_leastGrey [.int (iI p1)] zAny K F P T B N Hs Gs I L R J X := by
  have V := op_leastGrey (p1 := p1) h.1
  have hX := c_X8_leastGrey l D k r R p1 (iv_B h) (iv_B0 h) (iv_C h) z1
  have s0 := sc_leastGrey (p0 := p1) (iv_r0 h) (iv_r1 h) h.2.1.1 (iv_5 h) (iv_12 h)
  have hB := bA_q h.2 hK s0
  rcases (show p1 = 0 ∨ p1 = 1 ∨ p1 = 2 ∨ ¬ (0 ≤ p1 ∧ p1 < 3) by omega) with c | c | c | c
  · subst c
    obtain ⟨⟨q1, q2⟩, q3⟩ := V.2 (by decide)
    have q3 := q3.1 rfl
    exact stp_i (c_L_leastGrey_0 l hst D k a o F P J (iv_p h)) (rm_i rfl rfl rfl rfl) (sel_fpj) hX (rm_i rfl rfl rfl rfl) q2 ⟨by decide, by decide⟩ (fun _ => q3.symm) (fun _ => trivial) ⟨q1, hB⟩
  · subst c
    obtain ⟨⟨q1, q2⟩, q3⟩ := V.2 (by decide)
    have q3 := q3.2.1 rfl
    exact stp_i (c_L_leastGrey_1 l hst D k a o F P J (iv_p h)) (rm_i rfl rfl rfl rfl) (sel_fpj) hX (rm_i rfl rfl rfl rfl) q2 ⟨by decide, by decide⟩ (fun _ => q3.symm) (fun _ => trivial) ⟨q1, hB⟩
  · subst c
    obtain ⟨⟨q1, q2⟩, q3⟩ := V.2 (by decide)
    have q3 := q3.2.2 rfl
    exact stp_i (c_L_leastGrey_2 l hst D k a o F P J (iv_p h)) (rm_i rfl rfl rfl rfl) (sel_fpj) hX (rm_i rfl rfl rfl rfl) q2 ⟨by decide, by decide⟩ (fun _ => q3.symm) (fun _ => trivial) ⟨q1, hB⟩
  · obtain ⟨q1, q2⟩ := V.1 c
    exact stp_i (c_L_leastGrey_x l hst D k a o F P J p1 (iv_p h) z1 c) (rm_i rfl rfl rfl rfl) (sel_fpj) hX (rm_i rfl rfl rfl rfl) q2 ⟨by decide, by decide⟩ (fun w => absurd w (by decide)) (fun _ => trivial) ⟨q1, hB⟩
theorem bo_passes {F P : Nat → Nat → Int} {p1 p2 p3 : Int} : sp_X7_passes_ok F P p1 p2 p3 = 0 ∨ sp_X7_passes_ok F P p1 p2 p3 = 1 := by
  unfold sp_X7_passes_ok
  repeat (first | exact Or.inl rfl | exact Or.inr rfl | refine el1 (Q := fun z => z = 0 ∨ z = 1) (fun _ => ?_) (fun _ => ?_))
set_option maxHeartbeats 4000000 in
theorem st_passes (hst : l.stackTraces = false) (h : Iv K F P T B N Hs Gs I L R) (hK : K + 620 ≤ 320000) {p1 p2 p3 : Int} (z1 : zR p1) (z2 : zR p2) (z3 : zR p3) : zStp l D k a r o d yL_passes wsL_passes yX8_passes wsX8_passes [.int (iI p1), .int (iI p2), .int (iI p3)] zBoo K F P T B N Hs Gs I L R J X := by
  have V := op_passes (p1 := p1) (p2 := p2) (p3 := p3) h.1
  have hX := c_X8_passes l D k r R p1 p2 p3 (iv_B h) (iv_B0 h) (iv_C h) z1 z2 z3
  have s0 := sc_passes (p0 := p1) (p1 := p2) (p2 := p3) (iv_r0 h) (iv_r1 h) h.2.1.1 (iv_5 h) (iv_12 h)
  have hB := bA_q h.2 hK s0
  have kz : sp_L_passes_ok F P J p1 p2 p3 = 0 := by unfold sp_L_passes_ok; exact el1 (Q := fun z => z = 0) (fun _ => rfl) (fun _ => rfl)
  have jj : sS2_0_L_passes_ok F P J p1 p2 p3 0 = sp_X7_passes_ok F P p1 p2 p3 := by
    unfold sS2_0_L_passes_ok
    rcases bo_passes (F := F) (P := P) (p1 := p1) (p2 := p2) (p3 := p3) with e | e
    · rw [e, zif_pos (rfl : (0 : Int) = 0), upZ_s]
    · rw [e, zif_neg (show ¬ (1 : Int) = 0 by decide), upZ_s]
  rcases Classical.em ((0 ≤ p2 ∧ ((p1 = 0 ∧ p2 < P 3 1) ∨ (p1 = 1 ∧ p2 < P 6 1) ∨ (p1 = 2 ∧ p2 < P 9 1)))) with c | c
  · rcases Classical.em (1 ≤ p3 ∧ p3 ≤ 3) with w | w
    · obtain ⟨⟨q1, q2⟩, q3⟩ := V.2.2 c w
      exact stp_i (c_L_passes_ok l hst D k a o F P J p1 p2 p3 (iv_p h) z1 z2 z3 c w) (rm_i rfl rfl rfl rfl) (sel_fpj) hX (rm_i rfl rfl rfl rfl) (q2.trans kz.symm) (by rw [kz]; exact ⟨by decide, by decide⟩) (fun _ => jj.trans q3.symm) (fun _ => show sp_X8_passes R p1 p2 p3 = 0 ∨ sp_X8_passes R p1 p2 p3 = 1 by rw [q3]; exact bo_passes) ⟨q1, hB⟩
    · obtain ⟨q1, q2⟩ := V.2.1 c w
      exact stp_i (c_L_passes_w l hst D k a o F P J p1 p2 p3 (iv_p h) z1 z2 z3 c w) (rm_i rfl rfl rfl rfl) (sel_fpj) hX (rm_i rfl rfl rfl rfl) q2 ⟨by decide, by decide⟩ (fun w => absurd w (by decide)) (fun w => absurd w (by decide)) ⟨q1, hB⟩
  · obtain ⟨q1, q2⟩ := V.1 c
    exact stp_i (c_L_passes_b l hst D k a o F P J p1 p2 p3 (iv_p h) z1 z2 c) (rm_i rfl rfl rfl rfl) (sel_fpj) hX (rm_i rfl rfl rfl rfl) q2 ⟨by decide, by decide⟩ (fun w => absurd w (by decide)) (fun w => absurd w (by decide)) ⟨q1, hB⟩
theorem bo_wouldMend {F P : Nat → Nat → Int} {p1 : Int} : sp_X7_wouldMend_ok F P p1 = 0 ∨ sp_X7_wouldMend_ok F P p1 = 1 := by
  unfold sp_X7_wouldMend_ok
  repeat (first | exact Or.inl rfl | exact Or.inr rfl | refine el1 (Q := fun z => z = 0 ∨ z = 1) (fun _ => ?_) (fun _ => ?_))
set_option maxHeartbeats 4000000 in
theorem st_wouldMend (hst : l.stackTraces = false) (h : Iv K F P T B N Hs Gs I L R) (hK : K + 620 ≤ 320000) {p1 : Int} (z1 : zR p1) : zStp l D k a r o d yL_wouldMend wsL_wouldMend yX8_wouldMend wsX8_wouldMend [.int (iI p1)] zBoo K F P T B N Hs Gs I L R J X := by
  have V := op_wouldMend (p1 := p1) h.1
  have hX := c_X8_wouldMend l D k r R p1 (iv_B h) (iv_B0 h) (iv_F h) z1
  have s0 := sc_wouldMend (p0 := p1) (iv_r0 h) (iv_r1 h) h.2.1.1 (iv_5 h) (iv_12 h)
  have hB := bA_q h.2 hK s0
  have kz : sp_L_wouldMend_ok F P J p1 = 0 := by unfold sp_L_wouldMend_ok; exact el1 (Q := fun z => z = 0) (fun _ => rfl) (fun _ => rfl)
  have jj : sS2_0_L_wouldMend_ok F P J p1 0 = sp_X7_wouldMend_ok F P p1 := by
    unfold sS2_0_L_wouldMend_ok
    rcases bo_wouldMend (F := F) (P := P) (p1 := p1) with e | e
    · rw [e, zif_pos (rfl : (0 : Int) = 0), upZ_s]
    · rw [e, zif_neg (show ¬ (1 : Int) = 0 by decide), upZ_s]
  rcases Classical.em (0 ≤ p1 ∧ p1 < P 11 1) with c | c
  · obtain ⟨⟨q1, q2⟩, q3⟩ := V.2 c
    exact stp_i (c_L_wouldMend_ok l hst D k a o F P J p1 (iv_p h) z1 c) (rm_i rfl rfl rfl rfl) (sel_fpj) hX (rm_i rfl rfl rfl rfl) (q2.trans kz.symm) (by rw [kz]; exact ⟨by decide, by decide⟩) (fun _ => jj.trans q3.symm) (fun _ => show sp_X8_wouldMend R p1 = 0 ∨ sp_X8_wouldMend R p1 = 1 by rw [q3]; exact bo_wouldMend) ⟨q1, hB⟩
  · obtain ⟨q1, q2⟩ := V.1 c
    exact stp_i (c_L_wouldMend_x l hst D k a o F P J p1 (iv_p h) z1 c) (rm_i rfl rfl rfl rfl) (sel_fpj) hX (rm_i rfl rfl rfl rfl) q2 ⟨by decide, by decide⟩ (fun w => absurd w (by decide)) (fun w => absurd w (by decide)) ⟨q1, hB⟩
set_option maxHeartbeats 4000000 in
theorem st_wouldFail (hst : l.stackTraces = false) (h : Iv K F P T B N Hs Gs I L R) (hK : K + 620 ≤ 320000) {p1 p2 p3 : Int} (z1 : zR p1) (z2 : zR p2) (z3 : zR p3) : zStp l D k a r o d yL_wouldFail wsL_wouldFail yX8_wouldFail wsX8_wouldFail [.int (iI p1), .int (iI p2), .int (iI p3)] zAny K F P T B N Hs Gs I L R J X := by
  have V := op_wouldFail (p1 := p1) (p2 := p2) (p3 := p3) h.1
  have hX := c_X8_wouldFail l D k r R p1 p2 p3 (iv_B h) (iv_B0 h) (iv_C h) (iv_I h) z1 z2
  have s0 := sc_wouldFail (p0 := p1) (p1 := p2) (p2 := p3) (iv_r0 h) (iv_r1 h) h.2.1.1 (iv_5 h) (iv_12 h)
  have hB := bA_q h.2 hK s0
  have rg := (iv_p h).2.2.2.2.2
  rcases Classical.em ((0 ≤ p2 ∧ ((p1 = 0 ∧ p2 < P 3 1) ∨ (p1 = 1 ∧ p2 < P 6 1) ∨ (p1 = 2 ∧ p2 < P 9 1)))) with c | c
  · rcases (show P 13 1 = 0 ∨ 1 ≤ P 13 1 by omega) with w | w
    · obtain ⟨q1, q2⟩ := V.2.1 c w
      exact stp_i (c_L_wouldFail_i l hst D k a o F P J p1 p2 p3 (iv_p h) z1 z2 c w) (rm_i rfl rfl rfl rfl) (sel_fpj) hX (rm_i rfl rfl rfl rfl) q2 ⟨by decide, by decide⟩ (fun w => absurd w (by decide)) (fun _ => trivial) ⟨q1, hB⟩
    · obtain ⟨⟨q1, q2⟩, q3⟩ := V.2.2 c w
      rcases c.2 with ⟨c1, c2⟩ | ⟨c1, c2⟩ | ⟨c1, c2⟩
      · subst c1
        rcases Classical.em (p3 = 0) with z | z
        · subst z
          exact stp_i (c_L_wouldFail_f0 l hst D k a o F P T J p2 (iv_p h) (iv_t h) z2 ⟨c.1, c2⟩ w) (rm_i rfl rfl rfl rfl) (sel_fptj) hX (rm_i rfl rfl rfl rfl) q2 ⟨by decide, by decide⟩ (fun _ => (cut_0 h.1.1 w c.1 c2).trans q3.symm) (fun _ => trivial) ⟨q1, bA_t hB (wFT0_a (iv_t h) (iv_p h))⟩
        · exact stp_i (c_L_wouldFail_t0 l hst D k a o F P T J p2 p3 (iv_p h) (iv_t h) z2 ⟨c.1, c2⟩ w z3 z) (rm_i rfl rfl rfl rfl) (sel_fptj) hX (rm_i rfl rfl rfl rfl) q2 ⟨by decide, by decide⟩ (fun _ => (back_0 (F := F) h.1.1 w c.1 c2).trans q3.symm) (fun _ => trivial) ⟨q1, hB⟩
      · subst c1
        rcases Classical.em (p3 = 0) with z | z
        · subst z
          exact stp_i (c_L_wouldFail_f1 l hst D k a o F P T J p2 (iv_p h) (iv_t h) z2 ⟨c.1, c2⟩ w) (rm_i rfl rfl rfl rfl) (sel_fptj) hX (rm_i rfl rfl rfl rfl) q2 ⟨by decide, by decide⟩ (fun _ => (cut_1 h.1.1 w c.1 c2).trans q3.symm) (fun _ => trivial) ⟨q1, bA_t hB (wFT1_a (iv_t h) (iv_p h))⟩
        · exact stp_i (c_L_wouldFail_t1 l hst D k a o F P T J p2 p3 (iv_p h) (iv_t h) z2 ⟨c.1, c2⟩ w z3 z) (rm_i rfl rfl rfl rfl) (sel_fptj) hX (rm_i rfl rfl rfl rfl) q2 ⟨by decide, by decide⟩ (fun _ => (back_1 (F := F) h.1.1 w c.1 c2).trans q3.symm) (fun _ => trivial) ⟨q1, hB⟩
      · subst c1
        rcases Classical.em (p3 = 0) with z | z
        · subst z
          exact stp_i (c_L_wouldFail_f2 l hst D k a o F P T J p2 (iv_p h) (iv_t h) z2 ⟨c.1, c2⟩ w) (rm_i rfl rfl rfl rfl) (sel_fptj) hX (rm_i rfl rfl rfl rfl) q2 ⟨by decide, by decide⟩ (fun _ => (cut_2 h.1.1 w c.1 c2).trans q3.symm) (fun _ => trivial) ⟨q1, bA_t hB (wFT2_a (iv_t h) (iv_p h))⟩
        · exact stp_i (c_L_wouldFail_t2 l hst D k a o F P T J p2 p3 (iv_p h) (iv_t h) z2 ⟨c.1, c2⟩ w z3 z) (rm_i rfl rfl rfl rfl) (sel_fptj) hX (rm_i rfl rfl rfl rfl) q2 ⟨by decide, by decide⟩ (fun _ => (back_2 (F := F) h.1.1 w c.1 c2).trans q3.symm) (fun _ => trivial) ⟨q1, hB⟩
  · obtain ⟨q1, q2⟩ := V.1 c
    exact stp_i (c_L_wouldFail_b l hst D k a o F P J p1 p2 p3 (iv_p h) z1 z2 c) (rm_i rfl rfl rfl rfl) (sel_fpj) hX (rm_i rfl rfl rfl rfl) q2 ⟨by decide, by decide⟩ (fun w => absurd w (by decide)) (fun _ => trivial) ⟨q1, hB⟩
set_option maxHeartbeats 4000000 in
theorem st_wouldStamp (hst : l.stackTraces = false) (h : Iv K F P T B N Hs Gs I L R) (hK : K + 620 ≤ 320000) {p1 : Int} (z1 : zR p1) : zStp l D k a r o d yL_wouldStamp wsL_wouldStamp yX8_wouldStamp wsX8_wouldStamp [.int (iI p1)] zAny K F P T B N Hs Gs I L R J X := by
  have V := op_wouldStamp (p1 := p1) h.1
  have hX := c_X8_wouldStamp l D k r R p1 (iv_B h) (iv_B0 h) (iv_T9 h) (iv_C h) (iv_I h) (iv_F h) z1
  have s0 := sc_wouldStamp (p0 := p1) (iv_r0 h) (iv_r1 h) h.2.1.1 (iv_5 h) (iv_12 h)
  have rg := (iv_p h).2.2.2.2.2
  have hB : ∀ T' : Nat → Nat → Int, aOK T' → bA (K + 620) F P T' B N Gs L (upA (upA (upA R 0 (sS0_0_X8_wouldStamp R p1)) 1 (R 1)) 4 (sS0_4_X8_wouldStamp R p1)) := by
    intro T' t
    obtain ⟨bK, bp, bt, bb, bn, bg, b0, b1, b2, b3, b4, b5, b6, b7, bl, bf, bc, bq⟩ := h.2
    have s4 : zBk K (sS0_4_X8_wouldStamp R p1) := by
      unfold sS0_4_X8_wouldStamp
      exact el1 (Q := zBk K) (fun _ => el1 (Q := zBk K) (fun _ => b4) (fun _ => b1.cpy b4 _ _ _)) (fun _ => b4)
    exact bA_i ⟨by omega, hK⟩ (bp.mono (by omega)) t (bb.mono (by omega)) (bn.mono (by omega)) (fun i hi => (bg i hi).mono (by omega)) (s0.mono (by omega)) (b1.mono (by omega)) (b2.mono (by omega)) (b3.mono (by omega)) (s4.mono (by omega)) b5 b6 b7 bl bf bc bq
  rcases Classical.em (0 ≤ p1 ∧ p1 < 3) with c | c
  · rcases (show P 13 1 = 0 ∨ 1 ≤ P 13 1 by omega) with w | w
    · obtain ⟨q1, q2⟩ := V.2.1 c w
      exact stp_i (c_L_wouldStamp_i l hst D k a o F P J p1 (iv_p h) z1 c w) (rm_i rfl rfl rfl rfl) (sel_fpj) hX (rm_i rfl rfl rfl rfl) q2 ⟨by decide, by decide⟩ (fun w => absurd w (by decide)) (fun _ => trivial) ⟨q1, hB T (iv_t h)⟩
    · obtain ⟨⟨q1, q2⟩, q3⟩ := V.2.2 c w
      rcases (show p1 = 0 ∨ p1 = 1 ∨ p1 = 2 by omega) with z | z | z
      · subst z
        exact stp_i (c_L_wouldStamp_0 l hst D k a o F P T J (iv_p h) (iv_t h) w) (rm_i rfl rfl rfl rfl) (sel_fptj) hX (rm_i rfl rfl rfl rfl) q2 ⟨by decide, by decide⟩ (fun _ => (q3.1 T rfl).symm) (fun _ => trivial) ⟨q1, hB _ (wInspN0_a (pOK_a (pOK_copy (iv_t h) (iv_p h))) _)⟩
      · subst z
        exact stp_i (c_L_wouldStamp_1 l hst D k a o F P T J (iv_p h) (iv_t h) w) (rm_i rfl rfl rfl rfl) (sel_fptj) hX (rm_i rfl rfl rfl rfl) q2 ⟨by decide, by decide⟩ (fun _ => (q3.2.1 T rfl).symm) (fun _ => trivial) ⟨q1, hB _ (wInspN1_a (pOK_a (pOK_copy (iv_t h) (iv_p h))) _)⟩
      · subst z
        exact stp_i (c_L_wouldStamp_2 l hst D k a o F P T J (iv_p h) (iv_t h) w) (rm_i rfl rfl rfl rfl) (sel_fptj) hX (rm_i rfl rfl rfl rfl) q2 ⟨by decide, by decide⟩ (fun _ => (q3.2.2 T rfl).symm) (fun _ => trivial) ⟨q1, hB _ (wInspN2_a (pOK_a (pOK_copy (iv_t h) (iv_p h))) _)⟩
  · obtain ⟨q1, q2⟩ := V.1 c
    exact stp_i (c_L_wouldStamp_b l hst D k a o F P J p1 (iv_p h) z1 c) (rm_i rfl rfl rfl rfl) (sel_fpj) hX (rm_i rfl rfl rfl rfl) q2 ⟨by decide, by decide⟩ (fun w => absurd w (by decide)) (fun _ => trivial) ⟨q1, hB T (iv_t h)⟩
set_option maxHeartbeats 4000000 in
theorem st_append (hst : l.stackTraces = false) (h : Iv K F P T B N Hs Gs I L R) (hK : K + 620 ≤ 320000) {p1 : Int} (z1 : 0 ≤ p1 ∧ p1 < 65536) : zStp l D k a r o d yL_append wsL_append yX8_append wsX8_append [.int (iI p1)] zAny K F P T B N Hs Gs I L R J X := by
  have V := op_append (p1 := p1) h.1 z1
  have hX := c_X8_append l D k r R p1 (iv_B0 h) (iv_12 h) z1
  have s0 := sc_append (p0 := p1) (iv_r0 h) (iv_r1 h) h.2.1.1 (iv_5 h) (iv_12 h)
  have rg := iv_I0 h
  have hB : bA (K + 620) F P T B N Gs L (upA (upA R 0 (sS0_0_X8_append R p1)) 5 (sS0_5_X8_append R p1)) := by
    obtain ⟨bK, bp, bt, bb, bn, bg, b0, b1, b2, b3, b4, b5, b6, b7, bl, bf, bc, bq⟩ := h.2
    have s5 : rowR (sS0_5_X8_append R p1) := by
      unfold sS0_5_X8_append
      exact el1 (Q := rowR) (fun _ => b5) (fun _ => rowR_up b5 z1)
    exact bA_i ⟨by omega, hK⟩ (bp.mono (by omega)) bt (bb.mono (by omega)) (bn.mono (by omega)) (fun i hi => (bg i hi).mono (by omega)) (s0.mono (by omega)) (b1.mono (by omega)) (b2.mono (by omega)) (b3.mono (by omega)) (b4.mono (by omega)) s5 b6 b7 bl bf bc bq
  rcases (show I 0 1 = 60 ∨ I 0 1 < 60 by omega) with c | c
  · obtain ⟨q1, q2⟩ := V.1 c
    exact stp_i (c_L_append_x l hst D k a o F I J p1 z1 c) (rm_i rfl rfl rfl rfl) (sel_fij) hX (rm_i rfl rfl rfl rfl) q2 ⟨by decide, by decide⟩ (fun w => absurd w (by decide)) (fun _ => trivial) ⟨q1, hB⟩
  · obtain ⟨q1, q2, q3⟩ := V.2 c
    exact stp_i (c_L_append_ok l hst D k a o F I J p1 z1 ⟨rg.1, c⟩) (rm_i rfl rfl rfl rfl) (sel_fij) hX (rm_i rfl rfl rfl rfl) q2 ⟨by decide, by decide⟩ (fun _ => q3.symm) (fun _ => trivial) ⟨q1, hB⟩
set_option maxHeartbeats 4000000 in
theorem st_undo (hst : l.stackTraces = false) (h : Iv K F P T B N Hs Gs I L R) (hK : K + 620 ≤ 320000)  : zStp l D k a r o d yL_undo wsL_undo yX8_undo wsX8_undo [] zAny K F P T B N Hs Gs I L R J X := by
  have e0 := iv_ha h
  have e2 := iv_hn h
  obtain ⟨i0, hi, hj⟩ : ∃ i0 : Nat, i0 < 8 ∧ (Hs 0 1 + 8 - 1) % 8 = (i0 : Int) := ⟨((Hs 0 1 + 8 - 1) % 8).toNat, by omega, by omega⟩
  have V := op_undo (i0 := i0) h.1
  have hX := c_X8_undo l D k r R (iv_B0 h) (iv_5 h)
  have s0 := sc_undo (iv_r0 h) (iv_r1 h) h.2.1.1 (iv_5 h) (iv_12 h)
  obtain ⟨bK, bp, bt, bb, bn, bg, b0, b1, b2, b3, b4, b5, b6, b7, bl, bf, bc, bq⟩ := id h.2
  have s1 : zBk K (sS0_1_X8_undo R) := by
    unfold sS0_1_X8_undo
    exact el1 (Q := zBk K) (fun _ => b1) (fun _ => b2.cpy b1 _ _ _)
  have gp := (bg i0 hi).2
  have hB : ∀ P' : Nat → Nat → Int, pK K P' → nnP P' → bA (K + 620) F P' T B N Gs L (upA (upA R 0 (sS0_0_X8_undo R)) 1 (sS0_1_X8_undo R)) := fun P' p nq => bA_i ⟨by omega, hK⟩ (p.mono (by omega)) bt (bb.mono (by omega)) (bn.mono (by omega)) (fun i hi => (bg i hi).mono (by omega)) (s0.mono (by omega)) (s1.mono (by omega)) (b2.mono (by omega)) (b3.mono (by omega)) (b4.mono (by omega)) b5 b6 b7 bl bf bc ⟨nq, bq.2⟩
  rcases (show Hs 0 2 = 0 ∨ 1 ≤ Hs 0 2 by omega) with c | c
  · obtain ⟨q1, q2⟩ := V.1 c
    exact stp_i (c_L_undo_x l hst D k a o F Hs J c) (rm_i rfl rfl rfl rfl) (sel_fhj) hX (rm_i rfl rfl rfl rfl) q2 ⟨by decide, by decide⟩ (fun w => absurd w (by decide)) (fun _ => trivial) ⟨q1, hB P bp bq.1⟩
  · obtain ⟨q1, q2, q3⟩ := V.2 c hj
    have sl := sel_fphgj (k := k) (a := a) (r := r) (o := o) (d := d) (F := F) (P := P) (T := T) (B := B) (N := N) (Hs := Hs) (G := Gs) (I := I) (L := L) (R := R) (J := J) (X := X) (F' := F) (P' := wCopy P (Gs i0)) (Hs' := up2 (up2 Hs 0 1 ((((Hs 0 1) + 8) - 1) % 8)) 0 2 ((Hs 0 2) - 1)) (Q' := Gs i0) (J' := up2 J 0 0 ((Hs 0 2) - 1)) i0 hi
    rw [upG_self] at sl
    exact stp_i (c_L_undo_ok l hst D k a o F P Hs (Gs i0) J i0 ⟨hj, hi⟩ ⟨c, e2.2⟩ e0 ⟨gp.1.1, by omega⟩ ⟨gp.2.1.1, by omega⟩ ⟨gp.2.2.1.1, by omega⟩ gp.2.2.2.1) (rm_i rfl rfl rfl rfl) sl hX (rm_i rfl rfl rfl rfl) q2 ⟨by decide, by decide⟩ (fun _ => q3.symm) (fun _ => trivial) ⟨q1, hB _ (pK_copy bp (bg i0 hi)) (nn_copy (bq.2.2 i0 hi))⟩
set_option maxHeartbeats 4000000 in
theorem st_restore (hst : l.stackTraces = false) (h : Iv K F P T B N Hs Gs I L R) (hK : K + 620 ≤ 320000)  : zStp l D k a r o d yL_restore wsL_restore yX8_restore wsX8_restore [] zAny K F P T B N Hs Gs I L R J X := by
  have V := op_restore h.1
  obtain ⟨bK, bp, bt, bb, bn, bg, b0, b1, b2, b3, b4, b5, b6, b7, bl, bf, bc, bq⟩ := id h.2
  have cp : zBk K (cpyZ (R 3) (R 1) 0 0 125) := b3.cpy b1 _ _ _
  have s0 := sc_restore (iv_r0 h) (iv_r1 h) h.2.1.1 (iv_5 h) (iv_12 h)
  have s1 : zBk K (sS0_1_X8_restore R) := by
    unfold sS0_1_X8_restore
    exact el1 (Q := zBk K) (fun _ => b1) (fun _ => cp)
  have np := bn.2
  have hB : ∀ P' : Nat → Nat → Int, pK K P' → nnP P' → bA (K + 620) F P' T B N Gs L (upA (upA R 0 (sS0_0_X8_restore R)) 1 (sS0_1_X8_restore R)) := fun P' p nq => bA_i ⟨by omega, hK⟩ (p.mono (by omega)) bt (bb.mono (by omega)) (bn.mono (by omega)) (fun i hi => (bg i hi).mono (by omega)) (s0.mono (by omega)) (s1.mono (by omega)) (b2.mono (by omega)) (b3.mono (by omega)) (b4.mono (by omega)) b5 b6 b7 bl bf bc ⟨nq, bq.2⟩
  have hsv : R 0 4 = 0 ∨ R 0 4 = 1 := by rcases iv_4 h with z | z; exact Or.inl z.2; exact Or.inr z.2
  have hC : ∀ b : Int, 0 ≤ b → b ≤ 2 → 0 ≤ (cpyZ (R 3) (R 1) 0 0 125) (15 + 26 * b + 0).toNat ∧ (cpyZ (R 3) (R 1) 0 0 125) (15 + 26 * b + 0).toNat ≤ 5 := fun b y0 y2 => by rw [cpy_row b y0 y2]; exact bc b y0 y2
  have hX := c_X8_restore l D k r R (iv_B0 h) hsv (cp.t (by omega)) hC
  rcases iv_4 h with c | c
  · obtain ⟨q1, q2⟩ := V.1 c.1
    exact stp_i (c_L_restore_x l hst D k a o F J c.1) (rm_i rfl rfl rfl rfl) (sel_fj) hX (rm_i rfl rfl rfl rfl) q2 ⟨by decide, by decide⟩ (fun w => absurd w (by decide)) (fun _ => trivial) ⟨q1, hB P bp bq.1⟩
  · obtain ⟨q1, q2, q3⟩ := V.2 c.1
    exact stp_i (c_L_restore_ok l hst D k a o F P N Hs J c.1 np.1 np.2.1 np.2.2.1 np.2.2.2.1) (rm_i rfl rfl rfl rfl) (sel_fpnhj) hX (rm_i rfl rfl rfl rfl) q2 ⟨by decide, by decide⟩ (fun _ => q3.symm) (fun _ => trivial) ⟨q1, hB _ (pK_copy bp bn) (nn_copy bq.2.1)⟩
set_option maxHeartbeats 4000000 in
theorem st_line (hst : l.stackTraces = false) (h : Iv K F P T B N Hs Gs I L R) (hK : K + 620 ≤ 320000) {p1 : Int} (z1 : zR p1) : zStp l D k a r o d yL_line wsL_line yX8_line wsX8_line [.int (iI p1)] zAny K F P T B N Hs Gs I L R J X := by
  have hX := c_X8_line2 l D k r R p1 (iv_B h) (iv_B0 h) (iv_C h) (ln_P h.1.1) (ln_Q h.1.1) z1
  obtain ⟨bK, bp, bt, bb, bn, bg, b0, b1, b2, b3, b4, b5, b6, b7, bl, bf, bc, bq⟩ := id h.2
  have hP := h.1.1
  have hB : ∀ L' : Nat → Nat → Int, rowR (L' 1) → zBk (4 * K) (sS0_0_X8_line R p1) → rowR (sS0_6_X8_line R p1) → bA (K + 620) F P T B N Gs L' (upA (upA R 0 (sS0_0_X8_line R p1)) 6 (sS0_6_X8_line R p1)) := fun L' hl s0 s6 => bA_i ⟨by omega, hK⟩ (bp.mono (by omega)) bt (bb.mono (by omega)) (bn.mono (by omega)) (fun i hi => (bg i hi).mono (by omega)) (s0.mono (by omega)) (b1.mono (by omega)) (b2.mono (by omega)) (b3.mono (by omega)) (b4.mono (by omega)) b5 s6 b7 hl bf bc bq
  rcases (show p1 = 0 ∨ p1 = 1 ∨ p1 = 2 ∨ ¬ (0 ≤ p1 ∧ p1 < 3) by omega) with c | c | c | c
  · subst c
    have lq := line_eq (f := L 1) (g := R 6) hP.1
    have ll := line_len (L := P 2) (N := P 4) (f := L 1) (relB_c hP.1).2
    have lr := line_r (f := L 1) bl (ln_L hP.1) (ln_V hP.1)
    have s0 : zBk (4 * K) (sS0_0_X8_line R 0) := sc_line b0 bK.1 (fun _ => by rw [← lq.2.1]; exact ⟨by omega, by omega⟩)
    have s6 : rowR (sS0_6_X8_line R 0) := by unfold sS0_6_X8_line; exact el1 (Q := rowR) (fun _ => rline_r hP.1 b6) (fun _ => b6)
    obtain ⟨q1, q2, q3⟩ := op_line_0 (L' := (upA (upA (up2 (up2 (up2 (up2 (up2 (up2 (up2 (up2 (up2 L 0 1 0) 1 0 ((48 + (P 2 1)))) 0 1 (((0)) + 1)) 1 1 47) 0 1 (((((0)) + 1)) + 1)) 1 2 ((48 + (P 2 2)))) 0 1 ((((((((0)) + 1)) + 1))) + 1)) 1 3 58) 0 1 ((((((((((0)) + 1)) + 1))) + 1)) + 1)) 0 (upZ (L 0) 1 (wLineB (P 2) (P 4) (P 3 1) (L 1)).2)) 1 ((wLineB (P 2) (P 4) (P 3 1) (L 1)).1))) h.1 rfl rfl
    exact stp_i (c_L_line_02 l hst D k a o F P L J (iv_p h) (ln_V hP.1) (ln_L hP.1).1 (ln_L hP.1).2) (rm_i rfl rfl rfl rfl) sel_fplj hX (rm_i rfl rfl rfl rfl) q2 ⟨by decide, by decide⟩ (fun _ => q3.symm) (fun _ => trivial) ⟨q1, hB _ lr s0 s6⟩
  · subst c
    have lq := line_eq (f := L 1) (g := R 6) hP.2.1
    have ll := line_len (L := P 5) (N := P 7) (f := L 1) (relB_c hP.2.1).2
    have lr := line_r (f := L 1) bl (ln_L hP.2.1) (ln_V hP.2.1)
    have s0 : zBk (4 * K) (sS0_0_X8_line R 1) := sc_line b0 bK.1 (fun _ => by rw [← lq.2.1]; exact ⟨by omega, by omega⟩)
    have s6 : rowR (sS0_6_X8_line R 1) := by unfold sS0_6_X8_line; exact el1 (Q := rowR) (fun _ => rline_r hP.2.1 b6) (fun _ => b6)
    obtain ⟨q1, q2, q3⟩ := op_line_1 (L' := (upA (upA (up2 (up2 (up2 (up2 (up2 (up2 (up2 (up2 (up2 L 0 1 0) 1 0 ((48 + (P 5 1)))) 0 1 (((0)) + 1)) 1 1 47) 0 1 (((((0)) + 1)) + 1)) 1 2 ((48 + (P 5 2)))) 0 1 ((((((((0)) + 1)) + 1))) + 1)) 1 3 58) 0 1 ((((((((((0)) + 1)) + 1))) + 1)) + 1)) 0 (upZ (L 0) 1 (wLineB (P 5) (P 7) (P 6 1) (L 1)).2)) 1 ((wLineB (P 5) (P 7) (P 6 1) (L 1)).1))) h.1 rfl rfl
    exact stp_i (c_L_line_12 l hst D k a o F P L J (iv_p h) (ln_V hP.2.1) (ln_L hP.2.1).1 (ln_L hP.2.1).2) (rm_i rfl rfl rfl rfl) sel_fplj hX (rm_i rfl rfl rfl rfl) q2 ⟨by decide, by decide⟩ (fun _ => q3.symm) (fun _ => trivial) ⟨q1, hB _ lr s0 s6⟩
  · subst c
    have lq := line_eq (f := L 1) (g := R 6) hP.2.2.1
    have ll := line_len (L := P 8) (N := P 10) (f := L 1) (relB_c hP.2.2.1).2
    have lr := line_r (f := L 1) bl (ln_L hP.2.2.1) (ln_V hP.2.2.1)
    have s0 : zBk (4 * K) (sS0_0_X8_line R 2) := sc_line b0 bK.1 (fun _ => by rw [← lq.2.1]; exact ⟨by omega, by omega⟩)
    have s6 : rowR (sS0_6_X8_line R 2) := by unfold sS0_6_X8_line; exact el1 (Q := rowR) (fun _ => rline_r hP.2.2.1 b6) (fun _ => b6)
    obtain ⟨q1, q2, q3⟩ := op_line_2 (L' := (upA (upA (up2 (up2 (up2 (up2 (up2 (up2 (up2 (up2 (up2 L 0 1 0) 1 0 ((48 + (P 8 1)))) 0 1 (((0)) + 1)) 1 1 47) 0 1 (((((0)) + 1)) + 1)) 1 2 ((48 + (P 8 2)))) 0 1 ((((((((0)) + 1)) + 1))) + 1)) 1 3 58) 0 1 ((((((((((0)) + 1)) + 1))) + 1)) + 1)) 0 (upZ (L 0) 1 (wLineB (P 8) (P 10) (P 9 1) (L 1)).2)) 1 ((wLineB (P 8) (P 10) (P 9 1) (L 1)).1))) h.1 rfl rfl
    exact stp_i (c_L_line_22 l hst D k a o F P L J (iv_p h) (ln_V hP.2.2.1) (ln_L hP.2.2.1).1 (ln_L hP.2.2.1).2) (rm_i rfl rfl rfl rfl) sel_fplj hX (rm_i rfl rfl rfl rfl) q2 ⟨by decide, by decide⟩ (fun _ => q3.symm) (fun _ => trivial) ⟨q1, hB _ lr s0 s6⟩
  · obtain ⟨q1, q2⟩ := op_line_x h.1 c
    have s0 : zBk (4 * K) (sS0_0_X8_line R p1) := sc_line b0 bK.1 (fun w => absurd w (by omega))
    have s6 : rowR (sS0_6_X8_line R p1) := by unfold sS0_6_X8_line; rw [zif_neg (by omega)]; exact b6
    exact stp_i (c_L_line_x l hst D k a o F P L J p1 (iv_p h) z1 c) (rm_i rfl rfl rfl rfl) (sel_fplj) hX (rm_i rfl rfl rfl rfl) q2 ⟨by decide, by decide⟩ (fun w => absurd w (by decide)) (fun _ => trivial) ⟨q1, hB L bl s0 s6⟩
set_option maxHeartbeats 4000000 in
theorem st_week (hst : l.stackTraces = false) (h : Iv K F P T B N Hs Gs I L R) (hK : K + 620 ≤ 320000)  : zStq l D k a r o d yX7_week wsX7_week yX8_week wsX8_week [] K F P T B N Hs Gs I L R J X := by
  obtain ⟨i0, hi, ha⟩ := iv_i h
  have v : sp_X5_verdictOn P 119 0 0 0 = 0 := ver_week
  have V := op_week (p1 := 0) (p2 := 0) (p3 := 0) h.1 ha
  have hX := c_X8_week l D k r R (iv_B h) (iv_T h) (iv_B0 h) (iv_C h) (iv_I h) (iv_F h) (iv_5 h) (iv_w h)
  obtain ⟨bK, bp, bt, bb, bn, bg, b0, b1, b2, b3, b4, b5, b6, b7, bl, bf, bc, bq⟩ := id h.2
  have s0 := sc_week b0 b1 bK.1 (iv_5 h) (iv_12 h)
  have s1 := gb_week h.1.1 b1 (by omega)
  have s2 := sd_week b1 b2 b4
  obtain ⟨q1, q2, q3⟩ := V.1 v
  have pp := pb_week (p1 := 0) (p2 := 0) (p3 := 0) h.1.1 bp (by omega) v ⟨_, q1.1⟩
  exact stq_i (c_X7_week_ok l D k a F P Hs (Gs i0) i0 (iv_p h) v ⟨ha, hi⟩ (iv_hn h)) (rm_i rfl rfl rfl rfl) (sel_fphg i0 hi) rfl hX (rm_i rfl rfl rfl rfl) q3 ⟨q1, bA_o h.2 hK pp (bg_up bg hi bp) s0 s1 s2 bf ⟨nn_carry bq.1, bq.2.1, nq_up bq.2.2 bq.1⟩⟩
set_option maxHeartbeats 4000000 in
theorem st_errorPosition (hst : l.stackTraces = false) (h : Iv K F P T B N Hs Gs I L R) (hK : K + 620 ≤ 320000)  : zStq l D k a r o d yX7_errorPosition wsX7_errorPosition yX8_errorPosition wsX8_errorPosition [] K F P T B N Hs Gs I L R J X := by
  have hX := c_X8_errorPosition l D k r R (iv_B0 h)
  have q := op_flag (v := 0) h.1
  have hB := bA_q h.2 hK ((iv_r0 h).up (k := 8) (v := 0) ⟨by have := h.2.1.1; omega, by have := h.2.1.1; omega⟩)
  exact stq_i (c_X7_errorPosition l D k a F) (rm_i rfl rfl rfl rfl) (sel_f) rfl hX (rm_i rfl rfl rfl rfl) h.1.2.2.2.2.2.1 ⟨q.1, hB⟩
set_option maxHeartbeats 4000000 in
theorem st_save (hst : l.stackTraces = false) (h : Iv K F P T B N Hs Gs I L R) (hK : K + 620 ≤ 320000)  : zStq l D k a r o d yX7_save wsX7_save yX8_save wsX8_save [] K F P T B N Hs Gs I L R J X := by
  have hX := c_X8_save l D k r R (iv_B h) (iv_T h) (iv_C h)
  obtain ⟨q1, q3⟩ := op_save h.1
  obtain ⟨bK, bp, bt, bb, bn, bg, b0, b1, b2, b3, b4, b5, b6, b7, bl, bf, bc, bq⟩ := id h.2
  exact stq_i (c_X7_save l D k a F P N (iv_p h)) (rm_i rfl rfl rfl rfl) sel_fpn rfl hX (rm_i rfl rfl rfl rfl) q3 ⟨q1, bA_i ⟨by omega, hK⟩ (bp.mono (by omega)) bt (bb.mono (by omega)) ((pK_copy bn bp).mono (by omega)) (fun i hi => (bg i hi).mono (by omega)) (((b0.up (k := 8) (v := 0) ⟨by omega, by omega⟩).up (k := 4) (v := 1) ⟨by omega, by omega⟩).mono (by omega)) (b1.mono (by omega)) (b2.mono (by omega)) ((b1.cpy b3 _ _ _).mono (by omega)) (b4.mono (by omega)) b5 b6 b7 bl bf (fun b y0 y2 => by rw [show (upA (up2 (up2 R 0 8 0) 0 4 1) 3 (cpyZ (R 1) (R 3) 0 0 125)) 3 = cpyZ (R 1) (R 3) 0 0 125 from rfl, cpy_row b y0 y2]; exact iv_C h b y0 y2) ⟨bq.1, nn_copy bq.1, bq.2.2⟩⟩
set_option maxHeartbeats 4000000 in
theorem st_allPrices (hst : l.stackTraces = false) (h : Iv K F P T B N Hs Gs I L R) (hK : K + 620 ≤ 320000) {p1 : Int} (z1 : zR p1) : zStq l D k a r o d yX7_allPrices wsX7_allPrices yX8_allPrices wsX8_allPrices [.int (iI p1)] K F P T B N Hs Gs I L R J X := by
  have hX := c_X8_allPrices l D k r R p1 (iv_B h) (iv_B0 h) (iv_F h) (iv_7 h)
  have q := op_flag (v := 0) h.1
  have w := op_allPrices (p1 := p1) h.1
  have hB := bA_q h.2 hK ((iv_r0 h).up (k := 8) (v := 0) ⟨by have := h.2.1.1; omega, by have := h.2.1.1; omega⟩)
  rcases Classical.em (p1 = 0) with z | z
  · subst z
    exact stq_i (c_X7_allPrices_f l D k a F P T (iv_p h) (iv_t h)) (rm_i rfl rfl rfl rfl) (sel_fpt) rfl hX (rm_i rfl rfl rfl rfl) (w.2 T).symm ⟨q.1, bA_t hB (wSellN_a (iv_t h) (iv_p h))⟩
  · exact stq_i (c_X7_allPrices_t l D k a F P p1 (iv_p h) z1 z) (rm_i rfl rfl rfl rfl) (sel_fp) rfl hX (rm_i rfl rfl rfl rfl) w.1.symm ⟨q.1, hB⟩
set_option maxHeartbeats 4000000 in
theorem st_bestOrder (hst : l.stackTraces = false) (h : Iv K F P T B N Hs Gs I L R) (hK : K + 620 ≤ 320000)  : zStq l D k a r o d yX7_bestOrder wsX7_bestOrder yX8_bestOrder wsX8_bestOrder [] K F P T B N Hs Gs I L R J X := by
  have hX := c_X8_bestOrder l D k r R (iv_B h) (iv_B0 h) (iv_F h) (iv_7 h)
  have q := op_flag (v := 0) h.1
  have hB := bA_q h.2 hK ((iv_r0 h).up (k := 8) (v := 0) ⟨by have := h.2.1.1; omega, by have := h.2.1.1; omega⟩)
  exact stq_i (c_X7_bestOrder l D k a F P T (iv_p h) (iv_t h)) (rm_i rfl rfl rfl rfl) (sel_fpt) rfl hX (rm_i rfl rfl rfl rfl) (op_bestOrder h.1 _ _).symm ⟨q.1, bA_t hB (wSellN_a (wSellN_a (iv_t h) (iv_p h)) (iv_p h))⟩
set_option maxHeartbeats 4000000 in
theorem st_shelfLine (hst : l.stackTraces = false) (h : Iv K F P T B N Hs Gs I L R) (hK : K + 620 ≤ 320000)  : zStq l D k a r o d yX7_shelfLine wsX7_shelfLine yX8_shelfLine wsX8_shelfLine [] K F P T B N Hs Gs I L R J X := by
  have hX := c_X8_shelfLine2 l D k r R (iv_B h) (iv_B0 h) (iv_F h) (sh_G h.1.1.2.2.2.1)
  obtain ⟨bK, bp, bt, bb, bn, bg, b0, b1, b2, b3, b4, b5, b6, b7, bl, bf, bc, bq⟩ := id h.2
  have hS := h.1.1.2.2.2.1
  obtain ⟨q1, q3⟩ := op_shelfLine (L' := (upA (upA (up2 L 0 1 0) 0 (upZ (L 0) 1 (wShelfB (P 12) (P 11 1) (L 1)).2)) 1 ((wShelfB (P 12) (P 11 1) (L 1)).1))) h.1 rfl rfl
  have sl := shelf_len (f := L 1) hS
  have lr := shelf_r (f := L 1) bl (sh_V hS)
  have s0 : zBk (4 * K) (upZ (upZ (R 0) 8 0) 15 (rShelf (R 1) (R 6)).2) := (b0.up ⟨by omega, by omega⟩).up (by rw [q3]; exact ⟨by omega, by omega⟩)
  exact stq_i (c_X7_shelfLine2 l D k a F P L (iv_p h) (sh_V hS)) (rm_i rfl rfl rfl rfl) sel_fpl rfl hX (rm_i rfl rfl rfl rfl) q3 ⟨q1, bA_i ⟨by omega, hK⟩ (bp.mono (by omega)) bt (bb.mono (by omega)) (bn.mono (by omega)) (fun i hi => (bg i hi).mono (by omega)) (s0.mono (by omega)) (b1.mono (by omega)) (b2.mono (by omega)) (b3.mono (by omega)) (b4.mono (by omega)) b5 (rshelf_r hS b6) b7 lr bf bc bq⟩
set_option maxHeartbeats 4000000 in
theorem st_isWell (hst : l.stackTraces = false) (h : Iv K F P T B N Hs Gs I L R) (hK : K + 620 ≤ 320000)  : zStq l D k a r o d yX7_isWell wsX7_isWell yX8_isWell wsX8_isWell [] K F P T B N Hs Gs I L R J X := by
  have V := op_isWell h.1
  have hX := c_X8_isWell l D k r R (iv_B0 h) (iv_B h) (iv_T h) (iv_C h)
  have s0 := sc_isWell (iv_r0 h) (iv_r1 h) h.2.1.1 (iv_5 h) (iv_12 h)
  have hB := bA_q h.2 hK s0
  have rg := (iv_p h).2.2.2.2.2
  have hPr : ∀ T : Nat → Nat → Int, wSellV wFirst (wCopy T P) (P 11 1).toNat = wByPlaces (P 12) (P 11 1) (P 0 9) := fun T => (first_copy h.1.1).trans (op_allPrices (p1 := 0) h.1).1.symm
  rcases (show P 13 1 = 0 ∨ 1 ≤ P 13 1 by omega) with w | w
  · exact stq_i (c_X7_isWell_0 l D k a F P T (iv_p h) (iv_t h) w hPr) (rm_i rfl rfl rfl rfl) (sel_fpt) rfl hX (rm_i rfl rfl rfl rfl) V.2 ⟨V.1, bA_t hB (wSellN_a (iv_t h) (iv_p h))⟩
  · exact stq_i (c_X7_isWell_1 l D k a F P T (iv_p h) (iv_t h) w hPr (fun T x x0 x1 => (cut_0 h.1.1 w x0 x1).trans (back_0 h.1.1 w x0 x1).symm) (fun T x x0 x1 => (cut_1 h.1.1 w x0 x1).trans (back_1 h.1.1 w x0 x1).symm) (fun T x x0 x1 => (cut_2 h.1.1 w x0 x1).trans (back_2 h.1.1 w x0 x1).symm)) (rm_i rfl rfl rfl rfl) (sel_fpt) rfl hX (rm_i rfl rfl rfl rfl) V.2 ⟨V.1, bA_t hB (wSellN_a (wAFT_a (iv_t h) (iv_p h)) (iv_p h))⟩
end STP
