/-! bounds: an order adds at most 20 -/
theorem zBk.goes1 {K : Int} {G : Nat → Int} (h : zBk K G) (h0 : 0 ≤ K) {b : Int} : zBk (K + 1) (rGoes G b) := by
  have a := h (15 + 26 * b + 0).toNat
  exact (((h.mono (L := K + 1) (by omega)).up (by omega)).shf _ _ _).zer (by omega) _ _
theorem zBk.puts1 {K : Int} {G : Nat → Int} (h : zBk K G) (h0 : 0 ≤ K) {b e0 e1 e2 e3 : Int} (g0 : -(K + 1) ≤ e0 ∧ e0 ≤ K + 1) (g1 : -(K + 1) ≤ e1 ∧ e1 ≤ K + 1) (g2 : -(K + 1) ≤ e2 ∧ e2 ≤ K + 1) (g3 : -(K + 1) ≤ e3 ∧ e3 ≤ K + 1) : zBk (K + 1) (rPuts G b e0 e1 e2 e3) := by
  have a := h (15 + 26 * b + 0).toNat
  exact (((((h.mono (L := K + 1) (by omega)).up g0).up g1).up g2).up g3).up (by omega)
theorem zBk.pass1 {K : Int} {G : Nat → Int} (h : zBk K G) (h0 : 0 ≤ K) {b : Int} : zBk (K + 2) (rPass G b) := by
  have a := fun j => h j
  unfold rPass
  refine zBk.zif (h.mono (by omega)) ?_
  have p : zBk (K + 1) (rPuts G (b + 1) (G (15 + 26 * b + (6 + 4 * 0 + 0)).toNat) (G (15 + 26 * b + (6 + 4 * 0 + 1)).toNat) (G (15 + 26 * b + (6 + 4 * 0 + 2)).toNat) (G (15 + 26 * b + (6 + 4 * 0 + 3)).toNat)) := by
    have a0 := h (15 + 26 * b + (6 + 4 * 0 + 0)).toNat
    have a1 := h (15 + 26 * b + (6 + 4 * 0 + 1)).toNat
    have a2 := h (15 + 26 * b + (6 + 4 * 0 + 2)).toNat
    have a3 := h (15 + 26 * b + (6 + 4 * 0 + 3)).toNat
    exact zBk.puts1 h h0 (by omega) (by omega) (by omega) (by omega)
  have q := p.goes1 (by omega) (b := b)
  exact q.mono (by omega)
theorem zBk.off1 {K : Int} {G : Nat → Int} (h : zBk K G) (h0 : 0 ≤ K) {p : Int} : zBk (K + 1) (rOff G p) := by
  have a := h 10
  exact (((h.mono (L := K + 1) (by omega)).up (by omega)).shf _ _ _).zer (by omega) _ _
theorem zBk_mv {K : Int} {N M : Nat → Int} (hN : zBk K N) (hM : zBk K M) (hK : 1 ≤ K) {c d : Int} : zBk K (wMvN N M c d) :=
  zBk.zif (zBk_wadd hM (wNum_k hN hK) (wNum_k hN hK) (wNum_k hN hK) (wNum_k hN hK)) hM
theorem relP_C {P : Nat → Nat → Int} {G : Nat → Int} (h : relP P G) : ∀ b : Int, 0 ≤ b → b ≤ 2 → 0 ≤ G (15 + 26 * b + 0).toNat ∧ G (15 + 26 * b + 0).toNat ≤ 5 := by
  intro b b0 b2
  have c0 := relB_c h.1
  have c1 := relB_c h.2.1
  have c2 := relB_c h.2.2.1
  rcases (show b = 0 ∨ b = 1 ∨ b = 2 by omega) with z | z | z <;> subst z <;> omega
theorem relP_I {P : Nat → Nat → Int} {G : Nat → Int} (h : relP P G) : 0 ≤ G 9 ∧ G 9 ≤ 4 := by
  have a := h.2.2.2.2.1.1
  have b := h.2.2.2.2.1.2.1
  omega
theorem relP_F {P : Nat → Nat → Int} {G : Nat → Int} (h : relP P G) : 0 ≤ G 10 ∧ G 10 ≤ 8 := by
  have a := h.2.2.2.1.1
  have b := h.2.2.2.1.2.1
  omega
theorem relP_7 {P : Nat → Nat → Int} {G : Nat → Int} (h : relP P G) : 0 ≤ G 7 ∧ G 7 = P 0 9 := by
  have a := h.2.2.2.2.2.1.2.2.2.2.2.2.1
  have b := h.2.2.2.2.2.2.2
  omega
theorem relP_w {P : Nat → Nat → Int} {G : Nat → Int} {p d : Int} (h : relP P G) (hp : 0 ≤ p ∧ p < G 10) (hd : 0 ≤ d) : 1 ≤ rWorth G p d ∧ rWorth G p d ≤ 16 := by
  have s := h.2.2.2.1
  have k := s.2.2 p hp.1 (by have := s.2.1; omega)
  unfold rWorth
  have z := zif_or2 (G (93 + 4 * p + 3).toNat = 2) 4 0
  omega
theorem relP_cost {P : Nat → Nat → Int} {G : Nat → Int} {p : Int} (h : relP P G) (hp : 0 ≤ p ∧ p < G 10) : 0 ≤ G (93 + 4 * p + 2).toNat := by
  have s := h.2.2.2.1
  have k := s.2.2 p hp.1 (by have := s.2.1; omega)
  omega
/-! the reference's row -/
theorem gb_make {P R : Nat → Nat → Int} {K p0 p1 p2 : Int} (h : relP P (R 1)) (g : zBk K (R 1)) (hK : 20 ≤ K) : zBk (K + 20) (sS0_1_X8_make R p0 p1 p2) := by
  have m := g.mono (L := K + 20) (by omega)
  have a := g 2
  unfold sS0_1_X8_make
  refine zBk.zif (el1 (Q := zBk (K + 20)) (fun z1 => el1 (Q := zBk (K + 20)) (fun z2 => zBk.zif m ?_) (fun _ => m)) (fun _ => m)) m
  exact (zBk.puts1 (K := K + 1) ((g.mono (L := K + 1) (by omega)).up (by omega)) (by omega) (by omega) (by omega) (by omega) (by omega)).mono (by omega)
theorem gb_blank {P R : Nat → Nat → Int} {K p0 : Int} (h : relP P (R 1)) (g : zBk K (R 1)) (hK : 20 ≤ K) : zBk (K + 20) (sS0_1_X8_blank R p0) := by
  have m := g.mono (L := K + 20) (by omega)
  unfold sS0_1_X8_blank
  exact zBk.zif (zBk.zif m ((zBk.puts1 g (by omega) (by omega) (by omega) (by omega) (by omega)).mono (by omega))) m
theorem gb_tell {P R : Nat → Nat → Int} {K p0 p1 p2 : Int} (h : relP P (R 1)) (g : zBk K (R 1)) (hK : 20 ≤ K) : zBk (K + 20) (sS0_1_X8_tell R p0 p1 p2) := by
  have m := g.mono (L := K + 20) (by omega)
  unfold sS0_1_X8_tell
  refine zBk.zif (el1 (Q := zBk (K + 20)) (fun z1 => el1 (Q := zBk (K + 20)) (fun z2 => zBk.zif (zBk.zif m ?_) ?_) (fun _ => m)) (fun _ => m)) m
  · exact (m.up (by omega)).up (by omega)
  · exact (m.up (by omega)).up (by omega)
theorem gb_inspect {P R : Nat → Nat → Int} {K p0 : Int} (h : relP P (R 1)) (g : zBk K (R 1)) (hK : 20 ≤ K) : zBk (K + 20) (sS0_1_X8_inspect R p0) := by
  have m := g.mono (L := K + 20) (by omega)
  have i := relP_I h
  have f := relP_F h
  unfold sS0_1_X8_inspect
  refine el1 (Q := zBk (K + 20)) (fun z1 => el1 (Q := zBk (K + 20)) (fun _ => m) (fun z2 => el1 (Q := zBk (K + 20)) (fun _ => m) (fun z3 => ?_))) (fun _ => m)
  have c := relP_C h p0 z1.1 z1.2
  exact (zBk.insp (S0 := (upA (upA (upA R 0 (upZ (upZ (R 0) 8 0) 7 0)) 0 (sS0_0_X8_keeps (upA R 0 (upZ (upZ (R 0) 8 0) 7 0)) 0)) 2 (sS0_2_X8_keeps (upA R 0 (upZ (upZ (R 0) 8 0) 7 0)) 0))) g z1 (by show 1 ≤ R 1 9 ∧ R 1 9 ≤ 4; omega) (by show 0 ≤ R 1 10 ∧ R 1 10 ≤ 8; omega) (by show 1 ≤ R 1 (15 + 26 * p0 + 0).toNat ∧ R 1 (15 + 26 * p0 + 0).toNat ≤ 5; omega) (by omega)).mono (by omega)
theorem gb_hire {P R : Nat → Nat → Int} {K : Int} (h : relP P (R 1)) (g : zBk K (R 1)) (hK : 20 ≤ K) : zBk (K + 20) (sS0_1_X8_hire R) := by
  have m := g.mono (L := K + 20) (by omega)
  have i := relP_I h
  unfold sS0_1_X8_hire
  exact zBk.zif m ((m.up (by omega)).up (by omega))
theorem gb_leave {P R : Nat → Nat → Int} {K p0 : Int} (h : relP P (R 1)) (g : zBk K (R 1)) (hK : 20 ≤ K) : zBk (K + 20) (sS0_1_X8_leave R p0) := by
  have m := g.mono (L := K + 20) (by omega)
  have i := relP_I h
  unfold sS0_1_X8_leave
  exact zBk.zif (((m.up (by omega)).shf _ _ _).up (by omega)) m
theorem gb_sell {P R : Nat → Nat → Int} {K p0 : Int} (h : relP P (R 1)) (g : zBk K (R 1)) (hK : 20 ≤ K) : zBk (K + 20) (sS0_1_X8_sell R p0) := by
  have m := g.mono (L := K + 20) (by omega)
  have a0 := g 0
  have a6 := g 6
  have a7 := g 7
  unfold sS0_1_X8_sell
  refine el1 (Q := zBk (K + 20)) (fun z1 => ?_) (fun _ => m)
  have w := relP_w h z1 (d := R 1 7) (relP_7 h).1
  exact ((((g.off1 (by omega)).mono (L := K + 20) (by omega)).up (by omega)).up (by omega)).up (by omega)
theorem gb_repair {P R : Nat → Nat → Int} {K p0 : Int} (h : relP P (R 1)) (g : zBk K (R 1)) (hK : 20 ≤ K) : zBk (K + 20) (sS0_1_X8_repair R p0) := by
  have m := g.mono (L := K + 20) (by omega)
  have a0 := g 0
  have a8 := g 8
  unfold sS0_1_X8_repair
  refine el1 (Q := zBk (K + 20)) (fun z1 => zBk.zif m (el1 (Q := zBk (K + 20)) (fun z2 => ?_) (fun _ => m))) (fun _ => m)
  have w := relP_cost h z1
  have q2 := g (93 + 4 * p0 + 2).toNat
  have pp : zBk (K + 1) (rPuts (R 1) 0 0 (max 0 (min ((R 1 (((93 + (4 * p0)) + 0).toNat)) + 2) 9)) (max 4 (min ((R 1 (((93 + (4 * p0)) + 1).toNat)) - 1) 9)) ((R 1 (((93 + (4 * p0)) + 2).toNat)) + 1)) := zBk.puts1 g (by omega) (by omega) (by omega) (by omega) (by omega)
  exact (((pp.off1 (by omega)).mono (L := K + 20) (by omega)).up (by omega)).up (by omega)
theorem gb_weekT {K : Int} {M : Nat → Int} (m : zBk (K + 6) M) (hK : 20 ≤ K) {d : Int} (hd : 0 ≤ d ∧ d ≤ 1) : zBk (K + 20) (upZ (upZ (upZ M 5 (M 5 + d)) 7 0) 1 (M 1 + 1)) := by
  have a5 := m 5
  have a1 := m 1
  exact (((m.mono (L := K + 20) (by omega)).up (by omega)).up (by omega)).up (by omega)
theorem gb_week {P R : Nat → Nat → Int} {K : Int} (h : relP P (R 1)) (g : zBk K (R 1)) (hK : 20 ≤ K) : zBk (K + 20) (sS0_1_X8_week R) := by
  have r : ∀ L, 9 ≤ L → ∀ z, -L ≤ z ∧ z ≤ L → -L ≤ rRest z ∧ rRest z ≤ L := by
    intro L hL z hz
    unfold rRest
    omega
  have g1 := g.goes1 (by omega) (b := 2)
  have m0 : zBk (K + 6) (mapZ rRest (rPass ((rPass (R 1) 1)) 0) 11 (11 + R 1 9).toNat) := zBk.map (((g.pass1 (by omega)).pass1 (by omega)).mono (by omega)) (r _ (by omega)) _ _
  have m1 : zBk (K + 6) (mapZ rRest (rPass ((rPass ((rGoes (R 1) 2)) 1)) 0) 11 (11 + R 1 9).toNat) := zBk.map (((g1.pass1 (by omega)).pass1 (by omega)).mono (by omega)) (r _ (by omega)) _ _
  unfold sS0_1_X8_week
  exact zBk.zif (gb_weekT m0 hK (by decide)) (zBk.zif (gb_weekT m1 hK (by decide)) (gb_weekT m1 hK (by decide)))
/-! the class's plant -/

set_option maxHeartbeats 4000000 in
theorem pb_make {P R : Nat → Nat → Int} {K p1 p2 p3 : Int} (h : relP P (R 1)) (hp : pK K P) (hK : 20 ≤ K) (hv : sp_X5_verdictOn P 109 p1 p2 p3 = 0) (hr : ∃ G, relP (wCarry P 109 p1 p2 p3) G) : pK (K + 20) (wCarry P 109 p1 p2 p3) := by
  obtain ⟨G, hr⟩ := hr
  have d3 := relB_c hr.1
  have d6 := relB_c hr.2.1
  have d9 := relB_c hr.2.2.1
  have d11 := hr.2.2.2.1.1
  have d13 := hr.2.2.2.2.1.1
  refine ⟨?_, d3.2, d6.2, d9.2, d11, d13⟩
  have g : ∀ c, c ≤ 14 → zBk (K + 20) (P c) := fun c hc => (hp.1 c hc).mono (by omega)
  have hV := ver_make (p1 := p1) (p2 := p2) (p3 := p3) h
  have c0 := relB_c h.1
  have c1 := relB_c h.2.1
  have c2 := relB_c h.2.2.1
  have cs := h.2.2.2.1.2.1
  have csr := h.2.2.2.1.1
  have cy := h.2.2.2.2.1.2.1
  have cyr := h.2.2.2.2.1.1
  have q3 := hp.1 0 (by decide) 3
  have q4 := hp.1 0 (by decide) 4
  have q5 := hp.1 0 (by decide) 5
  have q7 := hp.1 0 (by decide) 7
  have q8 := hp.1 0 (by decide) 8
  have q9 := hp.1 0 (by decide) 9
  have q10 := hp.1 0 (by decide) 10
  have key : (∀ c, (c = 0 ∨ c = 2 ∨ c = 3 ∨ c = 4 ∨ c = 5 ∨ c = 6 ∨ c = 7) → zBk (K + 20) (wCarry P 109 p1 p2 p3 c)) → (∀ c, (c = 8 ∨ c = 9 ∨ c = 10 ∨ c = 11 ∨ c = 12 ∨ c = 13 ∨ c = 14) → zBk (K + 20) (wCarry P 109 p1 p2 p3 c)) → ∀ c, c ≤ 14 → zBk (K + 20) (wCarry P 109 p1 p2 p3 c) := by
    intro k1 k2 c hc
    rcases (show c = 1 ∨ (c = 0 ∨ c = 2 ∨ c = 3 ∨ c = 4 ∨ c = 5 ∨ c = 6 ∨ c = 7) ∨ (c = 8 ∨ c = 9 ∨ c = 10 ∨ c = 11 ∨ c = 12 ∨ c = 13 ∨ c = 14) by omega) with z | z | z
    · rw [z]; exact g 1 (by decide)
    · exact k1 c z
    · exact k2 c z
  rcases (show p1 = 0 ∨ p1 = 1 ∨ p1 = 2 ∨ ¬ (0 ≤ p1 ∧ p1 ≤ 2) by omega) with z | z | z | z
  · subst z
    have r2 : 0 ≤ p2 ∧ p2 ≤ 9 := Classical.byContradiction fun q => by rw [hV, zif_pos (by omega), zif_neg q] at hv; exact absurd hv (by decide)
    have r3 : 4 ≤ p3 ∧ p3 ≤ 9 := Classical.byContradiction fun q => by rw [hV, zif_pos (by omega), zif_pos r2, zif_neg q] at hv; exact absurd hv (by decide)
    refine key (fun c hc => ?_) (fun c hc => ?_)
    · rcases hc with rfl | rfl | rfl | rfl | rfl | rfl | rfl
      · show zBk (K + 20) (sS0_0_X5_carryOut P 109 0 p2 p3)
        unfold sS0_0_X5_carryOut; (repeat (first | rw [zif_pos (by omega)] | rw [zif_neg (by omega)]))
        (first | exact g _ (by decide) | exact (g _ (by decide)).up (by omega) | exact ((g _ (by decide)).up (by omega)).up (by omega) | exact (((g _ (by decide)).up (by omega)).up (by omega)).up (by omega) | exact zBk_wadd (g _ (by decide)) (by omega) (by omega) (by omega) (by omega) | exact zBk_wcut (g _ (by decide)) | exact (g _ (by decide)).cpy (g _ (by decide)) _ _ _)
      · show zBk (K + 20) (sS0_2_X5_carryOut P 109 0 p2 p3)
        unfold sS0_2_X5_carryOut; (repeat (first | rw [zif_pos (by omega)] | rw [zif_neg (by omega)]))
        (first | exact g _ (by decide) | exact (g _ (by decide)).up (by omega) | exact ((g _ (by decide)).up (by omega)).up (by omega) | exact (((g _ (by decide)).up (by omega)).up (by omega)).up (by omega) | exact zBk_wadd (g _ (by decide)) (by omega) (by omega) (by omega) (by omega) | exact zBk_wcut (g _ (by decide)) | exact (g _ (by decide)).cpy (g _ (by decide)) _ _ _)
      · show zBk (K + 20) (sS0_3_X5_carryOut P 109 0 p2 p3)
        unfold sS0_3_X5_carryOut; (repeat (first | rw [zif_pos (by omega)] | rw [zif_neg (by omega)]))
        (first | exact g _ (by decide) | exact (g _ (by decide)).up (by omega) | exact ((g _ (by decide)).up (by omega)).up (by omega) | exact (((g _ (by decide)).up (by omega)).up (by omega)).up (by omega) | exact zBk_wadd (g _ (by decide)) (by omega) (by omega) (by omega) (by omega) | exact zBk_wcut (g _ (by decide)) | exact (g _ (by decide)).cpy (g _ (by decide)) _ _ _)
      · show zBk (K + 20) (sS0_4_X5_carryOut P 109 0 p2 p3)
        unfold sS0_4_X5_carryOut; (repeat (first | rw [zif_pos (by omega)] | rw [zif_neg (by omega)]))
        (first | exact g _ (by decide) | exact (g _ (by decide)).up (by omega) | exact ((g _ (by decide)).up (by omega)).up (by omega) | exact (((g _ (by decide)).up (by omega)).up (by omega)).up (by omega) | exact zBk_wadd (g _ (by decide)) (by omega) (by omega) (by omega) (by omega) | exact zBk_wcut (g _ (by decide)) | exact (g _ (by decide)).cpy (g _ (by decide)) _ _ _)
      · show zBk (K + 20) (sS0_5_X5_carryOut P 109 0 p2 p3)
        unfold sS0_5_X5_carryOut; (repeat (first | rw [zif_pos (by omega)] | rw [zif_neg (by omega)]))
        (first | exact g _ (by decide) | exact (g _ (by decide)).up (by omega) | exact ((g _ (by decide)).up (by omega)).up (by omega) | exact (((g _ (by decide)).up (by omega)).up (by omega)).up (by omega) | exact zBk_wadd (g _ (by decide)) (by omega) (by omega) (by omega) (by omega) | exact zBk_wcut (g _ (by decide)) | exact (g _ (by decide)).cpy (g _ (by decide)) _ _ _)
      · show zBk (K + 20) (sS0_6_X5_carryOut P 109 0 p2 p3)
        unfold sS0_6_X5_carryOut; (repeat (first | rw [zif_pos (by omega)] | rw [zif_neg (by omega)]))
        (first | exact g _ (by decide) | exact (g _ (by decide)).up (by omega) | exact ((g _ (by decide)).up (by omega)).up (by omega) | exact (((g _ (by decide)).up (by omega)).up (by omega)).up (by omega) | exact zBk_wadd (g _ (by decide)) (by omega) (by omega) (by omega) (by omega) | exact zBk_wcut (g _ (by decide)) | exact (g _ (by decide)).cpy (g _ (by decide)) _ _ _)
      · show zBk (K + 20) (sS0_7_X5_carryOut P 109 0 p2 p3)
        unfold sS0_7_X5_carryOut; (repeat (first | rw [zif_pos (by omega)] | rw [zif_neg (by omega)]))
        (first | exact g _ (by decide) | exact (g _ (by decide)).up (by omega) | exact ((g _ (by decide)).up (by omega)).up (by omega) | exact (((g _ (by decide)).up (by omega)).up (by omega)).up (by omega) | exact zBk_wadd (g _ (by decide)) (by omega) (by omega) (by omega) (by omega) | exact zBk_wcut (g _ (by decide)) | exact (g _ (by decide)).cpy (g _ (by decide)) _ _ _)
    · rcases hc with rfl | rfl | rfl | rfl | rfl | rfl | rfl
      · show zBk (K + 20) (sS0_8_X5_carryOut P 109 0 p2 p3)
        unfold sS0_8_X5_carryOut; (repeat (first | rw [zif_pos (by omega)] | rw [zif_neg (by omega)]))
        (first | exact g _ (by decide) | exact (g _ (by decide)).up (by omega) | exact ((g _ (by decide)).up (by omega)).up (by omega) | exact (((g _ (by decide)).up (by omega)).up (by omega)).up (by omega) | exact zBk_wadd (g _ (by decide)) (by omega) (by omega) (by omega) (by omega) | exact zBk_wcut (g _ (by decide)) | exact (g _ (by decide)).cpy (g _ (by decide)) _ _ _)
      · show zBk (K + 20) (sS0_9_X5_carryOut P 109 0 p2 p3)
        unfold sS0_9_X5_carryOut; (repeat (first | rw [zif_pos (by omega)] | rw [zif_neg (by omega)]))
        (first | exact g _ (by decide) | exact (g _ (by decide)).up (by omega) | exact ((g _ (by decide)).up (by omega)).up (by omega) | exact (((g _ (by decide)).up (by omega)).up (by omega)).up (by omega) | exact zBk_wadd (g _ (by decide)) (by omega) (by omega) (by omega) (by omega) | exact zBk_wcut (g _ (by decide)) | exact (g _ (by decide)).cpy (g _ (by decide)) _ _ _)
      · show zBk (K + 20) (sS0_10_X5_carryOut P 109 0 p2 p3)
        unfold sS0_10_X5_carryOut; (repeat (first | rw [zif_pos (by omega)] | rw [zif_neg (by omega)]))
        (first | exact g _ (by decide) | exact (g _ (by decide)).up (by omega) | exact ((g _ (by decide)).up (by omega)).up (by omega) | exact (((g _ (by decide)).up (by omega)).up (by omega)).up (by omega) | exact zBk_wadd (g _ (by decide)) (by omega) (by omega) (by omega) (by omega) | exact zBk_wcut (g _ (by decide)) | exact (g _ (by decide)).cpy (g _ (by decide)) _ _ _)
      · show zBk (K + 20) (sS0_11_X5_carryOut P 109 0 p2 p3)
        unfold sS0_11_X5_carryOut; (repeat (first | rw [zif_pos (by omega)] | rw [zif_neg (by omega)]))
        (first | exact g _ (by decide) | exact (g _ (by decide)).up (by omega) | exact ((g _ (by decide)).up (by omega)).up (by omega) | exact (((g _ (by decide)).up (by omega)).up (by omega)).up (by omega) | exact zBk_wadd (g _ (by decide)) (by omega) (by omega) (by omega) (by omega) | exact zBk_wcut (g _ (by decide)) | exact (g _ (by decide)).cpy (g _ (by decide)) _ _ _)
      · show zBk (K + 20) (sS0_12_X5_carryOut P 109 0 p2 p3)
        unfold sS0_12_X5_carryOut; (repeat (first | rw [zif_pos (by omega)] | rw [zif_neg (by omega)]))
        (first | exact g _ (by decide) | exact (g _ (by decide)).up (by omega) | exact ((g _ (by decide)).up (by omega)).up (by omega) | exact (((g _ (by decide)).up (by omega)).up (by omega)).up (by omega) | exact zBk_wadd (g _ (by decide)) (by omega) (by omega) (by omega) (by omega) | exact zBk_wcut (g _ (by decide)) | exact (g _ (by decide)).cpy (g _ (by decide)) _ _ _)
      · show zBk (K + 20) (sS0_13_X5_carryOut P 109 0 p2 p3)
        unfold sS0_13_X5_carryOut; (repeat (first | rw [zif_pos (by omega)] | rw [zif_neg (by omega)]))
        (first | exact g _ (by decide) | exact (g _ (by decide)).up (by omega) | exact ((g _ (by decide)).up (by omega)).up (by omega) | exact (((g _ (by decide)).up (by omega)).up (by omega)).up (by omega) | exact zBk_wadd (g _ (by decide)) (by omega) (by omega) (by omega) (by omega) | exact zBk_wcut (g _ (by decide)) | exact (g _ (by decide)).cpy (g _ (by decide)) _ _ _)
      · show zBk (K + 20) (sS0_14_X5_carryOut P 109 0 p2 p3)
        unfold sS0_14_X5_carryOut; (repeat (first | rw [zif_pos (by omega)] | rw [zif_neg (by omega)]))
        (first | exact g _ (by decide) | exact (g _ (by decide)).up (by omega) | exact ((g _ (by decide)).up (by omega)).up (by omega) | exact (((g _ (by decide)).up (by omega)).up (by omega)).up (by omega) | exact zBk_wadd (g _ (by decide)) (by omega) (by omega) (by omega) (by omega) | exact zBk_wcut (g _ (by decide)) | exact (g _ (by decide)).cpy (g _ (by decide)) _ _ _)
  · subst z
    have r2 : 0 ≤ p2 ∧ p2 ≤ 9 := Classical.byContradiction fun q => by rw [hV, zif_pos (by omega), zif_neg q] at hv; exact absurd hv (by decide)
    have r3 : 4 ≤ p3 ∧ p3 ≤ 9 := Classical.byContradiction fun q => by rw [hV, zif_pos (by omega), zif_pos r2, zif_neg q] at hv; exact absurd hv (by decide)
    refine key (fun c hc => ?_) (fun c hc => ?_)
    · rcases hc with rfl | rfl | rfl | rfl | rfl | rfl | rfl
      · show zBk (K + 20) (sS0_0_X5_carryOut P 109 1 p2 p3)
        unfold sS0_0_X5_carryOut; (repeat (first | rw [zif_pos (by omega)] | rw [zif_neg (by omega)]))
        (first | exact g _ (by decide) | exact (g _ (by decide)).up (by omega) | exact ((g _ (by decide)).up (by omega)).up (by omega) | exact (((g _ (by decide)).up (by omega)).up (by omega)).up (by omega) | exact zBk_wadd (g _ (by decide)) (by omega) (by omega) (by omega) (by omega) | exact zBk_wcut (g _ (by decide)) | exact (g _ (by decide)).cpy (g _ (by decide)) _ _ _)
      · show zBk (K + 20) (sS0_2_X5_carryOut P 109 1 p2 p3)
        unfold sS0_2_X5_carryOut; (repeat (first | rw [zif_pos (by omega)] | rw [zif_neg (by omega)]))
        (first | exact g _ (by decide) | exact (g _ (by decide)).up (by omega) | exact ((g _ (by decide)).up (by omega)).up (by omega) | exact (((g _ (by decide)).up (by omega)).up (by omega)).up (by omega) | exact zBk_wadd (g _ (by decide)) (by omega) (by omega) (by omega) (by omega) | exact zBk_wcut (g _ (by decide)) | exact (g _ (by decide)).cpy (g _ (by decide)) _ _ _)
      · show zBk (K + 20) (sS0_3_X5_carryOut P 109 1 p2 p3)
        unfold sS0_3_X5_carryOut; (repeat (first | rw [zif_pos (by omega)] | rw [zif_neg (by omega)]))
        (first | exact g _ (by decide) | exact (g _ (by decide)).up (by omega) | exact ((g _ (by decide)).up (by omega)).up (by omega) | exact (((g _ (by decide)).up (by omega)).up (by omega)).up (by omega) | exact zBk_wadd (g _ (by decide)) (by omega) (by omega) (by omega) (by omega) | exact zBk_wcut (g _ (by decide)) | exact (g _ (by decide)).cpy (g _ (by decide)) _ _ _)
      · show zBk (K + 20) (sS0_4_X5_carryOut P 109 1 p2 p3)
        unfold sS0_4_X5_carryOut; (repeat (first | rw [zif_pos (by omega)] | rw [zif_neg (by omega)]))
        (first | exact g _ (by decide) | exact (g _ (by decide)).up (by omega) | exact ((g _ (by decide)).up (by omega)).up (by omega) | exact (((g _ (by decide)).up (by omega)).up (by omega)).up (by omega) | exact zBk_wadd (g _ (by decide)) (by omega) (by omega) (by omega) (by omega) | exact zBk_wcut (g _ (by decide)) | exact (g _ (by decide)).cpy (g _ (by decide)) _ _ _)
      · show zBk (K + 20) (sS0_5_X5_carryOut P 109 1 p2 p3)
        unfold sS0_5_X5_carryOut; (repeat (first | rw [zif_pos (by omega)] | rw [zif_neg (by omega)]))
        (first | exact g _ (by decide) | exact (g _ (by decide)).up (by omega) | exact ((g _ (by decide)).up (by omega)).up (by omega) | exact (((g _ (by decide)).up (by omega)).up (by omega)).up (by omega) | exact zBk_wadd (g _ (by decide)) (by omega) (by omega) (by omega) (by omega) | exact zBk_wcut (g _ (by decide)) | exact (g _ (by decide)).cpy (g _ (by decide)) _ _ _)
      · show zBk (K + 20) (sS0_6_X5_carryOut P 109 1 p2 p3)
        unfold sS0_6_X5_carryOut; (repeat (first | rw [zif_pos (by omega)] | rw [zif_neg (by omega)]))
        (first | exact g _ (by decide) | exact (g _ (by decide)).up (by omega) | exact ((g _ (by decide)).up (by omega)).up (by omega) | exact (((g _ (by decide)).up (by omega)).up (by omega)).up (by omega) | exact zBk_wadd (g _ (by decide)) (by omega) (by omega) (by omega) (by omega) | exact zBk_wcut (g _ (by decide)) | exact (g _ (by decide)).cpy (g _ (by decide)) _ _ _)
      · show zBk (K + 20) (sS0_7_X5_carryOut P 109 1 p2 p3)
        unfold sS0_7_X5_carryOut; (repeat (first | rw [zif_pos (by omega)] | rw [zif_neg (by omega)]))
        (first | exact g _ (by decide) | exact (g _ (by decide)).up (by omega) | exact ((g _ (by decide)).up (by omega)).up (by omega) | exact (((g _ (by decide)).up (by omega)).up (by omega)).up (by omega) | exact zBk_wadd (g _ (by decide)) (by omega) (by omega) (by omega) (by omega) | exact zBk_wcut (g _ (by decide)) | exact (g _ (by decide)).cpy (g _ (by decide)) _ _ _)
    · rcases hc with rfl | rfl | rfl | rfl | rfl | rfl | rfl
      · show zBk (K + 20) (sS0_8_X5_carryOut P 109 1 p2 p3)
        unfold sS0_8_X5_carryOut; (repeat (first | rw [zif_pos (by omega)] | rw [zif_neg (by omega)]))
        (first | exact g _ (by decide) | exact (g _ (by decide)).up (by omega) | exact ((g _ (by decide)).up (by omega)).up (by omega) | exact (((g _ (by decide)).up (by omega)).up (by omega)).up (by omega) | exact zBk_wadd (g _ (by decide)) (by omega) (by omega) (by omega) (by omega) | exact zBk_wcut (g _ (by decide)) | exact (g _ (by decide)).cpy (g _ (by decide)) _ _ _)
      · show zBk (K + 20) (sS0_9_X5_carryOut P 109 1 p2 p3)
        unfold sS0_9_X5_carryOut; (repeat (first | rw [zif_pos (by omega)] | rw [zif_neg (by omega)]))
        (first | exact g _ (by decide) | exact (g _ (by decide)).up (by omega) | exact ((g _ (by decide)).up (by omega)).up (by omega) | exact (((g _ (by decide)).up (by omega)).up (by omega)).up (by omega) | exact zBk_wadd (g _ (by decide)) (by omega) (by omega) (by omega) (by omega) | exact zBk_wcut (g _ (by decide)) | exact (g _ (by decide)).cpy (g _ (by decide)) _ _ _)
      · show zBk (K + 20) (sS0_10_X5_carryOut P 109 1 p2 p3)
        unfold sS0_10_X5_carryOut; (repeat (first | rw [zif_pos (by omega)] | rw [zif_neg (by omega)]))
        (first | exact g _ (by decide) | exact (g _ (by decide)).up (by omega) | exact ((g _ (by decide)).up (by omega)).up (by omega) | exact (((g _ (by decide)).up (by omega)).up (by omega)).up (by omega) | exact zBk_wadd (g _ (by decide)) (by omega) (by omega) (by omega) (by omega) | exact zBk_wcut (g _ (by decide)) | exact (g _ (by decide)).cpy (g _ (by decide)) _ _ _)
      · show zBk (K + 20) (sS0_11_X5_carryOut P 109 1 p2 p3)
        unfold sS0_11_X5_carryOut; (repeat (first | rw [zif_pos (by omega)] | rw [zif_neg (by omega)]))
        (first | exact g _ (by decide) | exact (g _ (by decide)).up (by omega) | exact ((g _ (by decide)).up (by omega)).up (by omega) | exact (((g _ (by decide)).up (by omega)).up (by omega)).up (by omega) | exact zBk_wadd (g _ (by decide)) (by omega) (by omega) (by omega) (by omega) | exact zBk_wcut (g _ (by decide)) | exact (g _ (by decide)).cpy (g _ (by decide)) _ _ _)
      · show zBk (K + 20) (sS0_12_X5_carryOut P 109 1 p2 p3)
        unfold sS0_12_X5_carryOut; (repeat (first | rw [zif_pos (by omega)] | rw [zif_neg (by omega)]))
        (first | exact g _ (by decide) | exact (g _ (by decide)).up (by omega) | exact ((g _ (by decide)).up (by omega)).up (by omega) | exact (((g _ (by decide)).up (by omega)).up (by omega)).up (by omega) | exact zBk_wadd (g _ (by decide)) (by omega) (by omega) (by omega) (by omega) | exact zBk_wcut (g _ (by decide)) | exact (g _ (by decide)).cpy (g _ (by decide)) _ _ _)
      · show zBk (K + 20) (sS0_13_X5_carryOut P 109 1 p2 p3)
        unfold sS0_13_X5_carryOut; (repeat (first | rw [zif_pos (by omega)] | rw [zif_neg (by omega)]))
        (first | exact g _ (by decide) | exact (g _ (by decide)).up (by omega) | exact ((g _ (by decide)).up (by omega)).up (by omega) | exact (((g _ (by decide)).up (by omega)).up (by omega)).up (by omega) | exact zBk_wadd (g _ (by decide)) (by omega) (by omega) (by omega) (by omega) | exact zBk_wcut (g _ (by decide)) | exact (g _ (by decide)).cpy (g _ (by decide)) _ _ _)
      · show zBk (K + 20) (sS0_14_X5_carryOut P 109 1 p2 p3)
        unfold sS0_14_X5_carryOut; (repeat (first | rw [zif_pos (by omega)] | rw [zif_neg (by omega)]))
        (first | exact g _ (by decide) | exact (g _ (by decide)).up (by omega) | exact ((g _ (by decide)).up (by omega)).up (by omega) | exact (((g _ (by decide)).up (by omega)).up (by omega)).up (by omega) | exact zBk_wadd (g _ (by decide)) (by omega) (by omega) (by omega) (by omega) | exact zBk_wcut (g _ (by decide)) | exact (g _ (by decide)).cpy (g _ (by decide)) _ _ _)
  · subst z
    have r2 : 0 ≤ p2 ∧ p2 ≤ 9 := Classical.byContradiction fun q => by rw [hV, zif_pos (by omega), zif_neg q] at hv; exact absurd hv (by decide)
    have r3 : 4 ≤ p3 ∧ p3 ≤ 9 := Classical.byContradiction fun q => by rw [hV, zif_pos (by omega), zif_pos r2, zif_neg q] at hv; exact absurd hv (by decide)
    refine key (fun c hc => ?_) (fun c hc => ?_)
    · rcases hc with rfl | rfl | rfl | rfl | rfl | rfl | rfl
      · show zBk (K + 20) (sS0_0_X5_carryOut P 109 2 p2 p3)
        unfold sS0_0_X5_carryOut; (repeat (first | rw [zif_pos (by omega)] | rw [zif_neg (by omega)]))
        (first | exact g _ (by decide) | exact (g _ (by decide)).up (by omega) | exact ((g _ (by decide)).up (by omega)).up (by omega) | exact (((g _ (by decide)).up (by omega)).up (by omega)).up (by omega) | exact zBk_wadd (g _ (by decide)) (by omega) (by omega) (by omega) (by omega) | exact zBk_wcut (g _ (by decide)) | exact (g _ (by decide)).cpy (g _ (by decide)) _ _ _)
      · show zBk (K + 20) (sS0_2_X5_carryOut P 109 2 p2 p3)
        unfold sS0_2_X5_carryOut; (repeat (first | rw [zif_pos (by omega)] | rw [zif_neg (by omega)]))
        (first | exact g _ (by decide) | exact (g _ (by decide)).up (by omega) | exact ((g _ (by decide)).up (by omega)).up (by omega) | exact (((g _ (by decide)).up (by omega)).up (by omega)).up (by omega) | exact zBk_wadd (g _ (by decide)) (by omega) (by omega) (by omega) (by omega) | exact zBk_wcut (g _ (by decide)) | exact (g _ (by decide)).cpy (g _ (by decide)) _ _ _)
      · show zBk (K + 20) (sS0_3_X5_carryOut P 109 2 p2 p3)
        unfold sS0_3_X5_carryOut; (repeat (first | rw [zif_pos (by omega)] | rw [zif_neg (by omega)]))
        (first | exact g _ (by decide) | exact (g _ (by decide)).up (by omega) | exact ((g _ (by decide)).up (by omega)).up (by omega) | exact (((g _ (by decide)).up (by omega)).up (by omega)).up (by omega) | exact zBk_wadd (g _ (by decide)) (by omega) (by omega) (by omega) (by omega) | exact zBk_wcut (g _ (by decide)) | exact (g _ (by decide)).cpy (g _ (by decide)) _ _ _)
      · show zBk (K + 20) (sS0_4_X5_carryOut P 109 2 p2 p3)
        unfold sS0_4_X5_carryOut; (repeat (first | rw [zif_pos (by omega)] | rw [zif_neg (by omega)]))
        (first | exact g _ (by decide) | exact (g _ (by decide)).up (by omega) | exact ((g _ (by decide)).up (by omega)).up (by omega) | exact (((g _ (by decide)).up (by omega)).up (by omega)).up (by omega) | exact zBk_wadd (g _ (by decide)) (by omega) (by omega) (by omega) (by omega) | exact zBk_wcut (g _ (by decide)) | exact (g _ (by decide)).cpy (g _ (by decide)) _ _ _)
      · show zBk (K + 20) (sS0_5_X5_carryOut P 109 2 p2 p3)
        unfold sS0_5_X5_carryOut; (repeat (first | rw [zif_pos (by omega)] | rw [zif_neg (by omega)]))
        (first | exact g _ (by decide) | exact (g _ (by decide)).up (by omega) | exact ((g _ (by decide)).up (by omega)).up (by omega) | exact (((g _ (by decide)).up (by omega)).up (by omega)).up (by omega) | exact zBk_wadd (g _ (by decide)) (by omega) (by omega) (by omega) (by omega) | exact zBk_wcut (g _ (by decide)) | exact (g _ (by decide)).cpy (g _ (by decide)) _ _ _)
      · show zBk (K + 20) (sS0_6_X5_carryOut P 109 2 p2 p3)
        unfold sS0_6_X5_carryOut; (repeat (first | rw [zif_pos (by omega)] | rw [zif_neg (by omega)]))
        (first | exact g _ (by decide) | exact (g _ (by decide)).up (by omega) | exact ((g _ (by decide)).up (by omega)).up (by omega) | exact (((g _ (by decide)).up (by omega)).up (by omega)).up (by omega) | exact zBk_wadd (g _ (by decide)) (by omega) (by omega) (by omega) (by omega) | exact zBk_wcut (g _ (by decide)) | exact (g _ (by decide)).cpy (g _ (by decide)) _ _ _)
      · show zBk (K + 20) (sS0_7_X5_carryOut P 109 2 p2 p3)
        unfold sS0_7_X5_carryOut; (repeat (first | rw [zif_pos (by omega)] | rw [zif_neg (by omega)]))
        (first | exact g _ (by decide) | exact (g _ (by decide)).up (by omega) | exact ((g _ (by decide)).up (by omega)).up (by omega) | exact (((g _ (by decide)).up (by omega)).up (by omega)).up (by omega) | exact zBk_wadd (g _ (by decide)) (by omega) (by omega) (by omega) (by omega) | exact zBk_wcut (g _ (by decide)) | exact (g _ (by decide)).cpy (g _ (by decide)) _ _ _)
    · rcases hc with rfl | rfl | rfl | rfl | rfl | rfl | rfl
      · show zBk (K + 20) (sS0_8_X5_carryOut P 109 2 p2 p3)
        unfold sS0_8_X5_carryOut; (repeat (first | rw [zif_pos (by omega)] | rw [zif_neg (by omega)]))
        (first | exact g _ (by decide) | exact (g _ (by decide)).up (by omega) | exact ((g _ (by decide)).up (by omega)).up (by omega) | exact (((g _ (by decide)).up (by omega)).up (by omega)).up (by omega) | exact zBk_wadd (g _ (by decide)) (by omega) (by omega) (by omega) (by omega) | exact zBk_wcut (g _ (by decide)) | exact (g _ (by decide)).cpy (g _ (by decide)) _ _ _)
      · show zBk (K + 20) (sS0_9_X5_carryOut P 109 2 p2 p3)
        unfold sS0_9_X5_carryOut; (repeat (first | rw [zif_pos (by omega)] | rw [zif_neg (by omega)]))
        (first | exact g _ (by decide) | exact (g _ (by decide)).up (by omega) | exact ((g _ (by decide)).up (by omega)).up (by omega) | exact (((g _ (by decide)).up (by omega)).up (by omega)).up (by omega) | exact zBk_wadd (g _ (by decide)) (by omega) (by omega) (by omega) (by omega) | exact zBk_wcut (g _ (by decide)) | exact (g _ (by decide)).cpy (g _ (by decide)) _ _ _)
      · show zBk (K + 20) (sS0_10_X5_carryOut P 109 2 p2 p3)
        unfold sS0_10_X5_carryOut; (repeat (first | rw [zif_pos (by omega)] | rw [zif_neg (by omega)]))
        (first | exact g _ (by decide) | exact (g _ (by decide)).up (by omega) | exact ((g _ (by decide)).up (by omega)).up (by omega) | exact (((g _ (by decide)).up (by omega)).up (by omega)).up (by omega) | exact zBk_wadd (g _ (by decide)) (by omega) (by omega) (by omega) (by omega) | exact zBk_wcut (g _ (by decide)) | exact (g _ (by decide)).cpy (g _ (by decide)) _ _ _)
      · show zBk (K + 20) (sS0_11_X5_carryOut P 109 2 p2 p3)
        unfold sS0_11_X5_carryOut; (repeat (first | rw [zif_pos (by omega)] | rw [zif_neg (by omega)]))
        (first | exact g _ (by decide) | exact (g _ (by decide)).up (by omega) | exact ((g _ (by decide)).up (by omega)).up (by omega) | exact (((g _ (by decide)).up (by omega)).up (by omega)).up (by omega) | exact zBk_wadd (g _ (by decide)) (by omega) (by omega) (by omega) (by omega) | exact zBk_wcut (g _ (by decide)) | exact (g _ (by decide)).cpy (g _ (by decide)) _ _ _)
      · show zBk (K + 20) (sS0_12_X5_carryOut P 109 2 p2 p3)
        unfold sS0_12_X5_carryOut; (repeat (first | rw [zif_pos (by omega)] | rw [zif_neg (by omega)]))
        (first | exact g _ (by decide) | exact (g _ (by decide)).up (by omega) | exact ((g _ (by decide)).up (by omega)).up (by omega) | exact (((g _ (by decide)).up (by omega)).up (by omega)).up (by omega) | exact zBk_wadd (g _ (by decide)) (by omega) (by omega) (by omega) (by omega) | exact zBk_wcut (g _ (by decide)) | exact (g _ (by decide)).cpy (g _ (by decide)) _ _ _)
      · show zBk (K + 20) (sS0_13_X5_carryOut P 109 2 p2 p3)
        unfold sS0_13_X5_carryOut; (repeat (first | rw [zif_pos (by omega)] | rw [zif_neg (by omega)]))
        (first | exact g _ (by decide) | exact (g _ (by decide)).up (by omega) | exact ((g _ (by decide)).up (by omega)).up (by omega) | exact (((g _ (by decide)).up (by omega)).up (by omega)).up (by omega) | exact zBk_wadd (g _ (by decide)) (by omega) (by omega) (by omega) (by omega) | exact zBk_wcut (g _ (by decide)) | exact (g _ (by decide)).cpy (g _ (by decide)) _ _ _)
      · show zBk (K + 20) (sS0_14_X5_carryOut P 109 2 p2 p3)
        unfold sS0_14_X5_carryOut; (repeat (first | rw [zif_pos (by omega)] | rw [zif_neg (by omega)]))
        (first | exact g _ (by decide) | exact (g _ (by decide)).up (by omega) | exact ((g _ (by decide)).up (by omega)).up (by omega) | exact (((g _ (by decide)).up (by omega)).up (by omega)).up (by omega) | exact zBk_wadd (g _ (by decide)) (by omega) (by omega) (by omega) (by omega) | exact zBk_wcut (g _ (by decide)) | exact (g _ (by decide)).cpy (g _ (by decide)) _ _ _)
  · rw [hV, zif_neg z] at hv; exact absurd hv (by decide)
set_option maxHeartbeats 4000000 in
theorem pb_blank {P R : Nat → Nat → Int} {K p1 p2 p3 : Int} (h : relP P (R 1)) (hp : pK K P) (hK : 20 ≤ K) (hv : sp_X5_verdictOn P 98 p1 p2 p3 = 0) (hr : ∃ G, relP (wCarry P 98 p1 p2 p3) G) : pK (K + 20) (wCarry P 98 p1 p2 p3) := by
  obtain ⟨G, hr⟩ := hr
  have d3 := relB_c hr.1
  have d6 := relB_c hr.2.1
  have d9 := relB_c hr.2.2.1
  have d11 := hr.2.2.2.1.1
  have d13 := hr.2.2.2.2.1.1
  refine ⟨?_, d3.2, d6.2, d9.2, d11, d13⟩
  have g : ∀ c, c ≤ 14 → zBk (K + 20) (P c) := fun c hc => (hp.1 c hc).mono (by omega)
  have hV := ver_blank (p1 := p1) (p2 := p2) (p3 := p3) h
  have c0 := relB_c h.1
  have c1 := relB_c h.2.1
  have c2 := relB_c h.2.2.1
  have cs := h.2.2.2.1.2.1
  have csr := h.2.2.2.1.1
  have cy := h.2.2.2.2.1.2.1
  have cyr := h.2.2.2.2.1.1
  have q3 := hp.1 0 (by decide) 3
  have q4 := hp.1 0 (by decide) 4
  have q5 := hp.1 0 (by decide) 5
  have q7 := hp.1 0 (by decide) 7
  have q8 := hp.1 0 (by decide) 8
  have q9 := hp.1 0 (by decide) 9
  have q10 := hp.1 0 (by decide) 10
  have key : (∀ c, (c = 0 ∨ c = 2 ∨ c = 3 ∨ c = 4 ∨ c = 5 ∨ c = 6 ∨ c = 7) → zBk (K + 20) (wCarry P 98 p1 p2 p3 c)) → (∀ c, (c = 8 ∨ c = 9 ∨ c = 10 ∨ c = 11 ∨ c = 12 ∨ c = 13 ∨ c = 14) → zBk (K + 20) (wCarry P 98 p1 p2 p3 c)) → ∀ c, c ≤ 14 → zBk (K + 20) (wCarry P 98 p1 p2 p3 c) := by
    intro k1 k2 c hc
    rcases (show c = 1 ∨ (c = 0 ∨ c = 2 ∨ c = 3 ∨ c = 4 ∨ c = 5 ∨ c = 6 ∨ c = 7) ∨ (c = 8 ∨ c = 9 ∨ c = 10 ∨ c = 11 ∨ c = 12 ∨ c = 13 ∨ c = 14) by omega) with z | z | z
    · rw [z]; exact g 1 (by decide)
    · exact k1 c z
    · exact k2 c z
  rcases (show p1 = 0 ∨ p1 = 1 ∨ p1 = 2 ∨ ¬ (0 ≤ p1 ∧ p1 ≤ 2) by omega) with z | z | z | z
  · subst z
    refine key (fun c hc => ?_) (fun c hc => ?_)
    · rcases hc with rfl | rfl | rfl | rfl | rfl | rfl | rfl
      · show zBk (K + 20) (sS0_0_X5_carryOut P 98 0 p2 p3)
        unfold sS0_0_X5_carryOut; (repeat (first | rw [zif_pos (by omega)] | rw [zif_neg (by omega)]))
        (first | exact g _ (by decide) | exact (g _ (by decide)).up (by omega) | exact ((g _ (by decide)).up (by omega)).up (by omega) | exact (((g _ (by decide)).up (by omega)).up (by omega)).up (by omega) | exact zBk_wadd (g _ (by decide)) (by omega) (by omega) (by omega) (by omega) | exact zBk_wcut (g _ (by decide)) | exact (g _ (by decide)).cpy (g _ (by decide)) _ _ _)
      · show zBk (K + 20) (sS0_2_X5_carryOut P 98 0 p2 p3)
        unfold sS0_2_X5_carryOut; (repeat (first | rw [zif_pos (by omega)] | rw [zif_neg (by omega)]))
        (first | exact g _ (by decide) | exact (g _ (by decide)).up (by omega) | exact ((g _ (by decide)).up (by omega)).up (by omega) | exact (((g _ (by decide)).up (by omega)).up (by omega)).up (by omega) | exact zBk_wadd (g _ (by decide)) (by omega) (by omega) (by omega) (by omega) | exact zBk_wcut (g _ (by decide)) | exact (g _ (by decide)).cpy (g _ (by decide)) _ _ _)
      · show zBk (K + 20) (sS0_3_X5_carryOut P 98 0 p2 p3)
        unfold sS0_3_X5_carryOut; (repeat (first | rw [zif_pos (by omega)] | rw [zif_neg (by omega)]))
        (first | exact g _ (by decide) | exact (g _ (by decide)).up (by omega) | exact ((g _ (by decide)).up (by omega)).up (by omega) | exact (((g _ (by decide)).up (by omega)).up (by omega)).up (by omega) | exact zBk_wadd (g _ (by decide)) (by omega) (by omega) (by omega) (by omega) | exact zBk_wcut (g _ (by decide)) | exact (g _ (by decide)).cpy (g _ (by decide)) _ _ _)
      · show zBk (K + 20) (sS0_4_X5_carryOut P 98 0 p2 p3)
        unfold sS0_4_X5_carryOut; (repeat (first | rw [zif_pos (by omega)] | rw [zif_neg (by omega)]))
        (first | exact g _ (by decide) | exact (g _ (by decide)).up (by omega) | exact ((g _ (by decide)).up (by omega)).up (by omega) | exact (((g _ (by decide)).up (by omega)).up (by omega)).up (by omega) | exact zBk_wadd (g _ (by decide)) (by omega) (by omega) (by omega) (by omega) | exact zBk_wcut (g _ (by decide)) | exact (g _ (by decide)).cpy (g _ (by decide)) _ _ _)
      · show zBk (K + 20) (sS0_5_X5_carryOut P 98 0 p2 p3)
        unfold sS0_5_X5_carryOut; (repeat (first | rw [zif_pos (by omega)] | rw [zif_neg (by omega)]))
        (first | exact g _ (by decide) | exact (g _ (by decide)).up (by omega) | exact ((g _ (by decide)).up (by omega)).up (by omega) | exact (((g _ (by decide)).up (by omega)).up (by omega)).up (by omega) | exact zBk_wadd (g _ (by decide)) (by omega) (by omega) (by omega) (by omega) | exact zBk_wcut (g _ (by decide)) | exact (g _ (by decide)).cpy (g _ (by decide)) _ _ _)
      · show zBk (K + 20) (sS0_6_X5_carryOut P 98 0 p2 p3)
        unfold sS0_6_X5_carryOut; (repeat (first | rw [zif_pos (by omega)] | rw [zif_neg (by omega)]))
        (first | exact g _ (by decide) | exact (g _ (by decide)).up (by omega) | exact ((g _ (by decide)).up (by omega)).up (by omega) | exact (((g _ (by decide)).up (by omega)).up (by omega)).up (by omega) | exact zBk_wadd (g _ (by decide)) (by omega) (by omega) (by omega) (by omega) | exact zBk_wcut (g _ (by decide)) | exact (g _ (by decide)).cpy (g _ (by decide)) _ _ _)
      · show zBk (K + 20) (sS0_7_X5_carryOut P 98 0 p2 p3)
        unfold sS0_7_X5_carryOut; (repeat (first | rw [zif_pos (by omega)] | rw [zif_neg (by omega)]))
        (first | exact g _ (by decide) | exact (g _ (by decide)).up (by omega) | exact ((g _ (by decide)).up (by omega)).up (by omega) | exact (((g _ (by decide)).up (by omega)).up (by omega)).up (by omega) | exact zBk_wadd (g _ (by decide)) (by omega) (by omega) (by omega) (by omega) | exact zBk_wcut (g _ (by decide)) | exact (g _ (by decide)).cpy (g _ (by decide)) _ _ _)
    · rcases hc with rfl | rfl | rfl | rfl | rfl | rfl | rfl
      · show zBk (K + 20) (sS0_8_X5_carryOut P 98 0 p2 p3)
        unfold sS0_8_X5_carryOut; (repeat (first | rw [zif_pos (by omega)] | rw [zif_neg (by omega)]))
        (first | exact g _ (by decide) | exact (g _ (by decide)).up (by omega) | exact ((g _ (by decide)).up (by omega)).up (by omega) | exact (((g _ (by decide)).up (by omega)).up (by omega)).up (by omega) | exact zBk_wadd (g _ (by decide)) (by omega) (by omega) (by omega) (by omega) | exact zBk_wcut (g _ (by decide)) | exact (g _ (by decide)).cpy (g _ (by decide)) _ _ _)
      · show zBk (K + 20) (sS0_9_X5_carryOut P 98 0 p2 p3)
        unfold sS0_9_X5_carryOut; (repeat (first | rw [zif_pos (by omega)] | rw [zif_neg (by omega)]))
        (first | exact g _ (by decide) | exact (g _ (by decide)).up (by omega) | exact ((g _ (by decide)).up (by omega)).up (by omega) | exact (((g _ (by decide)).up (by omega)).up (by omega)).up (by omega) | exact zBk_wadd (g _ (by decide)) (by omega) (by omega) (by omega) (by omega) | exact zBk_wcut (g _ (by decide)) | exact (g _ (by decide)).cpy (g _ (by decide)) _ _ _)
      · show zBk (K + 20) (sS0_10_X5_carryOut P 98 0 p2 p3)
        unfold sS0_10_X5_carryOut; (repeat (first | rw [zif_pos (by omega)] | rw [zif_neg (by omega)]))
        (first | exact g _ (by decide) | exact (g _ (by decide)).up (by omega) | exact ((g _ (by decide)).up (by omega)).up (by omega) | exact (((g _ (by decide)).up (by omega)).up (by omega)).up (by omega) | exact zBk_wadd (g _ (by decide)) (by omega) (by omega) (by omega) (by omega) | exact zBk_wcut (g _ (by decide)) | exact (g _ (by decide)).cpy (g _ (by decide)) _ _ _)
      · show zBk (K + 20) (sS0_11_X5_carryOut P 98 0 p2 p3)
        unfold sS0_11_X5_carryOut; (repeat (first | rw [zif_pos (by omega)] | rw [zif_neg (by omega)]))
        (first | exact g _ (by decide) | exact (g _ (by decide)).up (by omega) | exact ((g _ (by decide)).up (by omega)).up (by omega) | exact (((g _ (by decide)).up (by omega)).up (by omega)).up (by omega) | exact zBk_wadd (g _ (by decide)) (by omega) (by omega) (by omega) (by omega) | exact zBk_wcut (g _ (by decide)) | exact (g _ (by decide)).cpy (g _ (by decide)) _ _ _)
      · show zBk (K + 20) (sS0_12_X5_carryOut P 98 0 p2 p3)
        unfold sS0_12_X5_carryOut; (repeat (first | rw [zif_pos (by omega)] | rw [zif_neg (by omega)]))
        (first | exact g _ (by decide) | exact (g _ (by decide)).up (by omega) | exact ((g _ (by decide)).up (by omega)).up (by omega) | exact (((g _ (by decide)).up (by omega)).up (by omega)).up (by omega) | exact zBk_wadd (g _ (by decide)) (by omega) (by omega) (by omega) (by omega) | exact zBk_wcut (g _ (by decide)) | exact (g _ (by decide)).cpy (g _ (by decide)) _ _ _)
      · show zBk (K + 20) (sS0_13_X5_carryOut P 98 0 p2 p3)
        unfold sS0_13_X5_carryOut; (repeat (first | rw [zif_pos (by omega)] | rw [zif_neg (by omega)]))
        (first | exact g _ (by decide) | exact (g _ (by decide)).up (by omega) | exact ((g _ (by decide)).up (by omega)).up (by omega) | exact (((g _ (by decide)).up (by omega)).up (by omega)).up (by omega) | exact zBk_wadd (g _ (by decide)) (by omega) (by omega) (by omega) (by omega) | exact zBk_wcut (g _ (by decide)) | exact (g _ (by decide)).cpy (g _ (by decide)) _ _ _)
      · show zBk (K + 20) (sS0_14_X5_carryOut P 98 0 p2 p3)
        unfold sS0_14_X5_carryOut; (repeat (first | rw [zif_pos (by omega)] | rw [zif_neg (by omega)]))
        (first | exact g _ (by decide) | exact (g _ (by decide)).up (by omega) | exact ((g _ (by decide)).up (by omega)).up (by omega) | exact (((g _ (by decide)).up (by omega)).up (by omega)).up (by omega) | exact zBk_wadd (g _ (by decide)) (by omega) (by omega) (by omega) (by omega) | exact zBk_wcut (g _ (by decide)) | exact (g _ (by decide)).cpy (g _ (by decide)) _ _ _)
  · subst z
    refine key (fun c hc => ?_) (fun c hc => ?_)
    · rcases hc with rfl | rfl | rfl | rfl | rfl | rfl | rfl
      · show zBk (K + 20) (sS0_0_X5_carryOut P 98 1 p2 p3)
        unfold sS0_0_X5_carryOut; (repeat (first | rw [zif_pos (by omega)] | rw [zif_neg (by omega)]))
        (first | exact g _ (by decide) | exact (g _ (by decide)).up (by omega) | exact ((g _ (by decide)).up (by omega)).up (by omega) | exact (((g _ (by decide)).up (by omega)).up (by omega)).up (by omega) | exact zBk_wadd (g _ (by decide)) (by omega) (by omega) (by omega) (by omega) | exact zBk_wcut (g _ (by decide)) | exact (g _ (by decide)).cpy (g _ (by decide)) _ _ _)
      · show zBk (K + 20) (sS0_2_X5_carryOut P 98 1 p2 p3)
        unfold sS0_2_X5_carryOut; (repeat (first | rw [zif_pos (by omega)] | rw [zif_neg (by omega)]))
        (first | exact g _ (by decide) | exact (g _ (by decide)).up (by omega) | exact ((g _ (by decide)).up (by omega)).up (by omega) | exact (((g _ (by decide)).up (by omega)).up (by omega)).up (by omega) | exact zBk_wadd (g _ (by decide)) (by omega) (by omega) (by omega) (by omega) | exact zBk_wcut (g _ (by decide)) | exact (g _ (by decide)).cpy (g _ (by decide)) _ _ _)
      · show zBk (K + 20) (sS0_3_X5_carryOut P 98 1 p2 p3)
        unfold sS0_3_X5_carryOut; (repeat (first | rw [zif_pos (by omega)] | rw [zif_neg (by omega)]))
        (first | exact g _ (by decide) | exact (g _ (by decide)).up (by omega) | exact ((g _ (by decide)).up (by omega)).up (by omega) | exact (((g _ (by decide)).up (by omega)).up (by omega)).up (by omega) | exact zBk_wadd (g _ (by decide)) (by omega) (by omega) (by omega) (by omega) | exact zBk_wcut (g _ (by decide)) | exact (g _ (by decide)).cpy (g _ (by decide)) _ _ _)
      · show zBk (K + 20) (sS0_4_X5_carryOut P 98 1 p2 p3)
        unfold sS0_4_X5_carryOut; (repeat (first | rw [zif_pos (by omega)] | rw [zif_neg (by omega)]))
        (first | exact g _ (by decide) | exact (g _ (by decide)).up (by omega) | exact ((g _ (by decide)).up (by omega)).up (by omega) | exact (((g _ (by decide)).up (by omega)).up (by omega)).up (by omega) | exact zBk_wadd (g _ (by decide)) (by omega) (by omega) (by omega) (by omega) | exact zBk_wcut (g _ (by decide)) | exact (g _ (by decide)).cpy (g _ (by decide)) _ _ _)
      · show zBk (K + 20) (sS0_5_X5_carryOut P 98 1 p2 p3)
        unfold sS0_5_X5_carryOut; (repeat (first | rw [zif_pos (by omega)] | rw [zif_neg (by omega)]))
        (first | exact g _ (by decide) | exact (g _ (by decide)).up (by omega) | exact ((g _ (by decide)).up (by omega)).up (by omega) | exact (((g _ (by decide)).up (by omega)).up (by omega)).up (by omega) | exact zBk_wadd (g _ (by decide)) (by omega) (by omega) (by omega) (by omega) | exact zBk_wcut (g _ (by decide)) | exact (g _ (by decide)).cpy (g _ (by decide)) _ _ _)
      · show zBk (K + 20) (sS0_6_X5_carryOut P 98 1 p2 p3)
        unfold sS0_6_X5_carryOut; (repeat (first | rw [zif_pos (by omega)] | rw [zif_neg (by omega)]))
        (first | exact g _ (by decide) | exact (g _ (by decide)).up (by omega) | exact ((g _ (by decide)).up (by omega)).up (by omega) | exact (((g _ (by decide)).up (by omega)).up (by omega)).up (by omega) | exact zBk_wadd (g _ (by decide)) (by omega) (by omega) (by omega) (by omega) | exact zBk_wcut (g _ (by decide)) | exact (g _ (by decide)).cpy (g _ (by decide)) _ _ _)
      · show zBk (K + 20) (sS0_7_X5_carryOut P 98 1 p2 p3)
        unfold sS0_7_X5_carryOut; (repeat (first | rw [zif_pos (by omega)] | rw [zif_neg (by omega)]))
        (first | exact g _ (by decide) | exact (g _ (by decide)).up (by omega) | exact ((g _ (by decide)).up (by omega)).up (by omega) | exact (((g _ (by decide)).up (by omega)).up (by omega)).up (by omega) | exact zBk_wadd (g _ (by decide)) (by omega) (by omega) (by omega) (by omega) | exact zBk_wcut (g _ (by decide)) | exact (g _ (by decide)).cpy (g _ (by decide)) _ _ _)
    · rcases hc with rfl | rfl | rfl | rfl | rfl | rfl | rfl
      · show zBk (K + 20) (sS0_8_X5_carryOut P 98 1 p2 p3)
        unfold sS0_8_X5_carryOut; (repeat (first | rw [zif_pos (by omega)] | rw [zif_neg (by omega)]))
        (first | exact g _ (by decide) | exact (g _ (by decide)).up (by omega) | exact ((g _ (by decide)).up (by omega)).up (by omega) | exact (((g _ (by decide)).up (by omega)).up (by omega)).up (by omega) | exact zBk_wadd (g _ (by decide)) (by omega) (by omega) (by omega) (by omega) | exact zBk_wcut (g _ (by decide)) | exact (g _ (by decide)).cpy (g _ (by decide)) _ _ _)
      · show zBk (K + 20) (sS0_9_X5_carryOut P 98 1 p2 p3)
        unfold sS0_9_X5_carryOut; (repeat (first | rw [zif_pos (by omega)] | rw [zif_neg (by omega)]))
        (first | exact g _ (by decide) | exact (g _ (by decide)).up (by omega) | exact ((g _ (by decide)).up (by omega)).up (by omega) | exact (((g _ (by decide)).up (by omega)).up (by omega)).up (by omega) | exact zBk_wadd (g _ (by decide)) (by omega) (by omega) (by omega) (by omega) | exact zBk_wcut (g _ (by decide)) | exact (g _ (by decide)).cpy (g _ (by decide)) _ _ _)
      · show zBk (K + 20) (sS0_10_X5_carryOut P 98 1 p2 p3)
        unfold sS0_10_X5_carryOut; (repeat (first | rw [zif_pos (by omega)] | rw [zif_neg (by omega)]))
        (first | exact g _ (by decide) | exact (g _ (by decide)).up (by omega) | exact ((g _ (by decide)).up (by omega)).up (by omega) | exact (((g _ (by decide)).up (by omega)).up (by omega)).up (by omega) | exact zBk_wadd (g _ (by decide)) (by omega) (by omega) (by omega) (by omega) | exact zBk_wcut (g _ (by decide)) | exact (g _ (by decide)).cpy (g _ (by decide)) _ _ _)
      · show zBk (K + 20) (sS0_11_X5_carryOut P 98 1 p2 p3)
        unfold sS0_11_X5_carryOut; (repeat (first | rw [zif_pos (by omega)] | rw [zif_neg (by omega)]))
        (first | exact g _ (by decide) | exact (g _ (by decide)).up (by omega) | exact ((g _ (by decide)).up (by omega)).up (by omega) | exact (((g _ (by decide)).up (by omega)).up (by omega)).up (by omega) | exact zBk_wadd (g _ (by decide)) (by omega) (by omega) (by omega) (by omega) | exact zBk_wcut (g _ (by decide)) | exact (g _ (by decide)).cpy (g _ (by decide)) _ _ _)
      · show zBk (K + 20) (sS0_12_X5_carryOut P 98 1 p2 p3)
        unfold sS0_12_X5_carryOut; (repeat (first | rw [zif_pos (by omega)] | rw [zif_neg (by omega)]))
        (first | exact g _ (by decide) | exact (g _ (by decide)).up (by omega) | exact ((g _ (by decide)).up (by omega)).up (by omega) | exact (((g _ (by decide)).up (by omega)).up (by omega)).up (by omega) | exact zBk_wadd (g _ (by decide)) (by omega) (by omega) (by omega) (by omega) | exact zBk_wcut (g _ (by decide)) | exact (g _ (by decide)).cpy (g _ (by decide)) _ _ _)
      · show zBk (K + 20) (sS0_13_X5_carryOut P 98 1 p2 p3)
        unfold sS0_13_X5_carryOut; (repeat (first | rw [zif_pos (by omega)] | rw [zif_neg (by omega)]))
        (first | exact g _ (by decide) | exact (g _ (by decide)).up (by omega) | exact ((g _ (by decide)).up (by omega)).up (by omega) | exact (((g _ (by decide)).up (by omega)).up (by omega)).up (by omega) | exact zBk_wadd (g _ (by decide)) (by omega) (by omega) (by omega) (by omega) | exact zBk_wcut (g _ (by decide)) | exact (g _ (by decide)).cpy (g _ (by decide)) _ _ _)
      · show zBk (K + 20) (sS0_14_X5_carryOut P 98 1 p2 p3)
        unfold sS0_14_X5_carryOut; (repeat (first | rw [zif_pos (by omega)] | rw [zif_neg (by omega)]))
        (first | exact g _ (by decide) | exact (g _ (by decide)).up (by omega) | exact ((g _ (by decide)).up (by omega)).up (by omega) | exact (((g _ (by decide)).up (by omega)).up (by omega)).up (by omega) | exact zBk_wadd (g _ (by decide)) (by omega) (by omega) (by omega) (by omega) | exact zBk_wcut (g _ (by decide)) | exact (g _ (by decide)).cpy (g _ (by decide)) _ _ _)
  · subst z
    refine key (fun c hc => ?_) (fun c hc => ?_)
    · rcases hc with rfl | rfl | rfl | rfl | rfl | rfl | rfl
      · show zBk (K + 20) (sS0_0_X5_carryOut P 98 2 p2 p3)
        unfold sS0_0_X5_carryOut; (repeat (first | rw [zif_pos (by omega)] | rw [zif_neg (by omega)]))
        (first | exact g _ (by decide) | exact (g _ (by decide)).up (by omega) | exact ((g _ (by decide)).up (by omega)).up (by omega) | exact (((g _ (by decide)).up (by omega)).up (by omega)).up (by omega) | exact zBk_wadd (g _ (by decide)) (by omega) (by omega) (by omega) (by omega) | exact zBk_wcut (g _ (by decide)) | exact (g _ (by decide)).cpy (g _ (by decide)) _ _ _)
      · show zBk (K + 20) (sS0_2_X5_carryOut P 98 2 p2 p3)
        unfold sS0_2_X5_carryOut; (repeat (first | rw [zif_pos (by omega)] | rw [zif_neg (by omega)]))
        (first | exact g _ (by decide) | exact (g _ (by decide)).up (by omega) | exact ((g _ (by decide)).up (by omega)).up (by omega) | exact (((g _ (by decide)).up (by omega)).up (by omega)).up (by omega) | exact zBk_wadd (g _ (by decide)) (by omega) (by omega) (by omega) (by omega) | exact zBk_wcut (g _ (by decide)) | exact (g _ (by decide)).cpy (g _ (by decide)) _ _ _)
      · show zBk (K + 20) (sS0_3_X5_carryOut P 98 2 p2 p3)
        unfold sS0_3_X5_carryOut; (repeat (first | rw [zif_pos (by omega)] | rw [zif_neg (by omega)]))
        (first | exact g _ (by decide) | exact (g _ (by decide)).up (by omega) | exact ((g _ (by decide)).up (by omega)).up (by omega) | exact (((g _ (by decide)).up (by omega)).up (by omega)).up (by omega) | exact zBk_wadd (g _ (by decide)) (by omega) (by omega) (by omega) (by omega) | exact zBk_wcut (g _ (by decide)) | exact (g _ (by decide)).cpy (g _ (by decide)) _ _ _)
      · show zBk (K + 20) (sS0_4_X5_carryOut P 98 2 p2 p3)
        unfold sS0_4_X5_carryOut; (repeat (first | rw [zif_pos (by omega)] | rw [zif_neg (by omega)]))
        (first | exact g _ (by decide) | exact (g _ (by decide)).up (by omega) | exact ((g _ (by decide)).up (by omega)).up (by omega) | exact (((g _ (by decide)).up (by omega)).up (by omega)).up (by omega) | exact zBk_wadd (g _ (by decide)) (by omega) (by omega) (by omega) (by omega) | exact zBk_wcut (g _ (by decide)) | exact (g _ (by decide)).cpy (g _ (by decide)) _ _ _)
      · show zBk (K + 20) (sS0_5_X5_carryOut P 98 2 p2 p3)
        unfold sS0_5_X5_carryOut; (repeat (first | rw [zif_pos (by omega)] | rw [zif_neg (by omega)]))
        (first | exact g _ (by decide) | exact (g _ (by decide)).up (by omega) | exact ((g _ (by decide)).up (by omega)).up (by omega) | exact (((g _ (by decide)).up (by omega)).up (by omega)).up (by omega) | exact zBk_wadd (g _ (by decide)) (by omega) (by omega) (by omega) (by omega) | exact zBk_wcut (g _ (by decide)) | exact (g _ (by decide)).cpy (g _ (by decide)) _ _ _)
      · show zBk (K + 20) (sS0_6_X5_carryOut P 98 2 p2 p3)
        unfold sS0_6_X5_carryOut; (repeat (first | rw [zif_pos (by omega)] | rw [zif_neg (by omega)]))
        (first | exact g _ (by decide) | exact (g _ (by decide)).up (by omega) | exact ((g _ (by decide)).up (by omega)).up (by omega) | exact (((g _ (by decide)).up (by omega)).up (by omega)).up (by omega) | exact zBk_wadd (g _ (by decide)) (by omega) (by omega) (by omega) (by omega) | exact zBk_wcut (g _ (by decide)) | exact (g _ (by decide)).cpy (g _ (by decide)) _ _ _)
      · show zBk (K + 20) (sS0_7_X5_carryOut P 98 2 p2 p3)
        unfold sS0_7_X5_carryOut; (repeat (first | rw [zif_pos (by omega)] | rw [zif_neg (by omega)]))
        (first | exact g _ (by decide) | exact (g _ (by decide)).up (by omega) | exact ((g _ (by decide)).up (by omega)).up (by omega) | exact (((g _ (by decide)).up (by omega)).up (by omega)).up (by omega) | exact zBk_wadd (g _ (by decide)) (by omega) (by omega) (by omega) (by omega) | exact zBk_wcut (g _ (by decide)) | exact (g _ (by decide)).cpy (g _ (by decide)) _ _ _)
    · rcases hc with rfl | rfl | rfl | rfl | rfl | rfl | rfl
      · show zBk (K + 20) (sS0_8_X5_carryOut P 98 2 p2 p3)
        unfold sS0_8_X5_carryOut; (repeat (first | rw [zif_pos (by omega)] | rw [zif_neg (by omega)]))
        (first | exact g _ (by decide) | exact (g _ (by decide)).up (by omega) | exact ((g _ (by decide)).up (by omega)).up (by omega) | exact (((g _ (by decide)).up (by omega)).up (by omega)).up (by omega) | exact zBk_wadd (g _ (by decide)) (by omega) (by omega) (by omega) (by omega) | exact zBk_wcut (g _ (by decide)) | exact (g _ (by decide)).cpy (g _ (by decide)) _ _ _)
      · show zBk (K + 20) (sS0_9_X5_carryOut P 98 2 p2 p3)
        unfold sS0_9_X5_carryOut; (repeat (first | rw [zif_pos (by omega)] | rw [zif_neg (by omega)]))
        (first | exact g _ (by decide) | exact (g _ (by decide)).up (by omega) | exact ((g _ (by decide)).up (by omega)).up (by omega) | exact (((g _ (by decide)).up (by omega)).up (by omega)).up (by omega) | exact zBk_wadd (g _ (by decide)) (by omega) (by omega) (by omega) (by omega) | exact zBk_wcut (g _ (by decide)) | exact (g _ (by decide)).cpy (g _ (by decide)) _ _ _)
      · show zBk (K + 20) (sS0_10_X5_carryOut P 98 2 p2 p3)
        unfold sS0_10_X5_carryOut; (repeat (first | rw [zif_pos (by omega)] | rw [zif_neg (by omega)]))
        (first | exact g _ (by decide) | exact (g _ (by decide)).up (by omega) | exact ((g _ (by decide)).up (by omega)).up (by omega) | exact (((g _ (by decide)).up (by omega)).up (by omega)).up (by omega) | exact zBk_wadd (g _ (by decide)) (by omega) (by omega) (by omega) (by omega) | exact zBk_wcut (g _ (by decide)) | exact (g _ (by decide)).cpy (g _ (by decide)) _ _ _)
      · show zBk (K + 20) (sS0_11_X5_carryOut P 98 2 p2 p3)
        unfold sS0_11_X5_carryOut; (repeat (first | rw [zif_pos (by omega)] | rw [zif_neg (by omega)]))
        (first | exact g _ (by decide) | exact (g _ (by decide)).up (by omega) | exact ((g _ (by decide)).up (by omega)).up (by omega) | exact (((g _ (by decide)).up (by omega)).up (by omega)).up (by omega) | exact zBk_wadd (g _ (by decide)) (by omega) (by omega) (by omega) (by omega) | exact zBk_wcut (g _ (by decide)) | exact (g _ (by decide)).cpy (g _ (by decide)) _ _ _)
      · show zBk (K + 20) (sS0_12_X5_carryOut P 98 2 p2 p3)
        unfold sS0_12_X5_carryOut; (repeat (first | rw [zif_pos (by omega)] | rw [zif_neg (by omega)]))
        (first | exact g _ (by decide) | exact (g _ (by decide)).up (by omega) | exact ((g _ (by decide)).up (by omega)).up (by omega) | exact (((g _ (by decide)).up (by omega)).up (by omega)).up (by omega) | exact zBk_wadd (g _ (by decide)) (by omega) (by omega) (by omega) (by omega) | exact zBk_wcut (g _ (by decide)) | exact (g _ (by decide)).cpy (g _ (by decide)) _ _ _)
      · show zBk (K + 20) (sS0_13_X5_carryOut P 98 2 p2 p3)
        unfold sS0_13_X5_carryOut; (repeat (first | rw [zif_pos (by omega)] | rw [zif_neg (by omega)]))
        (first | exact g _ (by decide) | exact (g _ (by decide)).up (by omega) | exact ((g _ (by decide)).up (by omega)).up (by omega) | exact (((g _ (by decide)).up (by omega)).up (by omega)).up (by omega) | exact zBk_wadd (g _ (by decide)) (by omega) (by omega) (by omega) (by omega) | exact zBk_wcut (g _ (by decide)) | exact (g _ (by decide)).cpy (g _ (by decide)) _ _ _)
      · show zBk (K + 20) (sS0_14_X5_carryOut P 98 2 p2 p3)
        unfold sS0_14_X5_carryOut; (repeat (first | rw [zif_pos (by omega)] | rw [zif_neg (by omega)]))
        (first | exact g _ (by decide) | exact (g _ (by decide)).up (by omega) | exact ((g _ (by decide)).up (by omega)).up (by omega) | exact (((g _ (by decide)).up (by omega)).up (by omega)).up (by omega) | exact zBk_wadd (g _ (by decide)) (by omega) (by omega) (by omega) (by omega) | exact zBk_wcut (g _ (by decide)) | exact (g _ (by decide)).cpy (g _ (by decide)) _ _ _)
  · rw [hV, zif_neg z] at hv; exact absurd hv (by decide)
set_option maxHeartbeats 4000000 in
theorem pb_tell {P R : Nat → Nat → Int} {K p1 p2 p3 : Int} (h : relP P (R 1)) (hp : pK K P) (hK : 20 ≤ K) (hv : sp_X5_verdictOn P 116 p1 p2 p3 = 0) (hr : ∃ G, relP (wCarry P 116 p1 p2 p3) G) : pK (K + 20) (wCarry P 116 p1 p2 p3) := by
  obtain ⟨G, hr⟩ := hr
  have d3 := relB_c hr.1
  have d6 := relB_c hr.2.1
  have d9 := relB_c hr.2.2.1
  have d11 := hr.2.2.2.1.1
  have d13 := hr.2.2.2.2.1.1
  refine ⟨?_, d3.2, d6.2, d9.2, d11, d13⟩
  have g : ∀ c, c ≤ 14 → zBk (K + 20) (P c) := fun c hc => (hp.1 c hc).mono (by omega)
  have hV := ver_tell (p1 := p1) (p2 := p2) (p3 := p3) h
  have c0 := relB_c h.1
  have c1 := relB_c h.2.1
  have c2 := relB_c h.2.2.1
  have cs := h.2.2.2.1.2.1
  have csr := h.2.2.2.1.1
  have cy := h.2.2.2.2.1.2.1
  have cyr := h.2.2.2.2.1.1
  have q3 := hp.1 0 (by decide) 3
  have q4 := hp.1 0 (by decide) 4
  have q5 := hp.1 0 (by decide) 5
  have q7 := hp.1 0 (by decide) 7
  have q8 := hp.1 0 (by decide) 8
  have q9 := hp.1 0 (by decide) 9
  have q10 := hp.1 0 (by decide) 10
  have key : (∀ c, (c = 0 ∨ c = 2 ∨ c = 3 ∨ c = 4 ∨ c = 5 ∨ c = 6 ∨ c = 7) → zBk (K + 20) (wCarry P 116 p1 p2 p3 c)) → (∀ c, (c = 8 ∨ c = 9 ∨ c = 10 ∨ c = 11 ∨ c = 12 ∨ c = 13 ∨ c = 14) → zBk (K + 20) (wCarry P 116 p1 p2 p3 c)) → ∀ c, c ≤ 14 → zBk (K + 20) (wCarry P 116 p1 p2 p3 c) := by
    intro k1 k2 c hc
    rcases (show c = 1 ∨ (c = 0 ∨ c = 2 ∨ c = 3 ∨ c = 4 ∨ c = 5 ∨ c = 6 ∨ c = 7) ∨ (c = 8 ∨ c = 9 ∨ c = 10 ∨ c = 11 ∨ c = 12 ∨ c = 13 ∨ c = 14) by omega) with z | z | z
    · rw [z]; exact g 1 (by decide)
    · exact k1 c z
    · exact k2 c z
  rcases (show p1 = 0 ∨ p1 = 1 ∨ p1 = 2 ∨ ¬ (0 ≤ p1 ∧ p1 ≤ 2) by omega) with z | z | z | z
  · subst z
    have r2 : 0 ≤ p2 ∧ p2 ≤ 9 := Classical.byContradiction fun q => by rw [hV, zif_pos (by omega), zif_neg q] at hv; exact absurd hv (by decide)
    have r3 : 4 ≤ p3 ∧ p3 ≤ 9 := Classical.byContradiction fun q => by rw [hV, zif_pos (by omega), zif_pos r2, zif_neg q] at hv; exact absurd hv (by decide)
    refine key (fun c hc => ?_) (fun c hc => ?_)
    · rcases hc with rfl | rfl | rfl | rfl | rfl | rfl | rfl
      · show zBk (K + 20) (sS0_0_X5_carryOut P 116 0 p2 p3)
        unfold sS0_0_X5_carryOut; (repeat (first | rw [zif_pos (by omega)] | rw [zif_neg (by omega)]))
        (first | exact g _ (by decide) | exact (g _ (by decide)).up (by omega) | exact ((g _ (by decide)).up (by omega)).up (by omega) | exact (((g _ (by decide)).up (by omega)).up (by omega)).up (by omega) | exact zBk_wadd (g _ (by decide)) (by omega) (by omega) (by omega) (by omega) | exact zBk_wcut (g _ (by decide)) | exact (g _ (by decide)).cpy (g _ (by decide)) _ _ _)
      · show zBk (K + 20) (sS0_2_X5_carryOut P 116 0 p2 p3)
        unfold sS0_2_X5_carryOut; (repeat (first | rw [zif_pos (by omega)] | rw [zif_neg (by omega)]))
        (first | exact g _ (by decide) | exact (g _ (by decide)).up (by omega) | exact ((g _ (by decide)).up (by omega)).up (by omega) | exact (((g _ (by decide)).up (by omega)).up (by omega)).up (by omega) | exact zBk_wadd (g _ (by decide)) (by omega) (by omega) (by omega) (by omega) | exact zBk_wcut (g _ (by decide)) | exact (g _ (by decide)).cpy (g _ (by decide)) _ _ _)
      · show zBk (K + 20) (sS0_3_X5_carryOut P 116 0 p2 p3)
        unfold sS0_3_X5_carryOut; (repeat (first | rw [zif_pos (by omega)] | rw [zif_neg (by omega)]))
        (first | exact g _ (by decide) | exact (g _ (by decide)).up (by omega) | exact ((g _ (by decide)).up (by omega)).up (by omega) | exact (((g _ (by decide)).up (by omega)).up (by omega)).up (by omega) | exact zBk_wadd (g _ (by decide)) (by omega) (by omega) (by omega) (by omega) | exact zBk_wcut (g _ (by decide)) | exact (g _ (by decide)).cpy (g _ (by decide)) _ _ _)
      · show zBk (K + 20) (sS0_4_X5_carryOut P 116 0 p2 p3)
        unfold sS0_4_X5_carryOut; (repeat (first | rw [zif_pos (by omega)] | rw [zif_neg (by omega)]))
        (first | exact g _ (by decide) | exact (g _ (by decide)).up (by omega) | exact ((g _ (by decide)).up (by omega)).up (by omega) | exact (((g _ (by decide)).up (by omega)).up (by omega)).up (by omega) | exact zBk_wadd (g _ (by decide)) (by omega) (by omega) (by omega) (by omega) | exact zBk_wcut (g _ (by decide)) | exact (g _ (by decide)).cpy (g _ (by decide)) _ _ _)
      · show zBk (K + 20) (sS0_5_X5_carryOut P 116 0 p2 p3)
        unfold sS0_5_X5_carryOut; (repeat (first | rw [zif_pos (by omega)] | rw [zif_neg (by omega)]))
        (first | exact g _ (by decide) | exact (g _ (by decide)).up (by omega) | exact ((g _ (by decide)).up (by omega)).up (by omega) | exact (((g _ (by decide)).up (by omega)).up (by omega)).up (by omega) | exact zBk_wadd (g _ (by decide)) (by omega) (by omega) (by omega) (by omega) | exact zBk_wcut (g _ (by decide)) | exact (g _ (by decide)).cpy (g _ (by decide)) _ _ _)
      · show zBk (K + 20) (sS0_6_X5_carryOut P 116 0 p2 p3)
        unfold sS0_6_X5_carryOut; (repeat (first | rw [zif_pos (by omega)] | rw [zif_neg (by omega)]))
        (first | exact g _ (by decide) | exact (g _ (by decide)).up (by omega) | exact ((g _ (by decide)).up (by omega)).up (by omega) | exact (((g _ (by decide)).up (by omega)).up (by omega)).up (by omega) | exact zBk_wadd (g _ (by decide)) (by omega) (by omega) (by omega) (by omega) | exact zBk_wcut (g _ (by decide)) | exact (g _ (by decide)).cpy (g _ (by decide)) _ _ _)
      · show zBk (K + 20) (sS0_7_X5_carryOut P 116 0 p2 p3)
        unfold sS0_7_X5_carryOut; (repeat (first | rw [zif_pos (by omega)] | rw [zif_neg (by omega)]))
        (first | exact g _ (by decide) | exact (g _ (by decide)).up (by omega) | exact ((g _ (by decide)).up (by omega)).up (by omega) | exact (((g _ (by decide)).up (by omega)).up (by omega)).up (by omega) | exact zBk_wadd (g _ (by decide)) (by omega) (by omega) (by omega) (by omega) | exact zBk_wcut (g _ (by decide)) | exact (g _ (by decide)).cpy (g _ (by decide)) _ _ _)
    · rcases hc with rfl | rfl | rfl | rfl | rfl | rfl | rfl
      · show zBk (K + 20) (sS0_8_X5_carryOut P 116 0 p2 p3)
        unfold sS0_8_X5_carryOut; (repeat (first | rw [zif_pos (by omega)] | rw [zif_neg (by omega)]))
        (first | exact g _ (by decide) | exact (g _ (by decide)).up (by omega) | exact ((g _ (by decide)).up (by omega)).up (by omega) | exact (((g _ (by decide)).up (by omega)).up (by omega)).up (by omega) | exact zBk_wadd (g _ (by decide)) (by omega) (by omega) (by omega) (by omega) | exact zBk_wcut (g _ (by decide)) | exact (g _ (by decide)).cpy (g _ (by decide)) _ _ _)
      · show zBk (K + 20) (sS0_9_X5_carryOut P 116 0 p2 p3)
        unfold sS0_9_X5_carryOut; (repeat (first | rw [zif_pos (by omega)] | rw [zif_neg (by omega)]))
        (first | exact g _ (by decide) | exact (g _ (by decide)).up (by omega) | exact ((g _ (by decide)).up (by omega)).up (by omega) | exact (((g _ (by decide)).up (by omega)).up (by omega)).up (by omega) | exact zBk_wadd (g _ (by decide)) (by omega) (by omega) (by omega) (by omega) | exact zBk_wcut (g _ (by decide)) | exact (g _ (by decide)).cpy (g _ (by decide)) _ _ _)
      · show zBk (K + 20) (sS0_10_X5_carryOut P 116 0 p2 p3)
        unfold sS0_10_X5_carryOut; (repeat (first | rw [zif_pos (by omega)] | rw [zif_neg (by omega)]))
        (first | exact g _ (by decide) | exact (g _ (by decide)).up (by omega) | exact ((g _ (by decide)).up (by omega)).up (by omega) | exact (((g _ (by decide)).up (by omega)).up (by omega)).up (by omega) | exact zBk_wadd (g _ (by decide)) (by omega) (by omega) (by omega) (by omega) | exact zBk_wcut (g _ (by decide)) | exact (g _ (by decide)).cpy (g _ (by decide)) _ _ _)
      · show zBk (K + 20) (sS0_11_X5_carryOut P 116 0 p2 p3)
        unfold sS0_11_X5_carryOut; (repeat (first | rw [zif_pos (by omega)] | rw [zif_neg (by omega)]))
        (first | exact g _ (by decide) | exact (g _ (by decide)).up (by omega) | exact ((g _ (by decide)).up (by omega)).up (by omega) | exact (((g _ (by decide)).up (by omega)).up (by omega)).up (by omega) | exact zBk_wadd (g _ (by decide)) (by omega) (by omega) (by omega) (by omega) | exact zBk_wcut (g _ (by decide)) | exact (g _ (by decide)).cpy (g _ (by decide)) _ _ _)
      · show zBk (K + 20) (sS0_12_X5_carryOut P 116 0 p2 p3)
        unfold sS0_12_X5_carryOut; (repeat (first | rw [zif_pos (by omega)] | rw [zif_neg (by omega)]))
        (first | exact g _ (by decide) | exact (g _ (by decide)).up (by omega) | exact ((g _ (by decide)).up (by omega)).up (by omega) | exact (((g _ (by decide)).up (by omega)).up (by omega)).up (by omega) | exact zBk_wadd (g _ (by decide)) (by omega) (by omega) (by omega) (by omega) | exact zBk_wcut (g _ (by decide)) | exact (g _ (by decide)).cpy (g _ (by decide)) _ _ _)
      · show zBk (K + 20) (sS0_13_X5_carryOut P 116 0 p2 p3)
        unfold sS0_13_X5_carryOut; (repeat (first | rw [zif_pos (by omega)] | rw [zif_neg (by omega)]))
        (first | exact g _ (by decide) | exact (g _ (by decide)).up (by omega) | exact ((g _ (by decide)).up (by omega)).up (by omega) | exact (((g _ (by decide)).up (by omega)).up (by omega)).up (by omega) | exact zBk_wadd (g _ (by decide)) (by omega) (by omega) (by omega) (by omega) | exact zBk_wcut (g _ (by decide)) | exact (g _ (by decide)).cpy (g _ (by decide)) _ _ _)
      · show zBk (K + 20) (sS0_14_X5_carryOut P 116 0 p2 p3)
        unfold sS0_14_X5_carryOut; (repeat (first | rw [zif_pos (by omega)] | rw [zif_neg (by omega)]))
        (first | exact g _ (by decide) | exact (g _ (by decide)).up (by omega) | exact ((g _ (by decide)).up (by omega)).up (by omega) | exact (((g _ (by decide)).up (by omega)).up (by omega)).up (by omega) | exact zBk_wadd (g _ (by decide)) (by omega) (by omega) (by omega) (by omega) | exact zBk_wcut (g _ (by decide)) | exact (g _ (by decide)).cpy (g _ (by decide)) _ _ _)
  · subst z
    have r2 : 0 ≤ p2 ∧ p2 ≤ 9 := Classical.byContradiction fun q => by rw [hV, zif_pos (by omega), zif_neg q] at hv; exact absurd hv (by decide)
    have r3 : 4 ≤ p3 ∧ p3 ≤ 9 := Classical.byContradiction fun q => by rw [hV, zif_pos (by omega), zif_pos r2, zif_neg q] at hv; exact absurd hv (by decide)
    refine key (fun c hc => ?_) (fun c hc => ?_)
    · rcases hc with rfl | rfl | rfl | rfl | rfl | rfl | rfl
      · show zBk (K + 20) (sS0_0_X5_carryOut P 116 1 p2 p3)
        unfold sS0_0_X5_carryOut; (repeat (first | rw [zif_pos (by omega)] | rw [zif_neg (by omega)]))
        (first | exact g _ (by decide) | exact (g _ (by decide)).up (by omega) | exact ((g _ (by decide)).up (by omega)).up (by omega) | exact (((g _ (by decide)).up (by omega)).up (by omega)).up (by omega) | exact zBk_wadd (g _ (by decide)) (by omega) (by omega) (by omega) (by omega) | exact zBk_wcut (g _ (by decide)) | exact (g _ (by decide)).cpy (g _ (by decide)) _ _ _)
      · show zBk (K + 20) (sS0_2_X5_carryOut P 116 1 p2 p3)
        unfold sS0_2_X5_carryOut; (repeat (first | rw [zif_pos (by omega)] | rw [zif_neg (by omega)]))
        (first | exact g _ (by decide) | exact (g _ (by decide)).up (by omega) | exact ((g _ (by decide)).up (by omega)).up (by omega) | exact (((g _ (by decide)).up (by omega)).up (by omega)).up (by omega) | exact zBk_wadd (g _ (by decide)) (by omega) (by omega) (by omega) (by omega) | exact zBk_wcut (g _ (by decide)) | exact (g _ (by decide)).cpy (g _ (by decide)) _ _ _)
      · show zBk (K + 20) (sS0_3_X5_carryOut P 116 1 p2 p3)
        unfold sS0_3_X5_carryOut; (repeat (first | rw [zif_pos (by omega)] | rw [zif_neg (by omega)]))
        (first | exact g _ (by decide) | exact (g _ (by decide)).up (by omega) | exact ((g _ (by decide)).up (by omega)).up (by omega) | exact (((g _ (by decide)).up (by omega)).up (by omega)).up (by omega) | exact zBk_wadd (g _ (by decide)) (by omega) (by omega) (by omega) (by omega) | exact zBk_wcut (g _ (by decide)) | exact (g _ (by decide)).cpy (g _ (by decide)) _ _ _)
      · show zBk (K + 20) (sS0_4_X5_carryOut P 116 1 p2 p3)
        unfold sS0_4_X5_carryOut; (repeat (first | rw [zif_pos (by omega)] | rw [zif_neg (by omega)]))
        (first | exact g _ (by decide) | exact (g _ (by decide)).up (by omega) | exact ((g _ (by decide)).up (by omega)).up (by omega) | exact (((g _ (by decide)).up (by omega)).up (by omega)).up (by omega) | exact zBk_wadd (g _ (by decide)) (by omega) (by omega) (by omega) (by omega) | exact zBk_wcut (g _ (by decide)) | exact (g _ (by decide)).cpy (g _ (by decide)) _ _ _)
      · show zBk (K + 20) (sS0_5_X5_carryOut P 116 1 p2 p3)
        unfold sS0_5_X5_carryOut; (repeat (first | rw [zif_pos (by omega)] | rw [zif_neg (by omega)]))
        (first | exact g _ (by decide) | exact (g _ (by decide)).up (by omega) | exact ((g _ (by decide)).up (by omega)).up (by omega) | exact (((g _ (by decide)).up (by omega)).up (by omega)).up (by omega) | exact zBk_wadd (g _ (by decide)) (by omega) (by omega) (by omega) (by omega) | exact zBk_wcut (g _ (by decide)) | exact (g _ (by decide)).cpy (g _ (by decide)) _ _ _)
      · show zBk (K + 20) (sS0_6_X5_carryOut P 116 1 p2 p3)
        unfold sS0_6_X5_carryOut; (repeat (first | rw [zif_pos (by omega)] | rw [zif_neg (by omega)]))
        (first | exact g _ (by decide) | exact (g _ (by decide)).up (by omega) | exact ((g _ (by decide)).up (by omega)).up (by omega) | exact (((g _ (by decide)).up (by omega)).up (by omega)).up (by omega) | exact zBk_wadd (g _ (by decide)) (by omega) (by omega) (by omega) (by omega) | exact zBk_wcut (g _ (by decide)) | exact (g _ (by decide)).cpy (g _ (by decide)) _ _ _)
      · show zBk (K + 20) (sS0_7_X5_carryOut P 116 1 p2 p3)
        unfold sS0_7_X5_carryOut; (repeat (first | rw [zif_pos (by omega)] | rw [zif_neg (by omega)]))
        (first | exact g _ (by decide) | exact (g _ (by decide)).up (by omega) | exact ((g _ (by decide)).up (by omega)).up (by omega) | exact (((g _ (by decide)).up (by omega)).up (by omega)).up (by omega) | exact zBk_wadd (g _ (by decide)) (by omega) (by omega) (by omega) (by omega) | exact zBk_wcut (g _ (by decide)) | exact (g _ (by decide)).cpy (g _ (by decide)) _ _ _)
    · rcases hc with rfl | rfl | rfl | rfl | rfl | rfl | rfl
      · show zBk (K + 20) (sS0_8_X5_carryOut P 116 1 p2 p3)
        unfold sS0_8_X5_carryOut; (repeat (first | rw [zif_pos (by omega)] | rw [zif_neg (by omega)]))
        (first | exact g _ (by decide) | exact (g _ (by decide)).up (by omega) | exact ((g _ (by decide)).up (by omega)).up (by omega) | exact (((g _ (by decide)).up (by omega)).up (by omega)).up (by omega) | exact zBk_wadd (g _ (by decide)) (by omega) (by omega) (by omega) (by omega) | exact zBk_wcut (g _ (by decide)) | exact (g _ (by decide)).cpy (g _ (by decide)) _ _ _)
      · show zBk (K + 20) (sS0_9_X5_carryOut P 116 1 p2 p3)
        unfold sS0_9_X5_carryOut; (repeat (first | rw [zif_pos (by omega)] | rw [zif_neg (by omega)]))
        (first | exact g _ (by decide) | exact (g _ (by decide)).up (by omega) | exact ((g _ (by decide)).up (by omega)).up (by omega) | exact (((g _ (by decide)).up (by omega)).up (by omega)).up (by omega) | exact zBk_wadd (g _ (by decide)) (by omega) (by omega) (by omega) (by omega) | exact zBk_wcut (g _ (by decide)) | exact (g _ (by decide)).cpy (g _ (by decide)) _ _ _)
      · show zBk (K + 20) (sS0_10_X5_carryOut P 116 1 p2 p3)
        unfold sS0_10_X5_carryOut; (repeat (first | rw [zif_pos (by omega)] | rw [zif_neg (by omega)]))
        (first | exact g _ (by decide) | exact (g _ (by decide)).up (by omega) | exact ((g _ (by decide)).up (by omega)).up (by omega) | exact (((g _ (by decide)).up (by omega)).up (by omega)).up (by omega) | exact zBk_wadd (g _ (by decide)) (by omega) (by omega) (by omega) (by omega) | exact zBk_wcut (g _ (by decide)) | exact (g _ (by decide)).cpy (g _ (by decide)) _ _ _)
      · show zBk (K + 20) (sS0_11_X5_carryOut P 116 1 p2 p3)
        unfold sS0_11_X5_carryOut; (repeat (first | rw [zif_pos (by omega)] | rw [zif_neg (by omega)]))
        (first | exact g _ (by decide) | exact (g _ (by decide)).up (by omega) | exact ((g _ (by decide)).up (by omega)).up (by omega) | exact (((g _ (by decide)).up (by omega)).up (by omega)).up (by omega) | exact zBk_wadd (g _ (by decide)) (by omega) (by omega) (by omega) (by omega) | exact zBk_wcut (g _ (by decide)) | exact (g _ (by decide)).cpy (g _ (by decide)) _ _ _)
      · show zBk (K + 20) (sS0_12_X5_carryOut P 116 1 p2 p3)
        unfold sS0_12_X5_carryOut; (repeat (first | rw [zif_pos (by omega)] | rw [zif_neg (by omega)]))
        (first | exact g _ (by decide) | exact (g _ (by decide)).up (by omega) | exact ((g _ (by decide)).up (by omega)).up (by omega) | exact (((g _ (by decide)).up (by omega)).up (by omega)).up (by omega) | exact zBk_wadd (g _ (by decide)) (by omega) (by omega) (by omega) (by omega) | exact zBk_wcut (g _ (by decide)) | exact (g _ (by decide)).cpy (g _ (by decide)) _ _ _)
      · show zBk (K + 20) (sS0_13_X5_carryOut P 116 1 p2 p3)
        unfold sS0_13_X5_carryOut; (repeat (first | rw [zif_pos (by omega)] | rw [zif_neg (by omega)]))
        (first | exact g _ (by decide) | exact (g _ (by decide)).up (by omega) | exact ((g _ (by decide)).up (by omega)).up (by omega) | exact (((g _ (by decide)).up (by omega)).up (by omega)).up (by omega) | exact zBk_wadd (g _ (by decide)) (by omega) (by omega) (by omega) (by omega) | exact zBk_wcut (g _ (by decide)) | exact (g _ (by decide)).cpy (g _ (by decide)) _ _ _)
      · show zBk (K + 20) (sS0_14_X5_carryOut P 116 1 p2 p3)
        unfold sS0_14_X5_carryOut; (repeat (first | rw [zif_pos (by omega)] | rw [zif_neg (by omega)]))
        (first | exact g _ (by decide) | exact (g _ (by decide)).up (by omega) | exact ((g _ (by decide)).up (by omega)).up (by omega) | exact (((g _ (by decide)).up (by omega)).up (by omega)).up (by omega) | exact zBk_wadd (g _ (by decide)) (by omega) (by omega) (by omega) (by omega) | exact zBk_wcut (g _ (by decide)) | exact (g _ (by decide)).cpy (g _ (by decide)) _ _ _)
  · subst z
    have r2 : 0 ≤ p2 ∧ p2 ≤ 9 := Classical.byContradiction fun q => by rw [hV, zif_pos (by omega), zif_neg q] at hv; exact absurd hv (by decide)
    have r3 : 4 ≤ p3 ∧ p3 ≤ 9 := Classical.byContradiction fun q => by rw [hV, zif_pos (by omega), zif_pos r2, zif_neg q] at hv; exact absurd hv (by decide)
    refine key (fun c hc => ?_) (fun c hc => ?_)
    · rcases hc with rfl | rfl | rfl | rfl | rfl | rfl | rfl
      · show zBk (K + 20) (sS0_0_X5_carryOut P 116 2 p2 p3)
        unfold sS0_0_X5_carryOut; (repeat (first | rw [zif_pos (by omega)] | rw [zif_neg (by omega)]))
        (first | exact g _ (by decide) | exact (g _ (by decide)).up (by omega) | exact ((g _ (by decide)).up (by omega)).up (by omega) | exact (((g _ (by decide)).up (by omega)).up (by omega)).up (by omega) | exact zBk_wadd (g _ (by decide)) (by omega) (by omega) (by omega) (by omega) | exact zBk_wcut (g _ (by decide)) | exact (g _ (by decide)).cpy (g _ (by decide)) _ _ _)
      · show zBk (K + 20) (sS0_2_X5_carryOut P 116 2 p2 p3)
        unfold sS0_2_X5_carryOut; (repeat (first | rw [zif_pos (by omega)] | rw [zif_neg (by omega)]))
        (first | exact g _ (by decide) | exact (g _ (by decide)).up (by omega) | exact ((g _ (by decide)).up (by omega)).up (by omega) | exact (((g _ (by decide)).up (by omega)).up (by omega)).up (by omega) | exact zBk_wadd (g _ (by decide)) (by omega) (by omega) (by omega) (by omega) | exact zBk_wcut (g _ (by decide)) | exact (g _ (by decide)).cpy (g _ (by decide)) _ _ _)
      · show zBk (K + 20) (sS0_3_X5_carryOut P 116 2 p2 p3)
        unfold sS0_3_X5_carryOut; (repeat (first | rw [zif_pos (by omega)] | rw [zif_neg (by omega)]))
        (first | exact g _ (by decide) | exact (g _ (by decide)).up (by omega) | exact ((g _ (by decide)).up (by omega)).up (by omega) | exact (((g _ (by decide)).up (by omega)).up (by omega)).up (by omega) | exact zBk_wadd (g _ (by decide)) (by omega) (by omega) (by omega) (by omega) | exact zBk_wcut (g _ (by decide)) | exact (g _ (by decide)).cpy (g _ (by decide)) _ _ _)
      · show zBk (K + 20) (sS0_4_X5_carryOut P 116 2 p2 p3)
        unfold sS0_4_X5_carryOut; (repeat (first | rw [zif_pos (by omega)] | rw [zif_neg (by omega)]))
        (first | exact g _ (by decide) | exact (g _ (by decide)).up (by omega) | exact ((g _ (by decide)).up (by omega)).up (by omega) | exact (((g _ (by decide)).up (by omega)).up (by omega)).up (by omega) | exact zBk_wadd (g _ (by decide)) (by omega) (by omega) (by omega) (by omega) | exact zBk_wcut (g _ (by decide)) | exact (g _ (by decide)).cpy (g _ (by decide)) _ _ _)
      · show zBk (K + 20) (sS0_5_X5_carryOut P 116 2 p2 p3)
        unfold sS0_5_X5_carryOut; (repeat (first | rw [zif_pos (by omega)] | rw [zif_neg (by omega)]))
        (first | exact g _ (by decide) | exact (g _ (by decide)).up (by omega) | exact ((g _ (by decide)).up (by omega)).up (by omega) | exact (((g _ (by decide)).up (by omega)).up (by omega)).up (by omega) | exact zBk_wadd (g _ (by decide)) (by omega) (by omega) (by omega) (by omega) | exact zBk_wcut (g _ (by decide)) | exact (g _ (by decide)).cpy (g _ (by decide)) _ _ _)
      · show zBk (K + 20) (sS0_6_X5_carryOut P 116 2 p2 p3)
        unfold sS0_6_X5_carryOut; (repeat (first | rw [zif_pos (by omega)] | rw [zif_neg (by omega)]))
        (first | exact g _ (by decide) | exact (g _ (by decide)).up (by omega) | exact ((g _ (by decide)).up (by omega)).up (by omega) | exact (((g _ (by decide)).up (by omega)).up (by omega)).up (by omega) | exact zBk_wadd (g _ (by decide)) (by omega) (by omega) (by omega) (by omega) | exact zBk_wcut (g _ (by decide)) | exact (g _ (by decide)).cpy (g _ (by decide)) _ _ _)
      · show zBk (K + 20) (sS0_7_X5_carryOut P 116 2 p2 p3)
        unfold sS0_7_X5_carryOut; (repeat (first | rw [zif_pos (by omega)] | rw [zif_neg (by omega)]))
        (first | exact g _ (by decide) | exact (g _ (by decide)).up (by omega) | exact ((g _ (by decide)).up (by omega)).up (by omega) | exact (((g _ (by decide)).up (by omega)).up (by omega)).up (by omega) | exact zBk_wadd (g _ (by decide)) (by omega) (by omega) (by omega) (by omega) | exact zBk_wcut (g _ (by decide)) | exact (g _ (by decide)).cpy (g _ (by decide)) _ _ _)
    · rcases hc with rfl | rfl | rfl | rfl | rfl | rfl | rfl
      · show zBk (K + 20) (sS0_8_X5_carryOut P 116 2 p2 p3)
        unfold sS0_8_X5_carryOut; (repeat (first | rw [zif_pos (by omega)] | rw [zif_neg (by omega)]))
        (first | exact g _ (by decide) | exact (g _ (by decide)).up (by omega) | exact ((g _ (by decide)).up (by omega)).up (by omega) | exact (((g _ (by decide)).up (by omega)).up (by omega)).up (by omega) | exact zBk_wadd (g _ (by decide)) (by omega) (by omega) (by omega) (by omega) | exact zBk_wcut (g _ (by decide)) | exact (g _ (by decide)).cpy (g _ (by decide)) _ _ _)
      · show zBk (K + 20) (sS0_9_X5_carryOut P 116 2 p2 p3)
        unfold sS0_9_X5_carryOut; (repeat (first | rw [zif_pos (by omega)] | rw [zif_neg (by omega)]))
        (first | exact g _ (by decide) | exact (g _ (by decide)).up (by omega) | exact ((g _ (by decide)).up (by omega)).up (by omega) | exact (((g _ (by decide)).up (by omega)).up (by omega)).up (by omega) | exact zBk_wadd (g _ (by decide)) (by omega) (by omega) (by omega) (by omega) | exact zBk_wcut (g _ (by decide)) | exact (g _ (by decide)).cpy (g _ (by decide)) _ _ _)
      · show zBk (K + 20) (sS0_10_X5_carryOut P 116 2 p2 p3)
        unfold sS0_10_X5_carryOut; (repeat (first | rw [zif_pos (by omega)] | rw [zif_neg (by omega)]))
        (first | exact g _ (by decide) | exact (g _ (by decide)).up (by omega) | exact ((g _ (by decide)).up (by omega)).up (by omega) | exact (((g _ (by decide)).up (by omega)).up (by omega)).up (by omega) | exact zBk_wadd (g _ (by decide)) (by omega) (by omega) (by omega) (by omega) | exact zBk_wcut (g _ (by decide)) | exact (g _ (by decide)).cpy (g _ (by decide)) _ _ _)
      · show zBk (K + 20) (sS0_11_X5_carryOut P 116 2 p2 p3)
        unfold sS0_11_X5_carryOut; (repeat (first | rw [zif_pos (by omega)] | rw [zif_neg (by omega)]))
        (first | exact g _ (by decide) | exact (g _ (by decide)).up (by omega) | exact ((g _ (by decide)).up (by omega)).up (by omega) | exact (((g _ (by decide)).up (by omega)).up (by omega)).up (by omega) | exact zBk_wadd (g _ (by decide)) (by omega) (by omega) (by omega) (by omega) | exact zBk_wcut (g _ (by decide)) | exact (g _ (by decide)).cpy (g _ (by decide)) _ _ _)
      · show zBk (K + 20) (sS0_12_X5_carryOut P 116 2 p2 p3)
        unfold sS0_12_X5_carryOut; (repeat (first | rw [zif_pos (by omega)] | rw [zif_neg (by omega)]))
        (first | exact g _ (by decide) | exact (g _ (by decide)).up (by omega) | exact ((g _ (by decide)).up (by omega)).up (by omega) | exact (((g _ (by decide)).up (by omega)).up (by omega)).up (by omega) | exact zBk_wadd (g _ (by decide)) (by omega) (by omega) (by omega) (by omega) | exact zBk_wcut (g _ (by decide)) | exact (g _ (by decide)).cpy (g _ (by decide)) _ _ _)
      · show zBk (K + 20) (sS0_13_X5_carryOut P 116 2 p2 p3)
        unfold sS0_13_X5_carryOut; (repeat (first | rw [zif_pos (by omega)] | rw [zif_neg (by omega)]))
        (first | exact g _ (by decide) | exact (g _ (by decide)).up (by omega) | exact ((g _ (by decide)).up (by omega)).up (by omega) | exact (((g _ (by decide)).up (by omega)).up (by omega)).up (by omega) | exact zBk_wadd (g _ (by decide)) (by omega) (by omega) (by omega) (by omega) | exact zBk_wcut (g _ (by decide)) | exact (g _ (by decide)).cpy (g _ (by decide)) _ _ _)
      · show zBk (K + 20) (sS0_14_X5_carryOut P 116 2 p2 p3)
        unfold sS0_14_X5_carryOut; (repeat (first | rw [zif_pos (by omega)] | rw [zif_neg (by omega)]))
        (first | exact g _ (by decide) | exact (g _ (by decide)).up (by omega) | exact ((g _ (by decide)).up (by omega)).up (by omega) | exact (((g _ (by decide)).up (by omega)).up (by omega)).up (by omega) | exact zBk_wadd (g _ (by decide)) (by omega) (by omega) (by omega) (by omega) | exact zBk_wcut (g _ (by decide)) | exact (g _ (by decide)).cpy (g _ (by decide)) _ _ _)
  · rw [hV, zif_neg z] at hv; exact absurd hv (by decide)
set_option maxHeartbeats 4000000 in
theorem pb_inspect {P R : Nat → Nat → Int} {K p1 p2 p3 : Int} (h : relP P (R 1)) (hp : pK K P) (hK : 20 ≤ K) (hv : sp_X5_verdictOn P 105 p1 p2 p3 = 0) (hr : ∃ G, relP (wCarry P 105 p1 p2 p3) G) : pK (K + 20) (wCarry P 105 p1 p2 p3) := by
  obtain ⟨G, hr⟩ := hr
  have d3 := relB_c hr.1
  have d6 := relB_c hr.2.1
  have d9 := relB_c hr.2.2.1
  have d11 := hr.2.2.2.1.1
  have d13 := hr.2.2.2.2.1.1
  refine ⟨?_, d3.2, d6.2, d9.2, d11, d13⟩
  have g : ∀ c, c ≤ 14 → zBk (K + 20) (P c) := fun c hc => (hp.1 c hc).mono (by omega)
  have hV := ver_inspect (p1 := p1) (p2 := p2) (p3 := p3) h
  have c0 := relB_c h.1
  have c1 := relB_c h.2.1
  have c2 := relB_c h.2.2.1
  have cs := h.2.2.2.1.2.1
  have csr := h.2.2.2.1.1
  have cy := h.2.2.2.2.1.2.1
  have cyr := h.2.2.2.2.1.1
  have q3 := hp.1 0 (by decide) 3
  have q4 := hp.1 0 (by decide) 4
  have q5 := hp.1 0 (by decide) 5
  have q7 := hp.1 0 (by decide) 7
  have q8 := hp.1 0 (by decide) 8
  have q9 := hp.1 0 (by decide) 9
  have q10 := hp.1 0 (by decide) 10
  have key : (∀ c, (c = 0 ∨ c = 2 ∨ c = 3 ∨ c = 4 ∨ c = 5 ∨ c = 6 ∨ c = 7) → zBk (K + 20) (wCarry P 105 p1 p2 p3 c)) → (∀ c, (c = 8 ∨ c = 9 ∨ c = 10 ∨ c = 11 ∨ c = 12 ∨ c = 13 ∨ c = 14) → zBk (K + 20) (wCarry P 105 p1 p2 p3 c)) → ∀ c, c ≤ 14 → zBk (K + 20) (wCarry P 105 p1 p2 p3 c) := by
    intro k1 k2 c hc
    rcases (show c = 1 ∨ (c = 0 ∨ c = 2 ∨ c = 3 ∨ c = 4 ∨ c = 5 ∨ c = 6 ∨ c = 7) ∨ (c = 8 ∨ c = 9 ∨ c = 10 ∨ c = 11 ∨ c = 12 ∨ c = 13 ∨ c = 14) by omega) with z | z | z
    · rw [z]; exact g 1 (by decide)
    · exact k1 c z
    · exact k2 c z
  rcases (show p1 = 0 ∨ p1 = 1 ∨ p1 = 2 ∨ ¬ (0 ≤ p1 ∧ p1 ≤ 2) by omega) with z | z | z | z
  · subst z
    refine key (fun c hc => ?_) (fun c hc => ?_)
    · rcases hc with rfl | rfl | rfl | rfl | rfl | rfl | rfl
      · show zBk (K + 20) (sS0_0_X5_carryOut P 105 0 p2 p3)
        unfold sS0_0_X5_carryOut; (repeat (first | rw [zif_pos (by omega)] | rw [zif_neg (by omega)]))
        first | exact ((wInsp0_k hp (by omega)).1 0 (by decide)).mono (by omega) | exact g _ (by decide)
      · show zBk (K + 20) (sS0_2_X5_carryOut P 105 0 p2 p3)
        unfold sS0_2_X5_carryOut; (repeat (first | rw [zif_pos (by omega)] | rw [zif_neg (by omega)]))
        first | exact ((wInsp0_k hp (by omega)).1 2 (by decide)).mono (by omega) | exact g _ (by decide)
      · show zBk (K + 20) (sS0_3_X5_carryOut P 105 0 p2 p3)
        unfold sS0_3_X5_carryOut; (repeat (first | rw [zif_pos (by omega)] | rw [zif_neg (by omega)]))
        first | exact ((wInsp0_k hp (by omega)).1 3 (by decide)).mono (by omega) | exact g _ (by decide)
      · show zBk (K + 20) (sS0_4_X5_carryOut P 105 0 p2 p3)
        unfold sS0_4_X5_carryOut; (repeat (first | rw [zif_pos (by omega)] | rw [zif_neg (by omega)]))
        first | exact ((wInsp0_k hp (by omega)).1 4 (by decide)).mono (by omega) | exact g _ (by decide)
      · show zBk (K + 20) (sS0_5_X5_carryOut P 105 0 p2 p3)
        unfold sS0_5_X5_carryOut; (repeat (first | rw [zif_pos (by omega)] | rw [zif_neg (by omega)]))
        (first | exact g _ (by decide) | exact (g _ (by decide)).up (by omega) | exact ((g _ (by decide)).up (by omega)).up (by omega) | exact (((g _ (by decide)).up (by omega)).up (by omega)).up (by omega) | exact zBk_wadd (g _ (by decide)) (by omega) (by omega) (by omega) (by omega) | exact zBk_wcut (g _ (by decide)) | exact (g _ (by decide)).cpy (g _ (by decide)) _ _ _)
      · show zBk (K + 20) (sS0_6_X5_carryOut P 105 0 p2 p3)
        unfold sS0_6_X5_carryOut; (repeat (first | rw [zif_pos (by omega)] | rw [zif_neg (by omega)]))
        (first | exact g _ (by decide) | exact (g _ (by decide)).up (by omega) | exact ((g _ (by decide)).up (by omega)).up (by omega) | exact (((g _ (by decide)).up (by omega)).up (by omega)).up (by omega) | exact zBk_wadd (g _ (by decide)) (by omega) (by omega) (by omega) (by omega) | exact zBk_wcut (g _ (by decide)) | exact (g _ (by decide)).cpy (g _ (by decide)) _ _ _)
      · show zBk (K + 20) (sS0_7_X5_carryOut P 105 0 p2 p3)
        unfold sS0_7_X5_carryOut; (repeat (first | rw [zif_pos (by omega)] | rw [zif_neg (by omega)]))
        (first | exact g _ (by decide) | exact (g _ (by decide)).up (by omega) | exact ((g _ (by decide)).up (by omega)).up (by omega) | exact (((g _ (by decide)).up (by omega)).up (by omega)).up (by omega) | exact zBk_wadd (g _ (by decide)) (by omega) (by omega) (by omega) (by omega) | exact zBk_wcut (g _ (by decide)) | exact (g _ (by decide)).cpy (g _ (by decide)) _ _ _)
    · rcases hc with rfl | rfl | rfl | rfl | rfl | rfl | rfl
      · show zBk (K + 20) (sS0_8_X5_carryOut P 105 0 p2 p3)
        unfold sS0_8_X5_carryOut; (repeat (first | rw [zif_pos (by omega)] | rw [zif_neg (by omega)]))
        (first | exact g _ (by decide) | exact (g _ (by decide)).up (by omega) | exact ((g _ (by decide)).up (by omega)).up (by omega) | exact (((g _ (by decide)).up (by omega)).up (by omega)).up (by omega) | exact zBk_wadd (g _ (by decide)) (by omega) (by omega) (by omega) (by omega) | exact zBk_wcut (g _ (by decide)) | exact (g _ (by decide)).cpy (g _ (by decide)) _ _ _)
      · show zBk (K + 20) (sS0_9_X5_carryOut P 105 0 p2 p3)
        unfold sS0_9_X5_carryOut; (repeat (first | rw [zif_pos (by omega)] | rw [zif_neg (by omega)]))
        (first | exact g _ (by decide) | exact (g _ (by decide)).up (by omega) | exact ((g _ (by decide)).up (by omega)).up (by omega) | exact (((g _ (by decide)).up (by omega)).up (by omega)).up (by omega) | exact zBk_wadd (g _ (by decide)) (by omega) (by omega) (by omega) (by omega) | exact zBk_wcut (g _ (by decide)) | exact (g _ (by decide)).cpy (g _ (by decide)) _ _ _)
      · show zBk (K + 20) (sS0_10_X5_carryOut P 105 0 p2 p3)
        unfold sS0_10_X5_carryOut; (repeat (first | rw [zif_pos (by omega)] | rw [zif_neg (by omega)]))
        (first | exact g _ (by decide) | exact (g _ (by decide)).up (by omega) | exact ((g _ (by decide)).up (by omega)).up (by omega) | exact (((g _ (by decide)).up (by omega)).up (by omega)).up (by omega) | exact zBk_wadd (g _ (by decide)) (by omega) (by omega) (by omega) (by omega) | exact zBk_wcut (g _ (by decide)) | exact (g _ (by decide)).cpy (g _ (by decide)) _ _ _)
      · show zBk (K + 20) (sS0_11_X5_carryOut P 105 0 p2 p3)
        unfold sS0_11_X5_carryOut; (repeat (first | rw [zif_pos (by omega)] | rw [zif_neg (by omega)]))
        first | exact ((wInsp0_k hp (by omega)).1 11 (by decide)).mono (by omega) | exact g _ (by decide)
      · show zBk (K + 20) (sS0_12_X5_carryOut P 105 0 p2 p3)
        unfold sS0_12_X5_carryOut; (repeat (first | rw [zif_pos (by omega)] | rw [zif_neg (by omega)]))
        first | exact ((wInsp0_k hp (by omega)).1 12 (by decide)).mono (by omega) | exact g _ (by decide)
      · show zBk (K + 20) (sS0_13_X5_carryOut P 105 0 p2 p3)
        unfold sS0_13_X5_carryOut; (repeat (first | rw [zif_pos (by omega)] | rw [zif_neg (by omega)]))
        (first | exact g _ (by decide) | exact (g _ (by decide)).up (by omega) | exact ((g _ (by decide)).up (by omega)).up (by omega) | exact (((g _ (by decide)).up (by omega)).up (by omega)).up (by omega) | exact zBk_wadd (g _ (by decide)) (by omega) (by omega) (by omega) (by omega) | exact zBk_wcut (g _ (by decide)) | exact (g _ (by decide)).cpy (g _ (by decide)) _ _ _)
      · show zBk (K + 20) (sS0_14_X5_carryOut P 105 0 p2 p3)
        unfold sS0_14_X5_carryOut; (repeat (first | rw [zif_pos (by omega)] | rw [zif_neg (by omega)]))
        first | exact ((wInsp0_k hp (by omega)).1 14 (by decide)).mono (by omega) | exact g _ (by decide)
  · subst z
    refine key (fun c hc => ?_) (fun c hc => ?_)
    · rcases hc with rfl | rfl | rfl | rfl | rfl | rfl | rfl
      · show zBk (K + 20) (sS0_0_X5_carryOut P 105 1 p2 p3)
        unfold sS0_0_X5_carryOut; (repeat (first | rw [zif_pos (by omega)] | rw [zif_neg (by omega)]))
        first | exact ((wInsp1_k hp (by omega)).1 0 (by decide)).mono (by omega) | exact g _ (by decide)
      · show zBk (K + 20) (sS0_2_X5_carryOut P 105 1 p2 p3)
        unfold sS0_2_X5_carryOut; (repeat (first | rw [zif_pos (by omega)] | rw [zif_neg (by omega)]))
        (first | exact g _ (by decide) | exact (g _ (by decide)).up (by omega) | exact ((g _ (by decide)).up (by omega)).up (by omega) | exact (((g _ (by decide)).up (by omega)).up (by omega)).up (by omega) | exact zBk_wadd (g _ (by decide)) (by omega) (by omega) (by omega) (by omega) | exact zBk_wcut (g _ (by decide)) | exact (g _ (by decide)).cpy (g _ (by decide)) _ _ _)
      · show zBk (K + 20) (sS0_3_X5_carryOut P 105 1 p2 p3)
        unfold sS0_3_X5_carryOut; (repeat (first | rw [zif_pos (by omega)] | rw [zif_neg (by omega)]))
        (first | exact g _ (by decide) | exact (g _ (by decide)).up (by omega) | exact ((g _ (by decide)).up (by omega)).up (by omega) | exact (((g _ (by decide)).up (by omega)).up (by omega)).up (by omega) | exact zBk_wadd (g _ (by decide)) (by omega) (by omega) (by omega) (by omega) | exact zBk_wcut (g _ (by decide)) | exact (g _ (by decide)).cpy (g _ (by decide)) _ _ _)
      · show zBk (K + 20) (sS0_4_X5_carryOut P 105 1 p2 p3)
        unfold sS0_4_X5_carryOut; (repeat (first | rw [zif_pos (by omega)] | rw [zif_neg (by omega)]))
        (first | exact g _ (by decide) | exact (g _ (by decide)).up (by omega) | exact ((g _ (by decide)).up (by omega)).up (by omega) | exact (((g _ (by decide)).up (by omega)).up (by omega)).up (by omega) | exact zBk_wadd (g _ (by decide)) (by omega) (by omega) (by omega) (by omega) | exact zBk_wcut (g _ (by decide)) | exact (g _ (by decide)).cpy (g _ (by decide)) _ _ _)
      · show zBk (K + 20) (sS0_5_X5_carryOut P 105 1 p2 p3)
        unfold sS0_5_X5_carryOut; (repeat (first | rw [zif_pos (by omega)] | rw [zif_neg (by omega)]))
        first | exact ((wInsp1_k hp (by omega)).1 5 (by decide)).mono (by omega) | exact g _ (by decide)
      · show zBk (K + 20) (sS0_6_X5_carryOut P 105 1 p2 p3)
        unfold sS0_6_X5_carryOut; (repeat (first | rw [zif_pos (by omega)] | rw [zif_neg (by omega)]))
        first | exact ((wInsp1_k hp (by omega)).1 6 (by decide)).mono (by omega) | exact g _ (by decide)
      · show zBk (K + 20) (sS0_7_X5_carryOut P 105 1 p2 p3)
        unfold sS0_7_X5_carryOut; (repeat (first | rw [zif_pos (by omega)] | rw [zif_neg (by omega)]))
        first | exact ((wInsp1_k hp (by omega)).1 7 (by decide)).mono (by omega) | exact g _ (by decide)
    · rcases hc with rfl | rfl | rfl | rfl | rfl | rfl | rfl
      · show zBk (K + 20) (sS0_8_X5_carryOut P 105 1 p2 p3)
        unfold sS0_8_X5_carryOut; (repeat (first | rw [zif_pos (by omega)] | rw [zif_neg (by omega)]))
        (first | exact g _ (by decide) | exact (g _ (by decide)).up (by omega) | exact ((g _ (by decide)).up (by omega)).up (by omega) | exact (((g _ (by decide)).up (by omega)).up (by omega)).up (by omega) | exact zBk_wadd (g _ (by decide)) (by omega) (by omega) (by omega) (by omega) | exact zBk_wcut (g _ (by decide)) | exact (g _ (by decide)).cpy (g _ (by decide)) _ _ _)
      · show zBk (K + 20) (sS0_9_X5_carryOut P 105 1 p2 p3)
        unfold sS0_9_X5_carryOut; (repeat (first | rw [zif_pos (by omega)] | rw [zif_neg (by omega)]))
        (first | exact g _ (by decide) | exact (g _ (by decide)).up (by omega) | exact ((g _ (by decide)).up (by omega)).up (by omega) | exact (((g _ (by decide)).up (by omega)).up (by omega)).up (by omega) | exact zBk_wadd (g _ (by decide)) (by omega) (by omega) (by omega) (by omega) | exact zBk_wcut (g _ (by decide)) | exact (g _ (by decide)).cpy (g _ (by decide)) _ _ _)
      · show zBk (K + 20) (sS0_10_X5_carryOut P 105 1 p2 p3)
        unfold sS0_10_X5_carryOut; (repeat (first | rw [zif_pos (by omega)] | rw [zif_neg (by omega)]))
        (first | exact g _ (by decide) | exact (g _ (by decide)).up (by omega) | exact ((g _ (by decide)).up (by omega)).up (by omega) | exact (((g _ (by decide)).up (by omega)).up (by omega)).up (by omega) | exact zBk_wadd (g _ (by decide)) (by omega) (by omega) (by omega) (by omega) | exact zBk_wcut (g _ (by decide)) | exact (g _ (by decide)).cpy (g _ (by decide)) _ _ _)
      · show zBk (K + 20) (sS0_11_X5_carryOut P 105 1 p2 p3)
        unfold sS0_11_X5_carryOut; (repeat (first | rw [zif_pos (by omega)] | rw [zif_neg (by omega)]))
        first | exact ((wInsp1_k hp (by omega)).1 11 (by decide)).mono (by omega) | exact g _ (by decide)
      · show zBk (K + 20) (sS0_12_X5_carryOut P 105 1 p2 p3)
        unfold sS0_12_X5_carryOut; (repeat (first | rw [zif_pos (by omega)] | rw [zif_neg (by omega)]))
        first | exact ((wInsp1_k hp (by omega)).1 12 (by decide)).mono (by omega) | exact g _ (by decide)
      · show zBk (K + 20) (sS0_13_X5_carryOut P 105 1 p2 p3)
        unfold sS0_13_X5_carryOut; (repeat (first | rw [zif_pos (by omega)] | rw [zif_neg (by omega)]))
        (first | exact g _ (by decide) | exact (g _ (by decide)).up (by omega) | exact ((g _ (by decide)).up (by omega)).up (by omega) | exact (((g _ (by decide)).up (by omega)).up (by omega)).up (by omega) | exact zBk_wadd (g _ (by decide)) (by omega) (by omega) (by omega) (by omega) | exact zBk_wcut (g _ (by decide)) | exact (g _ (by decide)).cpy (g _ (by decide)) _ _ _)
      · show zBk (K + 20) (sS0_14_X5_carryOut P 105 1 p2 p3)
        unfold sS0_14_X5_carryOut; (repeat (first | rw [zif_pos (by omega)] | rw [zif_neg (by omega)]))
        first | exact ((wInsp1_k hp (by omega)).1 14 (by decide)).mono (by omega) | exact g _ (by decide)
  · subst z
    refine key (fun c hc => ?_) (fun c hc => ?_)
    · rcases hc with rfl | rfl | rfl | rfl | rfl | rfl | rfl
      · show zBk (K + 20) (sS0_0_X5_carryOut P 105 2 p2 p3)
        unfold sS0_0_X5_carryOut; (repeat (first | rw [zif_pos (by omega)] | rw [zif_neg (by omega)]))
        first | exact ((wInsp2_k hp (by omega)).1 0 (by decide)).mono (by omega) | exact g _ (by decide)
      · show zBk (K + 20) (sS0_2_X5_carryOut P 105 2 p2 p3)
        unfold sS0_2_X5_carryOut; (repeat (first | rw [zif_pos (by omega)] | rw [zif_neg (by omega)]))
        (first | exact g _ (by decide) | exact (g _ (by decide)).up (by omega) | exact ((g _ (by decide)).up (by omega)).up (by omega) | exact (((g _ (by decide)).up (by omega)).up (by omega)).up (by omega) | exact zBk_wadd (g _ (by decide)) (by omega) (by omega) (by omega) (by omega) | exact zBk_wcut (g _ (by decide)) | exact (g _ (by decide)).cpy (g _ (by decide)) _ _ _)
      · show zBk (K + 20) (sS0_3_X5_carryOut P 105 2 p2 p3)
        unfold sS0_3_X5_carryOut; (repeat (first | rw [zif_pos (by omega)] | rw [zif_neg (by omega)]))
        (first | exact g _ (by decide) | exact (g _ (by decide)).up (by omega) | exact ((g _ (by decide)).up (by omega)).up (by omega) | exact (((g _ (by decide)).up (by omega)).up (by omega)).up (by omega) | exact zBk_wadd (g _ (by decide)) (by omega) (by omega) (by omega) (by omega) | exact zBk_wcut (g _ (by decide)) | exact (g _ (by decide)).cpy (g _ (by decide)) _ _ _)
      · show zBk (K + 20) (sS0_4_X5_carryOut P 105 2 p2 p3)
        unfold sS0_4_X5_carryOut; (repeat (first | rw [zif_pos (by omega)] | rw [zif_neg (by omega)]))
        (first | exact g _ (by decide) | exact (g _ (by decide)).up (by omega) | exact ((g _ (by decide)).up (by omega)).up (by omega) | exact (((g _ (by decide)).up (by omega)).up (by omega)).up (by omega) | exact zBk_wadd (g _ (by decide)) (by omega) (by omega) (by omega) (by omega) | exact zBk_wcut (g _ (by decide)) | exact (g _ (by decide)).cpy (g _ (by decide)) _ _ _)
      · show zBk (K + 20) (sS0_5_X5_carryOut P 105 2 p2 p3)
        unfold sS0_5_X5_carryOut; (repeat (first | rw [zif_pos (by omega)] | rw [zif_neg (by omega)]))
        (first | exact g _ (by decide) | exact (g _ (by decide)).up (by omega) | exact ((g _ (by decide)).up (by omega)).up (by omega) | exact (((g _ (by decide)).up (by omega)).up (by omega)).up (by omega) | exact zBk_wadd (g _ (by decide)) (by omega) (by omega) (by omega) (by omega) | exact zBk_wcut (g _ (by decide)) | exact (g _ (by decide)).cpy (g _ (by decide)) _ _ _)
      · show zBk (K + 20) (sS0_6_X5_carryOut P 105 2 p2 p3)
        unfold sS0_6_X5_carryOut; (repeat (first | rw [zif_pos (by omega)] | rw [zif_neg (by omega)]))
        (first | exact g _ (by decide) | exact (g _ (by decide)).up (by omega) | exact ((g _ (by decide)).up (by omega)).up (by omega) | exact (((g _ (by decide)).up (by omega)).up (by omega)).up (by omega) | exact zBk_wadd (g _ (by decide)) (by omega) (by omega) (by omega) (by omega) | exact zBk_wcut (g _ (by decide)) | exact (g _ (by decide)).cpy (g _ (by decide)) _ _ _)
      · show zBk (K + 20) (sS0_7_X5_carryOut P 105 2 p2 p3)
        unfold sS0_7_X5_carryOut; (repeat (first | rw [zif_pos (by omega)] | rw [zif_neg (by omega)]))
        (first | exact g _ (by decide) | exact (g _ (by decide)).up (by omega) | exact ((g _ (by decide)).up (by omega)).up (by omega) | exact (((g _ (by decide)).up (by omega)).up (by omega)).up (by omega) | exact zBk_wadd (g _ (by decide)) (by omega) (by omega) (by omega) (by omega) | exact zBk_wcut (g _ (by decide)) | exact (g _ (by decide)).cpy (g _ (by decide)) _ _ _)
    · rcases hc with rfl | rfl | rfl | rfl | rfl | rfl | rfl
      · show zBk (K + 20) (sS0_8_X5_carryOut P 105 2 p2 p3)
        unfold sS0_8_X5_carryOut; (repeat (first | rw [zif_pos (by omega)] | rw [zif_neg (by omega)]))
        first | exact ((wInsp2_k hp (by omega)).1 8 (by decide)).mono (by omega) | exact g _ (by decide)
      · show zBk (K + 20) (sS0_9_X5_carryOut P 105 2 p2 p3)
        unfold sS0_9_X5_carryOut; (repeat (first | rw [zif_pos (by omega)] | rw [zif_neg (by omega)]))
        first | exact ((wInsp2_k hp (by omega)).1 9 (by decide)).mono (by omega) | exact g _ (by decide)
      · show zBk (K + 20) (sS0_10_X5_carryOut P 105 2 p2 p3)
        unfold sS0_10_X5_carryOut; (repeat (first | rw [zif_pos (by omega)] | rw [zif_neg (by omega)]))
        first | exact ((wInsp2_k hp (by omega)).1 10 (by decide)).mono (by omega) | exact g _ (by decide)
      · show zBk (K + 20) (sS0_11_X5_carryOut P 105 2 p2 p3)
        unfold sS0_11_X5_carryOut; (repeat (first | rw [zif_pos (by omega)] | rw [zif_neg (by omega)]))
        first | exact ((wInsp2_k hp (by omega)).1 11 (by decide)).mono (by omega) | exact g _ (by decide)
      · show zBk (K + 20) (sS0_12_X5_carryOut P 105 2 p2 p3)
        unfold sS0_12_X5_carryOut; (repeat (first | rw [zif_pos (by omega)] | rw [zif_neg (by omega)]))
        first | exact ((wInsp2_k hp (by omega)).1 12 (by decide)).mono (by omega) | exact g _ (by decide)
      · show zBk (K + 20) (sS0_13_X5_carryOut P 105 2 p2 p3)
        unfold sS0_13_X5_carryOut; (repeat (first | rw [zif_pos (by omega)] | rw [zif_neg (by omega)]))
        (first | exact g _ (by decide) | exact (g _ (by decide)).up (by omega) | exact ((g _ (by decide)).up (by omega)).up (by omega) | exact (((g _ (by decide)).up (by omega)).up (by omega)).up (by omega) | exact zBk_wadd (g _ (by decide)) (by omega) (by omega) (by omega) (by omega) | exact zBk_wcut (g _ (by decide)) | exact (g _ (by decide)).cpy (g _ (by decide)) _ _ _)
      · show zBk (K + 20) (sS0_14_X5_carryOut P 105 2 p2 p3)
        unfold sS0_14_X5_carryOut; (repeat (first | rw [zif_pos (by omega)] | rw [zif_neg (by omega)]))
        first | exact ((wInsp2_k hp (by omega)).1 14 (by decide)).mono (by omega) | exact g _ (by decide)
  · rw [hV, zif_neg z] at hv; exact absurd hv (by decide)
set_option maxHeartbeats 4000000 in
theorem pb_hire {P R : Nat → Nat → Int} {K p1 p2 p3 : Int} (h : relP P (R 1)) (hp : pK K P) (hK : 20 ≤ K) (hv : sp_X5_verdictOn P 104 p1 p2 p3 = 0) (hr : ∃ G, relP (wCarry P 104 p1 p2 p3) G) : pK (K + 20) (wCarry P 104 p1 p2 p3) := by
  obtain ⟨G, hr⟩ := hr
  have d3 := relB_c hr.1
  have d6 := relB_c hr.2.1
  have d9 := relB_c hr.2.2.1
  have d11 := hr.2.2.2.1.1
  have d13 := hr.2.2.2.2.1.1
  refine ⟨?_, d3.2, d6.2, d9.2, d11, d13⟩
  have g : ∀ c, c ≤ 14 → zBk (K + 20) (P c) := fun c hc => (hp.1 c hc).mono (by omega)
  have hV := ver_hire (p1 := p1) (p2 := p2) (p3 := p3) h
  have c0 := relB_c h.1
  have c1 := relB_c h.2.1
  have c2 := relB_c h.2.2.1
  have cs := h.2.2.2.1.2.1
  have csr := h.2.2.2.1.1
  have cy := h.2.2.2.2.1.2.1
  have cyr := h.2.2.2.2.1.1
  have q3 := hp.1 0 (by decide) 3
  have q4 := hp.1 0 (by decide) 4
  have q5 := hp.1 0 (by decide) 5
  have q7 := hp.1 0 (by decide) 7
  have q8 := hp.1 0 (by decide) 8
  have q9 := hp.1 0 (by decide) 9
  have q10 := hp.1 0 (by decide) 10
  have key : (∀ c, (c = 0 ∨ c = 2 ∨ c = 3 ∨ c = 4 ∨ c = 5 ∨ c = 6 ∨ c = 7) → zBk (K + 20) (wCarry P 104 p1 p2 p3 c)) → (∀ c, (c = 8 ∨ c = 9 ∨ c = 10 ∨ c = 11 ∨ c = 12 ∨ c = 13 ∨ c = 14) → zBk (K + 20) (wCarry P 104 p1 p2 p3 c)) → ∀ c, c ≤ 14 → zBk (K + 20) (wCarry P 104 p1 p2 p3 c) := by
    intro k1 k2 c hc
    rcases (show c = 1 ∨ (c = 0 ∨ c = 2 ∨ c = 3 ∨ c = 4 ∨ c = 5 ∨ c = 6 ∨ c = 7) ∨ (c = 8 ∨ c = 9 ∨ c = 10 ∨ c = 11 ∨ c = 12 ∨ c = 13 ∨ c = 14) by omega) with z | z | z
    · rw [z]; exact g 1 (by decide)
    · exact k1 c z
    · exact k2 c z
  refine key (fun c hc => ?_) (fun c hc => ?_)
  · rcases hc with rfl | rfl | rfl | rfl | rfl | rfl | rfl
    · show zBk (K + 20) (sS0_0_X5_carryOut P 104 p1 p2 p3)
      unfold sS0_0_X5_carryOut; (repeat (first | rw [zif_pos (by omega)] | rw [zif_neg (by omega)]))
      (first | exact g _ (by decide) | exact (g _ (by decide)).up (by omega) | exact ((g _ (by decide)).up (by omega)).up (by omega) | exact (((g _ (by decide)).up (by omega)).up (by omega)).up (by omega) | exact zBk_wadd (g _ (by decide)) (by omega) (by omega) (by omega) (by omega) | exact zBk_wcut (g _ (by decide)) | exact (g _ (by decide)).cpy (g _ (by decide)) _ _ _)
    · show zBk (K + 20) (sS0_2_X5_carryOut P 104 p1 p2 p3)
      unfold sS0_2_X5_carryOut; (repeat (first | rw [zif_pos (by omega)] | rw [zif_neg (by omega)]))
      (first | exact g _ (by decide) | exact (g _ (by decide)).up (by omega) | exact ((g _ (by decide)).up (by omega)).up (by omega) | exact (((g _ (by decide)).up (by omega)).up (by omega)).up (by omega) | exact zBk_wadd (g _ (by decide)) (by omega) (by omega) (by omega) (by omega) | exact zBk_wcut (g _ (by decide)) | exact (g _ (by decide)).cpy (g _ (by decide)) _ _ _)
    · show zBk (K + 20) (sS0_3_X5_carryOut P 104 p1 p2 p3)
      unfold sS0_3_X5_carryOut; (repeat (first | rw [zif_pos (by omega)] | rw [zif_neg (by omega)]))
      (first | exact g _ (by decide) | exact (g _ (by decide)).up (by omega) | exact ((g _ (by decide)).up (by omega)).up (by omega) | exact (((g _ (by decide)).up (by omega)).up (by omega)).up (by omega) | exact zBk_wadd (g _ (by decide)) (by omega) (by omega) (by omega) (by omega) | exact zBk_wcut (g _ (by decide)) | exact (g _ (by decide)).cpy (g _ (by decide)) _ _ _)
    · show zBk (K + 20) (sS0_4_X5_carryOut P 104 p1 p2 p3)
      unfold sS0_4_X5_carryOut; (repeat (first | rw [zif_pos (by omega)] | rw [zif_neg (by omega)]))
      (first | exact g _ (by decide) | exact (g _ (by decide)).up (by omega) | exact ((g _ (by decide)).up (by omega)).up (by omega) | exact (((g _ (by decide)).up (by omega)).up (by omega)).up (by omega) | exact zBk_wadd (g _ (by decide)) (by omega) (by omega) (by omega) (by omega) | exact zBk_wcut (g _ (by decide)) | exact (g _ (by decide)).cpy (g _ (by decide)) _ _ _)
    · show zBk (K + 20) (sS0_5_X5_carryOut P 104 p1 p2 p3)
      unfold sS0_5_X5_carryOut; (repeat (first | rw [zif_pos (by omega)] | rw [zif_neg (by omega)]))
      (first | exact g _ (by decide) | exact (g _ (by decide)).up (by omega) | exact ((g _ (by decide)).up (by omega)).up (by omega) | exact (((g _ (by decide)).up (by omega)).up (by omega)).up (by omega) | exact zBk_wadd (g _ (by decide)) (by omega) (by omega) (by omega) (by omega) | exact zBk_wcut (g _ (by decide)) | exact (g _ (by decide)).cpy (g _ (by decide)) _ _ _)
    · show zBk (K + 20) (sS0_6_X5_carryOut P 104 p1 p2 p3)
      unfold sS0_6_X5_carryOut; (repeat (first | rw [zif_pos (by omega)] | rw [zif_neg (by omega)]))
      (first | exact g _ (by decide) | exact (g _ (by decide)).up (by omega) | exact ((g _ (by decide)).up (by omega)).up (by omega) | exact (((g _ (by decide)).up (by omega)).up (by omega)).up (by omega) | exact zBk_wadd (g _ (by decide)) (by omega) (by omega) (by omega) (by omega) | exact zBk_wcut (g _ (by decide)) | exact (g _ (by decide)).cpy (g _ (by decide)) _ _ _)
    · show zBk (K + 20) (sS0_7_X5_carryOut P 104 p1 p2 p3)
      unfold sS0_7_X5_carryOut; (repeat (first | rw [zif_pos (by omega)] | rw [zif_neg (by omega)]))
      (first | exact g _ (by decide) | exact (g _ (by decide)).up (by omega) | exact ((g _ (by decide)).up (by omega)).up (by omega) | exact (((g _ (by decide)).up (by omega)).up (by omega)).up (by omega) | exact zBk_wadd (g _ (by decide)) (by omega) (by omega) (by omega) (by omega) | exact zBk_wcut (g _ (by decide)) | exact (g _ (by decide)).cpy (g _ (by decide)) _ _ _)
  · rcases hc with rfl | rfl | rfl | rfl | rfl | rfl | rfl
    · show zBk (K + 20) (sS0_8_X5_carryOut P 104 p1 p2 p3)
      unfold sS0_8_X5_carryOut; (repeat (first | rw [zif_pos (by omega)] | rw [zif_neg (by omega)]))
      (first | exact g _ (by decide) | exact (g _ (by decide)).up (by omega) | exact ((g _ (by decide)).up (by omega)).up (by omega) | exact (((g _ (by decide)).up (by omega)).up (by omega)).up (by omega) | exact zBk_wadd (g _ (by decide)) (by omega) (by omega) (by omega) (by omega) | exact zBk_wcut (g _ (by decide)) | exact (g _ (by decide)).cpy (g _ (by decide)) _ _ _)
    · show zBk (K + 20) (sS0_9_X5_carryOut P 104 p1 p2 p3)
      unfold sS0_9_X5_carryOut; (repeat (first | rw [zif_pos (by omega)] | rw [zif_neg (by omega)]))
      (first | exact g _ (by decide) | exact (g _ (by decide)).up (by omega) | exact ((g _ (by decide)).up (by omega)).up (by omega) | exact (((g _ (by decide)).up (by omega)).up (by omega)).up (by omega) | exact zBk_wadd (g _ (by decide)) (by omega) (by omega) (by omega) (by omega) | exact zBk_wcut (g _ (by decide)) | exact (g _ (by decide)).cpy (g _ (by decide)) _ _ _)
    · show zBk (K + 20) (sS0_10_X5_carryOut P 104 p1 p2 p3)
      unfold sS0_10_X5_carryOut; (repeat (first | rw [zif_pos (by omega)] | rw [zif_neg (by omega)]))
      (first | exact g _ (by decide) | exact (g _ (by decide)).up (by omega) | exact ((g _ (by decide)).up (by omega)).up (by omega) | exact (((g _ (by decide)).up (by omega)).up (by omega)).up (by omega) | exact zBk_wadd (g _ (by decide)) (by omega) (by omega) (by omega) (by omega) | exact zBk_wcut (g _ (by decide)) | exact (g _ (by decide)).cpy (g _ (by decide)) _ _ _)
    · show zBk (K + 20) (sS0_11_X5_carryOut P 104 p1 p2 p3)
      unfold sS0_11_X5_carryOut; (repeat (first | rw [zif_pos (by omega)] | rw [zif_neg (by omega)]))
      (first | exact g _ (by decide) | exact (g _ (by decide)).up (by omega) | exact ((g _ (by decide)).up (by omega)).up (by omega) | exact (((g _ (by decide)).up (by omega)).up (by omega)).up (by omega) | exact zBk_wadd (g _ (by decide)) (by omega) (by omega) (by omega) (by omega) | exact zBk_wcut (g _ (by decide)) | exact (g _ (by decide)).cpy (g _ (by decide)) _ _ _)
    · show zBk (K + 20) (sS0_12_X5_carryOut P 104 p1 p2 p3)
      unfold sS0_12_X5_carryOut; (repeat (first | rw [zif_pos (by omega)] | rw [zif_neg (by omega)]))
      (first | exact g _ (by decide) | exact (g _ (by decide)).up (by omega) | exact ((g _ (by decide)).up (by omega)).up (by omega) | exact (((g _ (by decide)).up (by omega)).up (by omega)).up (by omega) | exact zBk_wadd (g _ (by decide)) (by omega) (by omega) (by omega) (by omega) | exact zBk_wcut (g _ (by decide)) | exact (g _ (by decide)).cpy (g _ (by decide)) _ _ _)
    · show zBk (K + 20) (sS0_13_X5_carryOut P 104 p1 p2 p3)
      unfold sS0_13_X5_carryOut; (repeat (first | rw [zif_pos (by omega)] | rw [zif_neg (by omega)]))
      (first | exact g _ (by decide) | exact (g _ (by decide)).up (by omega) | exact ((g _ (by decide)).up (by omega)).up (by omega) | exact (((g _ (by decide)).up (by omega)).up (by omega)).up (by omega) | exact zBk_wadd (g _ (by decide)) (by omega) (by omega) (by omega) (by omega) | exact zBk_wcut (g _ (by decide)) | exact (g _ (by decide)).cpy (g _ (by decide)) _ _ _)
    · show zBk (K + 20) (sS0_14_X5_carryOut P 104 p1 p2 p3)
      unfold sS0_14_X5_carryOut; (repeat (first | rw [zif_pos (by omega)] | rw [zif_neg (by omega)]))
      (first | exact g _ (by decide) | exact (g _ (by decide)).up (by omega) | exact ((g _ (by decide)).up (by omega)).up (by omega) | exact (((g _ (by decide)).up (by omega)).up (by omega)).up (by omega) | exact zBk_wadd (g _ (by decide)) (by omega) (by omega) (by omega) (by omega) | exact zBk_wcut (g _ (by decide)) | exact (g _ (by decide)).cpy (g _ (by decide)) _ _ _)
set_option maxHeartbeats 4000000 in
theorem pb_leave {P R : Nat → Nat → Int} {K p1 p2 p3 : Int} (h : relP P (R 1)) (hp : pK K P) (hK : 20 ≤ K) (hv : sp_X5_verdictOn P 111 p1 p2 p3 = 0) (hr : ∃ G, relP (wCarry P 111 p1 p2 p3) G) : pK (K + 20) (wCarry P 111 p1 p2 p3) := by
  obtain ⟨G, hr⟩ := hr
  have d3 := relB_c hr.1
  have d6 := relB_c hr.2.1
  have d9 := relB_c hr.2.2.1
  have d11 := hr.2.2.2.1.1
  have d13 := hr.2.2.2.2.1.1
  refine ⟨?_, d3.2, d6.2, d9.2, d11, d13⟩
  have g : ∀ c, c ≤ 14 → zBk (K + 20) (P c) := fun c hc => (hp.1 c hc).mono (by omega)
  have hV := ver_leave (p1 := p1) (p2 := p2) (p3 := p3) h
  have c0 := relB_c h.1
  have c1 := relB_c h.2.1
  have c2 := relB_c h.2.2.1
  have cs := h.2.2.2.1.2.1
  have csr := h.2.2.2.1.1
  have cy := h.2.2.2.2.1.2.1
  have cyr := h.2.2.2.2.1.1
  have q3 := hp.1 0 (by decide) 3
  have q4 := hp.1 0 (by decide) 4
  have q5 := hp.1 0 (by decide) 5
  have q7 := hp.1 0 (by decide) 7
  have q8 := hp.1 0 (by decide) 8
  have q9 := hp.1 0 (by decide) 9
  have q10 := hp.1 0 (by decide) 10
  have key : (∀ c, (c = 0 ∨ c = 2 ∨ c = 3 ∨ c = 4 ∨ c = 5 ∨ c = 6 ∨ c = 7) → zBk (K + 20) (wCarry P 111 p1 p2 p3 c)) → (∀ c, (c = 8 ∨ c = 9 ∨ c = 10 ∨ c = 11 ∨ c = 12 ∨ c = 13 ∨ c = 14) → zBk (K + 20) (wCarry P 111 p1 p2 p3 c)) → ∀ c, c ≤ 14 → zBk (K + 20) (wCarry P 111 p1 p2 p3 c) := by
    intro k1 k2 c hc
    rcases (show c = 1 ∨ (c = 0 ∨ c = 2 ∨ c = 3 ∨ c = 4 ∨ c = 5 ∨ c = 6 ∨ c = 7) ∨ (c = 8 ∨ c = 9 ∨ c = 10 ∨ c = 11 ∨ c = 12 ∨ c = 13 ∨ c = 14) by omega) with z | z | z
    · rw [z]; exact g 1 (by decide)
    · exact k1 c z
    · exact k2 c z
  refine key (fun c hc => ?_) (fun c hc => ?_)
  · rcases hc with rfl | rfl | rfl | rfl | rfl | rfl | rfl
    · show zBk (K + 20) (sS0_0_X5_carryOut P 111 p1 p2 p3)
      unfold sS0_0_X5_carryOut; (repeat (first | rw [zif_pos (by omega)] | rw [zif_neg (by omega)]))
      (first | exact g _ (by decide) | exact (g _ (by decide)).up (by omega) | exact ((g _ (by decide)).up (by omega)).up (by omega) | exact (((g _ (by decide)).up (by omega)).up (by omega)).up (by omega) | exact zBk_wadd (g _ (by decide)) (by omega) (by omega) (by omega) (by omega) | exact zBk_wcut (g _ (by decide)) | exact (g _ (by decide)).cpy (g _ (by decide)) _ _ _)
    · show zBk (K + 20) (sS0_2_X5_carryOut P 111 p1 p2 p3)
      unfold sS0_2_X5_carryOut; (repeat (first | rw [zif_pos (by omega)] | rw [zif_neg (by omega)]))
      (first | exact g _ (by decide) | exact (g _ (by decide)).up (by omega) | exact ((g _ (by decide)).up (by omega)).up (by omega) | exact (((g _ (by decide)).up (by omega)).up (by omega)).up (by omega) | exact zBk_wadd (g _ (by decide)) (by omega) (by omega) (by omega) (by omega) | exact zBk_wcut (g _ (by decide)) | exact (g _ (by decide)).cpy (g _ (by decide)) _ _ _)
    · show zBk (K + 20) (sS0_3_X5_carryOut P 111 p1 p2 p3)
      unfold sS0_3_X5_carryOut; (repeat (first | rw [zif_pos (by omega)] | rw [zif_neg (by omega)]))
      (first | exact g _ (by decide) | exact (g _ (by decide)).up (by omega) | exact ((g _ (by decide)).up (by omega)).up (by omega) | exact (((g _ (by decide)).up (by omega)).up (by omega)).up (by omega) | exact zBk_wadd (g _ (by decide)) (by omega) (by omega) (by omega) (by omega) | exact zBk_wcut (g _ (by decide)) | exact (g _ (by decide)).cpy (g _ (by decide)) _ _ _)
    · show zBk (K + 20) (sS0_4_X5_carryOut P 111 p1 p2 p3)
      unfold sS0_4_X5_carryOut; (repeat (first | rw [zif_pos (by omega)] | rw [zif_neg (by omega)]))
      (first | exact g _ (by decide) | exact (g _ (by decide)).up (by omega) | exact ((g _ (by decide)).up (by omega)).up (by omega) | exact (((g _ (by decide)).up (by omega)).up (by omega)).up (by omega) | exact zBk_wadd (g _ (by decide)) (by omega) (by omega) (by omega) (by omega) | exact zBk_wcut (g _ (by decide)) | exact (g _ (by decide)).cpy (g _ (by decide)) _ _ _)
    · show zBk (K + 20) (sS0_5_X5_carryOut P 111 p1 p2 p3)
      unfold sS0_5_X5_carryOut; (repeat (first | rw [zif_pos (by omega)] | rw [zif_neg (by omega)]))
      (first | exact g _ (by decide) | exact (g _ (by decide)).up (by omega) | exact ((g _ (by decide)).up (by omega)).up (by omega) | exact (((g _ (by decide)).up (by omega)).up (by omega)).up (by omega) | exact zBk_wadd (g _ (by decide)) (by omega) (by omega) (by omega) (by omega) | exact zBk_wcut (g _ (by decide)) | exact (g _ (by decide)).cpy (g _ (by decide)) _ _ _)
    · show zBk (K + 20) (sS0_6_X5_carryOut P 111 p1 p2 p3)
      unfold sS0_6_X5_carryOut; (repeat (first | rw [zif_pos (by omega)] | rw [zif_neg (by omega)]))
      (first | exact g _ (by decide) | exact (g _ (by decide)).up (by omega) | exact ((g _ (by decide)).up (by omega)).up (by omega) | exact (((g _ (by decide)).up (by omega)).up (by omega)).up (by omega) | exact zBk_wadd (g _ (by decide)) (by omega) (by omega) (by omega) (by omega) | exact zBk_wcut (g _ (by decide)) | exact (g _ (by decide)).cpy (g _ (by decide)) _ _ _)
    · show zBk (K + 20) (sS0_7_X5_carryOut P 111 p1 p2 p3)
      unfold sS0_7_X5_carryOut; (repeat (first | rw [zif_pos (by omega)] | rw [zif_neg (by omega)]))
      (first | exact g _ (by decide) | exact (g _ (by decide)).up (by omega) | exact ((g _ (by decide)).up (by omega)).up (by omega) | exact (((g _ (by decide)).up (by omega)).up (by omega)).up (by omega) | exact zBk_wadd (g _ (by decide)) (by omega) (by omega) (by omega) (by omega) | exact zBk_wcut (g _ (by decide)) | exact (g _ (by decide)).cpy (g _ (by decide)) _ _ _)
  · rcases hc with rfl | rfl | rfl | rfl | rfl | rfl | rfl
    · show zBk (K + 20) (sS0_8_X5_carryOut P 111 p1 p2 p3)
      unfold sS0_8_X5_carryOut; (repeat (first | rw [zif_pos (by omega)] | rw [zif_neg (by omega)]))
      (first | exact g _ (by decide) | exact (g _ (by decide)).up (by omega) | exact ((g _ (by decide)).up (by omega)).up (by omega) | exact (((g _ (by decide)).up (by omega)).up (by omega)).up (by omega) | exact zBk_wadd (g _ (by decide)) (by omega) (by omega) (by omega) (by omega) | exact zBk_wcut (g _ (by decide)) | exact (g _ (by decide)).cpy (g _ (by decide)) _ _ _)
    · show zBk (K + 20) (sS0_9_X5_carryOut P 111 p1 p2 p3)
      unfold sS0_9_X5_carryOut; (repeat (first | rw [zif_pos (by omega)] | rw [zif_neg (by omega)]))
      (first | exact g _ (by decide) | exact (g _ (by decide)).up (by omega) | exact ((g _ (by decide)).up (by omega)).up (by omega) | exact (((g _ (by decide)).up (by omega)).up (by omega)).up (by omega) | exact zBk_wadd (g _ (by decide)) (by omega) (by omega) (by omega) (by omega) | exact zBk_wcut (g _ (by decide)) | exact (g _ (by decide)).cpy (g _ (by decide)) _ _ _)
    · show zBk (K + 20) (sS0_10_X5_carryOut P 111 p1 p2 p3)
      unfold sS0_10_X5_carryOut; (repeat (first | rw [zif_pos (by omega)] | rw [zif_neg (by omega)]))
      (first | exact g _ (by decide) | exact (g _ (by decide)).up (by omega) | exact ((g _ (by decide)).up (by omega)).up (by omega) | exact (((g _ (by decide)).up (by omega)).up (by omega)).up (by omega) | exact zBk_wadd (g _ (by decide)) (by omega) (by omega) (by omega) (by omega) | exact zBk_wcut (g _ (by decide)) | exact (g _ (by decide)).cpy (g _ (by decide)) _ _ _)
    · show zBk (K + 20) (sS0_11_X5_carryOut P 111 p1 p2 p3)
      unfold sS0_11_X5_carryOut; (repeat (first | rw [zif_pos (by omega)] | rw [zif_neg (by omega)]))
      (first | exact g _ (by decide) | exact (g _ (by decide)).up (by omega) | exact ((g _ (by decide)).up (by omega)).up (by omega) | exact (((g _ (by decide)).up (by omega)).up (by omega)).up (by omega) | exact zBk_wadd (g _ (by decide)) (by omega) (by omega) (by omega) (by omega) | exact zBk_wcut (g _ (by decide)) | exact (g _ (by decide)).cpy (g _ (by decide)) _ _ _)
    · show zBk (K + 20) (sS0_12_X5_carryOut P 111 p1 p2 p3)
      unfold sS0_12_X5_carryOut; (repeat (first | rw [zif_pos (by omega)] | rw [zif_neg (by omega)]))
      (first | exact g _ (by decide) | exact (g _ (by decide)).up (by omega) | exact ((g _ (by decide)).up (by omega)).up (by omega) | exact (((g _ (by decide)).up (by omega)).up (by omega)).up (by omega) | exact zBk_wadd (g _ (by decide)) (by omega) (by omega) (by omega) (by omega) | exact zBk_wcut (g _ (by decide)) | exact (g _ (by decide)).cpy (g _ (by decide)) _ _ _)
    · show zBk (K + 20) (sS0_13_X5_carryOut P 111 p1 p2 p3)
      unfold sS0_13_X5_carryOut; (repeat (first | rw [zif_pos (by omega)] | rw [zif_neg (by omega)]))
      unfold sS0_0_X1_part; exact zBk.zif (zBk.up (g 13 (by decide)) (show -(K + 20) ≤ P 13 1 - 1 ∧ P 13 1 - 1 ≤ K + 20 from ⟨by omega, by omega⟩)) (g 13 (by decide))
    · show zBk (K + 20) (sS0_14_X5_carryOut P 111 p1 p2 p3)
      unfold sS0_14_X5_carryOut; (repeat (first | rw [zif_pos (by omega)] | rw [zif_neg (by omega)]))
      unfold sS0_1_X1_part; exact zBk.zif ((g 14 (by decide)).cpy (g 14 (by decide)) _ _ _) (g 14 (by decide))
set_option maxHeartbeats 4000000 in
theorem pb_sell {P R : Nat → Nat → Int} {K p1 p2 p3 : Int} (h : relP P (R 1)) (hp : pK K P) (hK : 20 ≤ K) (hv : sp_X5_verdictOn P 115 p1 p2 p3 = 0) (hr : ∃ G, relP (wCarry P 115 p1 p2 p3) G) : pK (K + 20) (wCarry P 115 p1 p2 p3) := by
  obtain ⟨G, hr⟩ := hr
  have d3 := relB_c hr.1
  have d6 := relB_c hr.2.1
  have d9 := relB_c hr.2.2.1
  have d11 := hr.2.2.2.1.1
  have d13 := hr.2.2.2.2.1.1
  refine ⟨?_, d3.2, d6.2, d9.2, d11, d13⟩
  have g : ∀ c, c ≤ 14 → zBk (K + 20) (P c) := fun c hc => (hp.1 c hc).mono (by omega)
  have hV := ver_sell (p1 := p1) (p2 := p2) (p3 := p3) h
  have c0 := relB_c h.1
  have c1 := relB_c h.2.1
  have c2 := relB_c h.2.2.1
  have cs := h.2.2.2.1.2.1
  have csr := h.2.2.2.1.1
  have cy := h.2.2.2.2.1.2.1
  have cyr := h.2.2.2.2.1.1
  have q3 := hp.1 0 (by decide) 3
  have q4 := hp.1 0 (by decide) 4
  have q5 := hp.1 0 (by decide) 5
  have q7 := hp.1 0 (by decide) 7
  have q8 := hp.1 0 (by decide) 8
  have q9 := hp.1 0 (by decide) 9
  have q10 := hp.1 0 (by decide) 10
  have key : (∀ c, (c = 0 ∨ c = 2 ∨ c = 3 ∨ c = 4 ∨ c = 5 ∨ c = 6 ∨ c = 7) → zBk (K + 20) (wCarry P 115 p1 p2 p3 c)) → (∀ c, (c = 8 ∨ c = 9 ∨ c = 10 ∨ c = 11 ∨ c = 12 ∨ c = 13 ∨ c = 14) → zBk (K + 20) (wCarry P 115 p1 p2 p3 c)) → ∀ c, c ≤ 14 → zBk (K + 20) (wCarry P 115 p1 p2 p3 c) := by
    intro k1 k2 c hc
    rcases (show c = 1 ∨ (c = 0 ∨ c = 2 ∨ c = 3 ∨ c = 4 ∨ c = 5 ∨ c = 6 ∨ c = 7) ∨ (c = 8 ∨ c = 9 ∨ c = 10 ∨ c = 11 ∨ c = 12 ∨ c = 13 ∨ c = 14) by omega) with z | z | z
    · rw [z]; exact g 1 (by decide)
    · exact k1 c z
    · exact k2 c z
  have r : 0 ≤ p1 ∧ p1 < R 1 10 := Classical.byContradiction fun q => by rw [hV, zif_neg q] at hv; exact absurd hv (by decide)
  have kc := wCutK_rng (c := P 11 1) (p := p1) (q := 1) csr
  have w : 1 ≤ wWorth (P 12) (P 11 1) p1 (P 0 9) ∧ wWorth (P 12) (P 11 1) p1 (P 0 9) ≤ 16 := by
    rw [relS_worth h.2.2.2.1 r.1 (by omega)]
    exact relP_w h r h.2.2.2.2.2.2.2
  refine key (fun c hc => ?_) (fun c hc => ?_)
  · rcases hc with rfl | rfl | rfl | rfl | rfl | rfl | rfl
    · show zBk (K + 20) (sS0_0_X5_carryOut P 115 p1 p2 p3)
      unfold sS0_0_X5_carryOut; (repeat (first | rw [zif_pos (by omega)] | rw [zif_neg (by omega)]))
      (first | exact g _ (by decide) | exact (g _ (by decide)).up (by omega) | exact ((g _ (by decide)).up (by omega)).up (by omega) | exact (((g _ (by decide)).up (by omega)).up (by omega)).up (by omega) | exact zBk_wadd (g _ (by decide)) (by omega) (by omega) (by omega) (by omega) | exact zBk_wcut (g _ (by decide)) | exact (g _ (by decide)).cpy (g _ (by decide)) _ _ _)
    · show zBk (K + 20) (sS0_2_X5_carryOut P 115 p1 p2 p3)
      unfold sS0_2_X5_carryOut; (repeat (first | rw [zif_pos (by omega)] | rw [zif_neg (by omega)]))
      (first | exact g _ (by decide) | exact (g _ (by decide)).up (by omega) | exact ((g _ (by decide)).up (by omega)).up (by omega) | exact (((g _ (by decide)).up (by omega)).up (by omega)).up (by omega) | exact zBk_wadd (g _ (by decide)) (by omega) (by omega) (by omega) (by omega) | exact zBk_wcut (g _ (by decide)) | exact (g _ (by decide)).cpy (g _ (by decide)) _ _ _)
    · show zBk (K + 20) (sS0_3_X5_carryOut P 115 p1 p2 p3)
      unfold sS0_3_X5_carryOut; (repeat (first | rw [zif_pos (by omega)] | rw [zif_neg (by omega)]))
      (first | exact g _ (by decide) | exact (g _ (by decide)).up (by omega) | exact ((g _ (by decide)).up (by omega)).up (by omega) | exact (((g _ (by decide)).up (by omega)).up (by omega)).up (by omega) | exact zBk_wadd (g _ (by decide)) (by omega) (by omega) (by omega) (by omega) | exact zBk_wcut (g _ (by decide)) | exact (g _ (by decide)).cpy (g _ (by decide)) _ _ _)
    · show zBk (K + 20) (sS0_4_X5_carryOut P 115 p1 p2 p3)
      unfold sS0_4_X5_carryOut; (repeat (first | rw [zif_pos (by omega)] | rw [zif_neg (by omega)]))
      (first | exact g _ (by decide) | exact (g _ (by decide)).up (by omega) | exact ((g _ (by decide)).up (by omega)).up (by omega) | exact (((g _ (by decide)).up (by omega)).up (by omega)).up (by omega) | exact zBk_wadd (g _ (by decide)) (by omega) (by omega) (by omega) (by omega) | exact zBk_wcut (g _ (by decide)) | exact (g _ (by decide)).cpy (g _ (by decide)) _ _ _)
    · show zBk (K + 20) (sS0_5_X5_carryOut P 115 p1 p2 p3)
      unfold sS0_5_X5_carryOut; (repeat (first | rw [zif_pos (by omega)] | rw [zif_neg (by omega)]))
      (first | exact g _ (by decide) | exact (g _ (by decide)).up (by omega) | exact ((g _ (by decide)).up (by omega)).up (by omega) | exact (((g _ (by decide)).up (by omega)).up (by omega)).up (by omega) | exact zBk_wadd (g _ (by decide)) (by omega) (by omega) (by omega) (by omega) | exact zBk_wcut (g _ (by decide)) | exact (g _ (by decide)).cpy (g _ (by decide)) _ _ _)
    · show zBk (K + 20) (sS0_6_X5_carryOut P 115 p1 p2 p3)
      unfold sS0_6_X5_carryOut; (repeat (first | rw [zif_pos (by omega)] | rw [zif_neg (by omega)]))
      (first | exact g _ (by decide) | exact (g _ (by decide)).up (by omega) | exact ((g _ (by decide)).up (by omega)).up (by omega) | exact (((g _ (by decide)).up (by omega)).up (by omega)).up (by omega) | exact zBk_wadd (g _ (by decide)) (by omega) (by omega) (by omega) (by omega) | exact zBk_wcut (g _ (by decide)) | exact (g _ (by decide)).cpy (g _ (by decide)) _ _ _)
    · show zBk (K + 20) (sS0_7_X5_carryOut P 115 p1 p2 p3)
      unfold sS0_7_X5_carryOut; (repeat (first | rw [zif_pos (by omega)] | rw [zif_neg (by omega)]))
      (first | exact g _ (by decide) | exact (g _ (by decide)).up (by omega) | exact ((g _ (by decide)).up (by omega)).up (by omega) | exact (((g _ (by decide)).up (by omega)).up (by omega)).up (by omega) | exact zBk_wadd (g _ (by decide)) (by omega) (by omega) (by omega) (by omega) | exact zBk_wcut (g _ (by decide)) | exact (g _ (by decide)).cpy (g _ (by decide)) _ _ _)
  · rcases hc with rfl | rfl | rfl | rfl | rfl | rfl | rfl
    · show zBk (K + 20) (sS0_8_X5_carryOut P 115 p1 p2 p3)
      unfold sS0_8_X5_carryOut; (repeat (first | rw [zif_pos (by omega)] | rw [zif_neg (by omega)]))
      (first | exact g _ (by decide) | exact (g _ (by decide)).up (by omega) | exact ((g _ (by decide)).up (by omega)).up (by omega) | exact (((g _ (by decide)).up (by omega)).up (by omega)).up (by omega) | exact zBk_wadd (g _ (by decide)) (by omega) (by omega) (by omega) (by omega) | exact zBk_wcut (g _ (by decide)) | exact (g _ (by decide)).cpy (g _ (by decide)) _ _ _)
    · show zBk (K + 20) (sS0_9_X5_carryOut P 115 p1 p2 p3)
      unfold sS0_9_X5_carryOut; (repeat (first | rw [zif_pos (by omega)] | rw [zif_neg (by omega)]))
      (first | exact g _ (by decide) | exact (g _ (by decide)).up (by omega) | exact ((g _ (by decide)).up (by omega)).up (by omega) | exact (((g _ (by decide)).up (by omega)).up (by omega)).up (by omega) | exact zBk_wadd (g _ (by decide)) (by omega) (by omega) (by omega) (by omega) | exact zBk_wcut (g _ (by decide)) | exact (g _ (by decide)).cpy (g _ (by decide)) _ _ _)
    · show zBk (K + 20) (sS0_10_X5_carryOut P 115 p1 p2 p3)
      unfold sS0_10_X5_carryOut; (repeat (first | rw [zif_pos (by omega)] | rw [zif_neg (by omega)]))
      (first | exact g _ (by decide) | exact (g _ (by decide)).up (by omega) | exact ((g _ (by decide)).up (by omega)).up (by omega) | exact (((g _ (by decide)).up (by omega)).up (by omega)).up (by omega) | exact zBk_wadd (g _ (by decide)) (by omega) (by omega) (by omega) (by omega) | exact zBk_wcut (g _ (by decide)) | exact (g _ (by decide)).cpy (g _ (by decide)) _ _ _)
    · show zBk (K + 20) (sS0_11_X5_carryOut P 115 p1 p2 p3)
      unfold sS0_11_X5_carryOut; (repeat (first | rw [zif_pos (by omega)] | rw [zif_neg (by omega)]))
      (first | exact g _ (by decide) | exact (g _ (by decide)).up (by omega) | exact ((g _ (by decide)).up (by omega)).up (by omega) | exact (((g _ (by decide)).up (by omega)).up (by omega)).up (by omega) | exact zBk_wadd (g _ (by decide)) (by omega) (by omega) (by omega) (by omega) | exact zBk_wcut (g _ (by decide)) | exact (g _ (by decide)).cpy (g _ (by decide)) _ _ _)
    · show zBk (K + 20) (sS0_12_X5_carryOut P 115 p1 p2 p3)
      unfold sS0_12_X5_carryOut; (repeat (first | rw [zif_pos (by omega)] | rw [zif_neg (by omega)]))
      (first | exact g _ (by decide) | exact (g _ (by decide)).up (by omega) | exact ((g _ (by decide)).up (by omega)).up (by omega) | exact (((g _ (by decide)).up (by omega)).up (by omega)).up (by omega) | exact zBk_wadd (g _ (by decide)) (by omega) (by omega) (by omega) (by omega) | exact zBk_wcut (g _ (by decide)) | exact (g _ (by decide)).cpy (g _ (by decide)) _ _ _)
    · show zBk (K + 20) (sS0_13_X5_carryOut P 115 p1 p2 p3)
      unfold sS0_13_X5_carryOut; (repeat (first | rw [zif_pos (by omega)] | rw [zif_neg (by omega)]))
      (first | exact g _ (by decide) | exact (g _ (by decide)).up (by omega) | exact ((g _ (by decide)).up (by omega)).up (by omega) | exact (((g _ (by decide)).up (by omega)).up (by omega)).up (by omega) | exact zBk_wadd (g _ (by decide)) (by omega) (by omega) (by omega) (by omega) | exact zBk_wcut (g _ (by decide)) | exact (g _ (by decide)).cpy (g _ (by decide)) _ _ _)
    · show zBk (K + 20) (sS0_14_X5_carryOut P 115 p1 p2 p3)
      unfold sS0_14_X5_carryOut; (repeat (first | rw [zif_pos (by omega)] | rw [zif_neg (by omega)]))
      (first | exact g _ (by decide) | exact (g _ (by decide)).up (by omega) | exact ((g _ (by decide)).up (by omega)).up (by omega) | exact (((g _ (by decide)).up (by omega)).up (by omega)).up (by omega) | exact zBk_wadd (g _ (by decide)) (by omega) (by omega) (by omega) (by omega) | exact zBk_wcut (g _ (by decide)) | exact (g _ (by decide)).cpy (g _ (by decide)) _ _ _)
set_option maxHeartbeats 4000000 in
theorem pb_repair {P R : Nat → Nat → Int} {K p1 p2 p3 : Int} (h : relP P (R 1)) (hp : pK K P) (hK : 20 ≤ K) (hv : sp_X5_verdictOn P 114 p1 p2 p3 = 0) (hr : ∃ G, relP (wCarry P 114 p1 p2 p3) G) : pK (K + 20) (wCarry P 114 p1 p2 p3) := by
  obtain ⟨G, hr⟩ := hr
  have d3 := relB_c hr.1
  have d6 := relB_c hr.2.1
  have d9 := relB_c hr.2.2.1
  have d11 := hr.2.2.2.1.1
  have d13 := hr.2.2.2.2.1.1
  refine ⟨?_, d3.2, d6.2, d9.2, d11, d13⟩
  have g : ∀ c, c ≤ 14 → zBk (K + 20) (P c) := fun c hc => (hp.1 c hc).mono (by omega)
  have hV := ver_repair (p1 := p1) (p2 := p2) (p3 := p3) h
  have c0 := relB_c h.1
  have c1 := relB_c h.2.1
  have c2 := relB_c h.2.2.1
  have cs := h.2.2.2.1.2.1
  have csr := h.2.2.2.1.1
  have cy := h.2.2.2.2.1.2.1
  have cyr := h.2.2.2.2.1.1
  have q3 := hp.1 0 (by decide) 3
  have q4 := hp.1 0 (by decide) 4
  have q5 := hp.1 0 (by decide) 5
  have q7 := hp.1 0 (by decide) 7
  have q8 := hp.1 0 (by decide) 8
  have q9 := hp.1 0 (by decide) 9
  have q10 := hp.1 0 (by decide) 10
  have key : (∀ c, (c = 0 ∨ c = 2 ∨ c = 3 ∨ c = 4 ∨ c = 5 ∨ c = 6 ∨ c = 7) → zBk (K + 20) (wCarry P 114 p1 p2 p3 c)) → (∀ c, (c = 8 ∨ c = 9 ∨ c = 10 ∨ c = 11 ∨ c = 12 ∨ c = 13 ∨ c = 14) → zBk (K + 20) (wCarry P 114 p1 p2 p3 c)) → ∀ c, c ≤ 14 → zBk (K + 20) (wCarry P 114 p1 p2 p3 c) := by
    intro k1 k2 c hc
    rcases (show c = 1 ∨ (c = 0 ∨ c = 2 ∨ c = 3 ∨ c = 4 ∨ c = 5 ∨ c = 6 ∨ c = 7) ∨ (c = 8 ∨ c = 9 ∨ c = 10 ∨ c = 11 ∨ c = 12 ∨ c = 13 ∨ c = 14) by omega) with z | z | z
    · rw [z]; exact g 1 (by decide)
    · exact k1 c z
    · exact k2 c z
  have r : 0 ≤ p1 ∧ p1 < R 1 10 := Classical.byContradiction fun q => by rw [hV, zif_neg q] at hv; exact absurd hv (by decide)
  have kc := wCutK_rng (c := P 11 1) (p := p1) (q := 1) csr
  have n2 := (relS_num h.2.2.2.1 r.1 (by omega)).2.2.1
  have w := relP_cost h r
  have n0k := wNum_k (hp.1 12 (by decide)) (by omega) (c := P 11 1) (p := p1) (q := 0)
  have n1k := wNum_k (hp.1 12 (by decide)) (by omega) (c := P 11 1) (p := p1) (q := 1)
  have n2k := wNum_k (hp.1 12 (by decide)) (by omega) (c := P 11 1) (p := p1) (q := 2)
  have s0 := h.2.2.2.2.2.1.1
  have r5 : ¬ R 1 15 = 5 := fun q => by rw [hV, zif_pos r, zif_pos q] at hv; exact absurd hv (by decide)
  have rc : 2 + R 1 (93 + 4 * p1 + 2).toNat ≤ R 1 0 := Classical.byContradiction fun q => by rw [hV, zif_pos r, zif_neg r5, zif_neg q] at hv; exact absurd hv (by decide)
  refine key (fun c hc => ?_) (fun c hc => ?_)
  · rcases hc with rfl | rfl | rfl | rfl | rfl | rfl | rfl
    · show zBk (K + 20) (sS0_0_X5_carryOut P 114 p1 p2 p3)
      unfold sS0_0_X5_carryOut; (repeat (first | rw [zif_pos (by omega)] | rw [zif_neg (by omega)]))
      (first | exact g _ (by decide) | exact (g _ (by decide)).up (by omega) | exact ((g _ (by decide)).up (by omega)).up (by omega) | exact (((g _ (by decide)).up (by omega)).up (by omega)).up (by omega) | exact zBk_wadd (g _ (by decide)) (by omega) (by omega) (by omega) (by omega) | exact zBk_wcut (g _ (by decide)) | exact (g _ (by decide)).cpy (g _ (by decide)) _ _ _)
    · show zBk (K + 20) (sS0_2_X5_carryOut P 114 p1 p2 p3)
      unfold sS0_2_X5_carryOut; (repeat (first | rw [zif_pos (by omega)] | rw [zif_neg (by omega)]))
      (first | exact g _ (by decide) | exact (g _ (by decide)).up (by omega) | exact ((g _ (by decide)).up (by omega)).up (by omega) | exact (((g _ (by decide)).up (by omega)).up (by omega)).up (by omega) | exact zBk_wadd (g _ (by decide)) (by omega) (by omega) (by omega) (by omega) | exact zBk_wcut (g _ (by decide)) | exact (g _ (by decide)).cpy (g _ (by decide)) _ _ _)
    · show zBk (K + 20) (sS0_3_X5_carryOut P 114 p1 p2 p3)
      unfold sS0_3_X5_carryOut; (repeat (first | rw [zif_pos (by omega)] | rw [zif_neg (by omega)]))
      (first | exact g _ (by decide) | exact (g _ (by decide)).up (by omega) | exact ((g _ (by decide)).up (by omega)).up (by omega) | exact (((g _ (by decide)).up (by omega)).up (by omega)).up (by omega) | exact zBk_wadd (g _ (by decide)) (by omega) (by omega) (by omega) (by omega) | exact zBk_wcut (g _ (by decide)) | exact (g _ (by decide)).cpy (g _ (by decide)) _ _ _)
    · show zBk (K + 20) (sS0_4_X5_carryOut P 114 p1 p2 p3)
      unfold sS0_4_X5_carryOut; (repeat (first | rw [zif_pos (by omega)] | rw [zif_neg (by omega)]))
      (first | exact g _ (by decide) | exact (g _ (by decide)).up (by omega) | exact ((g _ (by decide)).up (by omega)).up (by omega) | exact (((g _ (by decide)).up (by omega)).up (by omega)).up (by omega) | exact zBk_wadd (g _ (by decide)) (by omega) (by omega) (by omega) (by omega) | exact zBk_wcut (g _ (by decide)) | exact (g _ (by decide)).cpy (g _ (by decide)) _ _ _)
    · show zBk (K + 20) (sS0_5_X5_carryOut P 114 p1 p2 p3)
      unfold sS0_5_X5_carryOut; (repeat (first | rw [zif_pos (by omega)] | rw [zif_neg (by omega)]))
      (first | exact g _ (by decide) | exact (g _ (by decide)).up (by omega) | exact ((g _ (by decide)).up (by omega)).up (by omega) | exact (((g _ (by decide)).up (by omega)).up (by omega)).up (by omega) | exact zBk_wadd (g _ (by decide)) (by omega) (by omega) (by omega) (by omega) | exact zBk_wcut (g _ (by decide)) | exact (g _ (by decide)).cpy (g _ (by decide)) _ _ _)
    · show zBk (K + 20) (sS0_6_X5_carryOut P 114 p1 p2 p3)
      unfold sS0_6_X5_carryOut; (repeat (first | rw [zif_pos (by omega)] | rw [zif_neg (by omega)]))
      (first | exact g _ (by decide) | exact (g _ (by decide)).up (by omega) | exact ((g _ (by decide)).up (by omega)).up (by omega) | exact (((g _ (by decide)).up (by omega)).up (by omega)).up (by omega) | exact zBk_wadd (g _ (by decide)) (by omega) (by omega) (by omega) (by omega) | exact zBk_wcut (g _ (by decide)) | exact (g _ (by decide)).cpy (g _ (by decide)) _ _ _)
    · show zBk (K + 20) (sS0_7_X5_carryOut P 114 p1 p2 p3)
      unfold sS0_7_X5_carryOut; (repeat (first | rw [zif_pos (by omega)] | rw [zif_neg (by omega)]))
      (first | exact g _ (by decide) | exact (g _ (by decide)).up (by omega) | exact ((g _ (by decide)).up (by omega)).up (by omega) | exact (((g _ (by decide)).up (by omega)).up (by omega)).up (by omega) | exact zBk_wadd (g _ (by decide)) (by omega) (by omega) (by omega) (by omega) | exact zBk_wcut (g _ (by decide)) | exact (g _ (by decide)).cpy (g _ (by decide)) _ _ _)
  · rcases hc with rfl | rfl | rfl | rfl | rfl | rfl | rfl
    · show zBk (K + 20) (sS0_8_X5_carryOut P 114 p1 p2 p3)
      unfold sS0_8_X5_carryOut; (repeat (first | rw [zif_pos (by omega)] | rw [zif_neg (by omega)]))
      (first | exact g _ (by decide) | exact (g _ (by decide)).up (by omega) | exact ((g _ (by decide)).up (by omega)).up (by omega) | exact (((g _ (by decide)).up (by omega)).up (by omega)).up (by omega) | exact zBk_wadd (g _ (by decide)) (by omega) (by omega) (by omega) (by omega) | exact zBk_wcut (g _ (by decide)) | exact (g _ (by decide)).cpy (g _ (by decide)) _ _ _)
    · show zBk (K + 20) (sS0_9_X5_carryOut P 114 p1 p2 p3)
      unfold sS0_9_X5_carryOut; (repeat (first | rw [zif_pos (by omega)] | rw [zif_neg (by omega)]))
      (first | exact g _ (by decide) | exact (g _ (by decide)).up (by omega) | exact ((g _ (by decide)).up (by omega)).up (by omega) | exact (((g _ (by decide)).up (by omega)).up (by omega)).up (by omega) | exact zBk_wadd (g _ (by decide)) (by omega) (by omega) (by omega) (by omega) | exact zBk_wcut (g _ (by decide)) | exact (g _ (by decide)).cpy (g _ (by decide)) _ _ _)
    · show zBk (K + 20) (sS0_10_X5_carryOut P 114 p1 p2 p3)
      unfold sS0_10_X5_carryOut; (repeat (first | rw [zif_pos (by omega)] | rw [zif_neg (by omega)]))
      (first | exact g _ (by decide) | exact (g _ (by decide)).up (by omega) | exact ((g _ (by decide)).up (by omega)).up (by omega) | exact (((g _ (by decide)).up (by omega)).up (by omega)).up (by omega) | exact zBk_wadd (g _ (by decide)) (by omega) (by omega) (by omega) (by omega) | exact zBk_wcut (g _ (by decide)) | exact (g _ (by decide)).cpy (g _ (by decide)) _ _ _)
    · show zBk (K + 20) (sS0_11_X5_carryOut P 114 p1 p2 p3)
      unfold sS0_11_X5_carryOut; (repeat (first | rw [zif_pos (by omega)] | rw [zif_neg (by omega)]))
      (first | exact g _ (by decide) | exact (g _ (by decide)).up (by omega) | exact ((g _ (by decide)).up (by omega)).up (by omega) | exact (((g _ (by decide)).up (by omega)).up (by omega)).up (by omega) | exact zBk_wadd (g _ (by decide)) (by omega) (by omega) (by omega) (by omega) | exact zBk_wcut (g _ (by decide)) | exact (g _ (by decide)).cpy (g _ (by decide)) _ _ _)
    · show zBk (K + 20) (sS0_12_X5_carryOut P 114 p1 p2 p3)
      unfold sS0_12_X5_carryOut; (repeat (first | rw [zif_pos (by omega)] | rw [zif_neg (by omega)]))
      (first | exact g _ (by decide) | exact (g _ (by decide)).up (by omega) | exact ((g _ (by decide)).up (by omega)).up (by omega) | exact (((g _ (by decide)).up (by omega)).up (by omega)).up (by omega) | exact zBk_wadd (g _ (by decide)) (by omega) (by omega) (by omega) (by omega) | exact zBk_wcut (g _ (by decide)) | exact (g _ (by decide)).cpy (g _ (by decide)) _ _ _)
    · show zBk (K + 20) (sS0_13_X5_carryOut P 114 p1 p2 p3)
      unfold sS0_13_X5_carryOut; (repeat (first | rw [zif_pos (by omega)] | rw [zif_neg (by omega)]))
      (first | exact g _ (by decide) | exact (g _ (by decide)).up (by omega) | exact ((g _ (by decide)).up (by omega)).up (by omega) | exact (((g _ (by decide)).up (by omega)).up (by omega)).up (by omega) | exact zBk_wadd (g _ (by decide)) (by omega) (by omega) (by omega) (by omega) | exact zBk_wcut (g _ (by decide)) | exact (g _ (by decide)).cpy (g _ (by decide)) _ _ _)
    · show zBk (K + 20) (sS0_14_X5_carryOut P 114 p1 p2 p3)
      unfold sS0_14_X5_carryOut; (repeat (first | rw [zif_pos (by omega)] | rw [zif_neg (by omega)]))
      (first | exact g _ (by decide) | exact (g _ (by decide)).up (by omega) | exact ((g _ (by decide)).up (by omega)).up (by omega) | exact (((g _ (by decide)).up (by omega)).up (by omega)).up (by omega) | exact zBk_wadd (g _ (by decide)) (by omega) (by omega) (by omega) (by omega) | exact zBk_wcut (g _ (by decide)) | exact (g _ (by decide)).cpy (g _ (by decide)) _ _ _)
set_option maxHeartbeats 4000000 in
theorem pb_week {P R : Nat → Nat → Int} {K p1 p2 p3 : Int} (h : relP P (R 1)) (hp : pK K P) (hK : 20 ≤ K) (hv : sp_X5_verdictOn P 119 p1 p2 p3 = 0) (hr : ∃ G, relP (wCarry P 119 p1 p2 p3) G) : pK (K + 20) (wCarry P 119 p1 p2 p3) := by
  obtain ⟨G, hr⟩ := hr
  have d3 := relB_c hr.1
  have d6 := relB_c hr.2.1
  have d9 := relB_c hr.2.2.1
  have d11 := hr.2.2.2.1.1
  have d13 := hr.2.2.2.2.1.1
  refine ⟨?_, d3.2, d6.2, d9.2, d11, d13⟩
  have g : ∀ c, c ≤ 14 → zBk (K + 20) (P c) := fun c hc => (hp.1 c hc).mono (by omega)
  have hV := ver_week (p1 := p1) (p2 := p2) (p3 := p3) (S := P)
  have c0 := relB_c h.1
  have c1 := relB_c h.2.1
  have c2 := relB_c h.2.2.1
  have cs := h.2.2.2.1.2.1
  have csr := h.2.2.2.1.1
  have cy := h.2.2.2.2.1.2.1
  have cyr := h.2.2.2.2.1.1
  have q3 := hp.1 0 (by decide) 3
  have q4 := hp.1 0 (by decide) 4
  have q5 := hp.1 0 (by decide) 5
  have q7 := hp.1 0 (by decide) 7
  have q8 := hp.1 0 (by decide) 8
  have q9 := hp.1 0 (by decide) 9
  have q10 := hp.1 0 (by decide) 10
  have key : (∀ c, (c = 0 ∨ c = 2 ∨ c = 3 ∨ c = 4 ∨ c = 5 ∨ c = 6 ∨ c = 7) → zBk (K + 20) (wCarry P 119 p1 p2 p3 c)) → (∀ c, (c = 8 ∨ c = 9 ∨ c = 10 ∨ c = 11 ∨ c = 12 ∨ c = 13 ∨ c = 14) → zBk (K + 20) (wCarry P 119 p1 p2 p3 c)) → ∀ c, c ≤ 14 → zBk (K + 20) (wCarry P 119 p1 p2 p3 c) := by
    intro k1 k2 c hc
    rcases (show c = 1 ∨ (c = 0 ∨ c = 2 ∨ c = 3 ∨ c = 4 ∨ c = 5 ∨ c = 6 ∨ c = 7) ∨ (c = 8 ∨ c = 9 ∨ c = 10 ∨ c = 11 ∨ c = 12 ∨ c = 13 ∨ c = 14) by omega) with z | z | z
    · rw [z]; exact g 1 (by decide)
    · exact k1 c z
    · exact k2 c z
  have kc := wCutK_rng (c := P 9 1) (p := 0) (q := 1) (by omega)
  have k0 := wMvK0_rng (c := P 3 1) (by omega)
  have k1 := wMvK0_rng (c := P 6 1) (by omega)
  have v1 : 0 ≤ wMvK (P 3 1) (wMvK0 (P 6 1)) ∧ wMvK (P 3 1) (wMvK0 (P 6 1)) ≤ 6 := by
    unfold wMvK
    exact el1 (Q := fun z => 0 ≤ z ∧ z ≤ 6) (fun _ => by omega) (fun _ => by omega)
  have v2 : 0 ≤ wMvK (P 6 1) (wCutK (P 9 1) 0 1) ∧ wMvK (P 6 1) (wCutK (P 9 1) 0 1) ≤ 6 := by
    unfold wMvK
    exact el1 (Q := fun z => 0 ≤ z ∧ z ≤ 6) (fun _ => by omega) (fun _ => by omega)
  refine key (fun c hc => ?_) (fun c hc => ?_)
  · rcases hc with rfl | rfl | rfl | rfl | rfl | rfl | rfl
    · show zBk (K + 20) (sS0_0_X5_carryOut P 119 p1 p2 p3)
      unfold sS0_0_X5_carryOut; (repeat (first | rw [zif_pos (by omega)] | rw [zif_neg (by omega)]))
      unfold sS0_0_X5_endWeek; exact zBk.zif ((((g 0 (by decide)).up (by omega)).up (by omega)).up (by omega)) (zBk.zif ((((g 0 (by decide)).up (by omega)).up (by omega)).up (by omega)) ((((g 0 (by decide)).up (by omega)).up (by omega)).up (by omega)))
    · show zBk (K + 20) (sS0_2_X5_carryOut P 119 p1 p2 p3)
      unfold sS0_2_X5_carryOut; (repeat (first | rw [zif_pos (by omega)] | rw [zif_neg (by omega)]))
      (first | exact g _ (by decide) | exact (g _ (by decide)).up (by omega) | exact ((g _ (by decide)).up (by omega)).up (by omega) | exact (((g _ (by decide)).up (by omega)).up (by omega)).up (by omega) | exact zBk_wadd (g _ (by decide)) (by omega) (by omega) (by omega) (by omega) | exact zBk_wcut (g _ (by decide)) | exact (g _ (by decide)).cpy (g _ (by decide)) _ _ _)
    · show zBk (K + 20) (sS0_3_X5_carryOut P 119 p1 p2 p3)
      unfold sS0_3_X5_carryOut; (repeat (first | rw [zif_pos (by omega)] | rw [zif_neg (by omega)]))
      unfold sS0_3_X5_endWeek; exact (g 3 (by decide)).up (by omega)
    · show zBk (K + 20) (sS0_4_X5_carryOut P 119 p1 p2 p3)
      unfold sS0_4_X5_carryOut; (repeat (first | rw [zif_pos (by omega)] | rw [zif_neg (by omega)]))
      unfold sS0_4_X5_endWeek wMvN0; exact zBk.zif (zBk_wcut (g 4 (by decide))) (g 4 (by decide))
    · show zBk (K + 20) (sS0_5_X5_carryOut P 119 p1 p2 p3)
      unfold sS0_5_X5_carryOut; (repeat (first | rw [zif_pos (by omega)] | rw [zif_neg (by omega)]))
      (first | exact g _ (by decide) | exact (g _ (by decide)).up (by omega) | exact ((g _ (by decide)).up (by omega)).up (by omega) | exact (((g _ (by decide)).up (by omega)).up (by omega)).up (by omega) | exact zBk_wadd (g _ (by decide)) (by omega) (by omega) (by omega) (by omega) | exact zBk_wcut (g _ (by decide)) | exact (g _ (by decide)).cpy (g _ (by decide)) _ _ _)
    · show zBk (K + 20) (sS0_6_X5_carryOut P 119 p1 p2 p3)
      unfold sS0_6_X5_carryOut; (repeat (first | rw [zif_pos (by omega)] | rw [zif_neg (by omega)]))
      unfold sS0_6_X5_endWeek; exact ((g 6 (by decide)).up (by omega)).up (by omega)
    · show zBk (K + 20) (sS0_7_X5_carryOut P 119 p1 p2 p3)
      unfold sS0_7_X5_carryOut; (repeat (first | rw [zif_pos (by omega)] | rw [zif_neg (by omega)]))
      unfold sS0_7_X5_endWeek; exact zBk_mv (g 4 (by decide)) (zBk.zif (zBk_wcut (g 7 (by decide))) (g 7 (by decide))) (by omega)
  · rcases hc with rfl | rfl | rfl | rfl | rfl | rfl | rfl
    · show zBk (K + 20) (sS0_8_X5_carryOut P 119 p1 p2 p3)
      unfold sS0_8_X5_carryOut; (repeat (first | rw [zif_pos (by omega)] | rw [zif_neg (by omega)]))
      (first | exact g _ (by decide) | exact (g _ (by decide)).up (by omega) | exact ((g _ (by decide)).up (by omega)).up (by omega) | exact (((g _ (by decide)).up (by omega)).up (by omega)).up (by omega) | exact zBk_wadd (g _ (by decide)) (by omega) (by omega) (by omega) (by omega) | exact zBk_wcut (g _ (by decide)) | exact (g _ (by decide)).cpy (g _ (by decide)) _ _ _)
    · show zBk (K + 20) (sS0_9_X5_carryOut P 119 p1 p2 p3)
      unfold sS0_9_X5_carryOut; (repeat (first | rw [zif_pos (by omega)] | rw [zif_neg (by omega)]))
      unfold sS0_9_X5_endWeek; exact ((g 9 (by decide)).up (by omega)).up (by omega)
    · show zBk (K + 20) (sS0_10_X5_carryOut P 119 p1 p2 p3)
      unfold sS0_10_X5_carryOut; (repeat (first | rw [zif_pos (by omega)] | rw [zif_neg (by omega)]))
      unfold sS0_10_X5_endWeek; exact zBk_mv (g 7 (by decide)) (zBk_wcut (g 10 (by decide))) (by omega)
    · show zBk (K + 20) (sS0_11_X5_carryOut P 119 p1 p2 p3)
      unfold sS0_11_X5_carryOut; (repeat (first | rw [zif_pos (by omega)] | rw [zif_neg (by omega)]))
      (first | exact g _ (by decide) | exact (g _ (by decide)).up (by omega) | exact ((g _ (by decide)).up (by omega)).up (by omega) | exact (((g _ (by decide)).up (by omega)).up (by omega)).up (by omega) | exact zBk_wadd (g _ (by decide)) (by omega) (by omega) (by omega) (by omega) | exact zBk_wcut (g _ (by decide)) | exact (g _ (by decide)).cpy (g _ (by decide)) _ _ _)
    · show zBk (K + 20) (sS0_12_X5_carryOut P 119 p1 p2 p3)
      unfold sS0_12_X5_carryOut; (repeat (first | rw [zif_pos (by omega)] | rw [zif_neg (by omega)]))
      (first | exact g _ (by decide) | exact (g _ (by decide)).up (by omega) | exact ((g _ (by decide)).up (by omega)).up (by omega) | exact (((g _ (by decide)).up (by omega)).up (by omega)).up (by omega) | exact zBk_wadd (g _ (by decide)) (by omega) (by omega) (by omega) (by omega) | exact zBk_wcut (g _ (by decide)) | exact (g _ (by decide)).cpy (g _ (by decide)) _ _ _)
    · show zBk (K + 20) (sS0_13_X5_carryOut P 119 p1 p2 p3)
      unfold sS0_13_X5_carryOut; (repeat (first | rw [zif_pos (by omega)] | rw [zif_neg (by omega)]))
      (first | exact g _ (by decide) | exact (g _ (by decide)).up (by omega) | exact ((g _ (by decide)).up (by omega)).up (by omega) | exact (((g _ (by decide)).up (by omega)).up (by omega)).up (by omega) | exact zBk_wadd (g _ (by decide)) (by omega) (by omega) (by omega) (by omega) | exact zBk_wcut (g _ (by decide)) | exact (g _ (by decide)).cpy (g _ (by decide)) _ _ _)
    · show zBk (K + 20) (sS0_14_X5_carryOut P 119 p1 p2 p3)
      unfold sS0_14_X5_carryOut; (repeat (first | rw [zif_pos (by omega)] | rw [zif_neg (by omega)]))
      unfold sS0_14_X5_endWeek wTireAll; exact (g 14 (by decide)).map (fun z hz => by omega) _ _
