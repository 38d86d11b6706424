/-! lines -/
def leq (s t : (Nat → Int) × Int) : Prop := 0 ≤ s.2 ∧ s.2 = t.2 ∧ ∀ j : Nat, (j : Int) < s.2 → s.1 j = t.1 j
theorem leq_wr {s t : (Nat → Int) × Int} {c : Int} (h : leq s t) : leq (wr c s) (wr c t) := by
  obtain ⟨h0, h1, h2⟩ := h
  have a : (wr c s).2 = s.2 + 1 := rfl
  have b : (wr c t).2 = t.2 + 1 := rfl
  refine ⟨by omega, by omega, fun j hj => ?_⟩
  show upZ s.1 s.2.toNat c j = upZ t.1 t.2.toNat c j
  rw [← h1]
  by_cases z : j = s.2.toNat
  · rw [z, upZ_s, upZ_s]
  · rw [upZ_n z, upZ_n z]
    exact h2 j (by omega)
theorem leq_0 {f g : Nat → Int} : leq (f, 0) (g, 0) := ⟨Int.le_refl 0, rfl, fun j hj => absurd hj (by show ¬ (j : Int) < 0; omega)⟩
theorem line_eq {c : Int} {L N G f g : Nat → Int} {b : Int} (h : relB c L N G b) : leq (wLineB L N c f) (rLine G b g) := by
  have c0 := relB_c h
  obtain ⟨l1, l2, -⟩ := h.2.2.1
  unfold wLineB rLine wLine0 rLine0
  rw [l1, l2, c0.1]
  have key : ∀ (n : Nat) (s t : (Nat → Int) × Int), (n : Int) ≤ c → leq s t → leq (wLineN N c s n) (rLineN G b t n) := by
    intro n s t
    induction n with
    | zero => intro _ q; exact q
    | succ n ih =>
      intro hn q
      have q := ih (by omega) q
      show leq (wLineStep N c n (wLineN N c s n)) (rLineStep G b n (rLineN G b t n))
      have e := relB_blank h (k := (n : Int)) (by omega) (by omega)
      obtain ⟨n0, n1, -, -⟩ := relB_num h (k := (n : Int)) (by omega) (by omega)
      unfold wLineStep rLineStep
      rcases h.2.2.2.2 (n : Int) (by omega) (by omega) with ⟨a0, -⟩ | ⟨a0, a1, a2, -⟩
      · have e1 := e.mpr a0
        rcases Classical.em (0 < (n : Int)) with z | z
        · rw [zif_pos z, zif_neg (show ¬ (n : Int) ≤ 0 by omega), zif_pos e1, zif_pos a0]; exact leq_wr (leq_wr (leq_wr q))
        · rw [zif_neg z, zif_pos (show (n : Int) ≤ 0 by omega), zif_pos e1, zif_pos a0]; exact leq_wr (leq_wr q)
      · have e1 : ¬ wNum N c (n : Int) 0 = -1 := fun w => by have := e.mp w; omega
        have a3 : ¬ G (15 + 26 * b + (6 + 4 * (n : Int) + 0)).toNat = 1 := by omega
        rcases Classical.em (0 < (n : Int)) with z | z
        · rw [zif_pos z, zif_neg (show ¬ (n : Int) ≤ 0 by omega), zif_neg e1, zif_neg a3, n0, n1, a1, a2]; exact leq_wr (leq_wr (leq_wr q))
        · rw [zif_neg z, zif_pos (show (n : Int) ≤ 0 by omega), zif_neg e1, zif_neg a3, n0, n1, a1, a2]; exact leq_wr (leq_wr q)
  exact key _ _ _ (by omega) (leq_wr (leq_wr (leq_wr (leq_wr leq_0))))
theorem line_len {c : Int} {L N f : Nat → Int} (hc : 0 ≤ c ∧ c ≤ 5) : 4 ≤ (wLineB L N c f).2 ∧ (wLineB L N c f).2 ≤ 19 := by
  unfold wLineB
  have key : ∀ (n : Nat) (s : (Nat → Int) × Int), s.2 = 4 → 4 ≤ (wLineN N c s n).2 ∧ (wLineN N c s n).2 ≤ 4 + 3 * (n : Int) := by
    intro n s hs
    induction n with
    | zero => show 4 ≤ s.2 ∧ s.2 ≤ 4 + 3 * ((0 : Nat) : Int); omega
    | succ n ih =>
      have e : ∀ (x : Int) (u : (Nat → Int) × Int), (wr x u).2 = u.2 + 1 := fun _ _ => rfl
      show 4 ≤ (wLineStep N c n (wLineN N c s n)).2 ∧ (wLineStep N c n (wLineN N c s n)).2 ≤ 4 + 3 * ((n + 1 : Nat) : Int)
      unfold wLineStep
      refine el1 (Q := fun z : (Nat → Int) × Int => 4 ≤ z.2 ∧ z.2 ≤ 4 + 3 * ((n + 1 : Nat) : Int)) (fun _ => ?_) (fun _ => ?_) <;> refine el1 (Q := fun z : (Nat → Int) × Int => 4 ≤ z.2 ∧ z.2 ≤ 4 + 3 * ((n + 1 : Nat) : Int)) (fun _ => ?_) (fun _ => ?_) <;> simp only [e] <;> omega
  have := key c.toNat (wLine0 L f) rfl
  omega
theorem shelf_eq {c : Int} {N G f g : Nat → Int} (h : relS c N G) : leq (wShelfB N c f) (rShelf G g) := by
  have c10 := h.2.1
  have cr := h.1
  unfold wShelfB rShelf
  rw [c10]
  have key : ∀ (n : Nat) (s t : (Nat → Int) × Int), (n : Int) ≤ c → leq s t → leq (wShelfN N c s n) (rShelfN G t n) := by
    intro n s t
    induction n with
    | zero => intro _ q; exact q
    | succ n ih =>
      intro hn q
      have q := ih (by omega) q
      show leq (wShelfStep N c n (wShelfN N c s n)) (rShelfStep G n (rShelfN G t n))
      obtain ⟨n0, n1, -, n3⟩ := relS_num h (p := (n : Int)) (by omega) (by omega)
      obtain ⟨⟨m0, -⟩, r0, -⟩ := h.2.2 (n : Int) (by omega) (by omega)
      have e1 : ¬ wNum N c (n : Int) 0 = -1 := by omega
      unfold wShelfStep rShelfStep wLineStep
      rcases Classical.em (0 < (n : Int)) with z | z
      · rw [zif_pos z, zif_neg (show ¬ (n : Int) ≤ 0 by omega), zif_neg e1, n0, n1, n3]; exact leq_wr (leq_wr (leq_wr (leq_wr (leq_wr q))))
      · rw [zif_neg z, zif_pos (show (n : Int) ≤ 0 by omega), zif_neg e1, n0, n1, n3]; exact leq_wr (leq_wr (leq_wr (leq_wr q)))
  exact key _ _ _ (by omega) leq_0
theorem shelf_len {c : Int} {N G f : Nat → Int} (h : relS c N G) : 0 ≤ (wShelfB N c f).2 ∧ (wShelfB N c f).2 ≤ 39 := by
  have cr := h.1
  unfold wShelfB
  have key : ∀ n : Nat, (n : Int) ≤ c → (wShelfN N c (f, 0) n).2 = (if n = 0 then (0 : Int) else 5 * (n : Int) - 1) := by
    intro n
    induction n with
    | zero => intro _; rfl
    | succ n ih =>
      intro hn
      have i := ih (by omega)
      have e : ∀ (x : Int) (u : (Nat → Int) × Int), (wr x u).2 = u.2 + 1 := fun _ _ => rfl
      obtain ⟨n0, -⟩ := relS_num h (p := (n : Int)) (by omega) (by omega)
      obtain ⟨⟨m0, -⟩, r0, -⟩ := h.2.2 (n : Int) (by omega) (by omega)
      have e1 : ¬ wNum N c (n : Int) 0 = -1 := by omega
      show (wShelfStep N c n (wShelfN N c (f, 0) n)).2 = _
      unfold wShelfStep wLineStep
      rw [if_neg (Nat.succ_ne_zero n)]
      rcases Classical.em (0 < (n : Int)) with z | z
      · rw [if_neg (by omega)] at i
        rw [zif_pos z, zif_neg e1]
        simp only [e]
        omega
      · rw [if_pos (by omega)] at i
        rw [zif_neg z, zif_neg e1]
        simp only [e]
        omega
  have k := key c.toNat (by omega)
  rw [k]
  by_cases z : c.toNat = 0
  · rw [if_pos z]; omega
  · rw [if_neg z]; omega
theorem relA_ln {F P N Hs : Nat → Nat → Int} {Gs : Nat → Nat → Nat → Int} {I L R : Nat → Nat → Int} {L' R' : Nat → Nat → Int} (h : relA F P N Hs Gs I L R) (h1 : R' 1 = R 1) (h2 : R' 2 = R 2) (h3 : R' 3 = R 3) (h5 : R' 5 = R 5) (h0 : ∀ i, i ≠ 7 → i ≠ 8 → i ≠ 15 → R' 0 i = R 0 i) (hl : relL L' R') : relA F P N Hs Gs I L' R' := by
  unfold relA relI at h ⊢
  rw [h1, h2, h3, h5, h0 5 (by decide) (by decide) (by decide), h0 6 (by decide) (by decide) (by decide), h0 4 (by decide) (by decide) (by decide), h0 13 (by decide) (by decide) (by decide), h0 9 (by decide) (by decide) (by decide), h0 10 (by decide) (by decide) (by decide), h0 12 (by decide) (by decide) (by decide)]
  obtain ⟨a1, a2, a3, a4, a5, a6, a7, a8, a9⟩ := h
  exact ⟨a1, a2, a3, a4, a5, a6, a7, a8, hl⟩
theorem op_line_x {F P N Hs : Nat → Nat → Int} {Gs : Nat → Nat → Nat → Int} {I L R : Nat → Nat → Int} {p1 : Int} (h : relA F P N Hs Gs I L R) (hp : ¬ (0 ≤ p1 ∧ p1 < 3)) : relA F P N Hs Gs I L (upA (upA R 0 (sS0_0_X8_line R p1)) 6 (sS0_6_X8_line R p1)) ∧ (upA (upA R 0 (sS0_0_X8_line R p1)) 6 (sS0_6_X8_line R p1)) 0 8 = 1 := by
  have e0 : sS0_0_X8_line R p1 = upZ (upZ (R 0) 8 1) 7 0 := by unfold sS0_0_X8_line; rw [zif_neg (by omega)]
  have e6 : sS0_6_X8_line R p1 = R 6 := by unfold sS0_6_X8_line; rw [zif_neg (by omega)]
  exact ⟨relA_fl h rfl rfl rfl rfl e6 (fun i i7 i8 => by show sS0_0_X8_line R p1 i = R 0 i; rw [e0, upZ_n i7, upZ_n i8]), by show sS0_0_X8_line R p1 8 = 1; rw [e0]; (repeat (first | rw [upZ_s] | rw [upZ_e (by omega)] | rw [upZ_n (by omega)] | rw [shf_in (by omega) (by omega)] | rw [shf_out (by omega)] | rw [zer_in (by omega) (by omega)] | rw [zer_out (by omega)] | rw [cpyZ_in (by omega) (by omega)] | rw [cpyZ_out (by omega)] | rw [mapZ_in (by omega) (by omega)] | rw [mapZ_out (by omega)]))⟩
theorem op_line_0 {F P N Hs : Nat → Nat → Int} {Gs : Nat → Nat → Nat → Int} {I L R : Nat → Nat → Int} {L' : Nat → Nat → Int} (h : relA F P N Hs Gs I L R) (hl : L' 0 1 = (wLineB (P 2) (P 4) (P 3 1) (L 1)).2) (hl1 : L' 1 = (wLineB (P 2) (P 4) (P 3 1) (L 1)).1) : relA F P N Hs Gs I L' (upA (upA R 0 (sS0_0_X8_line R 0)) 6 (sS0_6_X8_line R 0)) ∧ (upA (upA R 0 (sS0_0_X8_line R 0)) 6 (sS0_6_X8_line R 0)) 0 8 = 0 ∧ sp_X8_line R 0 = (wLineB (P 2) (P 4) (P 3 1) (L 1)).2 := by
  have b0 := h.1.1
  have c0 := relB_c b0
  have e := line_eq (f := L 1) (g := R 6) b0
  have n := line_len (L := P 2) (N := P 4) (f := L 1) c0.2
  have e0 : sS0_0_X8_line R 0 = upZ (upZ (upZ (R 0) 8 0) 7 0) 15 (rLine (R 1) 0 (R 6)).2 := by unfold sS0_0_X8_line; rw [zif_pos (by decide)]
  have e6 : sS0_6_X8_line R 0 = (rLine (R 1) 0 (R 6)).1 := by unfold sS0_6_X8_line; rw [zif_pos (by decide)]
  refine ⟨relA_ln h rfl rfl rfl rfl (fun i i7 i8 i15 => by show sS0_0_X8_line R 0 i = R 0 i; rw [e0, upZ_n i15, upZ_n i7, upZ_n i8]) ⟨by omega, ?_, fun j hj => ?_⟩, by show sS0_0_X8_line R 0 8 = 0; rw [e0]; (repeat (first | rw [upZ_s] | rw [upZ_e (by omega)] | rw [upZ_n (by omega)] | rw [shf_in (by omega) (by omega)] | rw [shf_out (by omega)] | rw [zer_in (by omega) (by omega)] | rw [zer_out (by omega)] | rw [cpyZ_in (by omega) (by omega)] | rw [cpyZ_out (by omega)] | rw [mapZ_in (by omega) (by omega)] | rw [mapZ_out (by omega)])), ?_⟩
  · show sS0_0_X8_line R 0 15 = L' 0 1
    rw [e0, upZ_s, hl, e.2.1]
  · show sS0_6_X8_line R 0 j = L' 1 j
    rw [e6, hl1]
    exact (e.2.2 j (by omega)).symm
  · unfold sp_X8_line
    rw [zif_pos (by decide)]
    exact e.2.1.symm
theorem op_line_1 {F P N Hs : Nat → Nat → Int} {Gs : Nat → Nat → Nat → Int} {I L R : Nat → Nat → Int} {L' : Nat → Nat → Int} (h : relA F P N Hs Gs I L R) (hl : L' 0 1 = (wLineB (P 5) (P 7) (P 6 1) (L 1)).2) (hl1 : L' 1 = (wLineB (P 5) (P 7) (P 6 1) (L 1)).1) : relA F P N Hs Gs I L' (upA (upA R 0 (sS0_0_X8_line R 1)) 6 (sS0_6_X8_line R 1)) ∧ (upA (upA R 0 (sS0_0_X8_line R 1)) 6 (sS0_6_X8_line R 1)) 0 8 = 0 ∧ sp_X8_line R 1 = (wLineB (P 5) (P 7) (P 6 1) (L 1)).2 := by
  have b0 := h.1.2.1
  have c0 := relB_c b0
  have e := line_eq (f := L 1) (g := R 6) b0
  have n := line_len (L := P 5) (N := P 7) (f := L 1) c0.2
  have e0 : sS0_0_X8_line R 1 = upZ (upZ (upZ (R 0) 8 0) 7 0) 15 (rLine (R 1) 1 (R 6)).2 := by unfold sS0_0_X8_line; rw [zif_pos (by decide)]
  have e6 : sS0_6_X8_line R 1 = (rLine (R 1) 1 (R 6)).1 := by unfold sS0_6_X8_line; rw [zif_pos (by decide)]
  refine ⟨relA_ln h rfl rfl rfl rfl (fun i i7 i8 i15 => by show sS0_0_X8_line R 1 i = R 0 i; rw [e0, upZ_n i15, upZ_n i7, upZ_n i8]) ⟨by omega, ?_, fun j hj => ?_⟩, by show sS0_0_X8_line R 1 8 = 0; rw [e0]; (repeat (first | rw [upZ_s] | rw [upZ_e (by omega)] | rw [upZ_n (by omega)] | rw [shf_in (by omega) (by omega)] | rw [shf_out (by omega)] | rw [zer_in (by omega) (by omega)] | rw [zer_out (by omega)] | rw [cpyZ_in (by omega) (by omega)] | rw [cpyZ_out (by omega)] | rw [mapZ_in (by omega) (by omega)] | rw [mapZ_out (by omega)])), ?_⟩
  · show sS0_0_X8_line R 1 15 = L' 0 1
    rw [e0, upZ_s, hl, e.2.1]
  · show sS0_6_X8_line R 1 j = L' 1 j
    rw [e6, hl1]
    exact (e.2.2 j (by omega)).symm
  · unfold sp_X8_line
    rw [zif_pos (by decide)]
    exact e.2.1.symm
theorem op_line_2 {F P N Hs : Nat → Nat → Int} {Gs : Nat → Nat → Nat → Int} {I L R : Nat → Nat → Int} {L' : Nat → Nat → Int} (h : relA F P N Hs Gs I L R) (hl : L' 0 1 = (wLineB (P 8) (P 10) (P 9 1) (L 1)).2) (hl1 : L' 1 = (wLineB (P 8) (P 10) (P 9 1) (L 1)).1) : relA F P N Hs Gs I L' (upA (upA R 0 (sS0_0_X8_line R 2)) 6 (sS0_6_X8_line R 2)) ∧ (upA (upA R 0 (sS0_0_X8_line R 2)) 6 (sS0_6_X8_line R 2)) 0 8 = 0 ∧ sp_X8_line R 2 = (wLineB (P 8) (P 10) (P 9 1) (L 1)).2 := by
  have b0 := h.1.2.2.1
  have c0 := relB_c b0
  have e := line_eq (f := L 1) (g := R 6) b0
  have n := line_len (L := P 8) (N := P 10) (f := L 1) c0.2
  have e0 : sS0_0_X8_line R 2 = upZ (upZ (upZ (R 0) 8 0) 7 0) 15 (rLine (R 1) 2 (R 6)).2 := by unfold sS0_0_X8_line; rw [zif_pos (by decide)]
  have e6 : sS0_6_X8_line R 2 = (rLine (R 1) 2 (R 6)).1 := by unfold sS0_6_X8_line; rw [zif_pos (by decide)]
  refine ⟨relA_ln h rfl rfl rfl rfl (fun i i7 i8 i15 => by show sS0_0_X8_line R 2 i = R 0 i; rw [e0, upZ_n i15, upZ_n i7, upZ_n i8]) ⟨by omega, ?_, fun j hj => ?_⟩, by show sS0_0_X8_line R 2 8 = 0; rw [e0]; (repeat (first | rw [upZ_s] | rw [upZ_e (by omega)] | rw [upZ_n (by omega)] | rw [shf_in (by omega) (by omega)] | rw [shf_out (by omega)] | rw [zer_in (by omega) (by omega)] | rw [zer_out (by omega)] | rw [cpyZ_in (by omega) (by omega)] | rw [cpyZ_out (by omega)] | rw [mapZ_in (by omega) (by omega)] | rw [mapZ_out (by omega)])), ?_⟩
  · show sS0_0_X8_line R 2 15 = L' 0 1
    rw [e0, upZ_s, hl, e.2.1]
  · show sS0_6_X8_line R 2 j = L' 1 j
    rw [e6, hl1]
    exact (e.2.2 j (by omega)).symm
  · unfold sp_X8_line
    rw [zif_pos (by decide)]
    exact e.2.1.symm
theorem op_shelfLine {F P N Hs : Nat → Nat → Int} {Gs : Nat → Nat → Nat → Int} {I L R : Nat → Nat → Int} {L' : Nat → Nat → Int} (h : relA F P N Hs Gs I L R) (hl : L' 0 1 = (wShelfB (P 12) (P 11 1) (L 1)).2) (hl1 : L' 1 = (wShelfB (P 12) (P 11 1) (L 1)).1) : relA F P N Hs Gs I L' (upA (upA (up2 (up2 R 0 8 0) 0 15 0) 0 (upZ (upZ (R 0) 8 0) 15 (rShelf (R 1) (R 6)).2)) 6 ((rShelf (R 1) (R 6)).1)) ∧ (rShelf (R 1) (R 6)).2 = (wShelfB (P 12) (P 11 1) (L 1)).2 := by
  have sh := h.1.2.2.2.1
  have e := shelf_eq (f := L 1) (g := R 6) sh
  have n := shelf_len (f := L 1) sh
  refine ⟨relA_ln h rfl rfl rfl rfl (fun i i7 i8 i15 => by show upZ (upZ (R 0) 8 0) 15 (rShelf (R 1) (R 6)).2 i = R 0 i; rw [upZ_n i15, upZ_n i8]) ⟨by omega, ?_, fun j hj => ?_⟩, e.2.1.symm⟩
  · show upZ (upZ (R 0) 8 0) 15 (rShelf (R 1) (R 6)).2 15 = L' 0 1
    rw [upZ_s, hl, e.2.1]
  · show (rShelf (R 1) (R 6)).1 j = L' 1 j
    rw [hl1]
    exact (e.2.2 j (by omega)).symm
