/-! what always holds of both, and how far it may grow -/
theorem pK_copy {K : Int} {S T : Nat → Nat → Int} (hS : pK K S) (hT : pK K T) : pK K (wCopy S T) := by
  refine ⟨fun c hc => ?_, hT.2⟩
  unfold wCopy
  exact zBk_upA (fun _ => (hT.1 14 (by decide)).cpy (hS.1 14 (by decide)) _ _ _) (fun _ => zBk_upA (fun _ => (hT.1 12 (by decide)).cpy (hS.1 12 (by decide)) _ _ _) (fun _ => zBk_upA (fun _ => (hT.1 10 (by decide)).cpy (hS.1 10 (by decide)) _ _ _) (fun _ => zBk_upA (fun _ => (hT.1 7 (by decide)).cpy (hS.1 7 (by decide)) _ _ _) (fun _ => zBk_upA (fun _ => (hT.1 4 (by decide)).cpy (hS.1 4 (by decide)) _ _ _) (fun _ => hT.1 c hc)))))
theorem upG_self {G : Nat → Nat → Nat → Int} {i : Nat} : upG G i (G i) = G := by
  funext j
  unfold upG
  by_cases h : j = i
  · rw [if_pos h, h]
  · rw [if_neg h]
theorem wInspN0_a {S : Nat → Nat → Int} (h : aOK S) : ∀ n, aOK (wInspN0 S n) := by
  intro n
  induction n with
  | zero => exact h
  | succ n ih => exact wInsp0_a ih
theorem wInspN1_a {S : Nat → Nat → Int} (h : aOK S) : ∀ n, aOK (wInspN1 S n) := by
  intro n
  induction n with
  | zero => exact h
  | succ n ih => exact wInsp1_a ih
theorem wInspN2_a {S : Nat → Nat → Int} (h : aOK S) : ∀ n, aOK (wInspN2 S n) := by
  intro n
  induction n with
  | zero => exact h
  | succ n ih => exact wInsp2_a ih
/-- the numbers that a line shows -/
theorem ln_V {c : Int} {L N G : Nat → Int} {b : Int} (h : relB c L N G b) : ∀ k w : Int, 0 ≤ w → w ≤ 1 → -48 ≤ wNum N c k w ∧ wNum N c k w ≤ 60000 := by
  intro k w w0 w1
  unfold wNum
  refine el1 (Q := fun z => -48 ≤ z ∧ z ≤ 60000) (fun hc => ?_) (fun _ => ⟨by omega, by omega⟩)
  have r := h.2.2.2.2 k hc.1.1 hc.1.2
  rcases (show w = 0 ∨ w = 1 by omega) with e | e
  · subst e
    rcases r with ⟨_, n0, n1, _⟩ | ⟨_, _, _, _, n0, n1, _⟩
    · exact ⟨by omega, by omega⟩
    · exact ⟨by omega, by omega⟩
  · subst e
    rcases r with ⟨_, n0, n1, _⟩ | ⟨_, _, _, _, n0, n1, _⟩
    · exact ⟨by omega, by omega⟩
    · exact ⟨by omega, by omega⟩
theorem ln_G {c : Int} {L N G : Nat → Int} {b : Int} (h : relB c L N G b) {k w : Int} (k0 : 0 ≤ k) (k1 : k < G (15 + 26 * b + 0).toNat) (w1 : 1 ≤ w) (w2 : w ≤ 2) : -48 ≤ G (15 + 26 * b + (6 + 4 * k + w)).toNat ∧ G (15 + 26 * b + (6 + 4 * k + w)).toNat ≤ 60000 := by
  have c0 := (relB_c h).1
  have r := h.2.2.2.2 k k0 (by omega)
  rcases (show w = 1 ∨ w = 2 by omega) with e | e
  · subst e
    rcases r with ⟨_, _, _, _, n0, n1, _⟩ | ⟨_, e0, e1, _, n0, n1, _⟩
    · exact ⟨by omega, by omega⟩
    · exact ⟨by omega, by omega⟩
  · subst e
    rcases r with ⟨_, _, _, _, n0, n1, _⟩ | ⟨_, e0, e1, _, n0, n1, _⟩
    · exact ⟨by omega, by omega⟩
    · exact ⟨by omega, by omega⟩
theorem ln_P {P : Nat → Nat → Int} {G : Nat → Int} (h : relP P G) : ∀ b k w : Int, 0 ≤ b → b ≤ 2 → 0 ≤ k → k < G (15 + 26 * b + 0).toNat → 1 ≤ w → w ≤ 2 → -48 ≤ G (15 + 26 * b + (6 + 4 * k + w)).toNat ∧ G (15 + 26 * b + (6 + 4 * k + w)).toNat ≤ 60000 := by
  intro b k w b0 b2 k0 k1 w1 w2
  rcases (show b = 0 ∨ b = 1 ∨ b = 2 by omega) with e | e | e
  · subst e; exact ln_G h.1 k0 k1 w1 w2
  · subst e; exact ln_G h.2.1 k0 k1 w1 w2
  · subst e; exact ln_G h.2.2.1 k0 k1 w1 w2
theorem ln_W {c : Int} {L N G : Nat → Int} {b : Int} (h : relB c L N G b) {w : Int} (w1 : 1 ≤ w) (w2 : w ≤ 2) : -48 ≤ G (15 + 26 * b + w).toNat ∧ G (15 + 26 * b + w).toNat ≤ 60000 := by
  obtain ⟨l1, l2, -⟩ := h.2.2.1
  obtain ⟨m1, m2, -⟩ := h.2.2.2.1
  rcases (show w = 1 ∨ w = 2 by omega) with e | e
  · subst e; exact ⟨by omega, by omega⟩
  · subst e; exact ⟨by omega, by omega⟩
theorem ln_Q {P : Nat → Nat → Int} {G : Nat → Int} (h : relP P G) : ∀ b w : Int, 0 ≤ b → b ≤ 2 → 1 ≤ w → w ≤ 2 → -48 ≤ G (15 + 26 * b + w).toNat ∧ G (15 + 26 * b + w).toNat ≤ 60000 := by
  intro b w b0 b2 w1 w2
  rcases (show b = 0 ∨ b = 1 ∨ b = 2 by omega) with e | e | e
  · subst e; exact ln_W h.1 w1 w2
  · subst e; exact ln_W h.2.1 w1 w2
  · subst e; exact ln_W h.2.2.1 w1 w2
theorem ln_L {c : Int} {L N G : Nat → Int} {b : Int} (h : relB c L N G b) : (-48 ≤ L 1 ∧ L 1 ≤ 60000) ∧ (-48 ≤ L 2 ∧ L 2 ≤ 60000) := by
  obtain ⟨m1, m2, -⟩ := h.2.2.2.1
  exact ⟨⟨by omega, by omega⟩, ⟨by omega, by omega⟩⟩
theorem sh_V {c : Int} {N G : Nat → Int} (h : relS c N G) : ∀ k w : Int, 0 ≤ w → w ≤ 3 → ¬ w = 2 → -48 ≤ wNum N c k w ∧ wNum N c k w ≤ 60000 := by
  intro k w w0 w3 wn
  unfold wNum
  refine el1 (Q := fun z => -48 ≤ z ∧ z ≤ 60000) (fun hc => ?_) (fun _ => ⟨by omega, by omega⟩)
  obtain ⟨-, b0, b1, b2, b3⟩ := h.2.2 k hc.1.1 hc.1.2
  rcases (show w = 0 ∨ w = 1 ∨ w = 3 by omega) with e | e | e
  · subst e; exact ⟨by omega, by omega⟩
  · subst e; exact ⟨by omega, by omega⟩
  · subst e; exact ⟨by omega, by omega⟩
theorem sh_G {c : Int} {N G : Nat → Int} (h : relS c N G) : ∀ k w : Int, 0 ≤ k → k < G 10 → 0 ≤ w → w ≤ 3 → ¬ w = 2 → -48 ≤ G (93 + 4 * k + w).toNat ∧ G (93 + 4 * k + w).toNat ≤ 60000 := by
  intro k w k0 k1 w0 w3 wn
  have c0 := h.2.1
  obtain ⟨⟨e0, e1, e2, e3⟩, b0, b1, b2, b3⟩ := h.2.2 k k0 (by omega)
  rcases (show w = 0 ∨ w = 1 ∨ w = 3 by omega) with e | e | e
  · subst e; exact ⟨by omega, by omega⟩
  · subst e; exact ⟨by omega, by omega⟩
  · subst e; exact ⟨by omega, by omega⟩
def rowR (f : Nat → Int) : Prop := ∀ j : Nat, 0 ≤ f j ∧ f j < 65536
theorem rowR_up {f : Nat → Int} (h : rowR f) {i : Nat} {v : Int} (hv : 0 ≤ v ∧ v < 65536) : rowR (upZ f i v) := by
  intro j
  by_cases z : j = i
  · rw [z, upZ_s]; exact hv
  · rw [upZ_n z]; exact h j
theorem wr_r {s : (Nat → Int) × Int} (h : rowR s.1) {c : Int} (hc : 0 ≤ c ∧ c < 65536) : rowR (wr c s).1 := rowR_up h hc
theorem wstep_r {N : Nat → Int} {c k : Int} (hV : ∀ k w : Int, 0 ≤ w → w ≤ 1 → -48 ≤ wNum N c k w ∧ wNum N c k w ≤ 60000) {s : (Nat → Int) × Int} (h : rowR s.1) : rowR (wLineStep N c k s).1 := by
  have v0 := hV k 0 (by decide) (by decide)
  have v1 := hV k 1 (by decide) (by decide)
  unfold wLineStep
  exact el1 (Q := fun z : (Nat → Int) × Int => rowR z.1) (fun _ => el1 (Q := fun z : (Nat → Int) × Int => rowR z.1) (fun _ => wr_r (wr_r (wr_r h (by decide)) (by decide)) (by decide)) (fun _ => wr_r (wr_r (wr_r h (by decide)) ⟨by omega, by omega⟩) ⟨by omega, by omega⟩)) (fun _ => el1 (Q := fun z : (Nat → Int) × Int => rowR z.1) (fun _ => wr_r (wr_r h (by decide)) (by decide)) (fun _ => wr_r (wr_r h ⟨by omega, by omega⟩) ⟨by omega, by omega⟩))
theorem line_r {L N f : Nat → Int} {c : Int} (hf : rowR f) (hL : (-48 ≤ L 1 ∧ L 1 ≤ 60000) ∧ (-48 ≤ L 2 ∧ L 2 ≤ 60000)) (hV : ∀ k w : Int, 0 ≤ w → w ≤ 1 → -48 ≤ wNum N c k w ∧ wNum N c k w ≤ 60000) : rowR (wLineB L N c f).1 := by
  obtain ⟨l1, l2⟩ := hL
  have key : ∀ (n : Nat) (s : (Nat → Int) × Int), rowR s.1 → rowR (wLineN N c s n).1 := by
    intro n s hs
    induction n with
    | zero => exact hs
    | succ n ih => exact wstep_r hV ih
  unfold wLineB wLine0
  exact key _ _ (wr_r (wr_r (wr_r (wr_r hf ⟨by omega, by omega⟩) (by decide)) ⟨by omega, by omega⟩) (by decide))
theorem rline_r {c : Int} {L N G f : Nat → Int} {b : Int} (h : relB c L N G b) (hf : rowR f) : rowR (rLine G b f).1 := by
  have c0 := relB_c h
  have w1 := ln_W h (w := 1) (by decide) (by decide)
  have w2 := ln_W h (w := 2) (by decide) (by decide)
  have key : ∀ (n : Nat) (s : (Nat → Int) × Int), (n : Int) ≤ G (15 + 26 * b + 0).toNat → rowR s.1 → rowR (rLineN G b s n).1 := by
    intro n s
    induction n with
    | zero => intro _ hs; exact hs
    | succ n ih =>
      intro hn hs
      have q := ih (by omega) hs
      have v1 := ln_G h (k := (n : Int)) (w := 1) (by omega) (by omega) (by decide) (by decide)
      have v2 := ln_G h (k := (n : Int)) (w := 2) (by omega) (by omega) (by decide) (by decide)
      show rowR (rLineStep G b n (rLineN G b s n)).1
      unfold rLineStep
      exact el1 (Q := fun z : (Nat → Int) × Int => rowR z.1) (fun _ => el1 (Q := fun z : (Nat → Int) × Int => rowR z.1) (fun _ => wr_r (wr_r q (by decide)) (by decide)) (fun _ => wr_r (wr_r q ⟨by omega, by omega⟩) ⟨by omega, by omega⟩)) (fun _ => el1 (Q := fun z : (Nat → Int) × Int => rowR z.1) (fun _ => wr_r (wr_r (wr_r q (by decide)) (by decide)) (by decide)) (fun _ => wr_r (wr_r (wr_r q (by decide)) ⟨by omega, by omega⟩) ⟨by omega, by omega⟩))
  unfold rLine rLine0
  exact key _ _ (by omega) (wr_r (wr_r (wr_r (wr_r hf ⟨by omega, by omega⟩) (by decide)) ⟨by omega, by omega⟩) (by decide))
theorem shelf_r {N f : Nat → Int} {c : Int} (hf : rowR f) (hV : ∀ k w : Int, 0 ≤ w → w ≤ 3 → ¬ w = 2 → -48 ≤ wNum N c k w ∧ wNum N c k w ≤ 60000) : rowR (wShelfB N c f).1 := by
  have key : ∀ (n : Nat) (s : (Nat → Int) × Int), rowR s.1 → rowR (wShelfN N c s n).1 := by
    intro n s hs
    induction n with
    | zero => exact hs
    | succ n ih =>
      have v3 := hV (n : Int) 3 (by decide) (by decide) (by decide)
      show rowR (wShelfStep N c n (wShelfN N c s n)).1
      unfold wShelfStep
      exact wr_r (wr_r (wstep_r (fun k w w0 w1 => hV k w w0 (by omega) (by omega)) ih) (by decide)) ⟨by omega, by omega⟩
  unfold wShelfB
  exact key _ _ hf
theorem rshelf_r {c : Int} {N G f : Nat → Int} (h : relS c N G) (hf : rowR f) : rowR (rShelf G f).1 := by
  have hV := sh_G h
  have cr := h.1
  have c0 := h.2.1
  have key : ∀ (n : Nat) (s : (Nat → Int) × Int), (n : Int) ≤ G 10 → rowR s.1 → rowR (rShelfN G s n).1 := by
    intro n s
    induction n with
    | zero => intro _ hs; exact hs
    | succ n ih =>
      intro hn hs
      have q := ih (by omega) hs
      have v0 := hV (n : Int) 0 (by omega) (by omega) (by decide) (by decide) (by decide)
      have v1 := hV (n : Int) 1 (by omega) (by omega) (by decide) (by decide) (by decide)
      have v3 := hV (n : Int) 3 (by omega) (by omega) (by decide) (by decide) (by decide)
      show rowR (rShelfStep G n (rShelfN G s n)).1
      unfold rShelfStep
      exact el1 (Q := fun z : (Nat → Int) × Int => rowR z.1) (fun _ => wr_r (wr_r (wr_r (wr_r q ⟨by omega, by omega⟩) ⟨by omega, by omega⟩) (by decide)) ⟨by omega, by omega⟩) (fun _ => wr_r (wr_r (wr_r (wr_r (wr_r q (by decide)) ⟨by omega, by omega⟩) ⟨by omega, by omega⟩) (by decide)) ⟨by omega, by omega⟩)
  unfold rShelf
  exact key _ _ (by omega) hf
/-- the reference's scalars -/
theorem sc_keeps {K : Int} {S : Nat → Nat → Int} {b : Nat} (h : zBk (4 * K) (S 0)) (hK : 1000 ≤ K) (h5 : 0 ≤ S 0 5 ∧ S 0 5 ≤ 8) : zBk (4 * K) (sS0_0_X8_keeps S b) := by
  unfold sS0_0_X8_keeps
  repeat (first | exact h | refine el1 (Q := zBk (4 * K)) (fun _ => ?_) (fun _ => ?_) | refine zBk.up ?_ ⟨by omega, by omega⟩)
theorem sd_keeps {K : Int} {S : Nat → Nat → Int} {b : Nat} (h1 : zBk K (S 1)) (h2 : zBk K (S 2)) (h4 : zBk K (S 4)) : zBk K (sS0_2_X8_keeps S b) := by
  unfold sS0_2_X8_keeps
  exact el1 (Q := zBk K) (fun _ => el1 (Q := zBk K) (fun _ => el1 (Q := zBk K) (fun _ => h1.cpy (h2.shf _ _ _) _ _ _) (fun _ => h1.cpy h2 _ _ _)) (fun _ => h2)) (fun _ => el1 (Q := zBk K) (fun _ => el1 (Q := zBk K) (fun _ => h4.cpy (h2.shf _ _ _) _ _ _) (fun _ => h4.cpy h2 _ _ _)) (fun _ => h2))
theorem sc_make {K : Int} {R : Nat → Nat → Int} {p0 p1 p2 : Int} (h : zBk (4 * K) (R 0)) (g : zBk K (R 1)) (hK : 1000 ≤ K) (h5 : 0 ≤ R 0 5 ∧ R 0 5 ≤ 8) (h12 : 0 ≤ R 0 12 ∧ R 0 12 ≤ 60) : zBk (4 * K) (sS0_0_X8_make R p0 p1 p2) := by
  have g0 := g 0
  have g1 := g 1
  unfold sS0_0_X8_make
  repeat (first | exact h | exact sc_keeps (S := upA R 0 (upZ (upZ (R 0) 8 0) 7 0)) ((h.up ⟨by omega, by omega⟩).up ⟨by omega, by omega⟩) hK h5 | exact sc_keeps (S := R) h hK h5 | refine el1 (Q := zBk (4 * K)) (fun _ => ?_) (fun _ => ?_) | refine zBk.up ?_ ⟨by omega, by omega⟩)
theorem sd_make {K : Int} {R : Nat → Nat → Int} {p0 p1 p2 : Int} (h1 : zBk K (R 1)) (h2 : zBk K (R 2)) (h4 : zBk K (R 4)) : zBk K (sS0_2_X8_make R p0 p1 p2) := by
  unfold sS0_2_X8_make
  repeat (first | exact h2 | exact sd_keeps (S := upA R 0 (upZ (upZ (R 0) 8 0) 7 0)) h1 h2 h4 | exact sd_keeps (S := R) h1 h2 h4 | refine el1 (Q := zBk K) (fun _ => ?_) (fun _ => ?_))
theorem sc_blank {K : Int} {R : Nat → Nat → Int} {p0 : Int} (h : zBk (4 * K) (R 0)) (g : zBk K (R 1)) (hK : 1000 ≤ K) (h5 : 0 ≤ R 0 5 ∧ R 0 5 ≤ 8) (h12 : 0 ≤ R 0 12 ∧ R 0 12 ≤ 60) : zBk (4 * K) (sS0_0_X8_blank R p0) := by
  have g0 := g 0
  have g1 := g 1
  unfold sS0_0_X8_blank
  repeat (first | exact h | exact sc_keeps (S := upA R 0 (upZ (upZ (R 0) 8 0) 7 0)) ((h.up ⟨by omega, by omega⟩).up ⟨by omega, by omega⟩) hK h5 | exact sc_keeps (S := R) h hK h5 | refine el1 (Q := zBk (4 * K)) (fun _ => ?_) (fun _ => ?_) | refine zBk.up ?_ ⟨by omega, by omega⟩)
theorem sd_blank {K : Int} {R : Nat → Nat → Int} {p0 : Int} (h1 : zBk K (R 1)) (h2 : zBk K (R 2)) (h4 : zBk K (R 4)) : zBk K (sS0_2_X8_blank R p0) := by
  unfold sS0_2_X8_blank
  repeat (first | exact h2 | exact sd_keeps (S := upA R 0 (upZ (upZ (R 0) 8 0) 7 0)) h1 h2 h4 | exact sd_keeps (S := R) h1 h2 h4 | refine el1 (Q := zBk K) (fun _ => ?_) (fun _ => ?_))
theorem sc_tell {K : Int} {R : Nat → Nat → Int} {p0 p1 p2 : Int} (h : zBk (4 * K) (R 0)) (g : zBk K (R 1)) (hK : 1000 ≤ K) (h5 : 0 ≤ R 0 5 ∧ R 0 5 ≤ 8) (h12 : 0 ≤ R 0 12 ∧ R 0 12 ≤ 60) : zBk (4 * K) (sS0_0_X8_tell R p0 p1 p2) := by
  have g0 := g 0
  have g1 := g 1
  unfold sS0_0_X8_tell
  repeat (first | exact h | exact sc_keeps (S := upA R 0 (upZ (upZ (R 0) 8 0) 7 0)) ((h.up ⟨by omega, by omega⟩).up ⟨by omega, by omega⟩) hK h5 | exact sc_keeps (S := R) h hK h5 | refine el1 (Q := zBk (4 * K)) (fun _ => ?_) (fun _ => ?_) | refine zBk.up ?_ ⟨by omega, by omega⟩)
theorem sd_tell {K : Int} {R : Nat → Nat → Int} {p0 p1 p2 : Int} (h1 : zBk K (R 1)) (h2 : zBk K (R 2)) (h4 : zBk K (R 4)) : zBk K (sS0_2_X8_tell R p0 p1 p2) := by
  unfold sS0_2_X8_tell
  repeat (first | exact h2 | exact sd_keeps (S := upA R 0 (upZ (upZ (R 0) 8 0) 7 0)) h1 h2 h4 | exact sd_keeps (S := R) h1 h2 h4 | refine el1 (Q := zBk K) (fun _ => ?_) (fun _ => ?_))
theorem sc_inspect {K : Int} {R : Nat → Nat → Int} {p0 : Int} (h : zBk (4 * K) (R 0)) (g : zBk K (R 1)) (hK : 1000 ≤ K) (h5 : 0 ≤ R 0 5 ∧ R 0 5 ≤ 8) (h12 : 0 ≤ R 0 12 ∧ R 0 12 ≤ 60) : zBk (4 * K) (sS0_0_X8_inspect R p0) := by
  have g0 := g 0
  have g1 := g 1
  unfold sS0_0_X8_inspect
  repeat (first | exact h | exact sc_keeps (S := upA R 0 (upZ (upZ (R 0) 8 0) 7 0)) ((h.up ⟨by omega, by omega⟩).up ⟨by omega, by omega⟩) hK h5 | exact sc_keeps (S := R) h hK h5 | refine el1 (Q := zBk (4 * K)) (fun _ => ?_) (fun _ => ?_) | refine zBk.up ?_ ⟨by omega, by omega⟩)
theorem sd_inspect {K : Int} {R : Nat → Nat → Int} {p0 : Int} (h1 : zBk K (R 1)) (h2 : zBk K (R 2)) (h4 : zBk K (R 4)) : zBk K (sS0_2_X8_inspect R p0) := by
  unfold sS0_2_X8_inspect
  repeat (first | exact h2 | exact sd_keeps (S := upA R 0 (upZ (upZ (R 0) 8 0) 7 0)) h1 h2 h4 | exact sd_keeps (S := R) h1 h2 h4 | refine el1 (Q := zBk K) (fun _ => ?_) (fun _ => ?_))
theorem sc_hire {K : Int} {R : Nat → Nat → Int} (h : zBk (4 * K) (R 0)) (g : zBk K (R 1)) (hK : 1000 ≤ K) (h5 : 0 ≤ R 0 5 ∧ R 0 5 ≤ 8) (h12 : 0 ≤ R 0 12 ∧ R 0 12 ≤ 60) : zBk (4 * K) (sS0_0_X8_hire R) := by
  have g0 := g 0
  have g1 := g 1
  unfold sS0_0_X8_hire
  repeat (first | exact h | exact sc_keeps (S := upA R 0 (upZ (upZ (R 0) 8 0) 7 0)) ((h.up ⟨by omega, by omega⟩).up ⟨by omega, by omega⟩) hK h5 | exact sc_keeps (S := R) h hK h5 | refine el1 (Q := zBk (4 * K)) (fun _ => ?_) (fun _ => ?_) | refine zBk.up ?_ ⟨by omega, by omega⟩)
theorem sd_hire {K : Int} {R : Nat → Nat → Int} (h1 : zBk K (R 1)) (h2 : zBk K (R 2)) (h4 : zBk K (R 4)) : zBk K (sS0_2_X8_hire R) := by
  unfold sS0_2_X8_hire
  repeat (first | exact h2 | exact sd_keeps (S := upA R 0 (upZ (upZ (R 0) 8 0) 7 0)) h1 h2 h4 | exact sd_keeps (S := R) h1 h2 h4 | refine el1 (Q := zBk K) (fun _ => ?_) (fun _ => ?_))
theorem sc_leave {K : Int} {R : Nat → Nat → Int} {p0 : Int} (h : zBk (4 * K) (R 0)) (g : zBk K (R 1)) (hK : 1000 ≤ K) (h5 : 0 ≤ R 0 5 ∧ R 0 5 ≤ 8) (h12 : 0 ≤ R 0 12 ∧ R 0 12 ≤ 60) : zBk (4 * K) (sS0_0_X8_leave R p0) := by
  have g0 := g 0
  have g1 := g 1
  unfold sS0_0_X8_leave
  repeat (first | exact h | exact sc_keeps (S := upA R 0 (upZ (upZ (R 0) 8 0) 7 0)) ((h.up ⟨by omega, by omega⟩).up ⟨by omega, by omega⟩) hK h5 | exact sc_keeps (S := R) h hK h5 | refine el1 (Q := zBk (4 * K)) (fun _ => ?_) (fun _ => ?_) | refine zBk.up ?_ ⟨by omega, by omega⟩)
theorem sd_leave {K : Int} {R : Nat → Nat → Int} {p0 : Int} (h1 : zBk K (R 1)) (h2 : zBk K (R 2)) (h4 : zBk K (R 4)) : zBk K (sS0_2_X8_leave R p0) := by
  unfold sS0_2_X8_leave
  repeat (first | exact h2 | exact sd_keeps (S := upA R 0 (upZ (upZ (R 0) 8 0) 7 0)) h1 h2 h4 | exact sd_keeps (S := R) h1 h2 h4 | refine el1 (Q := zBk K) (fun _ => ?_) (fun _ => ?_))
theorem sc_sell {K : Int} {R : Nat → Nat → Int} {p0 : Int} (h : zBk (4 * K) (R 0)) (g : zBk K (R 1)) (hK : 1000 ≤ K) (h5 : 0 ≤ R 0 5 ∧ R 0 5 ≤ 8) (h12 : 0 ≤ R 0 12 ∧ R 0 12 ≤ 60) : zBk (4 * K) (sS0_0_X8_sell R p0) := by
  have g0 := g 0
  have g1 := g 1
  unfold sS0_0_X8_sell
  repeat (first | exact h | exact sc_keeps (S := upA R 0 (upZ (upZ (R 0) 8 0) 7 0)) ((h.up ⟨by omega, by omega⟩).up ⟨by omega, by omega⟩) hK h5 | exact sc_keeps (S := R) h hK h5 | refine el1 (Q := zBk (4 * K)) (fun _ => ?_) (fun _ => ?_) | refine zBk.up ?_ ⟨by omega, by omega⟩)
theorem sd_sell {K : Int} {R : Nat → Nat → Int} {p0 : Int} (h1 : zBk K (R 1)) (h2 : zBk K (R 2)) (h4 : zBk K (R 4)) : zBk K (sS0_2_X8_sell R p0) := by
  unfold sS0_2_X8_sell
  repeat (first | exact h2 | exact sd_keeps (S := upA R 0 (upZ (upZ (R 0) 8 0) 7 0)) h1 h2 h4 | exact sd_keeps (S := R) h1 h2 h4 | refine el1 (Q := zBk K) (fun _ => ?_) (fun _ => ?_))
theorem sc_repair {K : Int} {R : Nat → Nat → Int} {p0 : Int} (h : zBk (4 * K) (R 0)) (g : zBk K (R 1)) (hK : 1000 ≤ K) (h5 : 0 ≤ R 0 5 ∧ R 0 5 ≤ 8) (h12 : 0 ≤ R 0 12 ∧ R 0 12 ≤ 60) : zBk (4 * K) (sS0_0_X8_repair R p0) := by
  have g0 := g 0
  have g1 := g 1
  have gx := g (93 + 4 * p0 + 2).toNat
  unfold sS0_0_X8_repair
  repeat (first | exact h | exact sc_keeps (S := upA R 0 (upZ (upZ (R 0) 8 0) 7 0)) ((h.up ⟨by omega, by omega⟩).up ⟨by omega, by omega⟩) hK h5 | exact sc_keeps (S := R) h hK h5 | refine el1 (Q := zBk (4 * K)) (fun _ => ?_) (fun _ => ?_) | refine zBk.up ?_ ⟨by omega, by omega⟩)
theorem sd_repair {K : Int} {R : Nat → Nat → Int} {p0 : Int} (h1 : zBk K (R 1)) (h2 : zBk K (R 2)) (h4 : zBk K (R 4)) : zBk K (sS0_2_X8_repair R p0) := by
  unfold sS0_2_X8_repair
  repeat (first | exact h2 | exact sd_keeps (S := upA R 0 (upZ (upZ (R 0) 8 0) 7 0)) h1 h2 h4 | exact sd_keeps (S := R) h1 h2 h4 | refine el1 (Q := zBk K) (fun _ => ?_) (fun _ => ?_))
theorem sc_week {K : Int} {R : Nat → Nat → Int} (h : zBk (4 * K) (R 0)) (g : zBk K (R 1)) (hK : 1000 ≤ K) (h5 : 0 ≤ R 0 5 ∧ R 0 5 ≤ 8) (h12 : 0 ≤ R 0 12 ∧ R 0 12 ≤ 60) : zBk (4 * K) (sS0_0_X8_week R) := by
  have g0 := g 0
  have g1 := g 1
  unfold sS0_0_X8_week
  repeat (first | exact h | exact sc_keeps (S := upA R 0 (upZ (upZ (R 0) 8 0) 7 0)) ((h.up ⟨by omega, by omega⟩).up ⟨by omega, by omega⟩) hK h5 | exact sc_keeps (S := R) h hK h5 | refine el1 (Q := zBk (4 * K)) (fun _ => ?_) (fun _ => ?_) | refine zBk.up ?_ ⟨by omega, by omega⟩)
theorem sd_week {K : Int} {R : Nat → Nat → Int} (h1 : zBk K (R 1)) (h2 : zBk K (R 2)) (h4 : zBk K (R 4)) : zBk K (sS0_2_X8_week R) := by
  unfold sS0_2_X8_week
  repeat (first | exact h2 | exact sd_keeps (S := upA R 0 (upZ (upZ (R 0) 8 0) 7 0)) h1 h2 h4 | exact sd_keeps (S := R) h1 h2 h4 | refine el1 (Q := zBk K) (fun _ => ?_) (fun _ => ?_))
theorem sc_beltOf {K : Int} {R : Nat → Nat → Int} {p0 p1 : Int} (h : zBk (4 * K) (R 0)) (g : zBk K (R 1)) (hK : 1000 ≤ K) (h5 : 0 ≤ R 0 5 ∧ R 0 5 ≤ 8) (h12 : 0 ≤ R 0 12 ∧ R 0 12 ≤ 60) : zBk (4 * K) (sS0_0_X8_beltOf R p0 p1) := by
  have g0 := g 0
  have g1 := g 1
  unfold sS0_0_X8_beltOf
  repeat (first | exact h | exact sc_keeps (S := upA R 0 (upZ (upZ (R 0) 8 0) 7 0)) ((h.up ⟨by omega, by omega⟩).up ⟨by omega, by omega⟩) hK h5 | exact sc_keeps (S := R) h hK h5 | refine el1 (Q := zBk (4 * K)) (fun _ => ?_) (fun _ => ?_) | refine zBk.up ?_ ⟨by omega, by omega⟩)
theorem sc_carrier {K : Int} {R : Nat → Nat → Int} {p0 p1 p2 : Int} (h : zBk (4 * K) (R 0)) (g : zBk K (R 1)) (hK : 1000 ≤ K) (h5 : 0 ≤ R 0 5 ∧ R 0 5 ≤ 8) (h12 : 0 ≤ R 0 12 ∧ R 0 12 ≤ 60) : zBk (4 * K) (sS0_0_X8_carrier R p0 p1 p2) := by
  have g0 := g 0
  have g1 := g 1
  unfold sS0_0_X8_carrier
  repeat (first | exact h | exact sc_keeps (S := upA R 0 (upZ (upZ (R 0) 8 0) 7 0)) ((h.up ⟨by omega, by omega⟩).up ⟨by omega, by omega⟩) hK h5 | exact sc_keeps (S := R) h hK h5 | refine el1 (Q := zBk (4 * K)) (fun _ => ?_) (fun _ => ?_) | refine zBk.up ?_ ⟨by omega, by omega⟩)
theorem sc_yawns {K : Int} {R : Nat → Nat → Int} {p0 : Int} (h : zBk (4 * K) (R 0)) (g : zBk K (R 1)) (hK : 1000 ≤ K) (h5 : 0 ≤ R 0 5 ∧ R 0 5 ≤ 8) (h12 : 0 ≤ R 0 12 ∧ R 0 12 ≤ 60) : zBk (4 * K) (sS0_0_X8_yawns R p0) := by
  have g0 := g 0
  have g1 := g 1
  unfold sS0_0_X8_yawns
  repeat (first | exact h | exact sc_keeps (S := upA R 0 (upZ (upZ (R 0) 8 0) 7 0)) ((h.up ⟨by omega, by omega⟩).up ⟨by omega, by omega⟩) hK h5 | exact sc_keeps (S := R) h hK h5 | refine el1 (Q := zBk (4 * K)) (fun _ => ?_) (fun _ => ?_) | refine zBk.up ?_ ⟨by omega, by omega⟩)
theorem sc_passes {K : Int} {R : Nat → Nat → Int} {p0 p1 p2 : Int} (h : zBk (4 * K) (R 0)) (g : zBk K (R 1)) (hK : 1000 ≤ K) (h5 : 0 ≤ R 0 5 ∧ R 0 5 ≤ 8) (h12 : 0 ≤ R 0 12 ∧ R 0 12 ≤ 60) : zBk (4 * K) (sS0_0_X8_passes R p0 p1 p2) := by
  have g0 := g 0
  have g1 := g 1
  unfold sS0_0_X8_passes
  repeat (first | exact h | exact sc_keeps (S := upA R 0 (upZ (upZ (R 0) 8 0) 7 0)) ((h.up ⟨by omega, by omega⟩).up ⟨by omega, by omega⟩) hK h5 | exact sc_keeps (S := R) h hK h5 | refine el1 (Q := zBk (4 * K)) (fun _ => ?_) (fun _ => ?_) | refine zBk.up ?_ ⟨by omega, by omega⟩)
theorem sc_wouldFail {K : Int} {R : Nat → Nat → Int} {p0 p1 p2 : Int} (h : zBk (4 * K) (R 0)) (g : zBk K (R 1)) (hK : 1000 ≤ K) (h5 : 0 ≤ R 0 5 ∧ R 0 5 ≤ 8) (h12 : 0 ≤ R 0 12 ∧ R 0 12 ≤ 60) : zBk (4 * K) (sS0_0_X8_wouldFail R p0 p1 p2) := by
  have g0 := g 0
  have g1 := g 1
  unfold sS0_0_X8_wouldFail
  repeat (first | exact h | exact sc_keeps (S := upA R 0 (upZ (upZ (R 0) 8 0) 7 0)) ((h.up ⟨by omega, by omega⟩).up ⟨by omega, by omega⟩) hK h5 | exact sc_keeps (S := R) h hK h5 | refine el1 (Q := zBk (4 * K)) (fun _ => ?_) (fun _ => ?_) | refine zBk.up ?_ ⟨by omega, by omega⟩)
theorem sc_next {K : Int} {R : Nat → Nat → Int} (h : zBk (4 * K) (R 0)) (g : zBk K (R 1)) (hK : 1000 ≤ K) (h5 : 0 ≤ R 0 5 ∧ R 0 5 ≤ 8) (h12 : 0 ≤ R 0 12 ∧ R 0 12 ≤ 60) : zBk (4 * K) (sS0_0_X8_next R) := by
  have g0 := g 0
  have g1 := g 1
  unfold sS0_0_X8_next
  repeat (first | exact h | exact sc_keeps (S := upA R 0 (upZ (upZ (R 0) 8 0) 7 0)) ((h.up ⟨by omega, by omega⟩).up ⟨by omega, by omega⟩) hK h5 | exact sc_keeps (S := R) h hK h5 | refine el1 (Q := zBk (4 * K)) (fun _ => ?_) (fun _ => ?_) | refine zBk.up ?_ ⟨by omega, by omega⟩)
theorem sc_rejectOf {K : Int} {R : Nat → Nat → Int} {p0 p1 : Int} (h : zBk (4 * K) (R 0)) (g : zBk K (R 1)) (hK : 1000 ≤ K) (h5 : 0 ≤ R 0 5 ∧ R 0 5 ≤ 8) (h12 : 0 ≤ R 0 12 ∧ R 0 12 ≤ 60) : zBk (4 * K) (sS0_0_X8_rejectOf R p0 p1) := by
  have g0 := g 0
  have g1 := g 1
  unfold sS0_0_X8_rejectOf
  repeat (first | exact h | exact sc_keeps (S := upA R 0 (upZ (upZ (R 0) 8 0) 7 0)) ((h.up ⟨by omega, by omega⟩).up ⟨by omega, by omega⟩) hK h5 | exact sc_keeps (S := R) h hK h5 | refine el1 (Q := zBk (4 * K)) (fun _ => ?_) (fun _ => ?_) | refine zBk.up ?_ ⟨by omega, by omega⟩)
theorem sc_wouldStamp {K : Int} {R : Nat → Nat → Int} {p0 : Int} (h : zBk (4 * K) (R 0)) (g : zBk K (R 1)) (hK : 1000 ≤ K) (h5 : 0 ≤ R 0 5 ∧ R 0 5 ≤ 8) (h12 : 0 ≤ R 0 12 ∧ R 0 12 ≤ 60) : zBk (4 * K) (sS0_0_X8_wouldStamp R p0) := by
  have g0 := g 0
  have g1 := g 1
  unfold sS0_0_X8_wouldStamp
  repeat (first | exact h | exact sc_keeps (S := upA R 0 (upZ (upZ (R 0) 8 0) 7 0)) ((h.up ⟨by omega, by omega⟩).up ⟨by omega, by omega⟩) hK h5 | exact sc_keeps (S := R) h hK h5 | refine el1 (Q := zBk (4 * K)) (fun _ => ?_) (fun _ => ?_) | refine zBk.up ?_ ⟨by omega, by omega⟩)
theorem sc_leastGrey {K : Int} {R : Nat → Nat → Int} {p0 : Int} (h : zBk (4 * K) (R 0)) (g : zBk K (R 1)) (hK : 1000 ≤ K) (h5 : 0 ≤ R 0 5 ∧ R 0 5 ≤ 8) (h12 : 0 ≤ R 0 12 ∧ R 0 12 ≤ 60) : zBk (4 * K) (sS0_0_X8_leastGrey R p0) := by
  have g0 := g 0
  have g1 := g 1
  unfold sS0_0_X8_leastGrey
  repeat (first | exact h | exact sc_keeps (S := upA R 0 (upZ (upZ (R 0) 8 0) 7 0)) ((h.up ⟨by omega, by omega⟩).up ⟨by omega, by omega⟩) hK h5 | exact sc_keeps (S := R) h hK h5 | refine el1 (Q := zBk (4 * K)) (fun _ => ?_) (fun _ => ?_) | refine zBk.up ?_ ⟨by omega, by omega⟩)
theorem sc_best {K : Int} {R : Nat → Nat → Int} (h : zBk (4 * K) (R 0)) (g : zBk K (R 1)) (hK : 1000 ≤ K) (h5 : 0 ≤ R 0 5 ∧ R 0 5 ≤ 8) (h12 : 0 ≤ R 0 12 ∧ R 0 12 ≤ 60) : zBk (4 * K) (sS0_0_X8_best R) := by
  have g0 := g 0
  have g1 := g 1
  unfold sS0_0_X8_best
  repeat (first | exact h | exact sc_keeps (S := upA R 0 (upZ (upZ (R 0) 8 0) 7 0)) ((h.up ⟨by omega, by omega⟩).up ⟨by omega, by omega⟩) hK h5 | exact sc_keeps (S := R) h hK h5 | refine el1 (Q := zBk (4 * K)) (fun _ => ?_) (fun _ => ?_) | refine zBk.up ?_ ⟨by omega, by omega⟩)
theorem sc_wouldMend {K : Int} {R : Nat → Nat → Int} {p0 : Int} (h : zBk (4 * K) (R 0)) (g : zBk K (R 1)) (hK : 1000 ≤ K) (h5 : 0 ≤ R 0 5 ∧ R 0 5 ≤ 8) (h12 : 0 ≤ R 0 12 ∧ R 0 12 ≤ 60) : zBk (4 * K) (sS0_0_X8_wouldMend R p0) := by
  have g0 := g 0
  have g1 := g 1
  unfold sS0_0_X8_wouldMend
  repeat (first | exact h | exact sc_keeps (S := upA R 0 (upZ (upZ (R 0) 8 0) 7 0)) ((h.up ⟨by omega, by omega⟩).up ⟨by omega, by omega⟩) hK h5 | exact sc_keeps (S := R) h hK h5 | refine el1 (Q := zBk (4 * K)) (fun _ => ?_) (fun _ => ?_) | refine zBk.up ?_ ⟨by omega, by omega⟩)
theorem sc_character {K : Int} {R : Nat → Nat → Int} {p0 : Int} (h : zBk (4 * K) (R 0)) (g : zBk K (R 1)) (hK : 1000 ≤ K) (h5 : 0 ≤ R 0 5 ∧ R 0 5 ≤ 8) (h12 : 0 ≤ R 0 12 ∧ R 0 12 ≤ 60) : zBk (4 * K) (sS0_0_X8_character R p0) := by
  have g0 := g 0
  have g1 := g 1
  unfold sS0_0_X8_character
  repeat (first | exact h | exact sc_keeps (S := upA R 0 (upZ (upZ (R 0) 8 0) 7 0)) ((h.up ⟨by omega, by omega⟩).up ⟨by omega, by omega⟩) hK h5 | exact sc_keeps (S := R) h hK h5 | refine el1 (Q := zBk (4 * K)) (fun _ => ?_) (fun _ => ?_) | refine zBk.up ?_ ⟨by omega, by omega⟩)
theorem sc_append {K : Int} {R : Nat → Nat → Int} {p0 : Int} (h : zBk (4 * K) (R 0)) (g : zBk K (R 1)) (hK : 1000 ≤ K) (h5 : 0 ≤ R 0 5 ∧ R 0 5 ≤ 8) (h12 : 0 ≤ R 0 12 ∧ R 0 12 ≤ 60) : zBk (4 * K) (sS0_0_X8_append R p0) := by
  have g0 := g 0
  have g1 := g 1
  unfold sS0_0_X8_append
  repeat (first | exact h | exact sc_keeps (S := upA R 0 (upZ (upZ (R 0) 8 0) 7 0)) ((h.up ⟨by omega, by omega⟩).up ⟨by omega, by omega⟩) hK h5 | exact sc_keeps (S := R) h hK h5 | refine el1 (Q := zBk (4 * K)) (fun _ => ?_) (fun _ => ?_) | refine zBk.up ?_ ⟨by omega, by omega⟩)
theorem sc_refusal {K : Int} {R : Nat → Nat → Int} {p0 : Int} (h : zBk (4 * K) (R 0)) (g : zBk K (R 1)) (hK : 1000 ≤ K) (h5 : 0 ≤ R 0 5 ∧ R 0 5 ≤ 8) (h12 : 0 ≤ R 0 12 ∧ R 0 12 ≤ 60) : zBk (4 * K) (sS0_0_X8_refusal R p0) := by
  have g0 := g 0
  have g1 := g 1
  unfold sS0_0_X8_refusal
  repeat (first | exact h | exact sc_keeps (S := upA R 0 (upZ (upZ (R 0) 8 0) 7 0)) ((h.up ⟨by omega, by omega⟩).up ⟨by omega, by omega⟩) hK h5 | exact sc_keeps (S := R) h hK h5 | refine el1 (Q := zBk (4 * K)) (fun _ => ?_) (fun _ => ?_) | refine zBk.up ?_ ⟨by omega, by omega⟩)
theorem sc_account {K : Int} {R : Nat → Nat → Int} {p0 : Int} (h : zBk (4 * K) (R 0)) (g : zBk K (R 1)) (hK : 1000 ≤ K) (h5 : 0 ≤ R 0 5 ∧ R 0 5 ≤ 8) (h12 : 0 ≤ R 0 12 ∧ R 0 12 ≤ 60) : zBk (4 * K) (sS0_0_X8_account R p0) := by
  have g0 := g 0
  have g1 := g 1
  unfold sS0_0_X8_account
  repeat (first | exact h | exact sc_keeps (S := upA R 0 (upZ (upZ (R 0) 8 0) 7 0)) ((h.up ⟨by omega, by omega⟩).up ⟨by omega, by omega⟩) hK h5 | exact sc_keeps (S := R) h hK h5 | refine el1 (Q := zBk (4 * K)) (fun _ => ?_) (fun _ => ?_) | refine zBk.up ?_ ⟨by omega, by omega⟩)
theorem sc_isWell {K : Int} {R : Nat → Nat → Int} (h : zBk (4 * K) (R 0)) (g : zBk K (R 1)) (hK : 1000 ≤ K) (h5 : 0 ≤ R 0 5 ∧ R 0 5 ≤ 8) (h12 : 0 ≤ R 0 12 ∧ R 0 12 ≤ 60) : zBk (4 * K) (sS0_0_X8_isWell R) := by
  have g0 := g 0
  have g1 := g 1
  unfold sS0_0_X8_isWell
  repeat (first | exact h | exact sc_keeps (S := upA R 0 (upZ (upZ (R 0) 8 0) 7 0)) ((h.up ⟨by omega, by omega⟩).up ⟨by omega, by omega⟩) hK h5 | exact sc_keeps (S := R) h hK h5 | refine el1 (Q := zBk (4 * K)) (fun _ => ?_) (fun _ => ?_) | refine zBk.up ?_ ⟨by omega, by omega⟩)
theorem sc_undo {K : Int} {R : Nat → Nat → Int} (h : zBk (4 * K) (R 0)) (g : zBk K (R 1)) (hK : 1000 ≤ K) (h5 : 0 ≤ R 0 5 ∧ R 0 5 ≤ 8) (h12 : 0 ≤ R 0 12 ∧ R 0 12 ≤ 60) : zBk (4 * K) (sS0_0_X8_undo R) := by
  have g0 := g 0
  have g1 := g 1
  unfold sS0_0_X8_undo
  repeat (first | exact h | exact sc_keeps (S := upA R 0 (upZ (upZ (R 0) 8 0) 7 0)) ((h.up ⟨by omega, by omega⟩).up ⟨by omega, by omega⟩) hK h5 | exact sc_keeps (S := R) h hK h5 | refine el1 (Q := zBk (4 * K)) (fun _ => ?_) (fun _ => ?_) | refine zBk.up ?_ ⟨by omega, by omega⟩)
theorem sc_restore {K : Int} {R : Nat → Nat → Int} (h : zBk (4 * K) (R 0)) (g : zBk K (R 1)) (hK : 1000 ≤ K) (h5 : 0 ≤ R 0 5 ∧ R 0 5 ≤ 8) (h12 : 0 ≤ R 0 12 ∧ R 0 12 ≤ 60) : zBk (4 * K) (sS0_0_X8_restore R) := by
  have g0 := g 0
  have g1 := g 1
  unfold sS0_0_X8_restore
  repeat (first | exact h | exact sc_keeps (S := upA R 0 (upZ (upZ (R 0) 8 0) 7 0)) ((h.up ⟨by omega, by omega⟩).up ⟨by omega, by omega⟩) hK h5 | exact sc_keeps (S := R) h hK h5 | refine el1 (Q := zBk (4 * K)) (fun _ => ?_) (fun _ => ?_) | refine zBk.up ?_ ⟨by omega, by omega⟩)
theorem sc_fresh {K : Int} {R : Nat → Nat → Int} {p0 : Int} (h : zBk (4 * K) (R 0)) (g : zBk K (R 1)) (hK : 1000 ≤ K) (h5 : 0 ≤ R 0 5 ∧ R 0 5 ≤ 8) (h12 : 0 ≤ R 0 12 ∧ R 0 12 ≤ 60) : zBk (4 * K) (sS0_0_X8_fresh R p0) := by
  have key : ∀ (n : Nat) (x : Int), zBk (4 * K) (sS0_0_X8_fresh_L2 R p0 n x) := by
    intro n
    induction n with
    | zero => intro x j; show -(4 * K) ≤ (0 : Int) ∧ (0 : Int) ≤ 4 * K; exact ⟨by omega, by omega⟩
    | succ n ih =>
      intro x
      unfold sS0_0_X8_fresh_L2
      exact el1 (Q := zBk (4 * K)) (fun _ => h.up ⟨by omega, by omega⟩) (fun _ => el1 (Q := zBk (4 * K)) (fun _ => h.up ⟨by omega, by omega⟩) (fun _ => ih (x + 1)))
  exact key 5 0
theorem sc_greyest {K : Int} {R : Nat → Nat → Int} {p0 : Int} (h : zBk (4 * K) (R 0)) (g : zBk K (R 1)) (hK : 1000 ≤ K) (h5 : 0 ≤ R 0 5 ∧ R 0 5 ≤ 8) (h12 : 0 ≤ R 0 12 ∧ R 0 12 ≤ 60) : zBk (4 * K) (sS0_0_X8_greyest R p0) := by
  have key : ∀ (n : Nat) (x : Int), zBk (4 * K) (sS0_0_X8_greyest_L2 R p0 n x) := by
    intro n
    induction n with
    | zero => intro x j; show -(4 * K) ≤ (0 : Int) ∧ (0 : Int) ≤ 4 * K; exact ⟨by omega, by omega⟩
    | succ n ih =>
      intro x
      unfold sS0_0_X8_greyest_L2
      exact el1 (Q := zBk (4 * K)) (fun _ => h.up ⟨by omega, by omega⟩) (fun _ => el1 (Q := zBk (4 * K)) (fun _ => h.up ⟨by omega, by omega⟩) (fun _ => ih (x + 1)))
  exact key 4 0
theorem sc_line {K : Int} {R : Nat → Nat → Int} {p0 : Int} (h : zBk (4 * K) (R 0)) (hK : 1000 ≤ K) (hl : 0 ≤ p0 ∧ p0 ≤ 2 → 0 ≤ (rLine (R 1) p0 (R 6)).2 ∧ (rLine (R 1) p0 (R 6)).2 ≤ 60) : zBk (4 * K) (sS0_0_X8_line R p0) := by
  unfold sS0_0_X8_line
  refine el1 (Q := zBk (4 * K)) (fun c => ?_) (fun _ => ?_)
  · have l := hl c
    exact ((h.up ⟨by omega, by omega⟩).up ⟨by omega, by omega⟩).up ⟨by omega, by omega⟩
  · exact (h.up ⟨by omega, by omega⟩).up ⟨by omega, by omega⟩
/-- a change of scalars, place by place -/
theorem zBk_fr {K : Int} {f g : Nat → Int} (h : zBk K f) (hg : ∀ j, g j = f j ∨ (-K ≤ g j ∧ g j ≤ K)) : zBk K g := by
  intro j
  rcases hg j with e | e
  · rw [e]; exact h j
  · exact e
/-- no belt's inspections are negative -/
def nnP (S : Nat → Nat → Int) : Prop := 0 ≤ S 2 4 ∧ 0 ≤ S 5 4 ∧ 0 ≤ S 8 4
theorem ni_0 {S : Nat → Nat → Int} (h : 0 ≤ S 2 4) : 0 ≤ sS0_2_X5_inspectFront_0 S 4 := by
  unfold sS0_2_X5_inspectFront_0
  refine el1 (Q := fun f : Nat → Int => 0 ≤ f 4) (fun _ => h) (fun _ => ?_)
  unfold sS0_2_X5_inspectMonday_0
  repeat (first | exact h | refine el1 (Q := fun f : Nat → Int => 0 ≤ f 4) (fun _ => ?_) (fun _ => ?_) | (beta_reduce; (repeat (first | rw [upZ_s] | rw [upZ_n (by decide)])); omega))
theorem nc_0 {P : Nat → Nat → Int} {c p1 p2 p3 : Int} (h : 0 ≤ P 2 4) : 0 ≤ wCarry P c p1 p2 p3 2 4 := by
  show 0 ≤ sS0_2_X5_carryOut P c p1 p2 p3 4
  unfold sS0_2_X5_carryOut
  repeat (first | exact h | exact ni_0 h | refine el1 (Q := fun f : Nat → Int => 0 ≤ f 4) (fun _ => ?_) (fun _ => ?_) | (beta_reduce; (repeat (first | rw [upZ_s] | rw [upZ_n (by decide)])); omega))
theorem ni_1 {S : Nat → Nat → Int} (h : 0 ≤ S 5 4) : 0 ≤ sS0_5_X5_inspectFront_1 S 4 := by
  unfold sS0_5_X5_inspectFront_1
  refine el1 (Q := fun f : Nat → Int => 0 ≤ f 4) (fun _ => h) (fun _ => ?_)
  unfold sS0_5_X5_inspectMonday_1
  repeat (first | exact h | refine el1 (Q := fun f : Nat → Int => 0 ≤ f 4) (fun _ => ?_) (fun _ => ?_) | (beta_reduce; (repeat (first | rw [upZ_s] | rw [upZ_n (by decide)])); omega))
theorem nc_1 {P : Nat → Nat → Int} {c p1 p2 p3 : Int} (h : 0 ≤ P 5 4) : 0 ≤ wCarry P c p1 p2 p3 5 4 := by
  show 0 ≤ sS0_5_X5_carryOut P c p1 p2 p3 4
  unfold sS0_5_X5_carryOut
  repeat (first | exact h | exact ni_1 h | refine el1 (Q := fun f : Nat → Int => 0 ≤ f 4) (fun _ => ?_) (fun _ => ?_) | (beta_reduce; (repeat (first | rw [upZ_s] | rw [upZ_n (by decide)])); omega))
theorem ni_2 {S : Nat → Nat → Int} (h : 0 ≤ S 8 4) : 0 ≤ sS0_8_X5_inspectFront_2 S 4 := by
  unfold sS0_8_X5_inspectFront_2
  refine el1 (Q := fun f : Nat → Int => 0 ≤ f 4) (fun _ => h) (fun _ => ?_)
  unfold sS0_8_X5_inspectMonday_2
  repeat (first | exact h | refine el1 (Q := fun f : Nat → Int => 0 ≤ f 4) (fun _ => ?_) (fun _ => ?_) | (beta_reduce; (repeat (first | rw [upZ_s] | rw [upZ_n (by decide)])); omega))
theorem nc_2 {P : Nat → Nat → Int} {c p1 p2 p3 : Int} (h : 0 ≤ P 8 4) : 0 ≤ wCarry P c p1 p2 p3 8 4 := by
  show 0 ≤ sS0_8_X5_carryOut P c p1 p2 p3 4
  unfold sS0_8_X5_carryOut
  repeat (first | exact h | exact ni_2 h | refine el1 (Q := fun f : Nat → Int => 0 ≤ f 4) (fun _ => ?_) (fun _ => ?_) | (beta_reduce; (repeat (first | rw [upZ_s] | rw [upZ_n (by decide)])); omega))
theorem nn_carry {P : Nat → Nat → Int} {c p1 p2 p3 : Int} (h : nnP P) : nnP (wCarry P c p1 p2 p3) := ⟨nc_0 h.1, nc_1 h.2.1, nc_2 h.2.2⟩
theorem nn_copy {S P : Nat → Nat → Int} (h : nnP P) : nnP (wCopy S P) := h
theorem nn_tPl {I : Nat → Int} {P : Nat → Nat → Int} (h : nnP P) : ∀ n, nnP (tPl I P n) := by
  intro n
  induction n with
  | zero => exact h
  | succ n ih =>
    rcases Classical.em (iNums (iSign I n) = -2) with z | z
    · rw [tPl_z z]; exact ih
    · rw [tPl_o z]; exact nn_carry ih
theorem nq_up {G : Nat → Nat → Nat → Int} {P : Nat → Nat → Int} {i0 : Nat} (g : ∀ i, i < 8 → nnP (G i)) (h : nnP P) : ∀ i, i < 8 → nnP (upG G i0 (wCopy (G i0) P) i) := by
  intro i hi
  unfold upG
  by_cases z : i = i0
  · rw [if_pos z]; exact nn_copy h
  · rw [if_neg z]; exact g i hi
def bA (K : Int) (F P T B N : Nat → Nat → Int) (Gs : Nat → Nat → Nat → Int) (L R : Nat → Nat → Int) : Prop :=
  (1000 ≤ K ∧ K ≤ 320000) ∧ pK K P ∧ aOK T ∧ pK K B ∧ pK K N ∧ (∀ i, i < 8 → pK K (Gs i)) ∧ zBk (4 * K) (R 0) ∧ zBk K (R 1) ∧ zBk K (R 2) ∧ zBk K (R 3) ∧ zBk K (R 4) ∧ rowR (R 5) ∧ rowR (R 6) ∧ zBk 70000 (R 7) ∧ rowR (L 1) ∧ (0 ≤ F 0 9 ∧ F 0 9 ≤ 5) ∧ (∀ b : Int, 0 ≤ b → b ≤ 2 → 0 ≤ R 3 (15 + 26 * b + 0).toNat ∧ R 3 (15 + 26 * b + 0).toNat ≤ 5) ∧ (nnP P ∧ nnP N ∧ ∀ i, i < 8 → nnP (Gs i))
theorem cpy_row {f g : Nat → Int} (b : Int) (b0 : 0 ≤ b) (b2 : b ≤ 2) : cpyZ f g 0 0 125 (15 + 26 * b + 0).toNat = f (15 + 26 * b + 0).toNat := by
  rw [cpyZ_in (by omega) (by omega)]
  exact congrArg f (by omega)
theorem bA_i {K : Int} {F P T B N : Nat → Nat → Int} {Gs : Nat → Nat → Nat → Int} {L R : Nat → Nat → Int} (hK : 1000 ≤ K ∧ K ≤ 320000) (p : pK K P) (t : aOK T) (b : pK K B) (n : pK K N) (g : ∀ i, i < 8 → pK K (Gs i)) (r0 : zBk (4 * K) (R 0)) (r1 : zBk K (R 1)) (r2 : zBk K (R 2)) (r3 : zBk K (R 3)) (r4 : zBk K (R 4)) (r5 : rowR (R 5)) (r6 : rowR (R 6)) (r7 : zBk 70000 (R 7)) (l : rowR (L 1)) (f : 0 ≤ F 0 9 ∧ F 0 9 ≤ 5) (c : ∀ b : Int, 0 ≤ b → b ≤ 2 → 0 ≤ R 3 (15 + 26 * b + 0).toNat ∧ R 3 (15 + 26 * b + 0).toNat ≤ 5) (q : nnP P ∧ nnP N ∧ ∀ i, i < 8 → nnP (Gs i)) : bA K F P T B N Gs L R := ⟨hK, p, t, b, n, g, r0, r1, r2, r3, r4, r5, r6, r7, l, f, c, q⟩
/-- the whole invariant -/
def Iv (K : Int) (F P T B N Hs : Nat → Nat → Int) (Gs : Nat → Nat → Nat → Int) (I L R : Nat → Nat → Int) : Prop := relA F P N Hs Gs I L R ∧ bA K F P T B N Gs L R
section IVA
variable {K : Int} {F P T B N Hs : Nat → Nat → Int} {Gs : Nat → Nat → Nat → Int} {I L R : Nat → Nat → Int}
theorem iv_p (h : Iv K F P T B N Hs Gs I L R) : pOK P := h.2.2.1.mono (by have := h.2.1; omega)
theorem iv_t (h : Iv K F P T B N Hs Gs I L R) : aOK T := h.2.2.2.1
theorem iv_b (h : Iv K F P T B N Hs Gs I L R) : aOK B := pOK_a (h.2.2.2.2.1.mono (by have := h.2.1; omega))
theorem iv_n (h : Iv K F P T B N Hs Gs I L R) : pK K N := h.2.2.2.2.2.1
theorem iv_g (h : Iv K F P T B N Hs Gs I L R) : ∀ i, i < 8 → pK K (Gs i) := h.2.2.2.2.2.2.1
theorem iv_r0 (h : Iv K F P T B N Hs Gs I L R) : zBk (4 * K) (R 0) := h.2.2.2.2.2.2.2.1
theorem iv_r1 (h : Iv K F P T B N Hs Gs I L R) : zBk K (R 1) := h.2.2.2.2.2.2.2.2.1
theorem iv_r5 (h : Iv K F P T B N Hs Gs I L R) : rowR (R 5) := h.2.2.2.2.2.2.2.2.2.2.2.2.1
theorem iv_r6 (h : Iv K F P T B N Hs Gs I L R) : rowR (R 6) := h.2.2.2.2.2.2.2.2.2.2.2.2.2.1
theorem iv_r7 (h : Iv K F P T B N Hs Gs I L R) : zBk 70000 (R 7) := h.2.2.2.2.2.2.2.2.2.2.2.2.2.2.1
theorem iv_l (h : Iv K F P T B N Hs Gs I L R) : rowR (L 1) := h.2.2.2.2.2.2.2.2.2.2.2.2.2.2.2.1
theorem iv_f (h : Iv K F P T B N Hs Gs I L R) : 0 ≤ F 0 9 ∧ F 0 9 ≤ 5 := h.2.2.2.2.2.2.2.2.2.2.2.2.2.2.2.2.1
theorem iv_B (h : Iv K F P T B N Hs Gs I L R) : zBf (R 1) := (iv_r1 h).f (by have := h.2.1; omega)
theorem iv_B0 (h : Iv K F P T B N Hs Gs I L R) : zBf (R 0) := (iv_r0 h).f (by have := h.2.1; omega)
theorem iv_B5 (h : Iv K F P T B N Hs Gs I L R) : zBf (R 5) := fun j => by have := iv_r5 h j; exact ⟨by omega, by omega⟩
theorem iv_T (h : Iv K F P T B N Hs Gs I L R) : zBt (R 1) := (iv_r1 h).t (by have := h.2.1; omega)
theorem iv_T9 (h : Iv K F P T B N Hs Gs I L R) : zBk 900000 (R 1) := (iv_r1 h).mono (by have := h.2.1; omega)
theorem iv_C (h : Iv K F P T B N Hs Gs I L R) : ∀ b : Int, 0 ≤ b → b ≤ 2 → 0 ≤ R 1 (15 + 26 * b + 0).toNat ∧ R 1 (15 + 26 * b + 0).toNat ≤ 5 := relP_C h.1.1
theorem iv_I (h : Iv K F P T B N Hs Gs I L R) : 0 ≤ R 1 9 ∧ R 1 9 ≤ 4 := relP_I h.1.1
theorem iv_F (h : Iv K F P T B N Hs Gs I L R) : 0 ≤ R 1 10 ∧ R 1 10 ≤ 8 := relP_F h.1.1
theorem iv_7 (h : Iv K F P T B N Hs Gs I L R) : -1000000 ≤ R 1 7 ∧ R 1 7 ≤ 1000000 := by have := iv_r1 h 7; have := h.2.1; exact ⟨by omega, by omega⟩
theorem iv_hn (h : Iv K F P T B N Hs Gs I L R) : 0 ≤ Hs 0 2 ∧ Hs 0 2 ≤ 8 := h.1.2.1.2.1
theorem iv_ha (h : Iv K F P T B N Hs Gs I L R) : 0 ≤ Hs 0 1 ∧ Hs 0 1 < 8 := h.1.2.1.1
theorem iv_i (h : Iv K F P T B N Hs Gs I L R) : ∃ i0 : Nat, i0 < 8 ∧ Hs 0 1 = (i0 : Int) := ⟨(Hs 0 1).toNat, by have := iv_ha h; omega, by have := iv_ha h; omega⟩
theorem iv_5 (h : Iv K F P T B N Hs Gs I L R) : 0 ≤ R 0 5 ∧ R 0 5 ≤ 8 := by have := iv_hn h; have := h.1.2.2.1; exact ⟨by omega, by omega⟩
theorem iv_w (h : Iv K F P T B N Hs Gs I L R) : R 0 6 = 0 ∨ R 0 6 = 1 := Or.inl h.1.2.2.2.1
theorem iv_4 (h : Iv K F P T B N Hs Gs I L R) : (F 0 7 = 0 ∧ R 0 4 = 0) ∨ (F 0 7 = 1 ∧ R 0 4 = 1) := by
  rcases h.1.2.2.2.2.1 with z | z
  · exact Or.inl z
  · exact Or.inr ⟨z.1, z.2.1⟩
theorem iv_I0 (h : Iv K F P T B N Hs Gs I L R) : 0 ≤ I 0 1 ∧ I 0 1 ≤ 60 := h.1.2.2.2.2.2.2.2.1.1
theorem iv_I1 (h : Iv K F P T B N Hs Gs I L R) : ∀ j : Nat, 0 ≤ I 1 j ∧ I 1 j < 65536 := h.1.2.2.2.2.2.2.2.1.2.2.2
theorem iv_12 (h : Iv K F P T B N Hs Gs I L R) : 0 ≤ R 0 12 ∧ R 0 12 ≤ 60 := by have := iv_I0 h; have := h.1.2.2.2.2.2.2.2.1.2.1; exact ⟨by omega, by omega⟩
theorem iv_L0 (h : Iv K F P T B N Hs Gs I L R) : 0 ≤ L 0 1 ∧ L 0 1 ≤ 39 := h.1.2.2.2.2.2.2.2.2.1
theorem iv_15 (h : Iv K F P T B N Hs Gs I L R) : 0 ≤ R 0 15 ∧ R 0 15 ≤ 60 := by have := iv_L0 h; have := h.1.2.2.2.2.2.2.2.2.2.1; exact ⟨by omega, by omega⟩
end IVA
