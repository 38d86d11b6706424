/-! what always holds of both, and how far it may grow -/
theorem pK_copy {K : Int} {S T : Nat → Nat → Int} (hS : pK K S) (hT : pK K T) : pK K (wCopy S T) := by
  refine ⟨fun c hc => ?_, hT.2⟩
  unfold wCopy
  exact zBk_upA (fun _ => (hT.1 14 (by decide)).cpy (hS.1 14 (by decide)) _ _ _) (fun _ => zBk_upA (fun _ => (hT.1 12 (by decide)).cpy (hS.1 12 (by decide)) _ _ _) (fun _ => zBk_upA (fun _ => (hT.1 10 (by decide)).cpy (hS.1 10 (by decide)) _ _ _) (fun _ => zBk_upA (fun _ => (hT.1 7 (by decide)).cpy (hS.1 7 (by decide)) _ _ _) (fun _ => zBk_upA (fun _ => (hT.1 4 (by decide)).cpy (hS.1 4 (by decide)) _ _ _) (fun _ => hT.1 c hc)))))
theorem upG_self {G : Nat → Nat → Nat → Int} {i : Nat} : upG G i (G i) = G := by
  funext j
  unfold upG
  by_cases h : j = i
  · rw [if_pos h, h]
  · rw [if_neg h]
theorem wInspN0_a {S : Nat → Nat → Int} (h : aOK S) : ∀ n, aOK (wInspN0 S n) := by
  intro n
  induction n with
  | zero => exact h
  | succ n ih => exact wInsp0_a ih
theorem wInspN1_a {S : Nat → Nat → Int} (h : aOK S) : ∀ n, aOK (wInspN1 S n) := by
  intro n
  induction n with
  | zero => exact h
  | succ n ih => exact wInsp1_a ih
theorem wInspN2_a {S : Nat → Nat → Int} (h : aOK S) : ∀ n, aOK (wInspN2 S n) := by
  intro n
  induction n with
  | zero => exact h
  | succ n ih => exact wInsp2_a ih
/-- the numbers that a line shows -/
theorem ln_V {c : Int} {L N G : Nat → Int} {b : Int} (h : relB c L N G b) : ∀ k w : Int, 0 ≤ w → w ≤ 1 → -48 ≤ wNum N c k w ∧ wNum N c k w ≤ 60000 := by
  intro k w w0 w1
  unfold wNum
  refine el1 (Q := fun z => -48 ≤ z ∧ z ≤ 60000) (fun hc => ?_) (fun _ => ⟨by omega, by omega⟩)
  have r := h.2.2.2.2 k hc.1.1 hc.1.2
  rcases (show w = 0 ∨ w = 1 by omega) with e | e
  · subst e
    rcases r with ⟨_, n0, n1, _⟩ | ⟨_, _, _, _, n0, n1, _⟩
    · exact ⟨by omega, by omega⟩
    · exact ⟨by omega, by omega⟩
  · subst e
    rcases r with ⟨_, n0, n1, _⟩ | ⟨_, _, _, _, n0, n1, _⟩
    · exact ⟨by omega, by omega⟩
    · exact ⟨by omega, by omega⟩
theorem ln_G {c : Int} {L N G : Nat → Int} {b : Int} (h : relB c L N G b) {k w : Int} (k0 : 0 ≤ k) (k1 : k < G (15 + 26 * b + 0).toNat) (w1 : 1 ≤ w) (w2 : w ≤ 2) : -48 ≤ G (15 + 26 * b + (6 + 4 * k + w)).toNat ∧ G (15 + 26 * b + (6 + 4 * k + w)).toNat ≤ 60000 := by
  have c0 := (relB_c h).1
  have r := h.2.2.2.2 k k0 (by omega)
  rcases (show w = 1 ∨ w = 2 by omega) with e | e
  · subst e
    rcases r with ⟨_, _, _, _, n0, n1, _⟩ | ⟨_, e0, e1, _, n0, n1, _⟩
    · exact ⟨by omega, by omega⟩
    · exact ⟨by omega, by omega⟩
  · subst e
    rcases r with ⟨_, _, _, _, n0, n1, _⟩ | ⟨_, e0, e1, _, n0, n1, _⟩
    · exact ⟨by omega, by omega⟩
    · exact ⟨by omega, by omega⟩
theorem ln_P {P : Nat → Nat → Int} {G : Nat → Int} (h : relP P G) : ∀ b k w : Int, 0 ≤ b → b ≤ 2 → 0 ≤ k → k < G (15 + 26 * b + 0).toNat → 1 ≤ w → w ≤ 2 → -48 ≤ G (15 + 26 * b + (6 + 4 * k + w)).toNat ∧ G (15 + 26 * b + (6 + 4 * k + w)).toNat ≤ 60000 := by
  intro b k w b0 b2 k0 k1 w1 w2
  rcases (show b = 0 ∨ b = 1 ∨ b = 2 by omega) with e | e | e
  · subst e; exact ln_G h.1 k0 k1 w1 w2
  · subst e; exact ln_G h.2.1 k0 k1 w1 w2
  · subst e; exact ln_G h.2.2.1 k0 k1 w1 w2
theorem ln_W {c : Int} {L N G : Nat → Int} {b : Int} (h : relB c L N G b) {w : Int} (w1 : 1 ≤ w) (w2 : w ≤ 2) : -48 ≤ G (15 + 26 * b + w).toNat ∧ G (15 + 26 * b + w).toNat ≤ 60000 := by
  obtain ⟨l1, l2, -⟩ := h.2.2.1
  obtain ⟨m1, m2, -⟩ := h.2.2.2.1
  rcases (show w = 1 ∨ w = 2 by omega) with e | e
  · subst e; exact ⟨by omega, by omega⟩
  · subst e; exact ⟨by omega, by omega⟩
theorem ln_Q {P : Nat → Nat → Int} {G : Nat → Int} (h : relP P G) : ∀ b w : Int, 0 ≤ b → b ≤ 2 → 1 ≤ w → w ≤ 2 → -48 ≤ G (15 + 26 * b + w).toNat ∧ G (15 + 26 * b + w).toNat ≤ 60000 := by
  intro b w b0 b2 w1 w2
  rcases (show b = 0 ∨ b = 1 ∨ b = 2 by omega) with e | e | e
  · subst e; exact ln_W h.1 w1 w2
  · subst e; exact ln_W h.2.1 w1 w2
  · subst e; exact ln_W h.2.2.1 w1 w2
theorem ln_L {c : Int} {L N G : Nat → Int} {b : Int} (h : relB c L N G b) : (-48 ≤ L 1 ∧ L 1 ≤ 60000) ∧ (-48 ≤ L 2 ∧ L 2 ≤ 60000) := by
  obtain ⟨m1, m2, -⟩ := h.2.2.2.1
  exact ⟨⟨by omega, by omega⟩, ⟨by omega, by omega⟩⟩
theorem sh_V {c : Int} {N G : Nat → Int} (h : relS c N G) : ∀ k w : Int, 0 ≤ w → w ≤ 3 → ¬ w = 2 → -48 ≤ wNum N c k w ∧ wNum N c k w ≤ 60000 := by
  intro k w w0 w3 wn
  unfold wNum
  refine el1 (Q := fun z => -48 ≤ z ∧ z ≤ 60000) (fun hc => ?_) (fun _ => ⟨by omega, by omega⟩)
  obtain ⟨-, b0, b1, b2, b3⟩ := h.2.2 k hc.1.1 hc.1.2
  rcases (show w = 0 ∨ w = 1 ∨ w = 3 by omega) with e | e | e
  · subst e; exact ⟨by omega, by omega⟩
  · subst e; exact ⟨by omega, by omega⟩
  · subst e; exact ⟨by omega, by omega⟩
theorem sh_G {c : Int} {N G : Nat → Int} (h : relS c N G) : ∀ k w : Int, 0 ≤ k → k < G 10 → 0 ≤ w → w ≤ 3 → ¬ w = 2 → -48 ≤ G (93 + 4 * k + w).toNat ∧ G (93 + 4 * k + w).toNat ≤ 60000 := by
  intro k w k0 k1 w0 w3 wn
  have c0 := h.2.1
  obtain ⟨⟨e0, e1, e2, e3⟩, b0, b1, b2, b3⟩ := h.2.2 k k0 (by omega)
  rcases (show w = 0 ∨ w = 1 ∨ w = 3 by omega) with e | e | e
  · subst e; exact ⟨by omega, by omega⟩
  · subst e; exact ⟨by omega, by omega⟩
  · subst e; exact ⟨by omega, by omega⟩
def rowR (f : Nat → Int) : Prop := ∀ j : Nat, 0 ≤ f j ∧ f j < 65536
theorem rowR_up {f : Nat → Int} (h : rowR f) {i : Nat} {v : Int} (hv : 0 ≤ v ∧ v < 65536) : rowR (upZ f i v) := by
  intro j
  by_cases z : j = i
  · rw [z, upZ_s]; exact hv
  · rw [upZ_n z]; exact h j
theorem wr_r {s : (Nat → Int) × Int} (h : rowR s.1) {c : Int} (hc : 0 ≤ c ∧ c < 65536) : rowR (wr c s).1 := rowR_up h hc
theorem wstep_r {N : Nat → Int} {c k : Int} (hV : ∀ k w : Int, 0 ≤ w → w ≤ 1 → -48 ≤ wNum N c k w ∧ wNum N c k w ≤ 60000) {s : (Nat → Int) × Int} (h : rowR s.1) : rowR (wLineStep N c k s).1 := by
  have v0 := hV k 0 (by decide) (by decide)
  have v1 := hV k 1 (by decide) (by decide)
  unfold wLineStep
  exact el1 (Q := fun z : (Nat → Int) × Int => rowR z.1) (fun _ => el1 (Q := fun z : (Nat → Int) × Int => rowR z.1) (fun _ => wr_r (wr_r (wr_r h (by decide)) (by decide)) (by decide)) (fun _ => wr_r (wr_r (wr_r h (by decide)) ⟨by omega, by omega⟩) ⟨by omega, by omega⟩)) (fun _ => el1 (Q := fun z : (Nat → Int) × Int => rowR z.1) (fun _ => wr_r (wr_r h (by decide)) (by decide)) (fun _ => wr_r (wr_r h ⟨by omega, by omega⟩) ⟨by omega, by omega⟩))
theorem line_r {L N f : Nat → Int} {c : Int} (hf : rowR f) (hL : (-48 ≤ L 1 ∧ L 1 ≤ 60000) ∧ (-48 ≤ L 2 ∧ L 2 ≤ 60000)) (hV : ∀ k w : Int, 0 ≤ w → w ≤ 1 → -48 ≤ wNum N c k w ∧ wNum N c k w ≤ 60000) : rowR (wLineB L N c f).1 := by
  obtain ⟨l1, l2⟩ := hL
  have key : ∀ (n : Nat) (s : (Nat → Int) × Int), rowR s.1 → rowR (wLineN N c s n).1 := by
    intro n s hs
    induction n with
    | zero => exact hs
    | succ n ih => exact wstep_r hV ih
  unfold wLineB wLine0
  exact key _ _ (wr_r (wr_r (wr_r (wr_r hf ⟨by omega, by omega⟩) (by decide)) ⟨by omega, by omega⟩) (by decide))
theorem rline_r {c : Int} {L N G f : Nat → Int} {b : Int} (h : relB c L N G b) (hf : rowR f) : rowR (rLine G b f).1 := by
  have c0 := relB_c h
  have w1 := ln_W h (w := 1) (by decide) (by decide)
  have w2 := ln_W h (w := 2) (by decide) (by decide)
  have key : ∀ (n : Nat) (s : (Nat → Int) × Int), (n : Int) ≤ G (15 + 26 * b + 0).toNat → rowR s.1 → rowR (rLineN G b s n).1 := by
    intro n s
    induction n with
    | zero => intro _ hs; exact hs
    | succ n ih =>
      intro hn hs
      have q := ih (by omega) hs
      have v1 := ln_G h (k := (n : Int)) (w := 1) (by omega) (by omega) (by decide) (by decide)
      have v2 := ln_G h (k := (n : Int)) (w := 2) (by omega) (by omega) (by decide) (by decide)
      show rowR (rLineStep G b n (rLineN G b s n)).1
      unfold rLineStep
      exact el1 (Q := fun z : (Nat → Int) × Int => rowR z.1) (fun _ => el1 (Q := fun z : (Nat → Int) × Int => rowR z.1) (fun _ => wr_r (wr_r q (by decide)) (by decide)) (fun _ => wr_r (wr_r q ⟨by omega, by omega⟩) ⟨by omega, by omega⟩)) (fun _ => el1 (Q := fun z : (Nat → Int) × Int => rowR z.1) (fun _ => wr_r (wr_r (wr_r q (by decide)) (by decide)) (by decide)) (fun _ => wr_r (wr_r (wr_r q (by decide)) ⟨by omega, by omega⟩) ⟨by omega, by omega⟩))
  unfold rLine rLine0
  exact key _ _ (by omega) (wr_r (wr_r (wr_r (wr_r hf ⟨by omega, by omega⟩) (by decide)) ⟨by omega, by omega⟩) (by decide))
theorem shelf_r {N f : Nat → Int} {c : Int} (hf : rowR f) (hV : ∀ k w : Int, 0 ≤ w → w ≤ 3 → ¬ w = 2 → -48 ≤ wNum N c k w ∧ wNum N c k w ≤ 60000) : rowR (wShelfB N c f).1 := by
  have key : ∀ (n : Nat) (s : (Nat → Int) × Int), rowR s.1 → rowR (wShelfN N c s n).1 := by
    intro n s hs
    induction n with
    | zero => exact hs
    | succ n ih =>
      have v3 := hV (n : Int) 3 (by decide) (by decide) (by decide)
      show rowR (wShelfStep N c n (wShelfN N c s n)).1
      unfold wShelfStep
      exact wr_r (wr_r (wstep_r (fun k w w0 w1 => hV k w w0 (by omega) (by omega)) ih) (by decide)) ⟨by omega, by omega⟩
  unfold wShelfB
  exact key _ _ hf
theorem rshelf_r {c : Int} {N G f : Nat → Int} (h : relS c N G) (hf : rowR f) : rowR (rShelf G f).1 := by
  have hV := sh_G h
  have cr := h.1
  have c0 := h.2.1
  have key : ∀ (n : Nat) (s : (Nat → Int) × Int), (n : Int) ≤ G 10 → rowR s.1 → rowR (rShelfN G s n).1 := by
    intro n s
    induction n with
    | zero => intro _ hs; exact hs
    | succ n ih =>
      intro hn hs
      have q := ih (by omega) hs
      have v0 := hV (n : Int) 0 (by omega) (by omega) (by decide) (by decide) (by decide)
      have v1 := hV (n : Int) 1 (by omega) (by omega) (by decide) (by decide) (by decide)
      have v3 := hV (n : Int) 3 (by omega) (by omega) (by decide) (by decide) (by decide)
      show rowR (rShelfStep G n (rShelfN G s n)).1
      unfold rShelfStep
      exact el1 (Q := fun z : (Nat → Int) × Int => rowR z.1) (fun _ => wr_r (wr_r (wr_r (wr_r q ⟨by omega, by omega⟩) ⟨by omega, by omega⟩) (by decide)) ⟨by omega, by omega⟩) (fun _ => wr_r (wr_r (wr_r (wr_r (wr_r q (by decide)) ⟨by omega, by omega⟩) ⟨by omega, by omega⟩) (by decide)) ⟨by omega, by omega⟩)
  unfold rShelf
  exact key _ _ (by omega) hf
