theorem el1 {α1 : Type} {Q : α1 → Prop} {P : Prop} {a1 b1 : α1} (h : P → Q a1) (g : ¬ P → Q b1) : Q (zif P a1 b1) := by
  by_cases p : P
  · rw [zif_pos p]; exact h p
  · rw [zif_neg p]; exact g p
theorem el2 {α1 α2 : Type} {Q : α1 → α2 → Prop} {P : Prop} {a1 b1 : α1} {a2 b2 : α2} (h : P → Q a1 a2) (g : ¬ P → Q b1 b2) : Q (zif P a1 b1) (zif P a2 b2) := by
  by_cases p : P
  · rw [zif_pos p, zif_pos p]; exact h p
  · rw [zif_neg p, zif_neg p]; exact g p
theorem el3 {α1 α2 α3 : Type} {Q : α1 → α2 → α3 → Prop} {P : Prop} {a1 b1 : α1} {a2 b2 : α2} {a3 b3 : α3} (h : P → Q a1 a2 a3) (g : ¬ P → Q b1 b2 b3) : Q (zif P a1 b1) (zif P a2 b2) (zif P a3 b3) := by
  by_cases p : P
  · rw [zif_pos p, zif_pos p, zif_pos p]; exact h p
  · rw [zif_neg p, zif_neg p, zif_neg p]; exact g p
theorem el4 {α1 α2 α3 α4 : Type} {Q : α1 → α2 → α3 → α4 → Prop} {P : Prop} {a1 b1 : α1} {a2 b2 : α2} {a3 b3 : α3} {a4 b4 : α4} (h : P → Q a1 a2 a3 a4) (g : ¬ P → Q b1 b2 b3 b4) : Q (zif P a1 b1) (zif P a2 b2) (zif P a3 b3) (zif P a4 b4) := by
  by_cases p : P
  · rw [zif_pos p, zif_pos p, zif_pos p, zif_pos p]; exact h p
  · rw [zif_neg p, zif_neg p, zif_neg p, zif_neg p]; exact g p
theorem el5 {α1 α2 α3 α4 α5 : Type} {Q : α1 → α2 → α3 → α4 → α5 → Prop} {P : Prop} {a1 b1 : α1} {a2 b2 : α2} {a3 b3 : α3} {a4 b4 : α4} {a5 b5 : α5} (h : P → Q a1 a2 a3 a4 a5) (g : ¬ P → Q b1 b2 b3 b4 b5) : Q (zif P a1 b1) (zif P a2 b2) (zif P a3 b3) (zif P a4 b4) (zif P a5 b5) := by
  by_cases p : P
  · rw [zif_pos p, zif_pos p, zif_pos p, zif_pos p, zif_pos p]; exact h p
  · rw [zif_neg p, zif_neg p, zif_neg p, zif_neg p, zif_neg p]; exact g p
theorem el6 {α1 α2 α3 α4 α5 α6 : Type} {Q : α1 → α2 → α3 → α4 → α5 → α6 → Prop} {P : Prop} {a1 b1 : α1} {a2 b2 : α2} {a3 b3 : α3} {a4 b4 : α4} {a5 b5 : α5} {a6 b6 : α6} (h : P → Q a1 a2 a3 a4 a5 a6) (g : ¬ P → Q b1 b2 b3 b4 b5 b6) : Q (zif P a1 b1) (zif P a2 b2) (zif P a3 b3) (zif P a4 b4) (zif P a5 b5) (zif P a6 b6) := by
  by_cases p : P
  · rw [zif_pos p, zif_pos p, zif_pos p, zif_pos p, zif_pos p, zif_pos p]; exact h p
  · rw [zif_neg p, zif_neg p, zif_neg p, zif_neg p, zif_neg p, zif_neg p]; exact g p
theorem upZ_upZ {f : Nat → Int} {k : Nat} {v w : Int} : upZ (upZ f k v) k w = upZ f k w := by
  funext j
  by_cases h : j = k
  · subst h; rw [upZ_s, upZ_s]
  · rw [upZ_n h, upZ_n h, upZ_n h]
theorem upZ_g {F C : Nat → Int} {k : Nat} {u v : Int} (h : F = upZ C k u) : upZ F k v = upZ C k v := by rw [h, upZ_upZ]
/-- what stands at a place of the input, or -1 behind its end -/
noncomputable def rHr (I : Nat → Int) (len at_ : Int) : Int := zif (len ≤ at_) (-1) (I at_.toNat)
theorem rHr_or {I : Nat → Int} {len at_ : Int} : rHr I len at_ = -1 ∨ at_ < len := by
  by_cases h : len ≤ at_
  · left; exact zif_pos h
  · right; omega
theorem rHr_bd {I : Nat → Int} (hI : zBf I) {len at_ : Int} : -1000000000 ≤ rHr I len at_ ∧ rHr I len at_ ≤ 1000000000 := by
  unfold rHr
  by_cases h : len ≤ at_
  · rw [zif_pos h]; omega
  · rw [zif_neg h]; exact hI _
/-- a sign more of a line -/
def wr (c : Int) (s : (Nat → Int) × Int) : (Nat → Int) × Int := (upZ s.1 s.2.toNat c, s.2 + 1)
noncomputable def rLineStep (G : Nat → Int) (b k : Int) (s : (Nat → Int) × Int) : (Nat → Int) × Int :=
  zif (k ≤ 0) (zif (G (15 + 26 * b + (6 + 4 * k + 0)).toNat = 1) (wr 45 (wr 45 s)) (wr (48 + G (15 + 26 * b + (6 + 4 * k + 2)).toNat) (wr (48 + G (15 + 26 * b + (6 + 4 * k + 1)).toNat) s)))
    (zif (G (15 + 26 * b + (6 + 4 * k + 0)).toNat = 1) (wr 45 (wr 45 (wr 32 s))) (wr (48 + G (15 + 26 * b + (6 + 4 * k + 2)).toNat) (wr (48 + G (15 + 26 * b + (6 + 4 * k + 1)).toNat) (wr 32 s))))
noncomputable def rLineN (G : Nat → Int) (b : Int) (s : (Nat → Int) × Int) : Nat → (Nat → Int) × Int
  | 0 => s
  | n + 1 => rLineStep G b n (rLineN G b s n)
def rLine0 (G : Nat → Int) (b : Int) (f : Nat → Int) : (Nat → Int) × Int := wr 58 (wr (48 + G (15 + 26 * b + 2).toNat) (wr 47 (wr (48 + G (15 + 26 * b + 1).toNat) (f, 0))))
noncomputable def rLine (G : Nat → Int) (b : Int) (f : Nat → Int) : (Nat → Int) × Int := rLineN G b (rLine0 G b f) (G (15 + 26 * b + 0).toNat).toNat
theorem rLineN_s {G : Nat → Int} {b x : Int} {s : (Nat → Int) × Int} (hx : 0 ≤ x) : rLineN G b s (x + 1).toNat = rLineStep G b x (rLineN G b s x.toNat) := by
  rw [show (x + 1).toNat = x.toNat + 1 by omega]
  show rLineStep G b (x.toNat : Int) _ = _
  rw [show ((x.toNat : Nat) : Int) = x by omega]
noncomputable def rShelfStep (G : Nat → Int) (k : Int) (s : (Nat → Int) × Int) : (Nat → Int) × Int :=
  zif (k ≤ 0) (wr (48 + G (93 + 4 * k + 3).toNat) (wr 33 (wr (48 + G (93 + 4 * k + 1).toNat) (wr (48 + G (93 + 4 * k + 0).toNat) s))))
    (wr (48 + G (93 + 4 * k + 3).toNat) (wr 33 (wr (48 + G (93 + 4 * k + 1).toNat) (wr (48 + G (93 + 4 * k + 0).toNat) (wr 32 s)))))
noncomputable def rShelfN (G : Nat → Int) (s : (Nat → Int) × Int) : Nat → (Nat → Int) × Int
  | 0 => s
  | n + 1 => rShelfStep G n (rShelfN G s n)
noncomputable def rShelf (G : Nat → Int) (f : Nat → Int) : (Nat → Int) × Int := rShelfN G (f, 0) (G 10).toNat
theorem rShelfN_s {G : Nat → Int} {x : Int} {s : (Nat → Int) × Int} (hx : 0 ≤ x) : rShelfN G s (x + 1).toNat = rShelfStep G x (rShelfN G s x.toNat) := by
  rw [show (x + 1).toNat = x.toNat + 1 by omega]
  show rShelfStep G (x.toNat : Int) _ = _
  rw [show ((x.toNat : Nat) : Int) = x by omega]
/-- a sum over the three belts -/
noncomputable def rSumT (G : Nat → Int) (w b : Int) : Int := zif (w = 0) (G (15 + 26 * b + 0).toNat) (zif (w = 1) (rBlanks G b) (zif (w = 2) (rGreys G b) (G (15 + 26 * b + 4).toNat)))
noncomputable def rSummed (G : Nat → Int) (w : Int) : Int := sumI (fun b => rSumT G w b) 3
theorem rBlanks_bd {G : Nat → Int} (h : zBt G) {b : Int} (hc : 0 ≤ rCnt G b ∧ rCnt G b ≤ 5) : -5000000 ≤ rBlanks G b ∧ rBlanks G b ≤ 5000000 := by
  have a := sumI_bd (f := fun k => rCar G b k 0) (M := 1000000) (x := rCnt G b) hc.1 (fun k _ _ => h _)
  unfold rBlanks
  omega
theorem rSummed_bd {G : Nat → Int} (h : zBt G) (hC : ∀ b : Int, 0 ≤ b → b ≤ 2 → 0 ≤ G (15 + 26 * b + 0).toNat ∧ G (15 + 26 * b + 0).toNat ≤ 5) (w : Int) : -15000000 ≤ rSummed G w ∧ rSummed G w ≤ 15000000 := by
  have a := sumI_bd (f := fun b => rSumT G w b) (M := 5000000) (x := 3) (by omega) (fun k h1 h2 => by
    have c := hC k h1 (by omega)
    have g1 := rBlanks_bd h (b := k) c
    have g2 := rGreys_bd h (b := k) c
    have g3 := h (15 + 26 * k + 4).toNat
    show -5000000 ≤ rSumT G w k ∧ rSumT G w k ≤ 5000000
    unfold rSumT
    refine el1 (Q := fun z => -5000000 ≤ z ∧ z ≤ 5000000) (fun _ => by omega) (fun _ => el1 (Q := fun z => -5000000 ≤ z ∧ z ≤ 5000000) (fun _ => g1) (fun _ => el1 (Q := fun z => -5000000 ≤ z ∧ z ≤ 5000000) (fun _ => g2) (fun _ => by omega))))
  unfold rSummed
  omega

