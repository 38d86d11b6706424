def bA (K : Int) (F P T B N : Nat → Nat → Int) (Gs : Nat → Nat → Nat → Int) (L R : Nat → Nat → Int) : Prop :=
  (1000 ≤ K ∧ K ≤ 320000) ∧ pK K P ∧ aOK T ∧ pK K B ∧ pK K N ∧ (∀ i, i < 8 → pK K (Gs i)) ∧ zBk (4 * K) (R 0) ∧ zBk K (R 1) ∧ zBk K (R 2) ∧ zBk K (R 3) ∧ zBk K (R 4) ∧ rowR (R 5) ∧ rowR (R 6) ∧ zBk 70000 (R 7) ∧ rowR (L 1) ∧ (0 ≤ F 0 9 ∧ F 0 9 ≤ 5) ∧ (∀ b : Int, 0 ≤ b → b ≤ 2 → 0 ≤ R 3 (15 + 26 * b + 0).toNat ∧ R 3 (15 + 26 * b + 0).toNat ≤ 5) ∧ (nnP P ∧ nnP N ∧ ∀ i, i < 8 → nnP (Gs i))
theorem cpy_row {f g : Nat → Int} (b : Int) (b0 : 0 ≤ b) (b2 : b ≤ 2) : cpyZ f g 0 0 125 (15 + 26 * b + 0).toNat = f (15 + 26 * b + 0).toNat := by
  rw [cpyZ_in (by omega) (by omega)]
  exact congrArg f (by omega)
theorem bA_i {K : Int} {F P T B N : Nat → Nat → Int} {Gs : Nat → Nat → Nat → Int} {L R : Nat → Nat → Int} (hK : 1000 ≤ K ∧ K ≤ 320000) (p : pK K P) (t : aOK T) (b : pK K B) (n : pK K N) (g : ∀ i, i < 8 → pK K (Gs i)) (r0 : zBk (4 * K) (R 0)) (r1 : zBk K (R 1)) (r2 : zBk K (R 2)) (r3 : zBk K (R 3)) (r4 : zBk K (R 4)) (r5 : rowR (R 5)) (r6 : rowR (R 6)) (r7 : zBk 70000 (R 7)) (l : rowR (L 1)) (f : 0 ≤ F 0 9 ∧ F 0 9 ≤ 5) (c : ∀ b : Int, 0 ≤ b → b ≤ 2 → 0 ≤ R 3 (15 + 26 * b + 0).toNat ∧ R 3 (15 + 26 * b + 0).toNat ≤ 5) (q : nnP P ∧ nnP N ∧ ∀ i, i < 8 → nnP (Gs i)) : bA K F P T B N Gs L R := ⟨hK, p, t, b, n, g, r0, r1, r2, r3, r4, r5, r6, r7, l, f, c, q⟩
/-- the whole invariant -/
def Iv (K : Int) (F P T B N Hs : Nat → Nat → Int) (Gs : Nat → Nat → Nat → Int) (I L R : Nat → Nat → Int) : Prop := relA F P N Hs Gs I L R ∧ bA K F P T B N Gs L R
section IVA
variable {K : Int} {F P T B N Hs : Nat → Nat → Int} {Gs : Nat → Nat → Nat → Int} {I L R : Nat → Nat → Int}
theorem iv_p (h : Iv K F P T B N Hs Gs I L R) : pOK P := h.2.2.1.mono (by have := h.2.1; omega)
theorem iv_t (h : Iv K F P T B N Hs Gs I L R) : aOK T := h.2.2.2.1
theorem iv_b (h : Iv K F P T B N Hs Gs I L R) : aOK B := pOK_a (h.2.2.2.2.1.mono (by have := h.2.1; omega))
theorem iv_n (h : Iv K F P T B N Hs Gs I L R) : pK K N := h.2.2.2.2.2.1
theorem iv_g (h : Iv K F P T B N Hs Gs I L R) : ∀ i, i < 8 → pK K (Gs i) := h.2.2.2.2.2.2.1
theorem iv_r0 (h : Iv K F P T B N Hs Gs I L R) : zBk (4 * K) (R 0) := h.2.2.2.2.2.2.2.1
theorem iv_r1 (h : Iv K F P T B N Hs Gs I L R) : zBk K (R 1) := h.2.2.2.2.2.2.2.2.1
theorem iv_r5 (h : Iv K F P T B N Hs Gs I L R) : rowR (R 5) := h.2.2.2.2.2.2.2.2.2.2.2.2.1
theorem iv_r6 (h : Iv K F P T B N Hs Gs I L R) : rowR (R 6) := h.2.2.2.2.2.2.2.2.2.2.2.2.2.1
theorem iv_r7 (h : Iv K F P T B N Hs Gs I L R) : zBk 70000 (R 7) := h.2.2.2.2.2.2.2.2.2.2.2.2.2.2.1
theorem iv_l (h : Iv K F P T B N Hs Gs I L R) : rowR (L 1) := h.2.2.2.2.2.2.2.2.2.2.2.2.2.2.2.1
theorem iv_f (h : Iv K F P T B N Hs Gs I L R) : 0 ≤ F 0 9 ∧ F 0 9 ≤ 5 := h.2.2.2.2.2.2.2.2.2.2.2.2.2.2.2.2.1
theorem iv_B (h : Iv K F P T B N Hs Gs I L R) : zBf (R 1) := (iv_r1 h).f (by have := h.2.1; omega)
theorem iv_B0 (h : Iv K F P T B N Hs Gs I L R) : zBf (R 0) := (iv_r0 h).f (by have := h.2.1; omega)
theorem iv_B5 (h : Iv K F P T B N Hs Gs I L R) : zBf (R 5) := fun j => by have := iv_r5 h j; exact ⟨by omega, by omega⟩
theorem iv_T (h : Iv K F P T B N Hs Gs I L R) : zBt (R 1) := (iv_r1 h).t (by have := h.2.1; omega)
theorem iv_T9 (h : Iv K F P T B N Hs Gs I L R) : zBk 900000 (R 1) := (iv_r1 h).mono (by have := h.2.1; omega)
theorem iv_C (h : Iv K F P T B N Hs Gs I L R) : ∀ b : Int, 0 ≤ b → b ≤ 2 → 0 ≤ R 1 (15 + 26 * b + 0).toNat ∧ R 1 (15 + 26 * b + 0).toNat ≤ 5 := relP_C h.1.1
theorem iv_I (h : Iv K F P T B N Hs Gs I L R) : 0 ≤ R 1 9 ∧ R 1 9 ≤ 4 := relP_I h.1.1
theorem iv_F (h : Iv K F P T B N Hs Gs I L R) : 0 ≤ R 1 10 ∧ R 1 10 ≤ 8 := relP_F h.1.1
theorem iv_7 (h : Iv K F P T B N Hs Gs I L R) : -1000000 ≤ R 1 7 ∧ R 1 7 ≤ 1000000 := by have := iv_r1 h 7; have := h.2.1; exact ⟨by omega, by omega⟩
theorem iv_hn (h : Iv K F P T B N Hs Gs I L R) : 0 ≤ Hs 0 2 ∧ Hs 0 2 ≤ 8 := h.1.2.1.2.1
theorem iv_ha (h : Iv K F P T B N Hs Gs I L R) : 0 ≤ Hs 0 1 ∧ Hs 0 1 < 8 := h.1.2.1.1
theorem iv_i (h : Iv K F P T B N Hs Gs I L R) : ∃ i0 : Nat, i0 < 8 ∧ Hs 0 1 = (i0 : Int) := ⟨(Hs 0 1).toNat, by have := iv_ha h; omega, by have := iv_ha h; omega⟩
theorem iv_5 (h : Iv K F P T B N Hs Gs I L R) : 0 ≤ R 0 5 ∧ R 0 5 ≤ 8 := by have := iv_hn h; have := h.1.2.2.1; exact ⟨by omega, by omega⟩
theorem iv_w (h : Iv K F P T B N Hs Gs I L R) : R 0 6 = 0 ∨ R 0 6 = 1 := Or.inl h.1.2.2.2.1
theorem iv_4 (h : Iv K F P T B N Hs Gs I L R) : (F 0 7 = 0 ∧ R 0 4 = 0) ∨ (F 0 7 = 1 ∧ R 0 4 = 1) := by
  rcases h.1.2.2.2.2.1 with z | z
  · exact Or.inl z
  · exact Or.inr ⟨z.1, z.2.1⟩
theorem iv_I0 (h : Iv K F P T B N Hs Gs I L R) : 0 ≤ I 0 1 ∧ I 0 1 ≤ 60 := h.1.2.2.2.2.2.2.2.1.1
theorem iv_I1 (h : Iv K F P T B N Hs Gs I L R) : ∀ j : Nat, 0 ≤ I 1 j ∧ I 1 j < 65536 := h.1.2.2.2.2.2.2.2.1.2.2.2
theorem iv_12 (h : Iv K F P T B N Hs Gs I L R) : 0 ≤ R 0 12 ∧ R 0 12 ≤ 60 := by have := iv_I0 h; have := h.1.2.2.2.2.2.2.2.1.2.1; exact ⟨by omega, by omega⟩
theorem iv_L0 (h : Iv K F P T B N Hs Gs I L R) : 0 ≤ L 0 1 ∧ L 0 1 ≤ 39 := h.1.2.2.2.2.2.2.2.2.1
theorem iv_15 (h : Iv K F P T B N Hs Gs I L R) : 0 ≤ R 0 15 ∧ R 0 15 ≤ 60 := by have := iv_L0 h; have := h.1.2.2.2.2.2.2.2.2.2.1; exact ⟨by omega, by omega⟩
end IVA
