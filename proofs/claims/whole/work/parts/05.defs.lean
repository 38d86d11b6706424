/-! pure words: sums, shifts, zeros, maps of a row of numbers -/
theorem upZ_s {f : Nat → Int} {k : Nat} {v : Int} : upZ f k v k = v := if_pos rfl
theorem upZ_n {f : Nat → Int} {k j : Nat} {v : Int} (h : j ≠ k) : upZ f k v j = f j := if_neg h
def sumZ (f : Nat → Int) : Nat → Int
  | 0 => 0
  | n + 1 => sumZ f n + f n
/-- G with the places lo .. hi - 1 taken from d places on -/
def shf (G : Nat → Int) (lo hi d : Nat) : Nat → Int := fun j => if lo ≤ j ∧ j < hi then G (j + d) else G j
theorem shf_in {G : Nat → Int} {lo hi d j : Nat} (h : lo ≤ j) (h2 : j < hi) : shf G lo hi d j = G (j + d) := if_pos ⟨h, h2⟩
theorem shf_out {G : Nat → Int} {lo hi d j : Nat} (h : ¬ (lo ≤ j ∧ j < hi)) : shf G lo hi d j = G j := if_neg h
theorem shf_0 {G : Nat → Int} {lo hi d : Nat} (h : hi ≤ lo) : shf G lo hi d = G := by
  funext j
  exact shf_out (by omega)
theorem shf_step {G : Nat → Int} {lo hi d : Nat} {v : Int} (h : lo ≤ hi) (hd : 0 < d) (hv : v = shf G lo hi d (hi + d)) : upZ (shf G lo hi d) hi v = shf G lo (hi + 1) d := by
  funext j
  by_cases q : j = hi
  · subst q
    rw [upZ_s, hv, shf_out (by omega), shf_in h (by omega)]
  · rw [upZ_n q]
    by_cases r : lo ≤ j ∧ j < hi
    · rw [shf_in r.1 r.2, shf_in r.1 (by omega)]
    · rw [shf_out r, shf_out (by omega)]
def zer (G : Nat → Int) (lo hi : Nat) : Nat → Int := fun j => if lo ≤ j ∧ j < hi then 0 else G j
theorem zer_in {G : Nat → Int} {lo hi j : Nat} (h : lo ≤ j) (h2 : j < hi) : zer G lo hi j = 0 := if_pos ⟨h, h2⟩
theorem zer_out {G : Nat → Int} {lo hi j : Nat} (h : ¬ (lo ≤ j ∧ j < hi)) : zer G lo hi j = G j := if_neg h
theorem zer_0 {G : Nat → Int} {lo hi : Nat} (h : hi ≤ lo) : zer G lo hi = G := by
  funext j
  exact zer_out (by omega)
theorem zer_step {G : Nat → Int} {lo hi : Nat} (h : lo ≤ hi) : upZ (zer G lo hi) hi 0 = zer G lo (hi + 1) := by
  funext j
  by_cases q : j = hi
  · subst q
    rw [upZ_s, zer_in h (by omega)]
  · rw [upZ_n q]
    by_cases r : lo ≤ j ∧ j < hi
    · rw [zer_in r.1 r.2, zer_in r.1 (by omega)]
    · rw [zer_out r, zer_out (by omega)]
def mapZ (h : Int → Int) (G : Nat → Int) (lo hi : Nat) : Nat → Int := fun j => if lo ≤ j ∧ j < hi then h (G j) else G j
theorem mapZ_in {h : Int → Int} {G : Nat → Int} {lo hi j : Nat} (a : lo ≤ j) (b : j < hi) : mapZ h G lo hi j = h (G j) := if_pos ⟨a, b⟩
theorem mapZ_out {h : Int → Int} {G : Nat → Int} {lo hi j : Nat} (a : ¬ (lo ≤ j ∧ j < hi)) : mapZ h G lo hi j = G j := if_neg a
theorem mapZ_0 {h : Int → Int} {G : Nat → Int} {lo hi : Nat} (a : hi ≤ lo) : mapZ h G lo hi = G := by
  funext j
  exact mapZ_out (by omega)
theorem mapZ_step {h : Int → Int} {G : Nat → Int} {lo hi : Nat} {v : Int} (a : lo ≤ hi) (hv : v = h (mapZ h G lo hi hi)) : upZ (mapZ h G lo hi) hi v = mapZ h G lo (hi + 1) := by
  funext j
  by_cases q : j = hi
  · subst q
    rw [upZ_s, hv, mapZ_out (by omega), mapZ_in a (by omega)]
  · rw [upZ_n q]
    by_cases r : lo ≤ j ∧ j < hi
    · rw [mapZ_in r.1 r.2, mapZ_in r.1 (by omega)]
    · rw [mapZ_out r, mapZ_out (by omega)]
theorem cpyZ_0 {f g : Nat → Int} {sp dp : Nat} : cpyZ f g sp dp 0 = g := by
  funext j
  exact if_neg (by omega)
theorem cpyZ_in {f g : Nat → Int} {sp dp n j : Nat} (h : dp ≤ j) (h2 : j < dp + n) : cpyZ f g sp dp n j = f (sp + (j - dp)) := if_pos ⟨h, h2⟩
theorem cpyZ_out {f g : Nat → Int} {sp dp n j : Nat} (h : ¬ (dp ≤ j ∧ j < dp + n)) : cpyZ f g sp dp n j = g j := if_neg h
theorem cpyZ_step {f g : Nat → Int} {sp dp n : Nat} : upZ (cpyZ f g sp dp n) (dp + n) (f (sp + n)) = cpyZ f g sp dp (n + 1) := by
  funext j
  by_cases q : j = dp + n
  · subst q
    rw [upZ_s, cpyZ_in (by omega) (by omega), show dp + n - dp = n by omega]
  · rw [upZ_n q]
    by_cases r : dp ≤ j ∧ j < dp + n
    · rw [cpyZ_in r.1 r.2, cpyZ_in r.1 (by omega)]
    · rw [cpyZ_out r, cpyZ_out (by omega)]
theorem zBf.shf {G : Nat → Int} (h : zBf G) (lo hi d : Nat) : zBf (shf G lo hi d) := by
  intro j
  by_cases r : lo ≤ j ∧ j < hi
  · rw [shf_in r.1 r.2]; exact h _
  · rw [shf_out r]; exact h _
theorem zBf.zer {G : Nat → Int} (h : zBf G) (lo hi : Nat) : zBf (zer G lo hi) := by
  intro j
  by_cases r : lo ≤ j ∧ j < hi
  · rw [zer_in r.1 r.2]; omega
  · rw [zer_out r]; exact h _
theorem zBf.cpy {f g : Nat → Int} (hf : zBf f) (hg : zBf g) (sp dp n : Nat) : zBf (cpyZ f g sp dp n) := by
  intro j
  by_cases r : dp ≤ j ∧ j < dp + n
  · rw [cpyZ_in r.1 r.2]; exact hf _
  · rw [cpyZ_out r]; exact hg _
theorem zBf.map {h : Int → Int} {G : Nat → Int} (hG : zBf G) (hh : ∀ z, -1000000000 ≤ z ∧ z ≤ 1000000000 → -1000000000 ≤ h z ∧ h z ≤ 1000000000) (lo hi : Nat) : zBf (mapZ h G lo hi) := by
  intro j
  by_cases r : lo ≤ j ∧ j < hi
  · rw [mapZ_in r.1 r.2]; exact hh _ (hG _)
  · rw [mapZ_out r]; exact hG _
theorem zBf.zif {P : Prop} {f g : Nat → Int} (hf : zBf f) (hg : zBf g) : zBf (zif P f g) := by
  by_cases h : P
  · rw [zif_pos h]; exact hf
  · rw [zif_neg h]; exact hg
