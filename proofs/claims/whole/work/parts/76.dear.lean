/-! the dearest first: what a row of prices brings -/
def dW (q : Int → Int) (d k : Int) : Int := max 1 (q k - d)
noncomputable def dR (q : Int → Int) (d c k : Int) : Int := sumI (fun o => zif (dW q d k < dW q d o ∨ (dW q d o = dW q d k ∧ o < k)) 1 0) c
noncomputable def dG (q : Int → Int) (d c : Int) : Int := sumI (fun k => max 1 (q k - d - dR q d c k)) c
def dCut (f : Int → Int) (m : Int) : Int → Int := fun k => if k < m then f k else f (k + 1)
theorem sumI_cut {f : Int → Int} {c m : Int} (m0 : 0 ≤ m) (m1 : m < c) : sumI f c = f m + sumI (dCut f m) (c - 1) := by
  have key : ∀ n : Nat, m < (n : Int) + 1 → sumZ (fun k => f (k : Int)) (n + 1) = f m + sumZ (fun k => dCut f m (k : Int)) n := by
    intro n
    induction n with
    | zero =>
      intro h
      have e : m = 0 := by omega
      subst e
      show 0 + f ((0 : Nat) : Int) = f 0 + 0
      rw [Int.zero_add, Int.add_zero]
      rfl
    | succ n ih =>
      intro h
      have e1 : sumZ (fun k => f (k : Int)) (n + 1 + 1) = sumZ (fun k => f (k : Int)) (n + 1) + f ((n + 1 : Nat) : Int) := rfl
      have e2 : sumZ (fun k => dCut f m (k : Int)) (n + 1) = sumZ (fun k => dCut f m (k : Int)) n + dCut f m (n : Int) := rfl
      by_cases z : m < (n : Int) + 1
      · have i := ih z
        have c1 : dCut f m (n : Int) = f ((n + 1 : Nat) : Int) := by
          unfold dCut
          rw [if_neg (by omega)]
          congr 1
        rw [e1, e2, i, c1]
        omega
      · have em : m = ((n + 1 : Nat) : Int) := by omega
        have cg : sumI (dCut f m) ((n + 1 : Nat) : Int) = sumI f ((n + 1 : Nat) : Int) := sumI_cg (fun k k0 k1 => by unfold dCut; rw [if_pos (by omega)])
        have u1 : sumI (dCut f m) ((n + 1 : Nat) : Int) = sumZ (fun k => dCut f m (k : Int)) (n + 1) := rfl
        have u2 : sumI f ((n + 1 : Nat) : Int) = sumZ (fun k => f (k : Int)) (n + 1) := rfl
        rw [e1, ← u1, cg, u2, ← em]
        omega
  have k := key (c - 1).toNat (by omega)
  have e : sumI f c = sumZ (fun k => f (k : Int)) ((c - 1).toNat + 1) := by
    unfold sumI
    rw [show c.toNat = (c - 1).toNat + 1 by omega]
  rw [e, k]
  rfl
theorem dR_0 (q : Int → Int) (d c k : Int) (hc : 0 ≤ c) : 0 ≤ dR q d c k := (sumI_01 hc (fun _ _ _ => zif_01 _)).1
/-- the first dearest sold, the rest bring what they brought -/
theorem dG_step {q : Int → Int} {d c m : Int} (h : (0 ≤ m ∧ m < c) ∧ ∀ o : Int, 0 ≤ o → o < c → dW q d o < dW q d m ∨ (dW q d o = dW q d m ∧ m ≤ o)) : dG q d c = dW q d m + dG (dCut q m) (d + 1) (c - 1) := by
  obtain ⟨⟨m0, m1⟩, hm⟩ := h
  unfold dG
  rw [sumI_cut m0 m1]
  have rm : dR q d c m = 0 := sumI_zero (by omega) (fun o o0 o1 => zif_neg (by have := hm o o0 o1; omega))
  rw [rm]
  have e0 : max 1 (q m - d - 0) = dW q d m := by unfold dW; omega
  rw [e0]
  congr 1
  refine sumI_cg (fun k k0 k1 => ?_)
  have key : ∀ t : Int, 0 ≤ t → t < c → t ≠ m → (dCut q m k = q t) → ((k < m ∧ t = k) ∨ (¬ k < m ∧ t = k + 1)) → max 1 (q t - d - dR q d c t) = max 1 (dCut q m k - (d + 1) - dR (dCut q m) (d + 1) (c - 1) k) := by
    intro t t0 t1 tm hq ht
    have hmt := hm t t0 t1
    have hr : dR q d c t = 1 + dR (dCut q m) d (c - 1) k := by
      unfold dR
      rw [sumI_cut (f := fun o => zif (dW q d t < dW q d o ∨ (dW q d o = dW q d t ∧ o < t)) 1 0) m0 m1]
      have a : zif (dW q d t < dW q d m ∨ (dW q d m = dW q d t ∧ m < t)) (1 : Int) 0 = 1 := zif_pos (by omega)
      rw [a]
      congr 1
      refine sumI_cg (fun o o0 o1 => ?_)
      have wt : dW (dCut q m) d k = dW q d t := by unfold dW; rw [hq]
      rw [wt]
      by_cases z : o < m
      · have wo : dW (dCut q m) d o = dW q d o := by unfold dW dCut; rw [if_pos z]
        rw [wo]
        show (if o < m then _ else _) = _
        rw [if_pos z]
        exact zif_iff (by constructor <;> intro y <;> omega)
      · have wo : dW (dCut q m) d o = dW q d (o + 1) := by unfold dW dCut; rw [if_neg z]
        rw [wo]
        show (if o < m then _ else _) = _
        rw [if_neg z]
        exact zif_iff (by constructor <;> intro y <;> omega)
    have r0 := dR_0 (dCut q m) d (c - 1) k (by omega)
    have r1 := dR_0 (dCut q m) (d + 1) (c - 1) k (by omega)
    rw [hr, hq]
    by_cases y : q t - d - 1 ≤ 1
    · omega
    · have er : dR (dCut q m) d (c - 1) k = dR (dCut q m) (d + 1) (c - 1) k := by
        refine sumI_cg (fun o o0 o1 => zif_iff ?_)
        unfold dW
        rw [hq]
        constructor <;> intro x <;> omega
      rw [er]
      omega
  by_cases z : k < m
  · have e : dCut (fun k => max 1 (q k - d - dR q d c k)) m k = max 1 (q k - d - dR q d c k) := if_pos z
    rw [e]
    exact key k k0 (by omega) (by omega) (if_pos z) (Or.inl ⟨z, rfl⟩)
  · have e : dCut (fun k => max 1 (q k - d - dR q d c k)) m k = max 1 (q (k + 1) - d - dR q d c (k + 1)) := if_neg z
    rw [e]
    exact key (k + 1) (by omega) (by omega) (by omega) (if_neg z) (Or.inr ⟨z, rfl⟩)
