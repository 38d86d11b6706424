/-! the dearest first, class and reference alike -/
theorem wbest_lex {N : Nat → Int} {c d : Int} (hc : 1 ≤ c) : (0 ≤ wBest N c d ∧ wBest N c d < c) ∧ ∀ o : Int, 0 ≤ o → o < c → wWorth N c o d < wWorth N c (wBest N c d) d ∨ (wWorth N c o d = wWorth N c (wBest N c d) d ∧ wBest N c d ≤ o) := by
  have key : ∀ n : Nat, (0 ≤ foldN (wBestF N c d) 0 (n + 1) ∧ foldN (wBestF N c d) 0 (n + 1) < ((n + 1 : Nat) : Int)) ∧ ∀ o : Int, 0 ≤ o → o < ((n + 1 : Nat) : Int) → wWorth N c o d < wWorth N c (foldN (wBestF N c d) 0 (n + 1)) d ∨ (wWorth N c o d = wWorth N c (foldN (wBestF N c d) 0 (n + 1)) d ∧ foldN (wBestF N c d) 0 (n + 1) ≤ o) := by
    intro n
    induction n with
    | zero =>
      have e : foldN (wBestF N c d) 0 (0 + 1) = 0 := by
        show zif (wWorth N c ((0 : Nat) : Int) d ≤ wWorth N c 0 d) 0 ((0 : Nat) : Int) = 0
        exact zif_same
      rw [e]
      refine ⟨by omega, fun o o0 o1 => Or.inr ⟨?_, by omega⟩⟩
      rw [show o = 0 by omega]
    | succ n ih =>
      obtain ⟨⟨r0, r1⟩, hr⟩ := ih
      have e : foldN (wBestF N c d) 0 (n + 1 + 1) = zif (wWorth N c ((n + 1 : Nat) : Int) d ≤ wWorth N c (foldN (wBestF N c d) 0 (n + 1)) d) (foldN (wBestF N c d) 0 (n + 1)) ((n + 1 : Nat) : Int) := rfl
      rw [e]
      rcases Classical.em (wWorth N c ((n + 1 : Nat) : Int) d ≤ wWorth N c (foldN (wBestF N c d) 0 (n + 1)) d) with q | q
      · rw [zif_pos q]
        refine ⟨by omega, fun o o0 o1 => ?_⟩
        by_cases z : o = ((n + 1 : Nat) : Int)
        · rw [z]; omega
        · exact hr o o0 (by omega)
      · rw [zif_neg q]
        refine ⟨by omega, fun o o0 o1 => ?_⟩
        by_cases z : o = ((n + 1 : Nat) : Int)
        · rw [z]; exact Or.inr ⟨rfl, Int.le_refl _⟩
        · have := hr o o0 (by omega); omega
  have k := key (c - 1).toNat
  have e : wBest N c d = foldN (wBestF N c d) 0 ((c - 1).toNat + 1) := by
    unfold wBest foldI
    rw [show (max 1 c).toNat = (c - 1).toNat + 1 by omega]
  rw [e]
  refine ⟨⟨k.1.1, by have := k.1.2; omega⟩, fun o o0 o1 => k.2 o o0 (by omega)⟩
theorem dG_cg {q r : Int → Int} {d c : Int} (h : ∀ k : Int, 0 ≤ k → k < c → q k = r k) : dG q d c = dG r d c := by
  refine sumI_cg (fun k k0 k1 => ?_)
  have e : dR q d c k = dR r d c k := sumI_cg (fun o o0 o1 => by unfold dW; rw [h k k0 k1, h o o0 o1])
  show max 1 (q k - d - dR q d c k) = max 1 (r k - d - dR r d c k)
  rw [e, h k k0 k1]
theorem price_cut {N : Nat → Int} {c m k : Int} (hc : 0 ≤ m ∧ m < c) (k0 : 0 ≤ k) (k1 : k < c - 1) : wPrice (wCutN N c m 1) (c - 1) k = dCut (fun k => wPrice N c k) m k := by
  have w : ∀ x : Int, 0 ≤ x → x < 4 → wNum (wCutN N c m 1) (c - 1) k x = wNum N c (if k < m then k else k + 1) x := by
    intro x x0 x1
    unfold wNum wCutN
    by_cases z : k < m
    · rw [if_pos z, zif_pos (by omega), zif_pos (by omega), zif_pos (by omega)]
      (repeat (first | rw [upZ_s] | rw [upZ_e (by omega)] | rw [upZ_n (by omega)] | rw [shf_in (by omega) (by omega)] | rw [shf_out (by omega)] | rw [zer_in (by omega) (by omega)] | rw [zer_out (by omega)] | rw [cpyZ_in (by omega) (by omega)] | rw [cpyZ_out (by omega)] | rw [mapZ_in (by omega) (by omega)] | rw [mapZ_out (by omega)]))
    · rw [if_neg z, zif_pos (by omega), zif_pos (by omega), zif_pos (by omega)]
      (repeat (first | rw [upZ_s] | rw [upZ_e (by omega)] | rw [upZ_n (by omega)] | rw [shf_in (by omega) (by omega)] | rw [shf_out (by omega)] | rw [zer_in (by omega) (by omega)] | rw [zer_out (by omega)] | rw [cpyZ_in (by omega) (by omega)] | rw [cpyZ_out (by omega)] | rw [mapZ_in (by omega) (by omega)] | rw [mapZ_out (by omega)]))
      congr 1
      omega
  have e : wPrice (wCutN N c m 1) (c - 1) k = wPrice N c (if k < m then k else k + 1) := by
    unfold wPrice
    rw [w 0 (by decide) (by decide), w 3 (by decide) (by decide)]
  rw [e]
  unfold dCut
  by_cases z : k < m
  · rw [if_pos z, if_pos z]
  · rw [if_neg z, if_neg z]
theorem dear_v {S : Nat → Nat → Int} (hc : 0 ≤ S 11 1 ∧ S 11 1 ≤ 8) : wSellV wDear S (S 11 1).toNat = dG (fun k => wPrice (S 12) (S 11 1) k) (S 0 9) (S 11 1) := by
  have key : ∀ n : Nat, (n : Int) ≤ S 11 1 → wSellN wDear S n 11 1 = S 11 1 - n ∧ wSellV wDear S n + dG (fun k => wPrice (wSellN wDear S n 12) (wSellN wDear S n 11 1) k) (wSellN wDear S n 0 9) (wSellN wDear S n 11 1) = dG (fun k => wPrice (S 12) (S 11 1) k) (S 0 9) (S 11 1) := by
    intro n
    induction n with
    | zero => intro _; exact ⟨by show S 11 1 = S 11 1 - ((0 : Nat) : Int); omega, Int.zero_add _⟩
    | succ n ih =>
      intro hn
      obtain ⟨a, b⟩ := ih (by omega)
      have k11 : wSellN wDear S (n + 1) 11 1 = wCutK (wSellN wDear S n 11 1) (wDear (wSellN wDear S n)) 1 := rfl
      have k0 : wSellN wDear S (n + 1) 0 9 = wSellN wDear S n 0 9 + 1 := rfl
      have k12 : wSellN wDear S (n + 1) 12 = wCutN (wSellN wDear S n 12) (wSellN wDear S n 11 1) (wDear (wSellN wDear S n)) 1 := rfl
      have kv : wSellV wDear S (n + 1) = wSellV wDear S n + wWorth (wSellN wDear S n 12) (wSellN wDear S n 11 1) (wDear (wSellN wDear S n)) (wSellN wDear S n 0 9) := rfl
      have hl := wbest_lex (N := wSellN wDear S n 12) (c := wSellN wDear S n 11 1) (d := wSellN wDear S n 0 9) (by omega)
      have st := dG_step (q := fun k => wPrice (wSellN wDear S n 12) (wSellN wDear S n 11 1) k) (d := wSellN wDear S n 0 9) (c := wSellN wDear S n 11 1) (m := wDear (wSellN wDear S n)) hl
      have ck : wCutK (wSellN wDear S n 11 1) (wDear (wSellN wDear S n)) 1 = wSellN wDear S n 11 1 - 1 := by
        have h1 : 0 ≤ wDear (wSellN wDear S n) ∧ wDear (wSellN wDear S n) < wSellN wDear S n 11 1 := hl.1
        unfold wCutK
        rw [zif_pos (by omega)]
      rw [k11, k0, k12, kv, ck]
      refine ⟨by omega, ?_⟩
      have g : dG (fun k => wPrice (wCutN (wSellN wDear S n 12) (wSellN wDear S n 11 1) (wDear (wSellN wDear S n)) 1) (wSellN wDear S n 11 1 - 1) k) (wSellN wDear S n 0 9 + 1) (wSellN wDear S n 11 1 - 1) = dG (dCut (fun k => wPrice (wSellN wDear S n 12) (wSellN wDear S n 11 1) k) (wDear (wSellN wDear S n))) (wSellN wDear S n 0 9 + 1) (wSellN wDear S n 11 1 - 1) := dG_cg (fun k q0 q1 => price_cut hl.1 q0 q1)
      rw [← b, st, g]
      show _ + dW (fun k => wPrice (wSellN wDear S n 12) (wSellN wDear S n 11 1) k) (wSellN wDear S n 0 9) (wDear (wSellN wDear S n)) + _ = _
      omega
  obtain ⟨a, b⟩ := key (S 11 1).toNat (by omega)
  have z : wSellN wDear S (S 11 1).toNat 11 1 = 0 := by omega
  rw [z] at b
  have z2 : ∀ (q : Int → Int) (d : Int), dG q d 0 = 0 := fun _ _ => rfl
  rw [z2] at b
  omega
theorem dear_r {c d : Int} {N G : Nat → Int} (h : relS c N G) (h7 : G 7 = d) : dG (fun k => wPrice N c k) d c = rBestOrder G := by
  have pw : ∀ k : Int, 0 ≤ k → k < c → ∀ x : Int, max 1 (wPrice N c k - x) = rWorth G k x := fun k k0 k1 x => relS_worth h k0 k1
  unfold dG rBestOrder
  rw [h.2.1]
  refine sumI_cg (fun k k0 k1 => ?_)
  have e : dR (fun k => wPrice N c k) d c k = rAhead G k := by
    unfold dR rAhead
    rw [h.2.1]
    refine sumI_cg (fun o o0 o1 => ?_)
    unfold dW
    rw [pw k k0 k1, pw o o0 o1, h7]
  have p := pw k k0 k1 (G 7 + rAhead G k)
  show max 1 (wPrice N c k - d - dR (fun k => wPrice N c k) d c k) = rWorth G k (G 7 + rAhead G k)
  rw [e, ← p, h7]
  omega
theorem op_bestOrder {F P N Hs : Nat → Nat → Int} {Gs : Nat → Nat → Nat → Int} {I L R : Nat → Nat → Int} (h : relA F P N Hs Gs I L R) (T T2 : Nat → Nat → Int) : wSellV wDear (wCopy T P) (P 11 1).toNat - wSellV wFirst (wCopy T2 P) (P 11 1).toNat = rBestOrder (R 1) - rInOrder (R 1) := by
  have r := relP_copy (T := T) h.1
  have sh := r.2.2.2.1
  have e : wCopy T P 11 1 = P 11 1 := rfl
  have v := dear_v (S := wCopy T P) sh.1
  rw [dear_r sh r.2.2.2.2.2.1.2.2.2.2.2.2.1, e] at v
  rw [v, first_copy h.1]
