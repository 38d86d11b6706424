/-! the orders of a text, one behind the other -/
theorem frW_tr {R R1 R2 : Nat → Nat → Int} (h : frW R R1) (g : frW R1 R2) : frW R R2 := ⟨fun i i7 i8 i9 i10 => (g.1 i i7 i8 i9 i10).trans (h.1 i i7 i8 i9 i10), fun c c0 c1 => (g.2 c c0 c1).trans (h.2 c c0 c1)⟩
def carQ (F P R R' : Nat → Nat → Int) (c b1 b2 b3 v : Int) : Prop :=
  (sp_X5_verdictOn P c b1 b2 b3 = 0 → relW F (wCarry P c b1 b2 b3) R' ∧ (R' 0 8 = 0 ∧ (R' 0 7 = 0 ∨ R' 0 7 = R 0 7)) ∧ frW R R') ∧
  (sp_X5_verdictOn P c b1 b2 b3 = 6 → relW F P R' ∧ (1 ≤ R' 0 8 ∧ R' 0 8 ≤ 3) ∧ R' 0 7 = 0 ∧ frW R R' ∧ v = 0) ∧
  (sp_X5_verdictOn P c b1 b2 b3 = 7 → relW F P R' ∧ (1 ≤ R' 0 8 ∧ R' 0 8 ≤ 3) ∧ R' 0 7 = 0 ∧ frW R R' ∧ v = 0) ∧
  (1 ≤ sp_X5_verdictOn P c b1 b2 b3 ∧ sp_X5_verdictOn P c b1 b2 b3 ≤ 5 → relW (up2 (up2 F 0 9 (sp_X5_verdictOn P c b1 b2 b3)) 0 10 (sp_X5_detailOf P (sp_X5_verdictOn P c b1 b2 b3) c b1)) P R' ∧ (1 ≤ R' 0 8 ∧ R' 0 8 ≤ 3) ∧ R' 0 7 = 1 ∧ frW R R' ∧ v = 0)
set_option maxHeartbeats 4000000 in
theorem carW {F P R : Nat → Nat → Int} {t c b1 b2 b3 : Int} (h : relW F P R) (hc : R 7 t.toNat = c) (hn : ¬ iNums c = -2) (h1 : 1 ≤ iNums c → R 7 (t + 1).toNat = b1) (h3 : iNums c = 3 → R 7 (t + 2).toNat = b2 ∧ R 7 (t + 3).toNat = b3) : carQ F P R (rCrr R t) c b1 b2 b3 (sp_X8_carries R t) := by
  have hl : (c = 109 ∨ c = 116) ∨ (c = 98 ∨ c = 105 ∨ c = 111 ∨ c = 115 ∨ c = 114) ∨ (c = 104 ∨ c = 119) := Classical.byContradiction fun q => hn (iNums_n (fun z => q (Or.inl z)) (fun z => q (Or.inr (Or.inl z))) (fun z => q (Or.inr (Or.inr z))))
  rcases hl with hl | hl | hl
  · have en := iNums_3 hl
    have g1 := h1 (by omega)
    have g2 := (h3 en).1
    have g3 := (h3 en).2
    rcases hl with z | z
    · skip
      subst z
      have e0 : sS0_0_X8_carries R t = sS0_0_X8_make R b1 b2 b3 := by unfold sS0_0_X8_carries; rw [g1, g2, g3]; (repeat (first | rw [zif_pos (by omega)] | rw [zif_neg (by omega)]))
      have e1 : sS0_1_X8_carries R t = sS0_1_X8_make R b1 b2 b3 := by unfold sS0_1_X8_carries; rw [g1, g2, g3]; (repeat (first | rw [zif_pos (by omega)] | rw [zif_neg (by omega)]))
      have e2 : sS0_2_X8_carries R t = sS0_2_X8_make R b1 b2 b3 := by unfold sS0_2_X8_carries; rw [g1, g2, g3]; (repeat (first | rw [zif_pos (by omega)] | rw [zif_neg (by omega)]))
      have ev : sp_X8_carries R t = sp_X8_make R b1 b2 b3 := by unfold sp_X8_carries; rw [g1, g2, g3]; (repeat (first | rw [zif_pos (by omega)] | rw [zif_neg (by omega)]))
      unfold carQ rCrr; rw [e0, e1, e2, ev]
      exact opw_make h
    · skip
      subst z
      have e0 : sS0_0_X8_carries R t = sS0_0_X8_tell R b1 b2 b3 := by unfold sS0_0_X8_carries; rw [g1, g2, g3]; (repeat (first | rw [zif_pos (by omega)] | rw [zif_neg (by omega)]))
      have e1 : sS0_1_X8_carries R t = sS0_1_X8_tell R b1 b2 b3 := by unfold sS0_1_X8_carries; rw [g1, g2, g3]; (repeat (first | rw [zif_pos (by omega)] | rw [zif_neg (by omega)]))
      have e2 : sS0_2_X8_carries R t = sS0_2_X8_tell R b1 b2 b3 := by unfold sS0_2_X8_carries; rw [g1, g2, g3]; (repeat (first | rw [zif_pos (by omega)] | rw [zif_neg (by omega)]))
      have ev : sp_X8_carries R t = sp_X8_tell R b1 b2 b3 := by unfold sp_X8_carries; rw [g1, g2, g3]; (repeat (first | rw [zif_pos (by omega)] | rw [zif_neg (by omega)]))
      unfold carQ rCrr; rw [e0, e1, e2, ev]
      exact opw_tell h
  · have en := iNums_1 hl
    have g1 := h1 (by omega)
    rcases hl with z | z | z | z | z
    · skip
      subst z
      have e0 : sS0_0_X8_carries R t = sS0_0_X8_blank R b1 := by unfold sS0_0_X8_carries; rw [g1]; (repeat (first | rw [zif_pos (by omega)] | rw [zif_neg (by omega)]))
      have e1 : sS0_1_X8_carries R t = sS0_1_X8_blank R b1 := by unfold sS0_1_X8_carries; rw [g1]; (repeat (first | rw [zif_pos (by omega)] | rw [zif_neg (by omega)]))
      have e2 : sS0_2_X8_carries R t = sS0_2_X8_blank R b1 := by unfold sS0_2_X8_carries; rw [g1]; (repeat (first | rw [zif_pos (by omega)] | rw [zif_neg (by omega)]))
      have ev : sp_X8_carries R t = sp_X8_blank R b1 := by unfold sp_X8_carries; rw [g1]; (repeat (first | rw [zif_pos (by omega)] | rw [zif_neg (by omega)]))
      unfold carQ rCrr; rw [e0, e1, e2, ev]
      exact opw_blank h
    · skip
      subst z
      have e0 : sS0_0_X8_carries R t = sS0_0_X8_inspect R b1 := by unfold sS0_0_X8_carries; rw [g1]; (repeat (first | rw [zif_pos (by omega)] | rw [zif_neg (by omega)]))
      have e1 : sS0_1_X8_carries R t = sS0_1_X8_inspect R b1 := by unfold sS0_1_X8_carries; rw [g1]; (repeat (first | rw [zif_pos (by omega)] | rw [zif_neg (by omega)]))
      have e2 : sS0_2_X8_carries R t = sS0_2_X8_inspect R b1 := by unfold sS0_2_X8_carries; rw [g1]; (repeat (first | rw [zif_pos (by omega)] | rw [zif_neg (by omega)]))
      have ev : sp_X8_carries R t = sp_X8_inspect R b1 := by unfold sp_X8_carries; rw [g1]; (repeat (first | rw [zif_pos (by omega)] | rw [zif_neg (by omega)]))
      unfold carQ rCrr; rw [e0, e1, e2, ev]
      exact opw_inspect h
    · skip
      subst z
      have e0 : sS0_0_X8_carries R t = sS0_0_X8_leave R b1 := by unfold sS0_0_X8_carries; rw [g1]; (repeat (first | rw [zif_pos (by omega)] | rw [zif_neg (by omega)]))
      have e1 : sS0_1_X8_carries R t = sS0_1_X8_leave R b1 := by unfold sS0_1_X8_carries; rw [g1]; (repeat (first | rw [zif_pos (by omega)] | rw [zif_neg (by omega)]))
      have e2 : sS0_2_X8_carries R t = sS0_2_X8_leave R b1 := by unfold sS0_2_X8_carries; rw [g1]; (repeat (first | rw [zif_pos (by omega)] | rw [zif_neg (by omega)]))
      have ev : sp_X8_carries R t = sp_X8_leave R b1 := by unfold sp_X8_carries; rw [g1]; (repeat (first | rw [zif_pos (by omega)] | rw [zif_neg (by omega)]))
      unfold carQ rCrr; rw [e0, e1, e2, ev]
      exact opw_leave h
    · skip
      subst z
      have e0 : sS0_0_X8_carries R t = sS0_0_X8_sell R b1 := by unfold sS0_0_X8_carries; rw [g1]; (repeat (first | rw [zif_pos (by omega)] | rw [zif_neg (by omega)]))
      have e1 : sS0_1_X8_carries R t = sS0_1_X8_sell R b1 := by unfold sS0_1_X8_carries; rw [g1]; (repeat (first | rw [zif_pos (by omega)] | rw [zif_neg (by omega)]))
      have e2 : sS0_2_X8_carries R t = sS0_2_X8_sell R b1 := by unfold sS0_2_X8_carries; rw [g1]; (repeat (first | rw [zif_pos (by omega)] | rw [zif_neg (by omega)]))
      have ev : sp_X8_carries R t = sp_X8_sell R b1 := by unfold sp_X8_carries; rw [g1]; (repeat (first | rw [zif_pos (by omega)] | rw [zif_neg (by omega)]))
      unfold carQ rCrr; rw [e0, e1, e2, ev]
      exact opw_sell h
    · skip
      subst z
      have e0 : sS0_0_X8_carries R t = sS0_0_X8_repair R b1 := by unfold sS0_0_X8_carries; rw [g1]; (repeat (first | rw [zif_pos (by omega)] | rw [zif_neg (by omega)]))
      have e1 : sS0_1_X8_carries R t = sS0_1_X8_repair R b1 := by unfold sS0_1_X8_carries; rw [g1]; (repeat (first | rw [zif_pos (by omega)] | rw [zif_neg (by omega)]))
      have e2 : sS0_2_X8_carries R t = sS0_2_X8_repair R b1 := by unfold sS0_2_X8_carries; rw [g1]; (repeat (first | rw [zif_pos (by omega)] | rw [zif_neg (by omega)]))
      have ev : sp_X8_carries R t = sp_X8_repair R b1 := by unfold sp_X8_carries; rw [g1]; (repeat (first | rw [zif_pos (by omega)] | rw [zif_neg (by omega)]))
      unfold carQ rCrr; rw [e0, e1, e2, ev]
      exact opw_repair h
  · rcases hl with z | z
    · skip
      subst z
      have e0 : sS0_0_X8_carries R t = sS0_0_X8_hire R := by unfold sS0_0_X8_carries; (repeat (first | rw [zif_pos (by omega)] | rw [zif_neg (by omega)]))
      have e1 : sS0_1_X8_carries R t = sS0_1_X8_hire R := by unfold sS0_1_X8_carries; (repeat (first | rw [zif_pos (by omega)] | rw [zif_neg (by omega)]))
      have e2 : sS0_2_X8_carries R t = sS0_2_X8_hire R := by unfold sS0_2_X8_carries; (repeat (first | rw [zif_pos (by omega)] | rw [zif_neg (by omega)]))
      have ev : sp_X8_carries R t = sp_X8_hire R := by unfold sp_X8_carries; (repeat (first | rw [zif_pos (by omega)] | rw [zif_neg (by omega)]))
      unfold carQ rCrr; rw [e0, e1, e2, ev]
      exact opw_hire h
    · skip
      subst z
      have e0 : sS0_0_X8_carries R t = sS0_0_X8_week R := by unfold sS0_0_X8_carries; (repeat (first | rw [zif_pos (by omega)] | rw [zif_neg (by omega)]))
      have e1 : sS0_1_X8_carries R t = sS0_1_X8_week R := by unfold sS0_1_X8_carries; (repeat (first | rw [zif_pos (by omega)] | rw [zif_neg (by omega)]))
      have e2 : sS0_2_X8_carries R t = sS0_2_X8_week R := by unfold sS0_2_X8_carries; (repeat (first | rw [zif_pos (by omega)] | rw [zif_neg (by omega)]))
      have ev : sp_X8_carries R t = sp_X8_week R := by unfold sp_X8_carries; (repeat (first | rw [zif_pos (by omega)] | rw [zif_neg (by omega)]))
      unfold carQ rCrr; rw [e0, e1, e2, ev]
      exact opw_week h
/-! the signs between two orders do nothing -/
theorem seg_eq {α : Type} {I : Nat → Int} {n p p2 : Int} {g : Nat → α} (p0 : 0 ≤ p) (hg : ∀ y : Nat, p < (y : Int) → (y : Int) < p2 → (y : Int) < n → g (y + 1) = g y) : ∀ d : Nat, p + 1 + d ≤ p2 → p + 1 + d ≤ n → g (p.toNat + 1 + d) = g (p.toNat + 1) := by
  intro d
  induction d with
  | zero => intro _ _; rfl
  | succ d ih =>
    intro h1 h2
    have e := hg (p.toNat + 1 + d) (by omega) (by omega) (by omega)
    exact e.trans (ih (by omega) (by omega))
theorem tPl_z {I : Nat → Int} {S : Nat → Nat → Int} {y : Nat} (h : iNums (iSign I y) = -2) : tPl I S (y + 1) = tPl I S y := zif_pos h
theorem tPl_o {I : Nat → Int} {S : Nat → Nat → Int} {y : Nat} (h : ¬ iNums (iSign I y) = -2) : tPl I S (y + 1) = wCarry (tPl I S y) (iSign I y) (iNumb I (y + 1)) (iNumb I (y + 2)) (iNumb I (y + 3)) := zif_neg h
noncomputable def cntZ (I : Nat → Int) (y : Nat) : Int := sumI (fun k => zif (iNums (iSign I k) = -2) 0 1) y
theorem cnt_z {I : Nat → Int} {y : Nat} (h : iNums (iSign I y) = -2) : cntZ I (y + 1) = cntZ I y := by
  have e := sumI_e (f := fun k => zif (iNums (iSign I k) = -2) (0 : Int) 1) (x := (y : Int)) (v := 0) (by omega) (zif_pos h).symm
  unfold cntZ
  rw [show ((y + 1 : Nat) : Int) = (y : Int) + 1 by omega, ← e]
  omega
theorem cnt_o {I : Nat → Int} {y : Nat} (h : ¬ iNums (iSign I y) = -2) : cntZ I (y + 1) = cntZ I y + 1 := by
  have e := sumI_e (f := fun k => zif (iNums (iSign I k) = -2) (0 : Int) 1) (x := (y : Int)) (v := 1) (by omega) (zif_neg h).symm
  unfold cntZ
  rw [show ((y + 1 : Nat) : Int) = (y : Int) + 1 by omega, ← e]
/-- behind the order that stands at p -/
theorem one_eq {I B : Nat → Int} {S : Nat → Nat → Int} {n p p2 k : Int} (h : tOne I n p p2 k B) (y : Nat) (y0 : p < (y : Int)) (y1 : (y : Int) ≤ p2) (y2 : (y : Int) ≤ n) :
    tPl I S y = wCarry (tPl I S p.toNat) (iSign I p) (iNumb I (p + 1)) (iNumb I (p + 2)) (iNumb I (p + 3)) ∧ cntZ I y = cntZ I p.toNat + 1 := by
  obtain ⟨⟨p0, p1⟩, hn, -, -, -, gap⟩ := h
  have ep : ((p.toNat : Nat) : Int) = p := by omega
  obtain ⟨d, rfl⟩ : ∃ d : Nat, y = p.toNat + 1 + d := ⟨y - (p.toNat + 1), by omega⟩
  have s1 := seg_eq (I := I) (n := n) (p := p) (p2 := p2) (g := tPl I S) p0 (fun y a b c => tPl_z (gap y a b c)) d (by omega) (by omega)
  have s2 := seg_eq (I := I) (n := n) (p := p) (p2 := p2) (g := cntZ I) p0 (fun y a b c => cnt_z (gap y a b c)) d (by omega) (by omega)
  rw [s1, s2]
  have o1 := tPl_o (I := I) (S := S) (y := p.toNat) (by rw [ep]; exact hn)
  have o2 := cnt_o (I := I) (y := p.toNat) (by rw [ep]; exact hn)
  rw [ep] at o1
  exact ⟨o1, o2⟩
theorem tPos_n {I B : Nat → Int} {n x : Int} {q : Nat} {k : Int} (h : tOrd I n x q k B) (hq : 1 ≤ q) : 0 ≤ n ∧ ∀ j : Nat, j ≤ q → 0 ≤ tPos I x j ∧ tPos I x j ≤ n + 1 ∧ (j < q → tPos I x j < n ∧ tPos I x j + 2 ≤ tPos I x (j + 1)) := by
  have a0 := (h.2 0 (by omega)).1
  refine ⟨by omega, fun j hj => ?_⟩
  rcases Nat.lt_or_ge j q with c | c
  · have a := (h.2 j c)
    have m := iNums_rng (c := iSign I (tPos I x j))
    have e : tPos I x (j + 1) = tPos I x j + iNums (iSign I (tPos I x j)) + 2 := rfl
    have nn := a.2.1
    have a1 := a.1
    exact ⟨a1.1, by omega, fun _ => ⟨a1.2, by omega⟩⟩
  · have e : j = q := by omega
    subst e
    have z := h.1
    exact ⟨by omega, by omega, fun q => absurd q (by omega)⟩
/-- the plant ahead of the order j -/
noncomputable def cPl (I : Nat → Int) (P : Nat → Nat → Int) (n : Int) (j : Nat) : Nat → Nat → Int := tPl I P (min (tPos I 0 j) n).toNat
noncomputable def cVer (I : Nat → Int) (P : Nat → Nat → Int) (n : Int) (j : Nat) : Int := tVer I (cPl I P n j) (tPos I 0 j)
theorem cPl_s {I B : Nat → Int} {P : Nat → Nat → Int} {n : Int} {q : Nat} (h : tOrd I n 0 q 0 B) (hq : 1 ≤ q) (j : Nat) (hj : j < q) : cPl I P n (j + 1) = wCarry (cPl I P n j) (iSign I (tPos I 0 j)) (iNumb I (tPos I 0 j + 1)) (iNumb I (tPos I 0 j + 2)) (iNumb I (tPos I 0 j + 3)) ∧ cntZ I (min (tPos I 0 (j + 1)) n).toNat = cntZ I (min (tPos I 0 j) n).toNat + 1 := by
  have p := (tPos_n h hq).2 j (by omega)
  have p1 := (tPos_n h hq).2 (j + 1) (by omega)
  have pj := p.2.2 hj
  have e : min (tPos I 0 j) n = tPos I 0 j := by omega
  unfold cPl
  rw [e]
  exact one_eq (h.2 j hj) _ (by omega) (by omega) (by omega)
theorem cnt_q {I B : Nat → Int} {n : Int} {q : Nat} (h : tOrd I n 0 q 0 B) (hq : 1 ≤ q) : ∀ j : Nat, j ≤ q → cntZ I (min (tPos I 0 j) n).toNat = j := by
  intro j
  induction j with
  | zero =>
    intro _
    have n0 := (tPos_n h hq).1
    have e : min (tPos I 0 0) n = 0 := by show min 0 n = 0; omega
    rw [e]
    rfl
  | succ j ih =>
    intro hj
    rw [(cPl_s (P := fun _ _ => 0) h hq j (by omega)).2, ih (by omega)]
    omega
theorem tPos_loc {I B : Nat → Int} {n : Int} {q : Nat} (h : tOrd I n 0 q 0 B) : ∀ j : Nat, j ≤ q → ∀ y : Int, 0 ≤ y → y < n → y < tPos I 0 j → ¬ iNums (iSign I y) = -2 → ∃ i : Nat, i < j ∧ y = tPos I 0 i := by
  intro j
  induction j with
  | zero => intro _ y y0 _ y1 _; exact absurd (show y < 0 from y1) (by omega)
  | succ j ih =>
    intro hj y y0 yn y1 hy
    rcases (show y < tPos I 0 j ∨ tPos I 0 j ≤ y by omega) with c | c
    · obtain ⟨i, hi, e⟩ := ih (by omega) y y0 yn c hy
      exact ⟨i, by omega, e⟩
    · rcases Classical.em (y = tPos I 0 j) with d | d
      · exact ⟨j, by omega, d⟩
      · exact absurd ((h.2 j (by omega)).2.2.2.2.2 y (by omega) y1 yn) hy
/-- the plant behind any sign lies behind some order -/
theorem tPl_loc {I B : Nat → Int} {P : Nat → Nat → Int} {n : Int} {q : Nat} (h : tOrd I n 0 q 0 B) (hq : 1 ≤ q) : ∀ j : Nat, j ≤ q → ∀ y : Nat, (y : Int) ≤ n → (y : Int) ≤ tPos I 0 j → ∃ i : Nat, i ≤ j ∧ tPl I P y = cPl I P n i := by
  intro j
  induction j with
  | zero =>
    intro _ y y0 y1
    have y1 : (y : Int) ≤ 0 := y1
    have n0 := (tPos_n h hq).1
    obtain rfl : y = 0 := by omega
    refine ⟨0, Nat.le_refl 0, ?_⟩
    unfold cPl
    have e : min (tPos I 0 0) n = 0 := by show min 0 n = 0; omega
    rw [e]
    rfl
  | succ j ih =>
    intro hj y y0 y1
    rcases (show tPos I 0 j < (y : Int) ∨ (y : Int) ≤ tPos I 0 j by omega) with c | c
    · have p := ((tPos_n h hq).2 j (by omega)).2.2 (by omega)
      have p0 := ((tPos_n h hq).2 j (by omega)).1
      have o := one_eq (S := P) (h.2 j (by omega)) y c y1 y0
      refine ⟨j + 1, Nat.le_refl _, ?_⟩
      rw [(cPl_s (P := P) h hq j (by omega)).1, o.1]
      unfold cPl
      rw [show min (tPos I 0 j) n = tPos I 0 j by omega]
    · obtain ⟨i, hi, e⟩ := ih (by omega) y y0 c
      exact ⟨i, by omega, e⟩
/-! bounds of an order -/
theorem gb_car {P R : Nat → Nat → Int} {K t : Int} (h : relP P (R 1)) (g : zBk K (R 1)) (hK : 20 ≤ K) : zBk (K + 20) (sS0_1_X8_carries R t) := by
  unfold sS0_1_X8_carries
  exact zBk.zif (gb_blank h g hK) (zBk.zif (gb_hire h g hK) (zBk.zif (gb_inspect h g hK) (zBk.zif (gb_make h g hK) (zBk.zif (gb_leave h g hK) (zBk.zif (gb_repair h g hK) (zBk.zif (gb_sell h g hK) (zBk.zif (gb_tell h g hK) (gb_week h g hK))))))))
theorem pb_car {P R : Nat → Nat → Int} {K c p1 p2 p3 : Int} (h : relP P (R 1)) (hp : pK K P) (hK : 20 ≤ K) (hn : ¬ iNums c = -2) (hv : sp_X5_verdictOn P c p1 p2 p3 = 0) (hr : ∃ G, relP (wCarry P c p1 p2 p3) G) : pK (K + 20) (wCarry P c p1 p2 p3) := by
  have hl : (c = 109 ∨ c = 116) ∨ (c = 98 ∨ c = 105 ∨ c = 111 ∨ c = 115 ∨ c = 114) ∨ (c = 104 ∨ c = 119) := Classical.byContradiction fun q => hn (iNums_n (fun z => q (Or.inl z)) (fun z => q (Or.inr (Or.inl z))) (fun z => q (Or.inr (Or.inr z))))
  rcases hl with (z | z) | (z | z | z | z | z) | (z | z) <;> subst z
  · exact pb_make h hp hK hv hr
  · exact pb_tell h hp hK hv hr
  · exact pb_blank h hp hK hv hr
  · exact pb_inspect h hp hK hv hr
  · exact pb_leave h hp hK hv hr
  · exact pb_sell h hp hK hv hr
  · exact pb_repair h hp hK hv hr
  · exact pb_hire h hp hK hv hr
  · exact pb_week h hp hK hv hr
theorem det_bd {P : Nat → Nat → Int} {K v c p1 : Int} (hp : pK K P) (h0 : 0 ≤ p1 ∧ p1 ≤ 9) (hK : 20 ≤ K) : -(3 * K) ≤ sp_X5_detailOf P v c p1 ∧ sp_X5_detailOf P v c p1 ≤ 3 * K := by
  have a2 := hp.1 2 (by decide) 1
  have a5 := hp.1 5 (by decide) 1
  have a8 := hp.1 8 (by decide) 1
  have a4 := hp.1 0 (by decide) 4
  have a3 := hp.1 0 (by decide) 3
  have n := wNum_k (hp.1 12 (by decide)) (by omega) (c := P 11 1) (p := p1) (q := 2)
  unfold sp_X5_detailOf
  repeat (first | exact ⟨by omega, by omega⟩ | refine el1 (Q := fun z => -(3 * K) ≤ z ∧ z ≤ 3 * K) (fun _ => ?_) (fun _ => ?_))
/-- a text's orders up to the first that can't be -/
def wkQ (F W0 R S : Nat → Nat → Int) (K : Int) (j : Nat) : Prop := relW F S R ∧ frW W0 R ∧ (R 0 8 = 0 ∧ (0 ≤ R 0 7 ∧ R 0 7 ≤ 1)) ∧ pK (K + 20 * j) S ∧ zBk (K + 20 * j) (R 1)
set_option maxHeartbeats 4000000 in
theorem run_walk {I B : Nat → Int} {F P W0 : Nat → Nat → Int} {n K : Int} {q : Nat} (h : tOrd I n 0 q 0 B) (hq : 1 ≤ q) (hw : relW F P W0) (h7 : W0 7 = B) (h8 : W0 0 8 = 0) (h07 : 0 ≤ W0 0 7 ∧ W0 0 7 ≤ 1) (hp : pK K P) (hg : zBk K (W0 1)) (hK : 20 ≤ K) : ∀ j : Nat, j ≤ q → (∀ i : Nat, i < j → cVer I P n i = 0) → wkQ F W0 (rPl W0 j) (cPl I P n j) K j := by
  intro j
  induction j with
  | zero =>
    intro _ _
    have n0 := (tPos_n h hq).1
    have e : cPl I P n 0 = P := by
      unfold cPl
      have e : min (tPos I 0 0) n = 0 := by show min 0 n = 0; omega
      rw [e]
      rfl
    rw [e]
    exact ⟨hw, ⟨fun _ _ _ _ _ => rfl, fun _ _ _ => rfl⟩, ⟨h8, h07⟩, hp.mono (by omega), hg.mono (by omega)⟩
  | succ j ih =>
    intro hj hv
    obtain ⟨w1, w2, ⟨w3, w7⟩, w4, w5⟩ := ih (by omega) (fun i hi => hv i (by omega))
    obtain ⟨-, o2, o3, o4, o5, -⟩ := h.2 j (by omega)
    rw [show (0 : Int) + (j : Int) = (j : Int) by omega] at o3 o4 o5
    have e7 : rPl W0 j 7 = B := (w2.2 7 (by decide) (by decide)).trans h7
    have V0 : sp_X5_verdictOn (cPl I P n j) (iSign I (tPos I 0 j)) (iNumb I (tPos I 0 j + 1)) (iNumb I (tPos I 0 j + 2)) (iNumb I (tPos I 0 j + 3)) = 0 := hv j (by omega)
    obtain ⟨c1, ⟨c2, c7⟩, c3⟩ := (carW (t := 4 * (j : Int)) w1 (by rw [e7]; exact o3) o2 (fun z => by rw [e7]; exact o4 z) (fun z => by rw [e7]; exact o5 z)).1 V0
    rw [(cPl_s (P := P) h hq j (by omega)).1]
    show wkQ F W0 (rCrr (rPl W0 j) (4 * (j : Int))) _ K (j + 1)
    refine ⟨c1, frW_tr w2 c3, ⟨c2, by omega⟩, ?_, ?_⟩
    · rw [show K + 20 * ((j + 1 : Nat) : Int) = K + 20 * (j : Int) + 20 by omega]
      exact pb_car w1.1 w4 (by omega) o2 V0 ⟨_, c1.1⟩
    · rw [show K + 20 * ((j + 1 : Nat) : Int) = K + 20 * (j : Int) + 20 by omega]
      exact gb_car w1.1 w5 (by omega)
theorem first_bad (V : Nat → Int) : ∀ q : Nat, (∀ j : Nat, j < q → V j = 0) ∨ ∃ j : Nat, j < q ∧ ¬ V j = 0 ∧ ∀ i : Nat, i < j → V i = 0 := by
  intro q
  induction q with
  | zero => exact Or.inl (fun j hj => absurd hj (Nat.not_lt_zero j))
  | succ q ih =>
    rcases ih with a | ⟨j, a, b, c⟩
    · rcases Classical.em (V q = 0) with d | d
      · refine Or.inl (fun j hj => ?_)
        rcases Nat.lt_or_ge j q with e | e
        · exact a j e
        · rw [show j = q by omega]; exact d
      · exact Or.inr ⟨q, by omega, d, a⟩
    · exact Or.inr ⟨j, by omega, b, c⟩

