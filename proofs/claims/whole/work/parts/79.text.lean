/-! texts: the class's and the reference's reading of them -/
theorem rHr_in {I : Nat → Int} {n x : Int} (h : x < n) : rHr I n x = I x.toNat := zif_neg (by omega)
theorem rHr_out {I : Nat → Int} {n x : Int} (h : n ≤ x) : rHr I n x = -1 := zif_pos h
theorem fig_1 (S0 : Nat → Nat → Int) (p0 : Int) {R5 : Nat → Int} {n x : Int} (h5 : S0 5 = R5) (h12 : S0 0 12 = n) (h16 : S0 0 16 = x) (hp : 0 ≤ p0) : (∀ j, j ≠ 16 → sS0_0_X8_figures S0 p0 1 j = S0 0 j) ∧ (∀ j : Nat, (j : Int) < p0 → sS0_7_X8_figures S0 p0 1 j = S0 7 j) ∧
    ((sp_X8_figures S0 p0 1 = 1 ∧ (48 ≤ (rHr R5 n (x)) ∧ (rHr R5 n (x)) ≤ 57) ∧ sS0_0_X8_figures S0 p0 1 16 = x + 1 ∧ sS0_7_X8_figures S0 p0 1 p0.toNat = (rHr R5 n (x)) - 48) ∨ (sp_X8_figures S0 p0 1 = 0 ∧ ¬ (48 ≤ (rHr R5 n (x)) ∧ (rHr R5 n (x)) ≤ 57) ∧ sS0_0_X8_figures S0 p0 1 16 = x)) := by
  subst h5; subst h12; subst h16
  refine e_X8_figures S0 p0 1 (fun r A B => (∀ j, j ≠ 16 → A j = S0 0 j) ∧ (∀ j : Nat, (j : Int) < p0 → B j = S0 7 j) ∧ ((r = 1 ∧ (48 ≤ (rHr (S0 5) (S0 0 12) (S0 0 16)) ∧ (rHr (S0 5) (S0 0 12) (S0 0 16)) ≤ 57) ∧ A 16 = S0 0 16 + 1 ∧ B p0.toNat = (rHr (S0 5) (S0 0 12) (S0 0 16)) - 48) ∨ (r = 0 ∧ ¬ (48 ≤ (rHr (S0 5) (S0 0 12) (S0 0 16)) ∧ (rHr (S0 5) (S0 0 12) (S0 0 16)) ≤ 57) ∧ A 16 = S0 0 16))) (fun _ q => ?_) (fun _ q => ?_) (fun q => absurd rfl q) (fun q => absurd rfl q) (fun q => absurd rfl q) (fun q => absurd rfl q)
  · exact ⟨fun j hj => upZ_n hj, fun j hj => upZ_n (by omega), Or.inl ⟨rfl, q, upZ_s, upZ_e (by omega)⟩⟩
  · exact ⟨fun j hj => rfl, fun j hj => rfl, Or.inr ⟨rfl, q, rfl⟩⟩
theorem fig_3 (S0 : Nat → Nat → Int) (p0 : Int) {R5 : Nat → Int} {n x : Int} (h5 : S0 5 = R5) (h12 : S0 0 12 = n) (h16 : S0 0 16 = x) (hp : 0 ≤ p0) : (∀ j, j ≠ 16 → sS0_0_X8_figures S0 p0 3 j = S0 0 j) ∧ (∀ j : Nat, (j : Int) < p0 → sS0_7_X8_figures S0 p0 3 j = S0 7 j) ∧
    ((sp_X8_figures S0 p0 3 = 1 ∧ ((48 ≤ (rHr R5 n (x)) ∧ (rHr R5 n (x)) ≤ 57) ∧ (48 ≤ (rHr R5 n (x + 1)) ∧ (rHr R5 n (x + 1)) ≤ 57) ∧ (48 ≤ (rHr R5 n (x + 1 + 1)) ∧ (rHr R5 n (x + 1 + 1)) ≤ 57)) ∧ sS0_0_X8_figures S0 p0 3 16 = x + 1 + 1 + 1 ∧ sS0_7_X8_figures S0 p0 3 p0.toNat = (rHr R5 n (x)) - 48 ∧ sS0_7_X8_figures S0 p0 3 (p0 + 1).toNat = (rHr R5 n (x + 1)) - 48 ∧ sS0_7_X8_figures S0 p0 3 (p0 + 2).toNat = (rHr R5 n (x + 1 + 1)) - 48) ∨ (sp_X8_figures S0 p0 3 = 0 ∧ ¬ (48 ≤ (rHr R5 n (x)) ∧ (rHr R5 n (x)) ≤ 57) ∧ sS0_0_X8_figures S0 p0 3 16 = x) ∨ (sp_X8_figures S0 p0 3 = 0 ∧ ((48 ≤ (rHr R5 n (x)) ∧ (rHr R5 n (x)) ≤ 57) ∧ ¬ (48 ≤ (rHr R5 n (x + 1)) ∧ (rHr R5 n (x + 1)) ≤ 57)) ∧ sS0_0_X8_figures S0 p0 3 16 = x + 1) ∨ (sp_X8_figures S0 p0 3 = 0 ∧ ((48 ≤ (rHr R5 n (x)) ∧ (rHr R5 n (x)) ≤ 57) ∧ (48 ≤ (rHr R5 n (x + 1)) ∧ (rHr R5 n (x + 1)) ≤ 57) ∧ ¬ (48 ≤ (rHr R5 n (x + 1 + 1)) ∧ (rHr R5 n (x + 1 + 1)) ≤ 57)) ∧ sS0_0_X8_figures S0 p0 3 16 = x + 1 + 1)) := by
  subst h5; subst h12; subst h16
  refine e_X8_figures S0 p0 3 (fun r A B => (∀ j, j ≠ 16 → A j = S0 0 j) ∧ (∀ j : Nat, (j : Int) < p0 → B j = S0 7 j) ∧ ((r = 1 ∧ ((48 ≤ (rHr (S0 5) (S0 0 12) (S0 0 16)) ∧ (rHr (S0 5) (S0 0 12) (S0 0 16)) ≤ 57) ∧ (48 ≤ (rHr (S0 5) (S0 0 12) (S0 0 16 + 1)) ∧ (rHr (S0 5) (S0 0 12) (S0 0 16 + 1)) ≤ 57) ∧ (48 ≤ (rHr (S0 5) (S0 0 12) (S0 0 16 + 1 + 1)) ∧ (rHr (S0 5) (S0 0 12) (S0 0 16 + 1 + 1)) ≤ 57)) ∧ A 16 = S0 0 16 + 1 + 1 + 1 ∧ B p0.toNat = (rHr (S0 5) (S0 0 12) (S0 0 16)) - 48 ∧ B (p0 + 1).toNat = (rHr (S0 5) (S0 0 12) (S0 0 16 + 1)) - 48 ∧ B (p0 + 2).toNat = (rHr (S0 5) (S0 0 12) (S0 0 16 + 1 + 1)) - 48) ∨ (r = 0 ∧ ¬ (48 ≤ (rHr (S0 5) (S0 0 12) (S0 0 16)) ∧ (rHr (S0 5) (S0 0 12) (S0 0 16)) ≤ 57) ∧ A 16 = S0 0 16) ∨ (r = 0 ∧ ((48 ≤ (rHr (S0 5) (S0 0 12) (S0 0 16)) ∧ (rHr (S0 5) (S0 0 12) (S0 0 16)) ≤ 57) ∧ ¬ (48 ≤ (rHr (S0 5) (S0 0 12) (S0 0 16 + 1)) ∧ (rHr (S0 5) (S0 0 12) (S0 0 16 + 1)) ≤ 57)) ∧ A 16 = S0 0 16 + 1) ∨ (r = 0 ∧ ((48 ≤ (rHr (S0 5) (S0 0 12) (S0 0 16)) ∧ (rHr (S0 5) (S0 0 12) (S0 0 16)) ≤ 57) ∧ (48 ≤ (rHr (S0 5) (S0 0 12) (S0 0 16 + 1)) ∧ (rHr (S0 5) (S0 0 12) (S0 0 16 + 1)) ≤ 57) ∧ ¬ (48 ≤ (rHr (S0 5) (S0 0 12) (S0 0 16 + 1 + 1)) ∧ (rHr (S0 5) (S0 0 12) (S0 0 16 + 1 + 1)) ≤ 57)) ∧ A 16 = S0 0 16 + 1 + 1))) (fun q => absurd q (by decide)) (fun q => absurd q (by decide)) (fun _ q0 q1 q2 => ?_) (fun _ q0 q1 q2 => ?_) (fun _ q0 q1 => ?_) (fun _ q0 => ?_)
  · exact ⟨fun j hj => by rw [upZ_n hj, upZ_n hj, upZ_n hj], fun j hj => by rw [upZ_n (by omega), upZ_n (by omega), upZ_n (by omega)], Or.inl ⟨rfl, ⟨q0, q1, q2⟩, upZ_s, by rw [upZ_n (by omega), upZ_n (by omega), upZ_e (by omega)], by rw [upZ_n (by omega), upZ_s], upZ_s⟩⟩
  · exact ⟨fun j hj => by rw [upZ_n hj, upZ_n hj], fun j hj => by rw [upZ_n (by omega), upZ_n (by omega)], Or.inr (Or.inr (Or.inr ⟨rfl, ⟨q0, q1, q2⟩, upZ_s⟩))⟩
  · exact ⟨fun j hj => upZ_n hj, fun j hj => upZ_n (by omega), Or.inr (Or.inr (Or.inl ⟨rfl, ⟨q0, q1⟩, upZ_s⟩))⟩
  · exact ⟨fun j hj => rfl, fun j hj => rfl, Or.inr (Or.inl ⟨rfl, q0, rfl⟩)⟩
/-! the class's reading, a sign at a time -/
theorem fE_w {C : Nat → Nat → Int} {n d y : Int} {m : Nat} (h : y < n) (hd : iDue d (iSign (C 1) y) = -2) : sp_X3_findError_L4 C n (m + 1) d y = y := by
  show zif (n ≤ y) _ (zif (iDue d (iSign (C 1) y) = -2) y (sp_X3_findError_L4 C n m (iDue d (iSign (C 1) y)) (y + 1))) = y
  rw [zif_neg (by omega), zif_pos hd]
theorem fE_g {C : Nat → Nat → Int} {n d y v : Int} {m : Nat} (h : y < n) (hd : iDue d (iSign (C 1) y) = v) (hv : ¬ v = -2) : sp_X3_findError_L4 C n (m + 1) d y = sp_X3_findError_L4 C n m v (y + 1) := by
  show zif (n ≤ y) _ (zif (iDue d (iSign (C 1) y) = -2) y (sp_X3_findError_L4 C n m (iDue d (iSign (C 1) y)) (y + 1))) = _
  rw [zif_neg (by omega), hd, zif_neg hv]
theorem fE_0 {C : Nat → Nat → Int} {n y : Int} {m : Nat} (h : n ≤ y) : sp_X3_findError_L4 C n (m + 1) 0 y = -1 := by
  show zif (n ≤ y) (zif ((0 : Int) = 0) (-1) n) _ = -1
  rw [zif_pos h, zif_pos rfl]
theorem fE_n {C : Nat → Nat → Int} {n d y : Int} {m : Nat} (h : n ≤ y) (hd : ¬ d = 0) : sp_X3_findError_L4 C n (m + 1) d y = n := by
  show zif (n ≤ y) (zif (d = 0) (-1) n) _ = n
  rw [zif_pos h, zif_neg hd]
theorem iDue_1 {c : Int} : iDue (-1) c = iNums c := zif_pos rfl
theorem iDue_d {d c : Int} (h1 : 1 ≤ d) (hc : 48 ≤ c ∧ c ≤ 57) : iDue d c = d - 1 := by
  unfold iDue
  rw [zif_neg (by omega), zif_neg (by omega), zif_pos hc]
theorem iDue_x {d c : Int} (h1 : 1 ≤ d) (hc : ¬ (48 ≤ c ∧ c ≤ 57)) : iDue d c = -2 := by
  unfold iDue
  rw [zif_neg (by omega), zif_neg (by omega), zif_neg hc]
theorem iNums_3 {c : Int} (h : c = 109 ∨ c = 116) : iNums c = 3 := zif_pos h
theorem iNums_1 {c : Int} (h : c = 98 ∨ c = 105 ∨ c = 111 ∨ c = 115 ∨ c = 114) : iNums c = 1 := by
  unfold iNums
  rw [zif_neg (by omega), zif_pos h]
theorem iNums_0 {c : Int} (h : c = 104 ∨ c = 119) : iNums c = 0 := by
  unfold iNums
  rw [zif_neg (by omega), zif_neg (by omega), zif_pos h]
theorem iNums_n {c : Int} (h3 : ¬ (c = 109 ∨ c = 116)) (h1 : ¬ (c = 98 ∨ c = 105 ∨ c = 111 ∨ c = 115 ∨ c = 114)) (h0 : ¬ (c = 104 ∨ c = 119)) : iNums c = -2 := by
  unfold iNums
  rw [zif_neg h3, zif_neg h1, zif_neg h0]
theorem iNums_dg {c : Int} (h : 48 ≤ c ∧ c ≤ 57) : iNums c = -2 := iNums_n (by omega) (by omega) (by omega)
theorem iNumb_d {I : Nat → Int} {y : Int} (h : 48 ≤ iSign I y ∧ iSign I y ≤ 57) : iNumb I y = iSign I y - 48 := zif_pos h
/-- the class behind an order's letter, one digit due -/
theorem fE_1 {C : Nat → Nat → Int} {R5 : Nat → Int} {n y : Int} {m : Nat} (hs : ∀ y, 0 ≤ y → y < n → rHr R5 n y = iSign (C 1) y) (y0 : 0 ≤ y) (hm : n < y + m) :
    ((48 ≤ (rHr R5 n (y)) ∧ (rHr R5 n (y)) ≤ 57) → y < n ∧ ∃ m3 : Nat, n < y + 1 + m3 ∧ sp_X3_findError_L4 C n m 1 y = sp_X3_findError_L4 C n m3 0 (y + 1)) ∧ (¬ (48 ≤ (rHr R5 n (y)) ∧ (rHr R5 n (y)) ≤ 57) → y ≤ n → sp_X3_findError_L4 C n m 1 y = y) := by
  rcases Classical.em (y < n) with q | q
  · obtain ⟨m3, rfl⟩ : ∃ z : Nat, m = z + 1 := ⟨m - 1, by omega⟩
    rw [hs y y0 q]
    refine ⟨fun d => ⟨q, m3, by omega, fE_g q (iDue_d (d := 1) (by decide) d) (by decide)⟩, fun d _ => fE_w q (iDue_x (by decide) d)⟩
  · refine ⟨fun d => ?_, fun _ hy => ?_⟩
    · rw [rHr_out (by omega)] at d
      exact absurd d (by decide)
    · obtain ⟨m3, rfl⟩ : ∃ z : Nat, m = z + 1 := ⟨m - 1, by omega⟩
      rw [fE_n (by omega) (by decide)]
      omega
theorem fE_k {C : Nat → Nat → Int} {R5 : Nat → Int} {n y d0 : Int} {m : Nat} (h0 : 2 ≤ d0) (hs : ∀ y, 0 ≤ y → y < n → rHr R5 n y = iSign (C 1) y) (y0 : 0 ≤ y) (hm : n < y + m) :
    ((48 ≤ (rHr R5 n (y)) ∧ (rHr R5 n (y)) ≤ 57) → y < n ∧ ∃ m3 : Nat, n < y + 1 + m3 ∧ sp_X3_findError_L4 C n m d0 y = sp_X3_findError_L4 C n m3 (d0 - 1) (y + 1)) ∧ (¬ (48 ≤ (rHr R5 n (y)) ∧ (rHr R5 n (y)) ≤ 57) → y ≤ n → sp_X3_findError_L4 C n m d0 y = y) := by
  rcases Classical.em (y < n) with q | q
  · obtain ⟨m3, rfl⟩ : ∃ z : Nat, m = z + 1 := ⟨m - 1, by omega⟩
    rw [hs y y0 q]
    refine ⟨fun d => ⟨q, m3, by omega, fE_g q (iDue_d (by omega) d) (by omega)⟩, fun d _ => fE_w q (iDue_x (by omega) d)⟩
  · refine ⟨fun d => ?_, fun _ hy => ?_⟩
    · rw [rHr_out (by omega)] at d
      exact absurd d (by decide)
    · obtain ⟨m3, rfl⟩ : ∃ z : Nat, m = z + 1 := ⟨m - 1, by omega⟩
      rw [fE_n (by omega) (by omega)]
      omega

/-- one order's reading: both fail at one place, or both go on behind it -/
def ordQ (C T : Nat → Nat → Int) (n x : Int) (r : Int) (A B : Nat → Int) : Prop :=
  (∀ j, j ≠ 16 → A j = T 0 j) ∧ (∀ j : Nat, (j : Int) < 4 * T 0 18 → B j = T 7 j) ∧
  ((r = 0 ∧ (0 ≤ A 16 ∧ A 16 ≤ n) ∧ ∀ m2 : Nat, n < x + m2 → sp_X3_findError_L4 C n m2 (-1) x = A 16) ∨
   (r = 1 ∧ x < n ∧ ¬ iNums (iSign (C 1) x) = -2 ∧ A 16 = x + 1 + iNums (iSign (C 1) x) ∧ A 16 ≤ n ∧ B (4 * T 0 18).toNat = iSign (C 1) x ∧
    (1 ≤ iNums (iSign (C 1) x) → B (4 * T 0 18 + 1).toNat = iNumb (C 1) (x + 1)) ∧ (iNums (iSign (C 1) x) = 3 → B (4 * T 0 18 + 2).toNat = iNumb (C 1) (x + 2) ∧ B (4 * T 0 18 + 3).toNat = iNumb (C 1) (x + 3)) ∧
    (∀ y : Int, x < y → y < A 16 → iNums (iSign (C 1) y) = -2) ∧ ∀ m2 : Nat, n < x + m2 → ∃ m3 : Nat, n < A 16 + m3 ∧ sp_X3_findError_L4 C n m2 (-1) x = sp_X3_findError_L4 C n m3 0 (A 16)))
theorem ord_0 {C T : Nat → Nat → Int} {n x : Int} {A B : Nat → Int} (hs : ∀ y, 0 ≤ y → y < n → rHr (T 5) n y = iSign (C 1) y) (x0 : 0 ≤ x) (h18 : 0 ≤ T 0 18) (hc : rHr (T 5) n x = 104 ∨ rHr (T 5) n x = 119) (eA : A = upZ (T 0) 16 (x + 1)) (eB : B = upZ (T 7) (4 * T 0 18).toNat (rHr (T 5) n x)) : ordQ C T n x 1 A B := by
  have xn : x < n := by
    rcases Classical.em (x < n) with q | q
    · exact q
    · rw [rHr_out (by omega)] at hc; omega
  have e := hs x x0 xn
  rw [e] at hc eB
  have en := iNums_0 hc
  unfold ordQ
  rw [en]
  refine ⟨fun j hj => by rw [eA]; exact upZ_n hj, fun j hj => by rw [eB]; exact upZ_n (by omega), Or.inr ⟨rfl, xn, by decide, by rw [eA, upZ_s]; omega, by rw [eA, upZ_s]; omega, by rw [eB, upZ_s], fun q => absurd q (by decide), fun q => absurd q (by decide), fun y y0 y1 => ?_, fun m2 h2 => ?_⟩⟩
  · rw [eA, upZ_s] at y1; omega
  · obtain ⟨m3, rfl⟩ : ∃ z : Nat, m2 = z + 1 := ⟨m2 - 1, by omega⟩
    rw [eA, upZ_s]
    exact ⟨m3, by omega, fE_g xn (iDue_1.trans en) (by decide)⟩
theorem ord_n {C T : Nat → Nat → Int} {n x : Int} {A B : Nat → Int} (hs : ∀ y, 0 ≤ y → y < n → rHr (T 5) n y = iSign (C 1) y) (x0 : 0 ≤ x) (x1 : x ≤ n) (h18 : 0 ≤ T 0 18) (h16 : T 0 16 = x) (h3 : ¬ (rHr (T 5) n x = 109 ∨ rHr (T 5) n x = 116)) (h1 : ¬ (rHr (T 5) n x = 98 ∨ rHr (T 5) n x = 105 ∨ rHr (T 5) n x = 111 ∨ rHr (T 5) n x = 115 ∨ rHr (T 5) n x = 114)) (h0 : ¬ (rHr (T 5) n x = 104 ∨ rHr (T 5) n x = 119)) (eA : A = T 0) (eB : B = upZ (T 7) (4 * T 0 18).toNat (rHr (T 5) n x)) : ordQ C T n x 0 A B := by
  refine ⟨fun j hj => by rw [eA], fun j hj => by rw [eB]; exact upZ_n (by omega), Or.inl ⟨rfl, by rw [eA, h16]; omega, fun m2 h2 => ?_⟩⟩
  obtain ⟨m3, rfl⟩ : ∃ z : Nat, m2 = z + 1 := ⟨m2 - 1, by omega⟩
  rw [eA, h16]
  rcases Classical.em (x < n) with q | q
  · rw [hs x x0 q] at h3 h1 h0
    exact fE_w q (iDue_1.trans (iNums_n h3 h1 h0))
  · rw [fE_n (by omega) (by decide)]; omega
theorem ord_1 {C T U : Nat → Nat → Int} {n x r : Int} (hs : ∀ y, 0 ≤ y → y < n → rHr (T 5) n y = iSign (C 1) y) (x0 : 0 ≤ x) (h18 : 0 ≤ T 0 18) (hc : rHr (T 5) n x = 98 ∨ rHr (T 5) n x = 105 ∨ rHr (T 5) n x = 111 ∨ rHr (T 5) n x = 115 ∨ rHr (T 5) n x = 114)
    (u5 : U 5 = T 5) (u12 : U 0 12 = n) (u16 : U 0 16 = x + 1) (u0 : ∀ j, j ≠ 16 → U 0 j = T 0 j) (u7 : U 7 = upZ (T 7) (4 * T 0 18).toNat (rHr (T 5) n x)) (hr : r = sp_X8_figures U (4 * T 0 18 + 1) 1) : ordQ C T n x r (sS0_0_X8_figures U (4 * T 0 18 + 1) 1) (sS0_7_X8_figures U (4 * T 0 18 + 1) 1) := by
  have xn : x < n := by
    rcases Classical.em (x < n) with q | q
    · exact q
    · rw [rHr_out (by omega)] at hc; omega
  have e := hs x x0 xn
  rw [e] at hc u7
  have en := iNums_1 hc
  obtain ⟨f0, f7, f⟩ := fig_1 U (4 * T 0 18 + 1) u5 u12 u16 (by omega)
  refine ⟨fun j hj => (f0 j hj).trans (u0 j hj), fun j hj => by rw [f7 j (by omega), u7]; exact upZ_n (by omega), ?_⟩
  rw [en, hr]
  rcases f with ⟨a1, a2, a3, a4⟩ | ⟨a1, a2, a3⟩
  · have yn : x + 1 < n := by
      rcases Classical.em (x + 1 < n) with q | q
      · exact q
      · rw [rHr_out (by omega)] at a2; exact absurd a2 (by decide)
    have e1 := hs (x + 1) (by omega) yn
    rw [e1] at a2 a4
    refine Or.inr ⟨a1, xn, by decide, by rw [a3], by rw [a3]; omega, ?_, fun _ => ?_, fun q => absurd q (by decide), fun y y0 y1 => ?_, fun m2 h2 => ?_⟩
    · rw [f7 _ (by omega), u7, upZ_s]
    · rw [a4, iNumb_d a2]
    · rw [a3] at y1
      rw [show y = x + 1 by omega]
      exact iNums_dg a2
    · obtain ⟨m3, rfl⟩ : ∃ z : Nat, m2 = z + 1 := ⟨m2 - 1, by omega⟩
      obtain ⟨-, m4, k1, k2⟩ := (fE_1 (C := C) (m := m3) hs (y := x + 1) (by omega) (by omega)).1 (by rw [e1]; exact a2)
      rw [a3]
      exact ⟨m4, by omega, (fE_g xn (iDue_1.trans en) (by decide)).trans k2⟩
  · refine Or.inl ⟨a1, by rw [a3]; omega, fun m2 h2 => ?_⟩
    obtain ⟨m3, rfl⟩ : ∃ z : Nat, m2 = z + 1 := ⟨m2 - 1, by omega⟩
    rw [a3]
    exact (fE_g xn (iDue_1.trans en) (by decide)).trans ((fE_1 (C := C) (m := m3) hs (y := x + 1) (by omega) (by omega)).2 a2 (by omega))
theorem dg_in {R5 : Nat → Int} {n y : Int} (h : 48 ≤ rHr R5 n y ∧ rHr R5 n y ≤ 57) : y < n := by
  rcases Classical.em (y < n) with q | q
  · exact q
  · rw [rHr_out (by omega)] at h; exact absurd h (by decide)
theorem ord_3 {C T U : Nat → Nat → Int} {n x r : Int} (hs : ∀ y, 0 ≤ y → y < n → rHr (T 5) n y = iSign (C 1) y) (x0 : 0 ≤ x) (h18 : 0 ≤ T 0 18) (hc : rHr (T 5) n x = 109 ∨ rHr (T 5) n x = 116)
    (u5 : U 5 = T 5) (u12 : U 0 12 = n) (u16 : U 0 16 = x + 1) (u0 : ∀ j, j ≠ 16 → U 0 j = T 0 j) (u7 : U 7 = upZ (T 7) (4 * T 0 18).toNat (rHr (T 5) n x)) (hr : r = sp_X8_figures U (4 * T 0 18 + 1) 3) : ordQ C T n x r (sS0_0_X8_figures U (4 * T 0 18 + 1) 3) (sS0_7_X8_figures U (4 * T 0 18 + 1) 3) := by
  have xn : x < n := by
    rcases Classical.em (x < n) with q | q
    · exact q
    · rw [rHr_out (by omega)] at hc; omega
  have e := hs x x0 xn
  rw [e] at hc u7
  have en := iNums_3 hc
  obtain ⟨f0, f7, f⟩ := fig_3 U (4 * T 0 18 + 1) u5 u12 u16 (by omega)
  refine ⟨fun j hj => (f0 j hj).trans (u0 j hj), fun j hj => by rw [f7 j (by omega), u7]; exact upZ_n (by omega), ?_⟩
  have g : ∀ m3 : Nat, sp_X3_findError_L4 C n (m3 + 1) (-1) x = sp_X3_findError_L4 C n m3 3 (x + 1) := fun m3 => fE_g xn (iDue_1.trans en) (by decide)
  rw [en, hr]
  rcases f with ⟨a1, ⟨d0, d1, d2⟩, a3, b0, b1, b2⟩ | ⟨a1, d0, a3⟩ | ⟨a1, ⟨d0, d1⟩, a3⟩ | ⟨a1, ⟨d0, d1, d2⟩, a3⟩
  · have y2 := dg_in d2
    have e0 := hs (x + 1) (by omega) (by omega)
    have e1 := hs (x + 1 + 1) (by omega) (by omega)
    have e2 := hs (x + 1 + 1 + 1) (by omega) (by omega)
    have k0 := fun m3 : Nat => fE_k (C := C) (m := m3) (d0 := 3) (by decide) hs (y := x + 1) (by omega)
    have k1 := fun m3 : Nat => fE_k (C := C) (m := m3) (d0 := 3 - 1) (by decide) hs (y := x + 1 + 1) (by omega)
    have k2 := fun m3 : Nat => fE_1 (C := C) (m := m3) hs (y := x + 1 + 1 + 1) (by omega)
    have D0 := d0
    have D1 := d1
    have D2 := d2
    rw [e0] at d0 b0
    rw [e1] at d1 b1
    rw [e2] at d2 b2
    refine Or.inr ⟨a1, xn, by decide, by rw [a3]; omega, by rw [a3]; omega, ?_, fun _ => ?_, fun _ => ⟨?_, ?_⟩, fun y y0 y1 => ?_, fun m2 h2 => ?_⟩
    · rw [f7 _ (by omega), u7, upZ_s]
    · rw [b0, iNumb_d d0]
    · rw [show 4 * T 0 18 + 2 = 4 * T 0 18 + 1 + 1 by omega, b1, show x + 2 = x + 1 + 1 by omega, iNumb_d d1]
    · rw [show 4 * T 0 18 + 3 = 4 * T 0 18 + 1 + 2 by omega, b2, show x + 3 = x + 1 + 1 + 1 by omega, iNumb_d d2]
    · rw [a3] at y1
      rcases (show y = x + 1 ∨ y = x + 1 + 1 ∨ y = x + 1 + 1 + 1 by omega) with z | z | z
      · rw [z]; exact iNums_dg d0
      · rw [z]; exact iNums_dg d1
      · rw [z]; exact iNums_dg d2
    · obtain ⟨m3, rfl⟩ : ∃ z : Nat, m2 = z + 1 := ⟨m2 - 1, by omega⟩
      obtain ⟨-, m4, p1, p2⟩ := (k0 m3 (by omega)).1 D0
      obtain ⟨-, m5, p3, p4⟩ := (k1 m4 (by omega)).1 D1
      obtain ⟨-, m6, p5, p6⟩ := (k2 m5 (by omega)).1 D2
      rw [a3]
      exact ⟨m6, by omega, (g m3).trans (p2.trans (p4.trans p6))⟩
  · refine Or.inl ⟨a1, by rw [a3]; omega, fun m2 h2 => ?_⟩
    obtain ⟨m3, rfl⟩ : ∃ z : Nat, m2 = z + 1 := ⟨m2 - 1, by omega⟩
    rw [a3]
    exact (g m3).trans ((fE_k (C := C) (m := m3) (d0 := 3) (by decide) hs (y := x + 1) (by omega) (by omega)).2 d0 (by omega))
  · have y0 := dg_in d0
    refine Or.inl ⟨a1, by rw [a3]; omega, fun m2 h2 => ?_⟩
    obtain ⟨m3, rfl⟩ : ∃ z : Nat, m2 = z + 1 := ⟨m2 - 1, by omega⟩
    rw [a3]
    obtain ⟨-, m4, p1, p2⟩ := (fE_k (C := C) (m := m3) (d0 := 3) (by decide) hs (y := x + 1) (by omega) (by omega)).1 d0
    exact (g m3).trans (p2.trans ((fE_k (C := C) (m := m4) (d0 := 3 - 1) (by decide) hs (y := x + 1 + 1) (by omega) (by omega)).2 d1 (by omega)))
  · have y1 := dg_in d1
    refine Or.inl ⟨a1, by rw [a3]; omega, fun m2 h2 => ?_⟩
    obtain ⟨m3, rfl⟩ : ∃ z : Nat, m2 = z + 1 := ⟨m2 - 1, by omega⟩
    rw [a3]
    obtain ⟨-, m4, p1, p2⟩ := (fE_k (C := C) (m := m3) (d0 := 3) (by decide) hs (y := x + 1) (by omega) (by omega)).1 d0
    obtain ⟨-, m5, p3, p4⟩ := (fE_k (C := C) (m := m4) (d0 := 3 - 1) (by decide) hs (y := x + 1 + 1) (by omega) (by omega)).1 d1
    exact (g m3).trans (p2.trans (p4.trans ((fE_1 (C := C) (m := m5) hs (y := x + 1 + 1 + 1) (by omega) (by omega)).2 d2 (by omega))))
set_option maxHeartbeats 4000000 in
theorem ord_all {C T : Nat → Nat → Int} {n x : Int} (hs : ∀ y, 0 ≤ y → y < n → rHr (T 5) n y = iSign (C 1) y) (x0 : 0 ≤ x) (x1 : x ≤ n) (h12 : T 0 12 = n) (h16 : T 0 16 = x) (h18 : 0 ≤ T 0 18) : ordQ C T n x (sp_X8_orderHere T) (sS0_0_X8_orderHere T) (sS0_7_X8_orderHere T) := by
  have U5 : (up2 (up2 T 7 ((4 * (T 0 18)).toNat) (rHr (T 5) ((T 0 12)) ((T 0 16)))) 0 16 (((T 0 16)) + 1)) 5 = T 5 := rfl
  have U12 : (up2 (up2 T 7 ((4 * (T 0 18)).toNat) (rHr (T 5) ((T 0 12)) ((T 0 16)))) 0 16 (((T 0 16)) + 1)) 0 12 = n := h12
  have U16 : (up2 (up2 T 7 ((4 * (T 0 18)).toNat) (rHr (T 5) ((T 0 12)) ((T 0 16)))) 0 16 (((T 0 16)) + 1)) 0 16 = x + 1 := by show T 0 16 + 1 = x + 1; rw [h16]
  have U0 : ∀ j, j ≠ 16 → (up2 (up2 T 7 ((4 * (T 0 18)).toNat) (rHr (T 5) ((T 0 12)) ((T 0 16)))) 0 16 (((T 0 16)) + 1)) 0 j = T 0 j := fun j hj => upZ_n hj
  have U7 : (up2 (up2 T 7 ((4 * (T 0 18)).toNat) (rHr (T 5) ((T 0 12)) ((T 0 16)))) 0 16 (((T 0 16)) + 1)) 7 = upZ (T 7) (4 * T 0 18).toNat (rHr (T 5) n x) := by show upZ (T 7) ((4 * (T 0 18)).toNat) (rHr (T 5) (T 0 12) (T 0 16)) = _; rw [h12, h16]
  have hc : rHr (T 5) (T 0 12) (T 0 16) = rHr (T 5) n x := by rw [h12, h16]
  have F01 : ∀ p1, sp_X8_figures (up2 (up2 T 7 ((4 * (T 0 18)).toNat) (rHr (T 5) ((T 0 12)) ((T 0 16)))) 0 16 (((T 0 16)) + 1)) (4 * T 0 18 + 1) p1 = 0 ∨ sp_X8_figures (up2 (up2 T 7 ((4 * (T 0 18)).toNat) (rHr (T 5) ((T 0 12)) ((T 0 16)))) 0 16 (((T 0 16)) + 1)) (4 * T 0 18 + 1) p1 = 1 := fun p1 => by
    have f := (fig_f (up2 (up2 T 7 ((4 * (T 0 18)).toNat) (rHr (T 5) ((T 0 12)) ((T 0 16)))) 0 16 (((T 0 16)) + 1)) (4 * T 0 18 + 1) p1 trivial).1
    omega
  refine e_X8_orderHere T (ordQ C T n x) ?_ ?_ ?_ ?_ ?_ ?_ ?_ ?_ ?_ ?_ ?_ ?_ ?_ ?_ ?_
  · intro q; rw [hc] at q; exact ord_0 hs x0 h18 (Or.inl q) (by rw [h16]) (by rw [hc])
  · intro _ q; rw [hc] at q; exact ord_0 hs x0 h18 (Or.inr q) (by rw [h16]) (by rw [hc])
  · intro _ _ q; rw [hc] at q; exact ord_3 hs x0 h18 (Or.inl q) U5 U12 U16 U0 U7 rfl
  · intro _ _ _ q; rw [hc] at q; exact ord_3 hs x0 h18 (Or.inr q) U5 U12 U16 U0 U7 rfl
  · intro _ _ _ _ q f; rw [hc] at q; exact ord_1 hs x0 h18 (by omega) U5 U12 U16 U0 U7 f.symm
  · intro _ _ _ _ q f; rw [hc] at q; exact ord_1 hs x0 h18 (by omega) U5 U12 U16 U0 U7 ((F01 1).elim (fun z => absurd z f) (fun z => z.symm))
  · intro _ _ _ _ _ q f; rw [hc] at q; exact ord_1 hs x0 h18 (by omega) U5 U12 U16 U0 U7 f.symm
  · intro _ _ _ _ _ q f; rw [hc] at q; exact ord_1 hs x0 h18 (by omega) U5 U12 U16 U0 U7 ((F01 1).elim (fun z => absurd z f) (fun z => z.symm))
  · intro _ _ _ _ _ _ q f; rw [hc] at q; exact ord_1 hs x0 h18 (by omega) U5 U12 U16 U0 U7 f.symm
  · intro _ _ _ _ _ _ q f; rw [hc] at q; exact ord_1 hs x0 h18 (by omega) U5 U12 U16 U0 U7 ((F01 1).elim (fun z => absurd z f) (fun z => z.symm))
  · intro _ _ _ _ _ _ _ q f; rw [hc] at q; exact ord_1 hs x0 h18 (by omega) U5 U12 U16 U0 U7 f.symm
  · intro _ _ _ _ _ _ _ q f; rw [hc] at q; exact ord_1 hs x0 h18 (by omega) U5 U12 U16 U0 U7 ((F01 1).elim (fun z => absurd z f) (fun z => z.symm))
  · intro _ _ _ _ _ _ _ _ q f; rw [hc] at q; exact ord_1 hs x0 h18 (by omega) U5 U12 U16 U0 U7 f.symm
  · intro _ _ _ _ _ _ _ _ q f; rw [hc] at q; exact ord_1 hs x0 h18 (by omega) U5 U12 U16 U0 U7 ((F01 1).elim (fun z => absurd z f) (fun z => z.symm))
  · intro q1 q2 q3 q4 q5 q6 q7 q8 q9
    rw [hc] at q1 q2 q3 q4 q5 q6 q7 q8 q9
    exact ord_n hs x0 x1 h18 h16 (by omega) (by omega) (by omega) rfl (by rw [hc])
/-- where the orders of a text begin -/
noncomputable def tPos (I : Nat → Int) (x : Int) : Nat → Int
  | 0 => x
  | j + 1 => tPos I x j + iNums (iSign I (tPos I x j)) + 2
theorem tPos_s {I : Nat → Int} {x : Int} : ∀ j : Nat, tPos I x (j + 1) = tPos I (x + iNums (iSign I x) + 2) j := by
  intro j
  induction j with
  | zero => rfl
  | succ j ih =>
    show tPos I x (j + 1) + iNums (iSign I (tPos I x (j + 1))) + 2 = _
    rw [ih]
    rfl
/-- what is told of the order j, which stands at p -/
def tOne (I : Nat → Int) (n p p2 k : Int) (B : Nat → Int) : Prop :=
  (0 ≤ p ∧ p < n) ∧ ¬ iNums (iSign I p) = -2 ∧ B (4 * k).toNat = iSign I p ∧ (1 ≤ iNums (iSign I p) → B (4 * k + 1).toNat = iNumb I (p + 1)) ∧ (iNums (iSign I p) = 3 → B (4 * k + 2).toNat = iNumb I (p + 2) ∧ B (4 * k + 3).toNat = iNumb I (p + 3)) ∧
  ∀ y : Int, p < y → y < p2 → y < n → iNums (iSign I y) = -2
def tOrd (I : Nat → Int) (n x : Int) (q : Nat) (k : Int) (B : Nat → Int) : Prop :=
  tPos I x q = n + 1 ∧ ∀ j : Nat, j < q → tOne I n (tPos I x j) (tPos I x (j + 1)) (k + j) B
def txtQ (C : Nat → Nat → Int) (n x k : Int) (FA FB : Nat → Int) (m2 : Nat) (r : Int) (A B : Nat → Int) : Prop :=
  (∀ j, j ≠ 16 → j ≠ 18 → A j = FA j) ∧ (0 ≤ A 16 ∧ A 16 ≤ n) ∧ (k ≤ A 18 ∧ A 18 ≤ 31) ∧
  ((r = 0 ∧ sp_X3_findError_L4 C n m2 (-1) x = A 16) ∨ (r = 1 ∧ sp_X3_findError_L4 C n m2 (-1) x = -1 ∧ (∀ j : Nat, (j : Int) < 4 * k → B j = FB j) ∧ ∃ q : Nat, 1 ≤ q ∧ A 18 = k + q ∧ k + q ≤ 30 ∧ tOrd (C 1) n x q k B))
theorem iDue_0s : iDue 0 59 = -1 := by
  unfold iDue
  rw [zif_neg (by decide), zif_pos rfl, zif_pos rfl]
theorem iDue_0x {c : Int} (h : ¬ c = 59) : iDue 0 c = -2 := by
  unfold iDue
  rw [zif_neg (by decide), zif_pos rfl, zif_neg h]
set_option maxHeartbeats 4000000 in
theorem text_eq {C S : Nat → Nat → Int} {n : Int} (hs : ∀ y, 0 ≤ y → y < n → rHr (S 5) n y = iSign (C 1) y) (hn : 0 ≤ n ∧ n ≤ 60) : ∀ (f : Nat) (FA FB : Nat → Int) (x k : Int) (m2 : Nat), FA 12 = n → FA 16 = x → FA 18 = k → 0 ≤ k → 2 * k ≤ x → x ≤ n → 31 ≤ k + f → n < x + m2 →
    txtQ C n x k FA FB m2 (sp_X8_isText_L10 S f FA FB) (sS0_0_X8_isText_L10 S f FA FB) (sS0_7_X8_isText_L10 S f FA FB) := by
  intro f
  induction f with
  | zero =>
    intro FA FB x k m2 h12 h16 h18 k0 k2 xn hf hm
    exact absurd hf (by omega)
  | succ f ih =>
    intro FA FB x k m2 h12 h16 h18 k0 k2 xn hf hm
    have O := ord_all (C := C) (T := upA (upA (up2 (up2 S 0 16 0) 0 18 0) 0 FA) 7 FB) (n := n) (x := x) hs (by omega) xn h12 h16 (by show 0 ≤ FA 18; omega)
    unfold sp_X8_isText_L10 sS0_0_X8_isText_L10 sS0_7_X8_isText_L10
    generalize sp_X8_orderHere (upA (upA (up2 (up2 S 0 16 0) 0 18 0) 0 FA) 7 FB) = r at O ⊢
    generalize sS0_0_X8_orderHere (upA (upA (up2 (up2 S 0 16 0) 0 18 0) 0 FA) 7 FB) = A at O ⊢
    generalize sS0_7_X8_orderHere (upA (upA (up2 (up2 S 0 16 0) 0 18 0) 0 FA) 7 FB) = B at O ⊢
    obtain ⟨o0, o7, o⟩ := O
    have o0 : ∀ j, j ≠ 16 → A j = FA j := o0
    have o7 : ∀ j : Nat, (j : Int) < 4 * k → B j = FB j := by rw [← h18]; exact o7
    have a18 : A 18 = k := (o0 18 (by decide)).trans h18
    have a12 : A 12 = n := (o0 12 (by decide)).trans h12
    rcases o with ⟨r0, a16, fE⟩ | ⟨r1, xn, nn, a16, a16n, b0, b1, b3, gap, fE⟩
    · rw [zif_pos r0, zif_pos r0, zif_pos r0]
      exact ⟨fun j j6 _ => o0 j j6, a16, by omega, Or.inl ⟨rfl, fE m2 hm⟩⟩
    · have b0 : B (4 * k).toNat = iSign (C 1) x := by rw [← h18]; exact b0
      have b1 : 1 ≤ iNums (iSign (C 1) x) → B (4 * k + 1).toNat = iNumb (C 1) (x + 1) := by rw [← h18]; exact b1
      have b3 : iNums (iSign (C 1) x) = 3 → B (4 * k + 2).toNat = iNumb (C 1) (x + 2) ∧ B (4 * k + 3).toNat = iNumb (C 1) (x + 3) := by rw [← h18]; exact b3
      have rn : ¬ r = 0 := by omega
      have mr := iNums_rng (c := iSign (C 1) x)
      obtain ⟨m3, hm3, fE⟩ := fE m2 hm
      obtain ⟨m4, rfl⟩ : ∃ z : Nat, m3 = z + 1 := ⟨m3 - 1, by omega⟩
      have k30 : k ≤ 29 := by omega
      rw [zif_neg rn, zif_neg rn, zif_neg rn, a12]
      rcases Classical.em (rHr (S 5) n (A 16) = 59) with c | c
      · rw [zif_pos c, zif_pos c, zif_pos c]
        have yn : A 16 < n := by
          rcases Classical.em (A 16 < n) with q | q
          · exact q
          · rw [rHr_out (by omega)] at c; exact absurd c (by decide)
        have ys := (hs (A 16) (by omega) yn).symm.trans c
        have fE2 := fE.trans (fE_g (v := -1) yn (by rw [ys]; exact iDue_0s) (by decide))
        have z := ih (upZ (upZ A 18 (A 18 + 1)) 16 (A 16 + 1)) B (A 16 + 1) (k + 1) m4 (by rw [upZ_n (by decide), upZ_n (by decide)]; exact a12) upZ_s (by rw [upZ_n (by decide), upZ_s, a18]) (by omega) (by omega) (by omega) (by omega) (by omega)
        rw [a18] at z ⊢
        generalize sp_X8_isText_L10 S f (upZ (upZ A 18 (k + 1)) 16 (A 16 + 1)) B = r2 at z ⊢
        generalize sS0_0_X8_isText_L10 S f (upZ (upZ A 18 (k + 1)) 16 (A 16 + 1)) B = A2 at z ⊢
        generalize sS0_7_X8_isText_L10 S f (upZ (upZ A 18 (k + 1)) 16 (A 16 + 1)) B = B2 at z ⊢
        obtain ⟨z0, z16, z18, z⟩ := z
        refine ⟨fun j j6 j8 => ?_, z16, by omega, ?_⟩
        · rw [z0 j j6 j8, upZ_n j6, upZ_n j8]; exact o0 j j6
        · rcases z with ⟨e1, e2⟩ | ⟨e1, e2, e7, q, q1, q2, q3, q4, q5⟩
          · exact Or.inl ⟨e1, fE2.trans e2⟩
          · have px : x + iNums (iSign (C 1) x) + 2 = A 16 + 1 := by omega
            refine Or.inr ⟨e1, fE2.trans e2, fun j hj => (e7 j (by omega)).trans (o7 j hj), q + 1, by omega, by omega, by omega, ?_, fun j hj => ?_⟩
            · rw [tPos_s, px]; exact q4
            · rw [tPos_s j, px]
              cases j with
              | zero =>
                show tOne (C 1) n x (A 16 + 1) (k + ((0 : Nat) : Int)) B2
                rw [show k + ((0 : Nat) : Int) = k by omega]
                refine ⟨⟨by omega, xn⟩, nn, by rw [e7 _ (by omega)]; exact b0, fun h => by rw [e7 _ (by omega)]; exact b1 h, fun h => ⟨by rw [e7 _ (by omega)]; exact (b3 h).1, by rw [e7 _ (by omega)]; exact (b3 h).2⟩, fun y y0 y1 _ => ?_⟩
                rcases Classical.em (y < A 16) with w | w
                · exact gap y y0 w
                · rw [show y = A 16 by omega, ys]
                  exact iNums_n (by decide) (by decide) (by decide)
              | succ j =>
                rw [tPos_s j, px]
                have w := q5 j (by omega)
                rw [show k + ((j + 1 : Nat) : Int) = k + 1 + (j : Int) by omega]
                exact w
      · rw [zif_neg c, zif_neg c, zif_neg c]
        rcases Classical.em (A 16 = n) with d | d
        · rw [zif_pos d, zif_pos d, zif_pos d]
          refine ⟨fun j j6 j8 => by rw [upZ_n j8]; exact o0 j j6, by rw [upZ_n (by decide)]; omega, by rw [upZ_s]; omega, Or.inr ⟨rfl, fE.trans (fE_0 (by omega)), o7, 1, by omega, by rw [upZ_s, a18]; rfl, by omega, ?_, fun j hj => ?_⟩⟩
          · show x + iNums (iSign (C 1) x) + 2 = n + 1
            omega
          · obtain rfl : j = 0 := by omega
            show tOne (C 1) n x (x + iNums (iSign (C 1) x) + 2) (k + ((0 : Nat) : Int)) B
            rw [show k + ((0 : Nat) : Int) = k by omega]
            exact ⟨⟨by omega, xn⟩, nn, b0, b1, b3, fun y y0 y1 y2 => gap y y0 (by omega)⟩
        · rw [zif_neg d, zif_neg d, zif_neg d]
          refine ⟨fun j j6 j8 => by rw [upZ_n j8]; exact o0 j j6, by rw [upZ_n (by decide)]; omega, by rw [upZ_s]; omega, Or.inl ⟨rfl, ?_⟩⟩
          have yn : A 16 < n := by omega
          rw [hs (A 16) (by omega) yn] at c
          rw [upZ_n (by decide)]
          exact fE.trans (fE_w yn (iDue_0x c))
/-- what is told stays within bounds -/
theorem rHr_be {K n x : Int} {I : Nat → Int} (h : ∀ j, -1 ≤ I j ∧ I j ≤ K) (hK : 0 ≤ K) : -1 ≤ rHr I n x ∧ rHr I n x ≤ K := by
  rcases Classical.em (n ≤ x) with q | q
  · rw [rHr_out q]; omega
  · rw [rHr_in (by omega)]; exact h _
theorem fig_bd {S0 : Nat → Nat → Int} {p0 p1 K : Int} (h5 : ∀ j, -1 ≤ S0 5 j ∧ S0 5 j ≤ K) (h7 : zBk K (S0 7)) (hK : 100 ≤ K) : zBk K (sS0_7_X8_figures S0 p0 p1) := by
  have b := fun y => rHr_be (n := S0 0 12) (x := y) h5 (by omega)
  have b0 := b (S0 0 16)
  have b1 := b (S0 0 16 + 1)
  have b2 := b (S0 0 16 + 1 + 1)
  unfold sS0_7_X8_figures
  exact zBk.zif (zBk.zif (h7.up (by omega)) h7) (zBk.zif (zBk.zif (zBk.zif (((h7.up (by omega)).up (by omega)).up (by omega)) ((h7.up (by omega)).up (by omega))) (h7.up (by omega))) h7)
theorem ord_bd {S0 : Nat → Nat → Int} {K : Int} (h5 : ∀ j, -1 ≤ S0 5 j ∧ S0 5 j ≤ K) (h7 : zBk K (S0 7)) (hK : 100 ≤ K) : zBk K (sS0_7_X8_orderHere S0) := by
  have b0 := rHr_be (n := S0 0 12) (x := S0 0 16) h5 (by omega)
  have u := h7.up (k := (4 * (S0 0 18)).toNat) (v := rHr (S0 5) (S0 0 12) (S0 0 16)) (by omega)
  have g : ∀ p1, zBk K (sS0_7_X8_figures (up2 (up2 S0 7 ((4 * (S0 0 18)).toNat) (rHr (S0 5) ((S0 0 12)) ((S0 0 16)))) 0 16 (((S0 0 16)) + 1)) ((4 * (S0 0 18)) + 1) p1) := fun p1 => fig_bd (S0 := up2 (up2 S0 7 ((4 * (S0 0 18)).toNat) (rHr (S0 5) ((S0 0 12)) ((S0 0 16)))) 0 16 (((S0 0 16)) + 1)) h5 u hK
  refine e_X8_orderHere S0 (fun _ _ B => zBk K B) ?_ ?_ ?_ ?_ ?_ ?_ ?_ ?_ ?_ ?_ ?_ ?_ ?_ ?_ ?_ <;> intros <;> first | exact u | exact g _
theorem text_bd {S : Nat → Nat → Int} {K : Int} (h5 : ∀ j, -1 ≤ S 5 j ∧ S 5 j ≤ K) (hK : 100 ≤ K) : ∀ (f : Nat) (FA FB : Nat → Int), zBk K FB → zBk K (sS0_7_X8_isText_L10 S f FA FB) := by
  intro f
  induction f with
  | zero => intro FA FB _ j; show -K ≤ (0 : Int) ∧ (0 : Int) ≤ K; omega
  | succ f ih =>
    intro FA FB h7
    have o : zBk K (sS0_7_X8_orderHere (upA (upA (up2 (up2 S 0 16 0) 0 18 0) 0 FA) 7 FB)) := ord_bd (S0 := upA (upA (up2 (up2 S 0 16 0) 0 18 0) 0 FA) 7 FB) h5 h7 hK
    unfold sS0_7_X8_isText_L10
    exact zBk.zif o (zBk.zif (ih _ _ o) (zBk.zif o o))

