def sumI (f : Int → Int) (x : Int) : Int := sumZ (fun k => f (k : Int)) x.toNat
theorem sumI_0 {f : Int → Int} : sumI f 0 = 0 := rfl
theorem sumI_e {f : Int → Int} {x v : Int} (hx : 0 ≤ x) (h : v = f x) : sumI f x + v = sumI f (x + 1) := by
  unfold sumI
  rw [show (x + 1).toNat = x.toNat + 1 by omega, h]
  show _ = sumZ _ x.toNat + f (x.toNat : Int)
  rw [show ((x.toNat : Nat) : Int) = x by omega]
theorem sumZ_bd {f : Nat → Int} {M : Int} : ∀ n : Nat, (∀ k, k < n → -M ≤ f k ∧ f k ≤ M) → -(M * n) ≤ sumZ f n ∧ sumZ f n ≤ M * n := by
  intro n
  induction n with
  | zero => intro _; simp [sumZ]
  | succ n ih =>
    intro h
    have a := ih (fun k hk => h k (by omega))
    have b := h n (by omega)
    have e : M * ((n + 1 : Nat) : Int) = M * n + M := by rw [Int.natCast_add, Int.mul_add]; omega
    rw [e]
    show _ ≤ sumZ f n + f n ∧ sumZ f n + f n ≤ _
    omega
theorem sumI_bd {f : Int → Int} {M x : Int} (hx : 0 ≤ x) (h : ∀ k, 0 ≤ k → k < x → -M ≤ f k ∧ f k ≤ M) : -(M * x) ≤ sumI f x ∧ sumI f x ≤ M * x := by
  have a := sumZ_bd (f := fun k => f (k : Int)) (M := M) x.toNat (fun k hk => h k (by omega) (by omega))
  rw [show ((x.toNat : Nat) : Int) = x by omega] at a
  exact a
theorem sumI_01 {f : Int → Int} {x : Int} (hx : 0 ≤ x) (h : ∀ k, 0 ≤ k → k < x → 0 ≤ f k ∧ f k ≤ 1) : 0 ≤ sumI f x ∧ sumI f x ≤ x := by
  have key : ∀ n : Nat, (n : Int) ≤ x → 0 ≤ sumZ (fun k => f (k : Int)) n ∧ sumZ (fun k => f (k : Int)) n ≤ n := by
    intro n
    induction n with
    | zero => intro _; exact ⟨Int.le_refl 0, Int.le_refl 0⟩
    | succ n ih =>
      intro hn
      have a := ih (by omega)
      have b := h n (by omega) (by omega)
      show 0 ≤ sumZ (fun k => f (k : Int)) n + f (n : Int) ∧ sumZ (fun k => f (k : Int)) n + f (n : Int) ≤ _
      omega
  have a := key x.toNat (by omega)
  exact ⟨a.1, by have := a.2; unfold sumI; omega⟩
theorem zif_01 (P : Prop) : 0 ≤ zif P (1 : Int) 0 ∧ zif P (1 : Int) 0 ≤ 1 := zb_in P
/-- a fold over 0 .. x - 1 -/
def foldN (f : Int → Int → Int) (a : Int) : Nat → Int
  | 0 => a
  | n + 1 => f n (foldN f a n)
def foldI (f : Int → Int → Int) (a x : Int) : Int := foldN f a x.toNat
theorem foldI_e {f : Int → Int → Int} {a x v : Int} (hx : 0 ≤ x) (h : v = f x (foldI f a x)) : v = foldI f a (x + 1) := by
  rw [h]
  unfold foldI
  rw [show (x + 1).toNat = x.toNat + 1 by omega]
  show _ = f (x.toNat : Int) _
  rw [show ((x.toNat : Nat) : Int) = x by omega]
abbrev rCnt (G : Nat → Int) (b : Int) : Int := G (15 + 26 * b + 0).toNat
abbrev rCar (G : Nat → Int) (b k w : Int) : Int := G (15 + 26 * b + (6 + 4 * k + w)).toNat
noncomputable def rBlanks (G : Nat → Int) (b : Int) : Int := sumI (fun k => rCar G b k 0) (rCnt G b)
noncomputable def rGreys (G : Nat → Int) (b : Int) : Int := sumI (fun k => zif (rCar G b k 0 = 1) 0 (rCar G b k 1)) (rCnt G b)
theorem rGreys_bd {G : Nat → Int} (h : zBt G) {b : Int} (hc : 0 ≤ rCnt G b ∧ rCnt G b ≤ 5) : -5000000 ≤ rGreys G b ∧ rGreys G b ≤ 5000000 := by
  have a := sumI_bd (f := fun k => zif (rCar G b k 0 = 1) 0 (rCar G b k 1)) (M := 1000000) (x := rCnt G b) hc.1 (fun k _ _ => by
    show -1000000 ≤ zif (rCar G b k 0 = 1) 0 (rCar G b k 1) ∧ zif (rCar G b k 0 = 1) 0 (rCar G b k 1) ≤ 1000000
    rcases Classical.em (rCar G b k 0 = 1) with c | c
    · rw [zif_pos c]; omega
    · rw [zif_neg c]; exact h _)
  unfold rGreys
  omega
noncomputable def rAhead (G : Nat → Int) (p0 : Int) : Int := sumI (fun k => zif (rWorth G p0 (G 7) < rWorth G k (G 7) ∨ (rWorth G k (G 7) = rWorth G p0 (G 7) ∧ k < p0)) 1 0) (G 10)
theorem rAhead_bd {G : Nat → Int} {p0 : Int} (h : 0 ≤ G 10) : 0 ≤ rAhead G p0 ∧ rAhead G p0 ≤ G 10 := sumI_01 h (fun k _ _ => zif_01 _)
set_option maxHeartbeats 4000000 in
set_option maxRecDepth 100000 in
theorem c_X8_blanks (l : Launch) (D : va_G) (k : Nat → ClassId) (a0 : Nat → Nat) (S0 : Nat → Nat → Int) (p0 : Int) (hB : zBf (S0 1)) (h0 : 0 ≤ p0 ∧ p0 ≤ 2) (h1 : 0 ≤ S0 1 (15 + 26 * p0 + 0).toNat ∧ S0 1 (15 + 26 * p0 + 0).toNat ≤ 5) : zMi l yX8_blanks wsX8_blanks ({ frames := 2, cells := 0, slots := 0, locals := 45 } : Room) D k [.ref (a0 0), .int (iI p0)] (wRef k a0 S0) (rBlanks (S0 1) p0) (wRef k a0 S0) 0 0 := by
  refine zMi_of (cc := cX8_blanks) (maxL := 4) (ret := (some .int)) (by decide) rfl (Nat.le_of_ble_eq_true rfl) ?_
  intro p e s m args below meth c A ls hx hb hr hml hown hts hlocks hK hP hD hG hA hS hl
  have hown : s.vm.findClass RX8 = some m.cls := hown
  have hl : lv_has ls 4 [(0, .ref (a0 0)), (1, .int (iI p0))] := hl
  obtain ⟨H, hH⟩ : ∃ z, z = s.heap := ⟨_, rfl⟩
  obtain ⟨locs, hlc⟩ : ∃ z : List Loc, z = [] := ⟨_, rfl⟩
  rw [← hH] at hP
  have hS : va_S A s.heap H locs := by rw [hH, hlc]; exact hS
  rw [← hlc, ← hH]
  clear hlc hH
  refine lv_iconst (v := iI 0) hx hb dX8_blanks_0 rfl ?_
  refine lv_istore_n (lv' := [(2, .int (iI 0)), (0, .ref (a0 0)), (1, .int (iI p0))]) hx hb dX8_blanks_1 rfl hl (by decide) rfl (fun ls hl => ?_)
  refine lv_iconst (v := iI 0) hx hb dX8_blanks_2 rfl ?_
  refine lv_istore_n (lv' := [(3, .int (iI 0)), (2, .int (iI 0)), (0, .ref (a0 0)), (1, .int (iI p0))]) hx hb dX8_blanks_3 rfl hl (by decide) rfl (fun ls hl => ?_)
  have lp4_0 : ∀ (n : Nat) (x2 : Int) (x3 : Int), (5 - x3).toNat < n → (0 ≤ x3) → (x3 ≤ S0 1 (15 + 26 * p0 + 0).toNat) → (x2 = sumI (fun k => rCar (S0 1) p0 k 0) x3) → ∀ (H : Heap) (locs : List Loc) (ls : Array Slot), va_P D vwCl (wRef k a0 S0) H → va_D A (wRef k a0 S0) → va_S A s.heap H locs → lv_has ls 4 [(3, .int (iI x3)), (2, .int (iI x2)), (0, .ref (a0 0)), (1, .int (iI p0))] → W p l e ({ frames := 2, cells := 0, slots := 0, locals := 45 } : Room) s m args below meth c H locs 0 0 (MQ below (zQi D A (rBlanks (S0 1) p0) (wRef k a0 S0)) args s 0 0 A) (F0 m 4 ls []) := by
    intro n4
    induction n4 with
    | zero => intro x2 x3 hm; exact absurd hm (Nat.not_lt_zero _)
    | succ n4 ih4 =>
      intro x2 x3 hm4 i0 i1 iF  H locs ls hP hD hS hl
      refine lv_iload_n hx hb dX8_blanks_4 rfl (lv_at hl 0 rfl) ?_
      refine lv_aload_n hx hb dX8_blanks_5 rfl (lv_at hl 2 rfl) ?_
      refine lv_iload_n hx hb dX8_blanks_6 rfl (lv_at hl 3 rfl) ?_
      refine lv_iconst (v := iI 0) hx hb dX8_blanks_7 rfl ?_
      refine z_ai0 (va_runV (As := [.int (iI p0), .int (iI 0)]) (rest := [.int (iI x3)]) ⟨hx, hb, hml, hown, hts⟩ (c_X8_of l D k a0 S0  p0 0 (by omega) (by omega) _) (cwV 2 hts gX8_blanks_X8_of rfl rfl rfl (by decide +kernel) ⟨(Nat.le_of_ble_eq_true rfl), (Nat.le_of_ble_eq_true rfl)⟩) (z_preV hK hG hA hP hD hS [0, 1, 2, 3, 4, 5, 6, 7] rfl (by decide) 10 rfl rfl) rfl rfl hl.1 rfl (lv_room (Nat.le_of_ble_eq_true rfl)) dX8_blanks_8 ⟨(Nat.le_of_ble_eq_true rfl), (Nat.le_of_ble_eq_true rfl)⟩) hA hP hD hS [0, 1, 2, 3, 4, 5, 6, 7] rfl (fun H locs hP hS => ?_)
      have f_1 := hB (((15 + (26 * p0)) + 0).toNat)
      refine zi_icmp_ge (tgt := 30) hx hb dX8_blanks_11 (by decide) ⟨by omega, by omega⟩ ⟨by omega, by omega⟩ (fun c_2 => ?_) (fun c_2 => ?_)
      · have v_3 : x2 = rBlanks (S0 1) p0 := (by rw [iF, show x3 = S0 1 (15 + 26 * p0 + 0).toNat by omega]; rfl)
        rw [v_3] at hl
        refine lv_iload_n hx hb dX8_blanks_30 rfl (lv_at hl 1 rfl) ?_
        exact z_iret hx hb hr hlocks hP hS dX8_blanks_31 rfl rfl (Nat.le_refl _) (Nat.le_refl _)
      · refine lv_iload_n hx hb dX8_blanks_14 rfl (lv_at hl 1 rfl) ?_
        refine lv_aload_n hx hb dX8_blanks_15 rfl (lv_at hl 2 rfl) ?_
        refine lv_iload_n hx hb dX8_blanks_16 rfl (lv_at hl 3 rfl) ?_
        refine lv_iload_n hx hb dX8_blanks_17 rfl (lv_at hl 0 rfl) ?_
        refine lv_iconst (v := iI 0) hx hb dX8_blanks_18 rfl ?_
        refine z_ai0 (va_runV (As := [.int (iI p0), .int (iI x3), .int (iI 0)]) (rest := [.int (iI x2)]) ⟨hx, hb, hml, hown, hts⟩ (c_X8_on l D k a0 S0  p0 x3 0 (by omega) (by omega) _) (cwV 3 hts gX8_blanks_X8_on rfl rfl rfl (by decide +kernel) ⟨(Nat.le_of_ble_eq_true rfl), (Nat.le_of_ble_eq_true rfl)⟩) (z_preV hK hG hA hP hD hS [0, 1, 2, 3, 4, 5, 6, 7] rfl (by decide) 10 rfl rfl) rfl rfl hl.1 rfl (lv_room (Nat.le_of_ble_eq_true rfl)) dX8_blanks_19 ⟨(Nat.le_of_ble_eq_true rfl), (Nat.le_of_ble_eq_true rfl)⟩) hA hP hD hS [0, 1, 2, 3, 4, 5, 6, 7] rfl (fun H locs hP hS => ?_)
        have f_4 := hB (((15 + (26 * p0)) + ((6 + (4 * x3)) + 0)).toNat)
        refine zi_add hx hb dX8_blanks_22 ?_
        refine lv_istore_n (lv' := [(2, .int (iI (x2 + (S0 1 (((15 + (26 * p0)) + ((6 + (4 * x3)) + 0)).toNat))))), (3, .int (iI x3)), (0, .ref (a0 0)), (1, .int (iI p0))]) hx hb dX8_blanks_23 rfl hl (by decide) rfl (fun ls hl => ?_)
        refine lv_iinc (v := iI (x3 + 1)) (lv' := [(3, .int (iI (x3 + 1))), (2, .int (iI (x2 + (S0 1 (((15 + (26 * p0)) + ((6 + (4 * x3)) + 0)).toNat))))), (0, .ref (a0 0)), (1, .int (iI p0))]) hx hb dX8_blanks_24 hl (k := 1) rfl (iI_add _ _) (by decide) rfl (fun ls hl => ?_)
        refine lv_goto (tgt := 4) hx hb dX8_blanks_27 (by decide) ?_
        exact ih4 (x2 + (S0 1 (((15 + (26 * p0)) + ((6 + (4 * x3)) + 0)).toNat))) (x3 + 1) (by omega) (by omega) (by omega) (by rw [iF]; exact sumI_e i0 rfl)  H locs ls hP hD hS (lv_sub hl [0, 1, 2, 3] rfl)
  exact lp4_0 6 0 0 (by omega) (by omega) (by omega) rfl  H locs ls hP hD hS (lv_sub hl [0, 1, 2, 3] rfl)
set_option maxHeartbeats 4000000 in
set_option maxRecDepth 100000 in
theorem c_X8_greys (l : Launch) (D : va_G) (k : Nat → ClassId) (a0 : Nat → Nat) (S0 : Nat → Nat → Int) (p0 : Int) (hB : zBf (S0 1)) (h0 : 0 ≤ p0 ∧ p0 ≤ 2) (h1 : 0 ≤ S0 1 (15 + 26 * p0 + 0).toNat ∧ S0 1 (15 + 26 * p0 + 0).toNat ≤ 5) : zMi l yX8_greys wsX8_greys ({ frames := 3, cells := 0, slots := 0, locals := 67 } : Room) D k [.ref (a0 0), .int (iI p0)] (wRef k a0 S0) (rGreys (S0 1) p0) (wRef k a0 S0) 0 0 := by
  refine zMi_of (cc := cX8_greys) (maxL := 4) (ret := (some .int)) (by decide) rfl (Nat.le_of_ble_eq_true rfl) ?_
  intro p e s m args below meth c A ls hx hb hr hml hown hts hlocks hK hP hD hG hA hS hl
  have hown : s.vm.findClass RX8 = some m.cls := hown
  have hl : lv_has ls 4 [(0, .ref (a0 0)), (1, .int (iI p0))] := hl
  obtain ⟨H, hH⟩ : ∃ z, z = s.heap := ⟨_, rfl⟩
  obtain ⟨locs, hlc⟩ : ∃ z : List Loc, z = [] := ⟨_, rfl⟩
  rw [← hH] at hP
  have hS : va_S A s.heap H locs := by rw [hH, hlc]; exact hS
  rw [← hlc, ← hH]
  clear hlc hH
  refine lv_iconst (v := iI 0) hx hb dX8_greys_0 rfl ?_
  refine lv_istore_n (lv' := [(2, .int (iI 0)), (0, .ref (a0 0)), (1, .int (iI p0))]) hx hb dX8_greys_1 rfl hl (by decide) rfl (fun ls hl => ?_)
  refine lv_iconst (v := iI 0) hx hb dX8_greys_2 rfl ?_
  refine lv_istore_n (lv' := [(3, .int (iI 0)), (2, .int (iI 0)), (0, .ref (a0 0)), (1, .int (iI p0))]) hx hb dX8_greys_3 rfl hl (by decide) rfl (fun ls hl => ?_)
  have lp4_0 : ∀ (n : Nat) (x2 : Int) (x3 : Int), (5 - x3).toNat < n → (0 ≤ x3) → (x3 ≤ S0 1 (15 + 26 * p0 + 0).toNat) → (x2 = sumI (fun k => zif (rCar (S0 1) p0 k 0 = 1) 0 (rCar (S0 1) p0 k 1)) x3) → ∀ (H : Heap) (locs : List Loc) (ls : Array Slot), va_P D vwCl (wRef k a0 S0) H → va_D A (wRef k a0 S0) → va_S A s.heap H locs → lv_has ls 4 [(3, .int (iI x3)), (2, .int (iI x2)), (0, .ref (a0 0)), (1, .int (iI p0))] → W p l e ({ frames := 3, cells := 0, slots := 0, locals := 67 } : Room) s m args below meth c H locs 0 0 (MQ below (zQi D A (rGreys (S0 1) p0) (wRef k a0 S0)) args s 0 0 A) (F0 m 4 ls []) := by
    intro n4
    induction n4 with
    | zero => intro x2 x3 hm; exact absurd hm (Nat.not_lt_zero _)
    | succ n4 ih4 =>
      intro x2 x3 hm4 i0 i1 iF  H locs ls hP hD hS hl
      refine lv_iload_n hx hb dX8_greys_4 rfl (lv_at hl 0 rfl) ?_
      refine lv_aload_n hx hb dX8_greys_5 rfl (lv_at hl 2 rfl) ?_
      refine lv_iload_n hx hb dX8_greys_6 rfl (lv_at hl 3 rfl) ?_
      refine lv_iconst (v := iI 0) hx hb dX8_greys_7 rfl ?_
      refine z_ai0 (va_runV (As := [.int (iI p0), .int (iI 0)]) (rest := [.int (iI x3)]) ⟨hx, hb, hml, hown, hts⟩ (c_X8_of l D k a0 S0  p0 0 (by omega) (by omega) _) (cwV 2 hts gX8_greys_X8_of rfl rfl rfl (by decide +kernel) ⟨(Nat.le_of_ble_eq_true rfl), (Nat.le_of_ble_eq_true rfl)⟩) (z_preV hK hG hA hP hD hS [0, 1, 2, 3, 4, 5, 6, 7] rfl (by decide) 10 rfl rfl) rfl rfl hl.1 rfl (lv_room (Nat.le_of_ble_eq_true rfl)) dX8_greys_8 ⟨(Nat.le_of_ble_eq_true rfl), (Nat.le_of_ble_eq_true rfl)⟩) hA hP hD hS [0, 1, 2, 3, 4, 5, 6, 7] rfl (fun H locs hP hS => ?_)
      have f_1 := hB (((15 + (26 * p0)) + 0).toNat)
      refine zi_icmp_ge (tgt := 43) hx hb dX8_greys_11 (by decide) ⟨by omega, by omega⟩ ⟨by omega, by omega⟩ (fun c_2 => ?_) (fun c_2 => ?_)
      · have v_3 : x2 = rGreys (S0 1) p0 := (by rw [iF, show x3 = S0 1 (15 + 26 * p0 + 0).toNat by omega]; rfl)
        rw [v_3] at hl
        refine lv_iload_n hx hb dX8_greys_43 rfl (lv_at hl 1 rfl) ?_
        exact z_iret hx hb hr hlocks hP hS dX8_greys_44 rfl rfl (Nat.le_refl _) (Nat.le_refl _)
      · refine lv_iload_n hx hb dX8_greys_14 rfl (lv_at hl 1 rfl) ?_
        refine lv_aload_n hx hb dX8_greys_15 rfl (lv_at hl 2 rfl) ?_
        refine lv_iload_n hx hb dX8_greys_16 rfl (lv_at hl 3 rfl) ?_
        refine lv_iload_n hx hb dX8_greys_17 rfl (lv_at hl 0 rfl) ?_
        refine z_ai0 (va_runV (As := [.int (iI p0), .int (iI x3)]) (rest := [.int (iI x2)]) ⟨hx, hb, hml, hown, hts⟩ (c_X8_isBlank l D k a0 S0  p0 x3 hB (by omega) (by omega) _) (cwV 2 hts gX8_greys_X8_isBlank rfl rfl rfl (by decide +kernel) ⟨(Nat.le_of_ble_eq_true rfl), (Nat.le_of_ble_eq_true rfl)⟩) (z_preV hK hG hA hP hD hS [0, 1, 2, 3, 4, 5, 6, 7] rfl (by decide) 10 rfl rfl) rfl rfl hl.1 rfl (lv_room (Nat.le_of_ble_eq_true rfl)) dX8_greys_18 ⟨(Nat.le_of_ble_eq_true rfl), (Nat.le_of_ble_eq_true rfl)⟩) hA hP hD hS [0, 1, 2, 3, 4, 5, 6, 7] rfl (fun H locs hP hS => ?_)
        refine zi_if_eqB (tgt := 28) hx hb dX8_greys_21 (by decide) (fun c_4 => ?_) (fun c_4 => ?_)
        · refine lv_aload_n hx hb dX8_greys_28 rfl (lv_at hl 2 rfl) ?_
          refine lv_iload_n hx hb dX8_greys_29 rfl (lv_at hl 3 rfl) ?_
          refine lv_iload_n hx hb dX8_greys_30 rfl (lv_at hl 0 rfl) ?_
          refine lv_iconst (v := iI 1) hx hb dX8_greys_31 rfl ?_
          refine z_ai0 (va_runV (As := [.int (iI p0), .int (iI x3), .int (iI 1)]) (rest := [.int (iI x2)]) ⟨hx, hb, hml, hown, hts⟩ (c_X8_on l D k a0 S0  p0 x3 1 (by omega) (by omega) _) (cwV 3 hts gX8_greys_X8_on rfl rfl rfl (by decide +kernel) ⟨(Nat.le_of_ble_eq_true rfl), (Nat.le_of_ble_eq_true rfl)⟩) (z_preV hK hG hA hP hD hS [0, 1, 2, 3, 4, 5, 6, 7] rfl (by decide) 10 rfl rfl) rfl rfl hl.1 rfl (lv_room (Nat.le_of_ble_eq_true rfl)) dX8_greys_32 ⟨(Nat.le_of_ble_eq_true rfl), (Nat.le_of_ble_eq_true rfl)⟩) hA hP hD hS [0, 1, 2, 3, 4, 5, 6, 7] rfl (fun H locs hP hS => ?_)
          have f_5 := hB (((15 + (26 * p0)) + ((6 + (4 * x3)) + 1)).toNat)
          refine zi_add hx hb dX8_greys_35 ?_
          refine lv_istore_n (lv' := [(2, .int (iI (x2 + (S0 1 (((15 + (26 * p0)) + ((6 + (4 * x3)) + 1)).toNat))))), (3, .int (iI x3)), (0, .ref (a0 0)), (1, .int (iI p0))]) hx hb dX8_greys_36 rfl hl (by decide) rfl (fun ls hl => ?_)
          refine lv_iinc (v := iI (x3 + 1)) (lv' := [(3, .int (iI (x3 + 1))), (2, .int (iI (x2 + (S0 1 (((15 + (26 * p0)) + ((6 + (4 * x3)) + 1)).toNat))))), (0, .ref (a0 0)), (1, .int (iI p0))]) hx hb dX8_greys_37 hl (k := 1) rfl (iI_add _ _) (by decide) rfl (fun ls hl => ?_)
          refine lv_goto (tgt := 4) hx hb dX8_greys_40 (by decide) ?_
          exact ih4 (x2 + (S0 1 (((15 + (26 * p0)) + ((6 + (4 * x3)) + 1)).toNat))) (x3 + 1) (by omega) (by omega) (by omega) (by rw [iF]; first | exact sumI_e i0 (zif_pos (by assumption)).symm | exact sumI_e i0 (zif_neg (by assumption)).symm)  H locs ls hP hD hS (lv_sub hl [0, 1, 2, 3] rfl)
        · refine lv_iconst (v := iI 0) hx hb dX8_greys_24 rfl ?_
          refine lv_goto (tgt := 35) hx hb dX8_greys_25 (by decide) ?_
          refine zi_add hx hb dX8_greys_35 ?_
          refine lv_istore_n (lv' := [(2, .int (iI (x2 + 0))), (3, .int (iI x3)), (0, .ref (a0 0)), (1, .int (iI p0))]) hx hb dX8_greys_36 rfl hl (by decide) rfl (fun ls hl => ?_)
          refine lv_iinc (v := iI (x3 + 1)) (lv' := [(3, .int (iI (x3 + 1))), (2, .int (iI (x2 + 0))), (0, .ref (a0 0)), (1, .int (iI p0))]) hx hb dX8_greys_37 hl (k := 1) rfl (iI_add _ _) (by decide) rfl (fun ls hl => ?_)
          refine lv_goto (tgt := 4) hx hb dX8_greys_40 (by decide) ?_
          exact ih4 (x2 + 0) (x3 + 1) (by omega) (by omega) (by omega) (by rw [iF]; first | exact sumI_e i0 (zif_pos (by assumption)).symm | exact sumI_e i0 (zif_neg (by assumption)).symm)  H locs ls hP hD hS (lv_sub hl [0, 1, 2, 3] rfl)
  exact lp4_0 6 0 0 (by omega) (by omega) (by omega) rfl  H locs ls hP hD hS (lv_sub hl [0, 1, 2, 3] rfl)
noncomputable def sp_X8_beltOf (S0 : Nat → Nat → Int) (p0 : Int) (p1 : Int) : Int := zif (0 ≤ p0 ∧ p0 ≤ 2)
  (zif (0 ≤ p1 ∧ p1 ≤ 6)
    (zif (p1 = 0)
      (S0 1 (((15 + (26 * p0)) + 0).toNat))
      (zif (p1 = 1)
        (rBlanks (S0 1) p0)
        (S0 1 (((15 + (26 * p0)) + (p1 - 1)).toNat))))
    (0))
  (0)
noncomputable def sS0_0_X8_beltOf (S0 : Nat → Nat → Int) (p0 : Int) (p1 : Int) : (Nat → Int) := zif (0 ≤ p0 ∧ p0 ≤ 2)
  (zif (0 ≤ p1 ∧ p1 ≤ 6)
    (zif (p1 = 0)
      (upZ (upZ (S0 0) 8 0) 7 0)
      (zif (p1 = 1)
        (upZ (upZ (S0 0) 8 0) 7 0)
        (upZ (upZ (S0 0) 8 0) 7 0)))
    (upZ (upZ (S0 0) 8 2) 7 0))
  (upZ (upZ (S0 0) 8 1) 7 0)
set_option maxHeartbeats 4000000 in
set_option maxRecDepth 100000 in
theorem c_X8_beltOf (l : Launch) (D : va_G) (k : Nat → ClassId) (a0 : Nat → Nat) (S0 : Nat → Nat → Int) (p0 : Int) (p1 : Int) (hB : zBf (S0 1)) (hB0 : zBf (S0 0)) (hC : ∀ b : Int, 0 ≤ b → b ≤ 2 → 0 ≤ S0 1 (15 + 26 * b + 0).toNat ∧ S0 1 (15 + 26 * b + 0).toNat ≤ 5) (h0 : -2147483648 ≤ p0 ∧ p0 < 2147483648) (h1 : -2147483648 ≤ p1 ∧ p1 < 2147483648) : zMi l yX8_beltOf wsX8_beltOf ({ frames := 3, cells := 0, slots := 0, locals := 68 } : Room) D k [.ref (a0 0), .int (iI p0), .int (iI p1)] (wRef k a0 S0) (sp_X8_beltOf S0 p0 p1) (wRef k a0 (upA S0 0 (sS0_0_X8_beltOf S0 p0 p1))) 0 0 := by
  refine zMi_of (cc := cX8_beltOf) (maxL := 3) (ret := (some .int)) (by decide) rfl (Nat.le_of_ble_eq_true rfl) ?_
  intro p e s m args below meth c A ls hx hb hr hml hown hts hlocks hK hP hD hG hA hS hl
  have hown : s.vm.findClass RX8 = some m.cls := hown
  have hl : lv_has ls 3 [(0, .ref (a0 0)), (1, .int (iI p0)), (2, .int (iI p1))] := hl
  obtain ⟨H, hH⟩ : ∃ z, z = s.heap := ⟨_, rfl⟩
  obtain ⟨locs, hlc⟩ : ∃ z : List Loc, z = [] := ⟨_, rfl⟩
  rw [← hH] at hP
  have hS : va_S A s.heap H locs := by rw [hH, hlc]; exact hS
  rw [← hlc, ← hH]
  clear hlc hH
  refine lv_aload_n hx hb dX8_beltOf_0 rfl (lv_at hl 0 rfl) ?_
  refine lv_iload_n hx hb dX8_beltOf_1 rfl (lv_at hl 1 rfl) ?_
  refine z_ai0 (va_runS (As := [.int (iI p0)]) (rest := [.ref (a0 0)]) ⟨hx, hb, hml, hown, hts⟩ (c_X8_isBelt l D k   p0 (by omega) _) (va_cwS 1 hts gX8_beltOf_X8_isBelt rfl rfl rfl (by decide +kernel) ⟨(Nat.le_of_ble_eq_true rfl), (Nat.le_of_ble_eq_true rfl)⟩) (z_preS hK hG hA hP hD hS [] rfl (by decide)) rfl rfl hl.1 rfl (lv_room (Nat.le_of_ble_eq_true rfl)) dX8_beltOf_2 ⟨(Nat.le_of_ble_eq_true rfl), (Nat.le_of_ble_eq_true rfl)⟩) hA hP hD hS [] rfl (fun H locs hP hS => ?_)
  refine zi_if_neB (tgt := 12) hx hb dX8_beltOf_5 (by decide) (fun c_1 => ?_) (fun c_1 => ?_)
  · refine lv_iload_n hx hb dX8_beltOf_12 rfl (lv_at hl 2 rfl) ?_
    refine lv_iconst (v := iI 0) hx hb dX8_beltOf_13 rfl ?_
    refine lv_bipush (v := iI 6) hx hb dX8_beltOf_14 (by decide) ?_
    refine z_ai0 (va_runS (As := [.int (iI p1), .int (iI 0), .int (iI 6)]) (rest := [.ref (a0 0)]) ⟨hx, hb, hml, hown, hts⟩ (c_X8_in l D k   p1 0 6 (by omega) (by omega) (by omega) _) (va_cwS 3 hts gX8_beltOf_X8_in rfl rfl rfl (by decide +kernel) ⟨(Nat.le_of_ble_eq_true rfl), (Nat.le_of_ble_eq_true rfl)⟩) (z_preS hK hG hA hP hD hS [] rfl (by decide)) rfl rfl hl.1 rfl (lv_room (Nat.le_of_ble_eq_true rfl)) dX8_beltOf_16 ⟨(Nat.le_of_ble_eq_true rfl), (Nat.le_of_ble_eq_true rfl)⟩) hA hP hD hS [] rfl (fun H locs hP hS => ?_)
    refine zi_if_eqB (tgt := 26) hx hb dX8_beltOf_19 (by decide) (fun c_2 => ?_) (fun c_2 => ?_)
    · refine lv_iconst (v := iI 2) hx hb dX8_beltOf_26 rfl ?_
      refine z_ai (va_runV (As := [.int (iI 2)]) (rest := []) ⟨hx, hb, hml, hown, hts⟩ (c_X8_fails l D k a0 S0  2 (by omega) _) (cwV 1 hts gX8_beltOf_X8_fails rfl rfl rfl (by decide +kernel) ⟨(Nat.le_of_ble_eq_true rfl), (Nat.le_of_ble_eq_true rfl)⟩) (z_preV hK hG hA hP hD hS [0, 1, 2, 3, 4, 5, 6, 7] rfl (by decide) 10 rfl rfl) rfl rfl hl.1 rfl (lv_room (Nat.le_of_ble_eq_true rfl)) dX8_beltOf_27 ⟨(Nat.le_of_ble_eq_true rfl), (Nat.le_of_ble_eq_true rfl)⟩) hA hP hD hS [0, 1, 2, 3, 4, 5, 6, 7] rfl rfl (fun H locs hP hD hS => ?_)
      have hP : va_P D vwCl (wRef k a0 (upA S0 0 (upZ (upZ (S0 0) 8 2) 7 0))) H := hP
      have hD : va_D A (wRef k a0 (upA S0 0 (upZ (upZ (S0 0) 8 2) 7 0))) := hD
      refine zi_if_eqB (tgt := 35) hx hb dX8_beltOf_30 (by decide) (fun c_3 => absurd c_3 (by decide)) (fun _ => ?_)
      refine lv_iconst (v := iI 0) hx hb dX8_beltOf_33 rfl ?_
      exact z_iret hx hb hr hlocks hP hS dX8_beltOf_34 (Eq.trans (zif_pos c_1) (Eq.trans (zif_neg c_2) rfl)) (congrArg (fun z => wRef k a0 (upA S0 0 z)) (show sS0_0_X8_beltOf S0 p0 p1 = upZ (upZ (S0 0) 8 2) 7 0 from (Eq.trans (zif_pos c_1) (Eq.trans (zif_neg c_2) rfl)))) (Nat.le_refl _) (Nat.le_refl _)
    · refine lv_iconst (v := iI 0) hx hb dX8_beltOf_22 rfl ?_
      refine lv_goto (tgt := 27) hx hb dX8_beltOf_23 (by decide) ?_
      refine z_ai (va_runV (As := [.int (iI 0)]) (rest := []) ⟨hx, hb, hml, hown, hts⟩ (c_X8_fails l D k a0 S0  0 (by omega) _) (cwV 1 hts gX8_beltOf_X8_fails rfl rfl rfl (by decide +kernel) ⟨(Nat.le_of_ble_eq_true rfl), (Nat.le_of_ble_eq_true rfl)⟩) (z_preV hK hG hA hP hD hS [0, 1, 2, 3, 4, 5, 6, 7] rfl (by decide) 10 rfl rfl) rfl rfl hl.1 rfl (lv_room (Nat.le_of_ble_eq_true rfl)) dX8_beltOf_27 ⟨(Nat.le_of_ble_eq_true rfl), (Nat.le_of_ble_eq_true rfl)⟩) hA hP hD hS [0, 1, 2, 3, 4, 5, 6, 7] rfl rfl (fun H locs hP hD hS => ?_)
      have hP : va_P D vwCl (wRef k a0 (upA S0 0 (upZ (upZ (S0 0) 8 0) 7 0))) H := hP
      have hD : va_D A (wRef k a0 (upA S0 0 (upZ (upZ (S0 0) 8 0) 7 0))) := hD
      refine zi_if_eqB (tgt := 35) hx hb dX8_beltOf_30 (by decide) (fun _ => ?_) (fun c_4 => absurd c_4 (by decide))
      refine lv_iload_n hx hb dX8_beltOf_35 rfl (lv_at hl 2 rfl) ?_
      refine zi_if_ne (tgt := 48) hx hb dX8_beltOf_36 (by decide) ⟨by omega, by omega⟩ (fun c_5 => ?_) (fun c_5 => ?_)
      · refine lv_iload_n hx hb dX8_beltOf_48 rfl (lv_at hl 2 rfl) ?_
        refine lv_iconst (v := iI 1) hx hb dX8_beltOf_49 rfl ?_
        refine zi_icmp_ne (tgt := 61) hx hb dX8_beltOf_50 (by decide) ⟨by omega, by omega⟩ ⟨by omega, by omega⟩ (fun c_6 => ?_) (fun c_6 => ?_)
        · refine lv_aload_n hx hb dX8_beltOf_61 rfl (lv_at hl 0 rfl) ?_
          refine lv_iload_n hx hb dX8_beltOf_62 rfl (lv_at hl 1 rfl) ?_
          refine lv_iload_n hx hb dX8_beltOf_63 rfl (lv_at hl 2 rfl) ?_
          refine lv_iconst (v := iI 1) hx hb dX8_beltOf_64 rfl ?_
          refine zi_sub hx hb dX8_beltOf_65 ?_
          refine z_ai0 (va_runV (As := [.int (iI p0), .int (iI (p1 - 1))]) (rest := []) ⟨hx, hb, hml, hown, hts⟩ (c_X8_of l D k a0 (upA S0 0 (upZ (upZ (S0 0) 8 0) 7 0))  p0 (p1 - 1) (by omega) (by omega) _) (cwV 2 hts gX8_beltOf_X8_of rfl rfl rfl (by decide +kernel) ⟨(Nat.le_of_ble_eq_true rfl), (Nat.le_of_ble_eq_true rfl)⟩) (z_preV hK hG hA hP hD hS [0, 1, 2, 3, 4, 5, 6, 7] rfl (by decide) 10 rfl rfl) rfl rfl hl.1 rfl (lv_room (Nat.le_of_ble_eq_true rfl)) dX8_beltOf_66 ⟨(Nat.le_of_ble_eq_true rfl), (Nat.le_of_ble_eq_true rfl)⟩) hA hP hD hS [0, 1, 2, 3, 4, 5, 6, 7] rfl (fun H locs hP hS => ?_)
          refine z_eqi (z2 := S0 1 (((15 + (26 * p0)) + (p1 - 1)).toNat)) rfl ?_
          have f_7 := hB (((15 + (26 * p0)) + (p1 - 1)).toNat)
          exact z_iret hx hb hr hlocks hP hS dX8_beltOf_69 (Eq.trans (zif_pos c_1) (Eq.trans (zif_pos c_2) (Eq.trans (zif_neg c_5) (Eq.trans (zif_neg c_6) rfl)))) (congrArg (fun z => wRef k a0 (upA S0 0 z)) (show sS0_0_X8_beltOf S0 p0 p1 = upZ (upZ (S0 0) 8 0) 7 0 from (Eq.trans (zif_pos c_1) (Eq.trans (zif_pos c_2) (Eq.trans (zif_neg c_5) (Eq.trans (zif_neg c_6) rfl)))))) (Nat.le_refl _) (Nat.le_refl _)
        · refine lv_aload_n hx hb dX8_beltOf_53 rfl (lv_at hl 0 rfl) ?_
          refine lv_iload_n hx hb dX8_beltOf_54 rfl (lv_at hl 1 rfl) ?_
          have qc := hC p0 (by omega) (by omega)
          refine z_ai0 (va_runV (As := [.int (iI p0)]) (rest := []) ⟨hx, hb, hml, hown, hts⟩ (c_X8_blanks l D k a0 (upA S0 0 (upZ (upZ (S0 0) 8 0) 7 0))  p0 hB (by omega) (by have e0 : ((upA S0 0 (upZ (upZ (S0 0) 8 0) 7 0)) 1 (15 + 26 * p0 + 0).toNat) = S0 1 ((15 + 26 * p0 + 0).toNat) := rfl; omega) _) (cwV 1 hts gX8_beltOf_X8_blanks rfl rfl rfl (by decide +kernel) ⟨(Nat.le_of_ble_eq_true rfl), (Nat.le_of_ble_eq_true rfl)⟩) (z_preV hK hG hA hP hD hS [0, 1, 2, 3, 4, 5, 6, 7] rfl (by decide) 10 rfl rfl) rfl rfl hl.1 rfl (lv_room (Nat.le_of_ble_eq_true rfl)) dX8_beltOf_55 ⟨(Nat.le_of_ble_eq_true rfl), (Nat.le_of_ble_eq_true rfl)⟩) hA hP hD hS [0, 1, 2, 3, 4, 5, 6, 7] rfl (fun H locs hP hS => ?_)
          refine z_eqi (z2 := rBlanks (S0 1) p0) rfl ?_
          refine lv_goto (tgt := 69) hx hb dX8_beltOf_58 (by decide) ?_
          exact z_iret hx hb hr hlocks hP hS dX8_beltOf_69 (Eq.trans (zif_pos c_1) (Eq.trans (zif_pos c_2) (Eq.trans (zif_neg c_5) (Eq.trans (zif_pos c_6) rfl)))) (congrArg (fun z => wRef k a0 (upA S0 0 z)) (show sS0_0_X8_beltOf S0 p0 p1 = upZ (upZ (S0 0) 8 0) 7 0 from (Eq.trans (zif_pos c_1) (Eq.trans (zif_pos c_2) (Eq.trans (zif_neg c_5) (Eq.trans (zif_pos c_6) rfl)))))) (Nat.le_refl _) (Nat.le_refl _)
      · refine lv_aload_n hx hb dX8_beltOf_39 rfl (lv_at hl 0 rfl) ?_
        refine lv_iload_n hx hb dX8_beltOf_40 rfl (lv_at hl 1 rfl) ?_
        refine lv_iconst (v := iI 0) hx hb dX8_beltOf_41 rfl ?_
        have qc := hC p0 (by omega) (by omega)
        refine z_ai0 (va_runV (As := [.int (iI p0), .int (iI 0)]) (rest := []) ⟨hx, hb, hml, hown, hts⟩ (c_X8_of l D k a0 (upA S0 0 (upZ (upZ (S0 0) 8 0) 7 0))  p0 0 (by omega) (by omega) _) (cwV 2 hts gX8_beltOf_X8_of rfl rfl rfl (by decide +kernel) ⟨(Nat.le_of_ble_eq_true rfl), (Nat.le_of_ble_eq_true rfl)⟩) (z_preV hK hG hA hP hD hS [0, 1, 2, 3, 4, 5, 6, 7] rfl (by decide) 10 rfl rfl) rfl rfl hl.1 rfl (lv_room (Nat.le_of_ble_eq_true rfl)) dX8_beltOf_42 ⟨(Nat.le_of_ble_eq_true rfl), (Nat.le_of_ble_eq_true rfl)⟩) hA hP hD hS [0, 1, 2, 3, 4, 5, 6, 7] rfl (fun H locs hP hS => ?_)
        refine z_eqi (z2 := S0 1 (((15 + (26 * p0)) + 0).toNat)) rfl ?_
        have f_8 := hB (((15 + (26 * p0)) + 0).toNat)
        refine lv_goto (tgt := 69) hx hb dX8_beltOf_45 (by decide) ?_
        exact z_iret hx hb hr hlocks hP hS dX8_beltOf_69 (Eq.trans (zif_pos c_1) (Eq.trans (zif_pos c_2) (Eq.trans (zif_pos c_5) rfl))) (congrArg (fun z => wRef k a0 (upA S0 0 z)) (show sS0_0_X8_beltOf S0 p0 p1 = upZ (upZ (S0 0) 8 0) 7 0 from (Eq.trans (zif_pos c_1) (Eq.trans (zif_pos c_2) (Eq.trans (zif_pos c_5) rfl))))) (Nat.le_refl _) (Nat.le_refl _)
  · refine lv_iconst (v := iI 1) hx hb dX8_beltOf_8 rfl ?_
    refine lv_goto (tgt := 27) hx hb dX8_beltOf_9 (by decide) ?_
    refine z_ai (va_runV (As := [.int (iI 1)]) (rest := []) ⟨hx, hb, hml, hown, hts⟩ (c_X8_fails l D k a0 S0  1 (by omega) _) (cwV 1 hts gX8_beltOf_X8_fails rfl rfl rfl (by decide +kernel) ⟨(Nat.le_of_ble_eq_true rfl), (Nat.le_of_ble_eq_true rfl)⟩) (z_preV hK hG hA hP hD hS [0, 1, 2, 3, 4, 5, 6, 7] rfl (by decide) 10 rfl rfl) rfl rfl hl.1 rfl (lv_room (Nat.le_of_ble_eq_true rfl)) dX8_beltOf_27 ⟨(Nat.le_of_ble_eq_true rfl), (Nat.le_of_ble_eq_true rfl)⟩) hA hP hD hS [0, 1, 2, 3, 4, 5, 6, 7] rfl rfl (fun H locs hP hD hS => ?_)
    have hP : va_P D vwCl (wRef k a0 (upA S0 0 (upZ (upZ (S0 0) 8 1) 7 0))) H := hP
    have hD : va_D A (wRef k a0 (upA S0 0 (upZ (upZ (S0 0) 8 1) 7 0))) := hD
    refine zi_if_eqB (tgt := 35) hx hb dX8_beltOf_30 (by decide) (fun c_9 => absurd c_9 (by decide)) (fun _ => ?_)
    refine lv_iconst (v := iI 0) hx hb dX8_beltOf_33 rfl ?_
    exact z_iret hx hb hr hlocks hP hS dX8_beltOf_34 (Eq.trans (zif_neg c_1) rfl) (congrArg (fun z => wRef k a0 (upA S0 0 z)) (show sS0_0_X8_beltOf S0 p0 p1 = upZ (upZ (S0 0) 8 1) 7 0 from (Eq.trans (zif_neg c_1) rfl))) (Nat.le_refl _) (Nat.le_refl _)
noncomputable def sp_X8_carrier (S0 : Nat → Nat → Int) (p0 : Int) (p1 : Int) (p2 : Int) : Int := zif ((0 ≤ p0 ∧ p0 ≤ 2) ∧ 0 ≤ p1 ∧ p1 < S0 1 (15 + 26 * p0 + 0).toNat)
  (zif (0 ≤ p2 ∧ p2 ≤ 3)
    (S0 1 (((15 + (26 * p0)) + ((6 + (4 * p1)) + p2)).toNat))
    (0))
  (0)
noncomputable def sS0_0_X8_carrier (S0 : Nat → Nat → Int) (p0 : Int) (p1 : Int) (p2 : Int) : (Nat → Int) := zif ((0 ≤ p0 ∧ p0 ≤ 2) ∧ 0 ≤ p1 ∧ p1 < S0 1 (15 + 26 * p0 + 0).toNat)
  (zif (0 ≤ p2 ∧ p2 ≤ 3)
    (upZ (upZ (S0 0) 8 0) 7 0)
    (upZ (upZ (S0 0) 8 2) 7 0))
  (upZ (upZ (S0 0) 8 1) 7 0)
set_option maxHeartbeats 4000000 in
set_option maxRecDepth 100000 in
theorem c_X8_carrier (l : Launch) (D : va_G) (k : Nat → ClassId) (a0 : Nat → Nat) (S0 : Nat → Nat → Int) (p0 : Int) (p1 : Int) (p2 : Int) (hB : zBf (S0 1)) (hB0 : zBf (S0 0)) (hC : ∀ b : Int, 0 ≤ b → b ≤ 2 → 0 ≤ S0 1 (15 + 26 * b + 0).toNat ∧ S0 1 (15 + 26 * b + 0).toNat ≤ 5) (h0 : -2147483648 ≤ p0 ∧ p0 < 2147483648) (h1 : -2147483648 ≤ p1 ∧ p1 < 2147483648) (h2 : -2147483648 ≤ p2 ∧ p2 < 2147483648) : zMi l yX8_carrier wsX8_carrier ({ frames := 3, cells := 0, slots := 0, locals := 64 } : Room) D k [.ref (a0 0), .int (iI p0), .int (iI p1), .int (iI p2)] (wRef k a0 S0) (sp_X8_carrier S0 p0 p1 p2) (wRef k a0 (upA S0 0 (sS0_0_X8_carrier S0 p0 p1 p2))) 0 0 := by
  refine zMi_of (cc := cX8_carrier) (maxL := 4) (ret := (some .int)) (by decide) rfl (Nat.le_of_ble_eq_true rfl) ?_
  intro p e s m args below meth c A ls hx hb hr hml hown hts hlocks hK hP hD hG hA hS hl
  have hown : s.vm.findClass RX8 = some m.cls := hown
  have hl : lv_has ls 4 [(0, .ref (a0 0)), (1, .int (iI p0)), (2, .int (iI p1)), (3, .int (iI p2))] := hl
  obtain ⟨H, hH⟩ : ∃ z, z = s.heap := ⟨_, rfl⟩
  obtain ⟨locs, hlc⟩ : ∃ z : List Loc, z = [] := ⟨_, rfl⟩
  rw [← hH] at hP
  have hS : va_S A s.heap H locs := by rw [hH, hlc]; exact hS
  rw [← hlc, ← hH]
  clear hlc hH
  refine lv_aload_n hx hb dX8_carrier_0 rfl (lv_at hl 0 rfl) ?_
  refine lv_aload_n hx hb dX8_carrier_1 rfl (lv_at hl 0 rfl) ?_
  refine lv_iload_n hx hb dX8_carrier_2 rfl (lv_at hl 1 rfl) ?_
  refine lv_iload_n hx hb dX8_carrier_3 rfl (lv_at hl 2 rfl) ?_
  refine z_ai0 (va_runV (As := [.int (iI p0), .int (iI p1)]) (rest := [.ref (a0 0)]) ⟨hx, hb, hml, hown, hts⟩ (c_X8_isPlace l D k a0 S0  p0 p1 hB (by omega) (by omega) _) (cwV 2 hts gX8_carrier_X8_isPlace rfl rfl rfl (by decide +kernel) ⟨(Nat.le_of_ble_eq_true rfl), (Nat.le_of_ble_eq_true rfl)⟩) (z_preV hK hG hA hP hD hS [0, 1, 2, 3, 4, 5, 6, 7] rfl (by decide) 10 rfl rfl) rfl rfl hl.1 rfl (lv_room (Nat.le_of_ble_eq_true rfl)) dX8_carrier_4 ⟨(Nat.le_of_ble_eq_true rfl), (Nat.le_of_ble_eq_true rfl)⟩) hA hP hD hS [0, 1, 2, 3, 4, 5, 6, 7] rfl (fun H locs hP hS => ?_)
  refine zi_if_neB (tgt := 14) hx hb dX8_carrier_7 (by decide) (fun c_1 => ?_) (fun c_1 => ?_)
  · refine lv_iload_n hx hb dX8_carrier_14 rfl (lv_at hl 3 rfl) ?_
    refine lv_iconst (v := iI 0) hx hb dX8_carrier_15 rfl ?_
    refine lv_iconst (v := iI 3) hx hb dX8_carrier_16 rfl ?_
    refine z_ai0 (va_runS (As := [.int (iI p2), .int (iI 0), .int (iI 3)]) (rest := [.ref (a0 0)]) ⟨hx, hb, hml, hown, hts⟩ (c_X8_in l D k   p2 0 3 (by omega) (by omega) (by omega) _) (va_cwS 3 hts gX8_carrier_X8_in rfl rfl rfl (by decide +kernel) ⟨(Nat.le_of_ble_eq_true rfl), (Nat.le_of_ble_eq_true rfl)⟩) (z_preS hK hG hA hP hD hS [] rfl (by decide)) rfl rfl hl.1 rfl (lv_room (Nat.le_of_ble_eq_true rfl)) dX8_carrier_17 ⟨(Nat.le_of_ble_eq_true rfl), (Nat.le_of_ble_eq_true rfl)⟩) hA hP hD hS [] rfl (fun H locs hP hS => ?_)
    refine zi_if_eqB (tgt := 27) hx hb dX8_carrier_20 (by decide) (fun c_2 => ?_) (fun c_2 => ?_)
    · refine lv_iconst (v := iI 2) hx hb dX8_carrier_27 rfl ?_
      refine z_ai (va_runV (As := [.int (iI 2)]) (rest := []) ⟨hx, hb, hml, hown, hts⟩ (c_X8_fails l D k a0 S0  2 (by omega) _) (cwV 1 hts gX8_carrier_X8_fails rfl rfl rfl (by decide +kernel) ⟨(Nat.le_of_ble_eq_true rfl), (Nat.le_of_ble_eq_true rfl)⟩) (z_preV hK hG hA hP hD hS [0, 1, 2, 3, 4, 5, 6, 7] rfl (by decide) 10 rfl rfl) rfl rfl hl.1 rfl (lv_room (Nat.le_of_ble_eq_true rfl)) dX8_carrier_28 ⟨(Nat.le_of_ble_eq_true rfl), (Nat.le_of_ble_eq_true rfl)⟩) hA hP hD hS [0, 1, 2, 3, 4, 5, 6, 7] rfl rfl (fun H locs hP hD hS => ?_)
      have hP : va_P D vwCl (wRef k a0 (upA S0 0 (upZ (upZ (S0 0) 8 2) 7 0))) H := hP
      have hD : va_D A (wRef k a0 (upA S0 0 (upZ (upZ (S0 0) 8 2) 7 0))) := hD
      refine zi_if_eqB (tgt := 36) hx hb dX8_carrier_31 (by decide) (fun c_3 => absurd c_3 (by decide)) (fun _ => ?_)
      refine lv_iconst (v := iI 0) hx hb dX8_carrier_34 rfl ?_
      exact z_iret hx hb hr hlocks hP hS dX8_carrier_35 (Eq.trans (zif_pos c_1) (Eq.trans (zif_neg c_2) rfl)) (congrArg (fun z => wRef k a0 (upA S0 0 z)) (show sS0_0_X8_carrier S0 p0 p1 p2 = upZ (upZ (S0 0) 8 2) 7 0 from (Eq.trans (zif_pos c_1) (Eq.trans (zif_neg c_2) rfl)))) (Nat.le_refl _) (Nat.le_refl _)
    · refine lv_iconst (v := iI 0) hx hb dX8_carrier_23 rfl ?_
      refine lv_goto (tgt := 28) hx hb dX8_carrier_24 (by decide) ?_
      refine z_ai (va_runV (As := [.int (iI 0)]) (rest := []) ⟨hx, hb, hml, hown, hts⟩ (c_X8_fails l D k a0 S0  0 (by omega) _) (cwV 1 hts gX8_carrier_X8_fails rfl rfl rfl (by decide +kernel) ⟨(Nat.le_of_ble_eq_true rfl), (Nat.le_of_ble_eq_true rfl)⟩) (z_preV hK hG hA hP hD hS [0, 1, 2, 3, 4, 5, 6, 7] rfl (by decide) 10 rfl rfl) rfl rfl hl.1 rfl (lv_room (Nat.le_of_ble_eq_true rfl)) dX8_carrier_28 ⟨(Nat.le_of_ble_eq_true rfl), (Nat.le_of_ble_eq_true rfl)⟩) hA hP hD hS [0, 1, 2, 3, 4, 5, 6, 7] rfl rfl (fun H locs hP hD hS => ?_)
      have hP : va_P D vwCl (wRef k a0 (upA S0 0 (upZ (upZ (S0 0) 8 0) 7 0))) H := hP
      have hD : va_D A (wRef k a0 (upA S0 0 (upZ (upZ (S0 0) 8 0) 7 0))) := hD
      refine zi_if_eqB (tgt := 36) hx hb dX8_carrier_31 (by decide) (fun _ => ?_) (fun c_4 => absurd c_4 (by decide))
      refine lv_aload_n hx hb dX8_carrier_36 rfl (lv_at hl 0 rfl) ?_
      refine lv_iload_n hx hb dX8_carrier_37 rfl (lv_at hl 1 rfl) ?_
      refine lv_iload_n hx hb dX8_carrier_38 rfl (lv_at hl 2 rfl) ?_
      refine lv_iload_n hx hb dX8_carrier_39 rfl (lv_at hl 3 rfl) ?_
      have qc := hC p0 (by omega) (by omega)
      refine z_ai0 (va_runV (As := [.int (iI p0), .int (iI p1), .int (iI p2)]) (rest := []) ⟨hx, hb, hml, hown, hts⟩ (c_X8_on l D k a0 (upA S0 0 (upZ (upZ (S0 0) 8 0) 7 0))  p0 p1 p2 (by omega) (by omega) _) (cwV 3 hts gX8_carrier_X8_on rfl rfl rfl (by decide +kernel) ⟨(Nat.le_of_ble_eq_true rfl), (Nat.le_of_ble_eq_true rfl)⟩) (z_preV hK hG hA hP hD hS [0, 1, 2, 3, 4, 5, 6, 7] rfl (by decide) 10 rfl rfl) rfl rfl hl.1 rfl (lv_room (Nat.le_of_ble_eq_true rfl)) dX8_carrier_40 ⟨(Nat.le_of_ble_eq_true rfl), (Nat.le_of_ble_eq_true rfl)⟩) hA hP hD hS [0, 1, 2, 3, 4, 5, 6, 7] rfl (fun H locs hP hS => ?_)
      refine z_eqi (z2 := S0 1 (((15 + (26 * p0)) + ((6 + (4 * p1)) + p2)).toNat)) rfl ?_
      have f_5 := hB (((15 + (26 * p0)) + ((6 + (4 * p1)) + p2)).toNat)
      exact z_iret hx hb hr hlocks hP hS dX8_carrier_43 (Eq.trans (zif_pos c_1) (Eq.trans (zif_pos c_2) rfl)) (congrArg (fun z => wRef k a0 (upA S0 0 z)) (show sS0_0_X8_carrier S0 p0 p1 p2 = upZ (upZ (S0 0) 8 0) 7 0 from (Eq.trans (zif_pos c_1) (Eq.trans (zif_pos c_2) rfl)))) (Nat.le_refl _) (Nat.le_refl _)
  · refine lv_iconst (v := iI 1) hx hb dX8_carrier_10 rfl ?_
    refine lv_goto (tgt := 28) hx hb dX8_carrier_11 (by decide) ?_
    refine z_ai (va_runV (As := [.int (iI 1)]) (rest := []) ⟨hx, hb, hml, hown, hts⟩ (c_X8_fails l D k a0 S0  1 (by omega) _) (cwV 1 hts gX8_carrier_X8_fails rfl rfl rfl (by decide +kernel) ⟨(Nat.le_of_ble_eq_true rfl), (Nat.le_of_ble_eq_true rfl)⟩) (z_preV hK hG hA hP hD hS [0, 1, 2, 3, 4, 5, 6, 7] rfl (by decide) 10 rfl rfl) rfl rfl hl.1 rfl (lv_room (Nat.le_of_ble_eq_true rfl)) dX8_carrier_28 ⟨(Nat.le_of_ble_eq_true rfl), (Nat.le_of_ble_eq_true rfl)⟩) hA hP hD hS [0, 1, 2, 3, 4, 5, 6, 7] rfl rfl (fun H locs hP hD hS => ?_)
    have hP : va_P D vwCl (wRef k a0 (upA S0 0 (upZ (upZ (S0 0) 8 1) 7 0))) H := hP
    have hD : va_D A (wRef k a0 (upA S0 0 (upZ (upZ (S0 0) 8 1) 7 0))) := hD
    refine zi_if_eqB (tgt := 36) hx hb dX8_carrier_31 (by decide) (fun c_6 => absurd c_6 (by decide)) (fun _ => ?_)
    refine lv_iconst (v := iI 0) hx hb dX8_carrier_34 rfl ?_
    exact z_iret hx hb hr hlocks hP hS dX8_carrier_35 (Eq.trans (zif_neg c_1) rfl) (congrArg (fun z => wRef k a0 (upA S0 0 z)) (show sS0_0_X8_carrier S0 p0 p1 p2 = upZ (upZ (S0 0) 8 1) 7 0 from (Eq.trans (zif_neg c_1) rfl))) (Nat.le_refl _) (Nat.le_refl _)
noncomputable def sp_X8_yawns (S0 : Nat → Nat → Int) (p0 : Int) : Int := zif (0 ≤ p0 ∧ p0 < S0 1 9)
  (S0 1 ((11 + p0).toNat))
  (0)
noncomputable def sS0_0_X8_yawns (S0 : Nat → Nat → Int) (p0 : Int) : (Nat → Int) := zif (0 ≤ p0 ∧ p0 < S0 1 9)
  (upZ (upZ (S0 0) 8 0) 7 0)
  (upZ (upZ (S0 0) 8 1) 7 0)
set_option maxHeartbeats 4000000 in
set_option maxRecDepth 100000 in
theorem c_X8_yawns (l : Launch) (D : va_G) (k : Nat → ClassId) (a0 : Nat → Nat) (S0 : Nat → Nat → Int) (p0 : Int) (hB : zBf (S0 1)) (hB0 : zBf (S0 0)) (hC : ∀ b : Int, 0 ≤ b → b ≤ 2 → 0 ≤ S0 1 (15 + 26 * b + 0).toNat ∧ S0 1 (15 + 26 * b + 0).toNat ≤ 5) (hI : 0 ≤ S0 1 9 ∧ S0 1 9 ≤ 4) (h0 : -2147483648 ≤ p0 ∧ p0 < 2147483648) : zMi l yX8_yawns wsX8_yawns ({ frames := 2, cells := 0, slots := 0, locals := 43 } : Room) D k [.ref (a0 0), .int (iI p0)] (wRef k a0 S0) (sp_X8_yawns S0 p0) (wRef k a0 (upA S0 0 (sS0_0_X8_yawns S0 p0))) 0 0 := by
  refine zMi_of (cc := cX8_yawns) (maxL := 2) (ret := (some .int)) (by decide) rfl (Nat.le_of_ble_eq_true rfl) ?_
  intro p e s m args below meth c A ls hx hb hr hml hown hts hlocks hK hP hD hG hA hS hl
  have hown : s.vm.findClass RX8 = some m.cls := hown
  have hl : lv_has ls 2 [(0, .ref (a0 0)), (1, .int (iI p0))] := hl
  obtain ⟨H, hH⟩ : ∃ z, z = s.heap := ⟨_, rfl⟩
  obtain ⟨locs, hlc⟩ : ∃ z : List Loc, z = [] := ⟨_, rfl⟩
  rw [← hH] at hP
  have hS : va_S A s.heap H locs := by rw [hH, hlc]; exact hS
  rw [← hlc, ← hH]
  clear hlc hH
  refine lv_aload_n hx hb dX8_yawns_0 rfl (lv_at hl 0 rfl) ?_
  refine lv_aload_n hx hb dX8_yawns_1 rfl (lv_at hl 0 rfl) ?_
  refine lv_iload_n hx hb dX8_yawns_2 rfl (lv_at hl 1 rfl) ?_
  refine z_ai0 (va_runV (As := [.int (iI p0)]) (rest := [.ref (a0 0)]) ⟨hx, hb, hml, hown, hts⟩ (c_X8_isInspector l D k a0 S0  p0 hB (by omega) _) (cwV 1 hts gX8_yawns_X8_isInspector rfl rfl rfl (by decide +kernel) ⟨(Nat.le_of_ble_eq_true rfl), (Nat.le_of_ble_eq_true rfl)⟩) (z_preV hK hG hA hP hD hS [0, 1, 2, 3, 4, 5, 6, 7] rfl (by decide) 10 rfl rfl) rfl rfl hl.1 rfl (lv_room (Nat.le_of_ble_eq_true rfl)) dX8_yawns_3 ⟨(Nat.le_of_ble_eq_true rfl), (Nat.le_of_ble_eq_true rfl)⟩) hA hP hD hS [0, 1, 2, 3, 4, 5, 6, 7] rfl (fun H locs hP hS => ?_)
  have f_1 := hB 9
  refine zi_if_eqB (tgt := 13) hx hb dX8_yawns_6 (by decide) (fun c_2 => ?_) (fun c_2 => ?_)
  · refine lv_iconst (v := iI 1) hx hb dX8_yawns_13 rfl ?_
    refine z_ai (va_runV (As := [.int (iI 1)]) (rest := []) ⟨hx, hb, hml, hown, hts⟩ (c_X8_fails l D k a0 S0  1 (by omega) _) (cwV 1 hts gX8_yawns_X8_fails rfl rfl rfl (by decide +kernel) ⟨(Nat.le_of_ble_eq_true rfl), (Nat.le_of_ble_eq_true rfl)⟩) (z_preV hK hG hA hP hD hS [0, 1, 2, 3, 4, 5, 6, 7] rfl (by decide) 10 rfl rfl) rfl rfl hl.1 rfl (lv_room (Nat.le_of_ble_eq_true rfl)) dX8_yawns_14 ⟨(Nat.le_of_ble_eq_true rfl), (Nat.le_of_ble_eq_true rfl)⟩) hA hP hD hS [0, 1, 2, 3, 4, 5, 6, 7] rfl rfl (fun H locs hP hD hS => ?_)
    have hP : va_P D vwCl (wRef k a0 (upA S0 0 (upZ (upZ (S0 0) 8 1) 7 0))) H := hP
    have hD : va_D A (wRef k a0 (upA S0 0 (upZ (upZ (S0 0) 8 1) 7 0))) := hD
    refine zi_if_eqB (tgt := 24) hx hb dX8_yawns_17 (by decide) (fun c_3 => absurd c_3 (by decide)) (fun _ => ?_)
    refine lv_iconst (v := iI 0) hx hb dX8_yawns_20 rfl ?_
    refine lv_goto (tgt := 33) hx hb dX8_yawns_21 (by decide) ?_
    exact z_iret hx hb hr hlocks hP hS dX8_yawns_33 (Eq.trans (zif_neg c_2) rfl) (congrArg (fun z => wRef k a0 (upA S0 0 z)) (show sS0_0_X8_yawns S0 p0 = upZ (upZ (S0 0) 8 1) 7 0 from (Eq.trans (zif_neg c_2) rfl))) (Nat.le_refl _) (Nat.le_refl _)
  · refine lv_iconst (v := iI 0) hx hb dX8_yawns_9 rfl ?_
    refine lv_goto (tgt := 14) hx hb dX8_yawns_10 (by decide) ?_
    refine z_ai (va_runV (As := [.int (iI 0)]) (rest := []) ⟨hx, hb, hml, hown, hts⟩ (c_X8_fails l D k a0 S0  0 (by omega) _) (cwV 1 hts gX8_yawns_X8_fails rfl rfl rfl (by decide +kernel) ⟨(Nat.le_of_ble_eq_true rfl), (Nat.le_of_ble_eq_true rfl)⟩) (z_preV hK hG hA hP hD hS [0, 1, 2, 3, 4, 5, 6, 7] rfl (by decide) 10 rfl rfl) rfl rfl hl.1 rfl (lv_room (Nat.le_of_ble_eq_true rfl)) dX8_yawns_14 ⟨(Nat.le_of_ble_eq_true rfl), (Nat.le_of_ble_eq_true rfl)⟩) hA hP hD hS [0, 1, 2, 3, 4, 5, 6, 7] rfl rfl (fun H locs hP hD hS => ?_)
    have hP : va_P D vwCl (wRef k a0 (upA S0 0 (upZ (upZ (S0 0) 8 0) 7 0))) H := hP
    have hD : va_D A (wRef k a0 (upA S0 0 (upZ (upZ (S0 0) 8 0) 7 0))) := hD
    refine zi_if_eqB (tgt := 24) hx hb dX8_yawns_17 (by decide) (fun _ => ?_) (fun c_4 => absurd c_4 (by decide))
    refine lv_aload_n hx hb dX8_yawns_24 rfl (lv_at hl 0 rfl) ?_
    refine va_get (D := D) (ci := 10) (v := .ref (a0 1)) (C := RX8) (T := TX8) (N := 19) hx hb hts (fun w h => List.mem_cons_of_mem _ (List.mem_append_left _ (List.mem_append_right _ h))) hown hK hP 0 rfl rfl 0 (by decide) (hts (.fieldLink RX8 7 "MondayFactoryModel" "g" "[I") (List.mem_of_getElem? (i := 1) rfl)) (fun _ h9 => h9) rfl dX8_yawns_25 ?_
    refine lv_bipush (v := iI 11) hx hb dX8_yawns_28 (by decide) ?_
    refine lv_iload_n hx hb dX8_yawns_30 rfl (lv_at hl 1 rfl) ?_
    refine zi_add hx hb dX8_yawns_31 ?_
    refine z_iald hx hb hK hP 1 0 (f := S0 1) rfl rfl (i := 11 + p0) (by omega) (by omega) (by decide) ((11 + p0).toNat) rfl dX8_yawns_32 ?_
    have f_5 := hB ((11 + p0).toNat)
    exact z_iret hx hb hr hlocks hP hS dX8_yawns_33 (Eq.trans (zif_pos c_2) rfl) (congrArg (fun z => wRef k a0 (upA S0 0 z)) (show sS0_0_X8_yawns S0 p0 = upZ (upZ (S0 0) 8 0) 7 0 from (Eq.trans (zif_pos c_2) rfl))) (Nat.le_refl _) (Nat.le_refl _)
noncomputable def sp_X8_passes (S0 : Nat → Nat → Int) (p0 : Int) (p1 : Int) (p2 : Int) : Int := zif ((0 ≤ p0 ∧ p0 ≤ 2) ∧ 0 ≤ p1 ∧ p1 < S0 1 (15 + 26 * p0 + 0).toNat)
  (zif (1 ≤ p2 ∧ p2 ≤ 3)
    (zif (S0 1 (15 + 26 * p0 + (6 + 4 * p1 + 0)).toNat = 1)
      (1)
      (zif ((p2 = 1 ∧ S0 1 (15 + 26 * p0 + 1).toNat ≤ (S0 1 (((15 + (26 * p0)) + ((6 + (4 * p1)) + 1)).toNat))) ∨ (¬ p2 = 1 ∧ p2 = 2 ∧ (S0 1 (((15 + (26 * p0)) + ((6 + (4 * p1)) + 2)).toNat)) ≤ S0 1 (15 + 26 * p0 + 2).toNat) ∨ (¬ p2 = 1 ∧ ¬ p2 = 2 ∧ ¬ (S0 1 (((15 + (26 * p0)) + ((6 + (4 * p1)) + 1)).toNat)) = S0 1 (15 + 26 * p0 + 3).toNat))
        (1)
        (0)))
    (0))
  (0)
noncomputable def sS0_0_X8_passes (S0 : Nat → Nat → Int) (p0 : Int) (p1 : Int) (p2 : Int) : (Nat → Int) := zif ((0 ≤ p0 ∧ p0 ≤ 2) ∧ 0 ≤ p1 ∧ p1 < S0 1 (15 + 26 * p0 + 0).toNat)
  (zif (1 ≤ p2 ∧ p2 ≤ 3)
    (zif (S0 1 (15 + 26 * p0 + (6 + 4 * p1 + 0)).toNat = 1)
      (upZ (upZ (S0 0) 8 0) 7 0)
      (zif ((p2 = 1 ∧ S0 1 (15 + 26 * p0 + 1).toNat ≤ (S0 1 (((15 + (26 * p0)) + ((6 + (4 * p1)) + 1)).toNat))) ∨ (¬ p2 = 1 ∧ p2 = 2 ∧ (S0 1 (((15 + (26 * p0)) + ((6 + (4 * p1)) + 2)).toNat)) ≤ S0 1 (15 + 26 * p0 + 2).toNat) ∨ (¬ p2 = 1 ∧ ¬ p2 = 2 ∧ ¬ (S0 1 (((15 + (26 * p0)) + ((6 + (4 * p1)) + 1)).toNat)) = S0 1 (15 + 26 * p0 + 3).toNat))
        (upZ (upZ (S0 0) 8 0) 7 0)
        (upZ (upZ (S0 0) 8 0) 7 0)))
    (upZ (upZ (S0 0) 8 2) 7 0))
  (upZ (upZ (S0 0) 8 1) 7 0)
set_option maxHeartbeats 4000000 in
set_option maxRecDepth 100000 in
theorem c_X8_passes (l : Launch) (D : va_G) (k : Nat → ClassId) (a0 : Nat → Nat) (S0 : Nat → Nat → Int) (p0 : Int) (p1 : Int) (p2 : Int) (hB : zBf (S0 1)) (hB0 : zBf (S0 0)) (hC : ∀ b : Int, 0 ≤ b → b ≤ 2 → 0 ≤ S0 1 (15 + 26 * b + 0).toNat ∧ S0 1 (15 + 26 * b + 0).toNat ≤ 5) (h0 : -2147483648 ≤ p0 ∧ p0 < 2147483648) (h1 : -2147483648 ≤ p1 ∧ p1 < 2147483648) (h2 : -2147483648 ≤ p2 ∧ p2 < 2147483648) : zMi l yX8_passes wsX8_passes ({ frames := 3, cells := 0, slots := 0, locals := 67 } : Room) D k [.ref (a0 0), .int (iI p0), .int (iI p1), .int (iI p2)] (wRef k a0 S0) (sp_X8_passes S0 p0 p1 p2) (wRef k a0 (upA S0 0 (sS0_0_X8_passes S0 p0 p1 p2))) 0 0 := by
  refine zMi_of (cc := cX8_passes) (maxL := 4) (ret := (some .boolean)) (by decide) rfl (Nat.le_of_ble_eq_true rfl) ?_
  intro p e s m args below meth c A ls hx hb hr hml hown hts hlocks hK hP hD hG hA hS hl
  have hown : s.vm.findClass RX8 = some m.cls := hown
  have hl : lv_has ls 4 [(0, .ref (a0 0)), (1, .int (iI p0)), (2, .int (iI p1)), (3, .int (iI p2))] := hl
  obtain ⟨H, hH⟩ : ∃ z, z = s.heap := ⟨_, rfl⟩
  obtain ⟨locs, hlc⟩ : ∃ z : List Loc, z = [] := ⟨_, rfl⟩
  rw [← hH] at hP
  have hS : va_S A s.heap H locs := by rw [hH, hlc]; exact hS
  rw [← hlc, ← hH]
  clear hlc hH
  refine lv_aload_n hx hb dX8_passes_0 rfl (lv_at hl 0 rfl) ?_
  refine lv_aload_n hx hb dX8_passes_1 rfl (lv_at hl 0 rfl) ?_
  refine lv_iload_n hx hb dX8_passes_2 rfl (lv_at hl 1 rfl) ?_
  refine lv_iload_n hx hb dX8_passes_3 rfl (lv_at hl 2 rfl) ?_
  refine z_ai0 (va_runV (As := [.int (iI p0), .int (iI p1)]) (rest := [.ref (a0 0)]) ⟨hx, hb, hml, hown, hts⟩ (c_X8_isPlace l D k a0 S0  p0 p1 hB (by omega) (by omega) _) (cwV 2 hts gX8_passes_X8_isPlace rfl rfl rfl (by decide +kernel) ⟨(Nat.le_of_ble_eq_true rfl), (Nat.le_of_ble_eq_true rfl)⟩) (z_preV hK hG hA hP hD hS [0, 1, 2, 3, 4, 5, 6, 7] rfl (by decide) 10 rfl rfl) rfl rfl hl.1 rfl (lv_room (Nat.le_of_ble_eq_true rfl)) dX8_passes_4 ⟨(Nat.le_of_ble_eq_true rfl), (Nat.le_of_ble_eq_true rfl)⟩) hA hP hD hS [0, 1, 2, 3, 4, 5, 6, 7] rfl (fun H locs hP hS => ?_)
  refine zi_if_neB (tgt := 14) hx hb dX8_passes_7 (by decide) (fun c_1 => ?_) (fun c_1 => ?_)
  · refine lv_iload_n hx hb dX8_passes_14 rfl (lv_at hl 3 rfl) ?_
    refine lv_iconst (v := iI 1) hx hb dX8_passes_15 rfl ?_
    refine lv_iconst (v := iI 3) hx hb dX8_passes_16 rfl ?_
    refine z_ai0 (va_runS (As := [.int (iI p2), .int (iI 1), .int (iI 3)]) (rest := [.ref (a0 0)]) ⟨hx, hb, hml, hown, hts⟩ (c_X8_in l D k   p2 1 3 (by omega) (by omega) (by omega) _) (va_cwS 3 hts gX8_passes_X8_in rfl rfl rfl (by decide +kernel) ⟨(Nat.le_of_ble_eq_true rfl), (Nat.le_of_ble_eq_true rfl)⟩) (z_preS hK hG hA hP hD hS [] rfl (by decide)) rfl rfl hl.1 rfl (lv_room (Nat.le_of_ble_eq_true rfl)) dX8_passes_17 ⟨(Nat.le_of_ble_eq_true rfl), (Nat.le_of_ble_eq_true rfl)⟩) hA hP hD hS [] rfl (fun H locs hP hS => ?_)
    refine zi_if_eqB (tgt := 27) hx hb dX8_passes_20 (by decide) (fun c_2 => ?_) (fun c_2 => ?_)
    · refine lv_iconst (v := iI 2) hx hb dX8_passes_27 rfl ?_
      refine z_ai (va_runV (As := [.int (iI 2)]) (rest := []) ⟨hx, hb, hml, hown, hts⟩ (c_X8_fails l D k a0 S0  2 (by omega) _) (cwV 1 hts gX8_passes_X8_fails rfl rfl rfl (by decide +kernel) ⟨(Nat.le_of_ble_eq_true rfl), (Nat.le_of_ble_eq_true rfl)⟩) (z_preV hK hG hA hP hD hS [0, 1, 2, 3, 4, 5, 6, 7] rfl (by decide) 10 rfl rfl) rfl rfl hl.1 rfl (lv_room (Nat.le_of_ble_eq_true rfl)) dX8_passes_28 ⟨(Nat.le_of_ble_eq_true rfl), (Nat.le_of_ble_eq_true rfl)⟩) hA hP hD hS [0, 1, 2, 3, 4, 5, 6, 7] rfl rfl (fun H locs hP hD hS => ?_)
      have hP : va_P D vwCl (wRef k a0 (upA S0 0 (upZ (upZ (S0 0) 8 2) 7 0))) H := hP
      have hD : va_D A (wRef k a0 (upA S0 0 (upZ (upZ (S0 0) 8 2) 7 0))) := hD
      refine zi_if_eqB (tgt := 36) hx hb dX8_passes_31 (by decide) (fun c_3 => absurd c_3 (by decide)) (fun _ => ?_)
      refine lv_iconst (v := iI 0) hx hb dX8_passes_34 rfl ?_
      exact z_zret hx hb hr hlocks rfl hP hS dX8_passes_35 (Eq.trans (zif_pos c_1) (Eq.trans (zif_neg c_2) rfl)) (congrArg (fun z => wRef k a0 (upA S0 0 z)) (show sS0_0_X8_passes S0 p0 p1 p2 = upZ (upZ (S0 0) 8 2) 7 0 from (Eq.trans (zif_pos c_1) (Eq.trans (zif_neg c_2) rfl)))) (Nat.le_refl _) (Nat.le_refl _)
    · refine lv_iconst (v := iI 0) hx hb dX8_passes_23 rfl ?_
      refine lv_goto (tgt := 28) hx hb dX8_passes_24 (by decide) ?_
      refine z_ai (va_runV (As := [.int (iI 0)]) (rest := []) ⟨hx, hb, hml, hown, hts⟩ (c_X8_fails l D k a0 S0  0 (by omega) _) (cwV 1 hts gX8_passes_X8_fails rfl rfl rfl (by decide +kernel) ⟨(Nat.le_of_ble_eq_true rfl), (Nat.le_of_ble_eq_true rfl)⟩) (z_preV hK hG hA hP hD hS [0, 1, 2, 3, 4, 5, 6, 7] rfl (by decide) 10 rfl rfl) rfl rfl hl.1 rfl (lv_room (Nat.le_of_ble_eq_true rfl)) dX8_passes_28 ⟨(Nat.le_of_ble_eq_true rfl), (Nat.le_of_ble_eq_true rfl)⟩) hA hP hD hS [0, 1, 2, 3, 4, 5, 6, 7] rfl rfl (fun H locs hP hD hS => ?_)
      have hP : va_P D vwCl (wRef k a0 (upA S0 0 (upZ (upZ (S0 0) 8 0) 7 0))) H := hP
      have hD : va_D A (wRef k a0 (upA S0 0 (upZ (upZ (S0 0) 8 0) 7 0))) := hD
      refine zi_if_eqB (tgt := 36) hx hb dX8_passes_31 (by decide) (fun _ => ?_) (fun c_4 => absurd c_4 (by decide))
      refine lv_aload_n hx hb dX8_passes_36 rfl (lv_at hl 0 rfl) ?_
      refine lv_iload_n hx hb dX8_passes_37 rfl (lv_at hl 1 rfl) ?_
      refine lv_iload_n hx hb dX8_passes_38 rfl (lv_at hl 2 rfl) ?_
      have qc := hC p0 (by omega) (by omega)
      refine z_ai0 (va_runV (As := [.int (iI p0), .int (iI p1)]) (rest := []) ⟨hx, hb, hml, hown, hts⟩ (c_X8_isBlank l D k a0 (upA S0 0 (upZ (upZ (S0 0) 8 0) 7 0))  p0 p1 hB (by omega) (by omega) _) (cwV 2 hts gX8_passes_X8_isBlank rfl rfl rfl (by decide +kernel) ⟨(Nat.le_of_ble_eq_true rfl), (Nat.le_of_ble_eq_true rfl)⟩) (z_preV hK hG hA hP hD hS [0, 1, 2, 3, 4, 5, 6, 7] rfl (by decide) 10 rfl rfl) rfl rfl hl.1 rfl (lv_room (Nat.le_of_ble_eq_true rfl)) dX8_passes_39 ⟨(Nat.le_of_ble_eq_true rfl), (Nat.le_of_ble_eq_true rfl)⟩) hA hP hD hS [0, 1, 2, 3, 4, 5, 6, 7] rfl (fun H locs hP hS => ?_)
      refine z_eqi (z2 := zb (S0 1 (15 + 26 * p0 + (6 + 4 * p1 + 0)).toNat = 1)) rfl ?_
      refine zi_if_neB (tgt := 68) hx hb dX8_passes_42 (by decide) (fun c_5 => ?_) (fun c_5 => ?_)
      · refine lv_iconst (v := iI 1) hx hb dX8_passes_68 rfl ?_
        refine lv_goto (tgt := 73) hx hb dX8_passes_69 (by decide) ?_
        exact z_zret hx hb hr hlocks rfl hP hS dX8_passes_73 (Eq.trans (zif_pos c_1) (Eq.trans (zif_pos c_2) (Eq.trans (zif_pos c_5) rfl))) (congrArg (fun z => wRef k a0 (upA S0 0 z)) (show sS0_0_X8_passes S0 p0 p1 p2 = upZ (upZ (S0 0) 8 0) 7 0 from (Eq.trans (zif_pos c_1) (Eq.trans (zif_pos c_2) (Eq.trans (zif_pos c_5) rfl))))) (Nat.le_refl _) (Nat.le_refl _)
      · refine lv_aload_n hx hb dX8_passes_45 rfl (lv_at hl 0 rfl) ?_
        refine lv_iload_n hx hb dX8_passes_46 rfl (lv_at hl 1 rfl) ?_
        refine lv_aload_n hx hb dX8_passes_47 rfl (lv_at hl 0 rfl) ?_
        refine lv_iload_n hx hb dX8_passes_48 rfl (lv_at hl 1 rfl) ?_
        refine lv_iload_n hx hb dX8_passes_49 rfl (lv_at hl 2 rfl) ?_
        refine lv_iconst (v := iI 1) hx hb dX8_passes_50 rfl ?_
        refine z_ai0 (va_runV (As := [.int (iI p0), .int (iI p1), .int (iI 1)]) (rest := [.int (iI p0), .ref (a0 0)]) ⟨hx, hb, hml, hown, hts⟩ (c_X8_on l D k a0 (upA S0 0 (upZ (upZ (S0 0) 8 0) 7 0))  p0 p1 1 (by omega) (by omega) _) (cwV 3 hts gX8_passes_X8_on rfl rfl rfl (by decide +kernel) ⟨(Nat.le_of_ble_eq_true rfl), (Nat.le_of_ble_eq_true rfl)⟩) (z_preV hK hG hA hP hD hS [0, 1, 2, 3, 4, 5, 6, 7] rfl (by decide) 10 rfl rfl) rfl rfl hl.1 rfl (lv_room (Nat.le_of_ble_eq_true rfl)) dX8_passes_51 ⟨(Nat.le_of_ble_eq_true rfl), (Nat.le_of_ble_eq_true rfl)⟩) hA hP hD hS [0, 1, 2, 3, 4, 5, 6, 7] rfl (fun H locs hP hS => ?_)
        refine z_eqi (z2 := S0 1 (((15 + (26 * p0)) + ((6 + (4 * p1)) + 1)).toNat)) rfl ?_
        have f_6 := hB (((15 + (26 * p0)) + ((6 + (4 * p1)) + 1)).toNat)
        refine lv_aload_n hx hb dX8_passes_54 rfl (lv_at hl 0 rfl) ?_
        refine lv_iload_n hx hb dX8_passes_55 rfl (lv_at hl 1 rfl) ?_
        refine lv_iload_n hx hb dX8_passes_56 rfl (lv_at hl 2 rfl) ?_
        refine lv_iconst (v := iI 2) hx hb dX8_passes_57 rfl ?_
        refine z_ai0 (va_runV (As := [.int (iI p0), .int (iI p1), .int (iI 2)]) (rest := [.int (iI (S0 1 (((15 + (26 * p0)) + ((6 + (4 * p1)) + 1)).toNat))), .int (iI p0), .ref (a0 0)]) ⟨hx, hb, hml, hown, hts⟩ (c_X8_on l D k a0 (upA S0 0 (upZ (upZ (S0 0) 8 0) 7 0))  p0 p1 2 (by omega) (by omega) _) (cwV 3 hts gX8_passes_X8_on rfl rfl rfl (by decide +kernel) ⟨(Nat.le_of_ble_eq_true rfl), (Nat.le_of_ble_eq_true rfl)⟩) (z_preV hK hG hA hP hD hS [0, 1, 2, 3, 4, 5, 6, 7] rfl (by decide) 10 rfl rfl) rfl rfl hl.1 rfl (lv_room (Nat.le_of_ble_eq_true rfl)) dX8_passes_58 ⟨(Nat.le_of_ble_eq_true rfl), (Nat.le_of_ble_eq_true rfl)⟩) hA hP hD hS [0, 1, 2, 3, 4, 5, 6, 7] rfl (fun H locs hP hS => ?_)
        refine z_eqi (z2 := S0 1 (((15 + (26 * p0)) + ((6 + (4 * p1)) + 2)).toNat)) rfl ?_
        have f_7 := hB (((15 + (26 * p0)) + ((6 + (4 * p1)) + 2)).toNat)
        refine lv_iload_n hx hb dX8_passes_61 rfl (lv_at hl 3 rfl) ?_
        refine z_ai0 (va_runV (As := [.int (iI p0), .int (iI (S0 1 (((15 + (26 * p0)) + ((6 + (4 * p1)) + 1)).toNat))), .int (iI (S0 1 (((15 + (26 * p0)) + ((6 + (4 * p1)) + 2)).toNat))), .int (iI p2)]) (rest := []) ⟨hx, hb, hml, hown, hts⟩ (c_X8_isPassed l D k a0 (upA S0 0 (upZ (upZ (S0 0) 8 0) 7 0))  p0 (S0 1 (((15 + (26 * p0)) + ((6 + (4 * p1)) + 1)).toNat)) (S0 1 (((15 + (26 * p0)) + ((6 + (4 * p1)) + 2)).toNat)) p2 hB (by omega) (by omega) (by omega) (by omega) _) (cwV 4 hts gX8_passes_X8_isPassed rfl rfl rfl (by decide +kernel) ⟨(Nat.le_of_ble_eq_true rfl), (Nat.le_of_ble_eq_true rfl)⟩) (z_preV hK hG hA hP hD hS [0, 1, 2, 3, 4, 5, 6, 7] rfl (by decide) 10 rfl rfl) rfl rfl hl.1 rfl (lv_room (Nat.le_of_ble_eq_true rfl)) dX8_passes_62 ⟨(Nat.le_of_ble_eq_true rfl), (Nat.le_of_ble_eq_true rfl)⟩) hA hP hD hS [0, 1, 2, 3, 4, 5, 6, 7] rfl (fun H locs hP hS => ?_)
        refine z_eqi (z2 := zb ((p2 = 1 ∧ S0 1 (15 + 26 * p0 + 1).toNat ≤ (S0 1 (((15 + (26 * p0)) + ((6 + (4 * p1)) + 1)).toNat))) ∨ (¬ p2 = 1 ∧ p2 = 2 ∧ (S0 1 (((15 + (26 * p0)) + ((6 + (4 * p1)) + 2)).toNat)) ≤ S0 1 (15 + 26 * p0 + 2).toNat) ∨ (¬ p2 = 1 ∧ ¬ p2 = 2 ∧ ¬ (S0 1 (((15 + (26 * p0)) + ((6 + (4 * p1)) + 1)).toNat)) = S0 1 (15 + 26 * p0 + 3).toNat))) rfl ?_
        refine zi_if_eqB (tgt := 72) hx hb dX8_passes_65 (by decide) (fun c_8 => ?_) (fun c_8 => ?_)
        · refine lv_iconst (v := iI 0) hx hb dX8_passes_72 rfl ?_
          exact z_zret hx hb hr hlocks rfl hP hS dX8_passes_73 (Eq.trans (zif_pos c_1) (Eq.trans (zif_pos c_2) (Eq.trans (zif_neg c_5) (Eq.trans (zif_neg c_8) rfl)))) (congrArg (fun z => wRef k a0 (upA S0 0 z)) (show sS0_0_X8_passes S0 p0 p1 p2 = upZ (upZ (S0 0) 8 0) 7 0 from (Eq.trans (zif_pos c_1) (Eq.trans (zif_pos c_2) (Eq.trans (zif_neg c_5) (Eq.trans (zif_neg c_8) rfl)))))) (Nat.le_refl _) (Nat.le_refl _)
        · refine lv_iconst (v := iI 1) hx hb dX8_passes_68 rfl ?_
          refine lv_goto (tgt := 73) hx hb dX8_passes_69 (by decide) ?_
          exact z_zret hx hb hr hlocks rfl hP hS dX8_passes_73 (Eq.trans (zif_pos c_1) (Eq.trans (zif_pos c_2) (Eq.trans (zif_neg c_5) (Eq.trans (zif_pos c_8) rfl)))) (congrArg (fun z => wRef k a0 (upA S0 0 z)) (show sS0_0_X8_passes S0 p0 p1 p2 = upZ (upZ (S0 0) 8 0) 7 0 from (Eq.trans (zif_pos c_1) (Eq.trans (zif_pos c_2) (Eq.trans (zif_neg c_5) (Eq.trans (zif_pos c_8) rfl)))))) (Nat.le_refl _) (Nat.le_refl _)
  · refine lv_iconst (v := iI 1) hx hb dX8_passes_10 rfl ?_
    refine lv_goto (tgt := 28) hx hb dX8_passes_11 (by decide) ?_
    refine z_ai (va_runV (As := [.int (iI 1)]) (rest := []) ⟨hx, hb, hml, hown, hts⟩ (c_X8_fails l D k a0 S0  1 (by omega) _) (cwV 1 hts gX8_passes_X8_fails rfl rfl rfl (by decide +kernel) ⟨(Nat.le_of_ble_eq_true rfl), (Nat.le_of_ble_eq_true rfl)⟩) (z_preV hK hG hA hP hD hS [0, 1, 2, 3, 4, 5, 6, 7] rfl (by decide) 10 rfl rfl) rfl rfl hl.1 rfl (lv_room (Nat.le_of_ble_eq_true rfl)) dX8_passes_28 ⟨(Nat.le_of_ble_eq_true rfl), (Nat.le_of_ble_eq_true rfl)⟩) hA hP hD hS [0, 1, 2, 3, 4, 5, 6, 7] rfl rfl (fun H locs hP hD hS => ?_)
    have hP : va_P D vwCl (wRef k a0 (upA S0 0 (upZ (upZ (S0 0) 8 1) 7 0))) H := hP
    have hD : va_D A (wRef k a0 (upA S0 0 (upZ (upZ (S0 0) 8 1) 7 0))) := hD
    refine zi_if_eqB (tgt := 36) hx hb dX8_passes_31 (by decide) (fun c_9 => absurd c_9 (by decide)) (fun _ => ?_)
    refine lv_iconst (v := iI 0) hx hb dX8_passes_34 rfl ?_
    exact z_zret hx hb hr hlocks rfl hP hS dX8_passes_35 (Eq.trans (zif_neg c_1) rfl) (congrArg (fun z => wRef k a0 (upA S0 0 z)) (show sS0_0_X8_passes S0 p0 p1 p2 = upZ (upZ (S0 0) 8 1) 7 0 from (Eq.trans (zif_neg c_1) rfl))) (Nat.le_refl _) (Nat.le_refl _)
noncomputable def sp_X8_wouldFail (S0 : Nat → Nat → Int) (p0 : Int) (p1 : Int) (p2 : Int) : Int := zif ((0 ≤ p0 ∧ p0 ≤ 2) ∧ 0 ≤ p1 ∧ p1 < S0 1 (15 + 26 * p0 + 0).toNat)
  (zif ((S0 1 9) = 0)
    (0)
    (sp_X8_failed (upA S0 0 (upZ (upZ (S0 0) 8 0) 7 0)) p0 p1 (S0 1 ((11 + (sp_X8_nextOne (upA S0 0 (upZ (upZ (S0 0) 8 0) 7 0)))).toNat))))
  (0)
noncomputable def sS0_0_X8_wouldFail (S0 : Nat → Nat → Int) (p0 : Int) (p1 : Int) (p2 : Int) : (Nat → Int) := zif ((0 ≤ p0 ∧ p0 ≤ 2) ∧ 0 ≤ p1 ∧ p1 < S0 1 (15 + 26 * p0 + 0).toNat)
  (zif ((S0 1 9) = 0)
    (upZ (upZ (S0 0) 8 2) 7 0)
    (upZ (upZ (S0 0) 8 0) 7 0))
  (upZ (upZ (S0 0) 8 1) 7 0)
set_option maxHeartbeats 4000000 in
set_option maxRecDepth 100000 in
theorem c_X8_wouldFail (l : Launch) (D : va_G) (k : Nat → ClassId) (a0 : Nat → Nat) (S0 : Nat → Nat → Int) (p0 : Int) (p1 : Int) (p2 : Int) (hB : zBf (S0 1)) (hB0 : zBf (S0 0)) (hC : ∀ b : Int, 0 ≤ b → b ≤ 2 → 0 ≤ S0 1 (15 + 26 * b + 0).toNat ∧ S0 1 (15 + 26 * b + 0).toNat ≤ 5) (hI : 0 ≤ S0 1 9 ∧ S0 1 9 ≤ 4) (h0 : -2147483648 ≤ p0 ∧ p0 < 2147483648) (h1 : -2147483648 ≤ p1 ∧ p1 < 2147483648) : zMi l yX8_wouldFail wsX8_wouldFail ({ frames := 4, cells := 0, slots := 0, locals := 91 } : Room) D k [.ref (a0 0), .int (iI p0), .int (iI p1), .int (iI p2)] (wRef k a0 S0) (sp_X8_wouldFail S0 p0 p1 p2) (wRef k a0 (upA S0 0 (sS0_0_X8_wouldFail S0 p0 p1 p2))) 0 0 := by
  refine zMi_of (cc := cX8_wouldFail) (maxL := 4) (ret := (some .int)) (by decide) rfl (Nat.le_of_ble_eq_true rfl) ?_
  intro p e s m args below meth c A ls hx hb hr hml hown hts hlocks hK hP hD hG hA hS hl
  have hown : s.vm.findClass RX8 = some m.cls := hown
  have hl : lv_has ls 4 [(0, .ref (a0 0)), (1, .int (iI p0)), (2, .int (iI p1)), (3, .int (iI p2))] := hl
  obtain ⟨H, hH⟩ : ∃ z, z = s.heap := ⟨_, rfl⟩
  obtain ⟨locs, hlc⟩ : ∃ z : List Loc, z = [] := ⟨_, rfl⟩
  rw [← hH] at hP
  have hS : va_S A s.heap H locs := by rw [hH, hlc]; exact hS
  rw [← hlc, ← hH]
  clear hlc hH
  refine lv_aload_n hx hb dX8_wouldFail_0 rfl (lv_at hl 0 rfl) ?_
  refine lv_aload_n hx hb dX8_wouldFail_1 rfl (lv_at hl 0 rfl) ?_
  refine lv_iload_n hx hb dX8_wouldFail_2 rfl (lv_at hl 1 rfl) ?_
  refine lv_iload_n hx hb dX8_wouldFail_3 rfl (lv_at hl 2 rfl) ?_
  refine z_ai0 (va_runV (As := [.int (iI p0), .int (iI p1)]) (rest := [.ref (a0 0)]) ⟨hx, hb, hml, hown, hts⟩ (c_X8_isPlace l D k a0 S0  p0 p1 hB (by omega) (by omega) _) (cwV 2 hts gX8_wouldFail_X8_isPlace rfl rfl rfl (by decide +kernel) ⟨(Nat.le_of_ble_eq_true rfl), (Nat.le_of_ble_eq_true rfl)⟩) (z_preV hK hG hA hP hD hS [0, 1, 2, 3, 4, 5, 6, 7] rfl (by decide) 10 rfl rfl) rfl rfl hl.1 rfl (lv_room (Nat.le_of_ble_eq_true rfl)) dX8_wouldFail_4 ⟨(Nat.le_of_ble_eq_true rfl), (Nat.le_of_ble_eq_true rfl)⟩) hA hP hD hS [0, 1, 2, 3, 4, 5, 6, 7] rfl (fun H locs hP hS => ?_)
  refine zi_if_neB (tgt := 14) hx hb dX8_wouldFail_7 (by decide) (fun c_1 => ?_) (fun c_1 => ?_)
  · refine lv_aload_n hx hb dX8_wouldFail_14 rfl (lv_at hl 0 rfl) ?_
    refine va_get (D := D) (ci := 10) (v := .ref (a0 1)) (C := RX8) (T := TX8) (N := 19) hx hb hts (fun w h => List.mem_cons_of_mem _ (List.mem_append_left _ (List.mem_append_right _ h))) hown hK hP 0 rfl rfl 0 (by decide) (hts (.fieldLink RX8 7 "MondayFactoryModel" "g" "[I") (List.mem_of_getElem? (i := 1) rfl)) (fun _ h9 => h9) rfl dX8_wouldFail_15 ?_
    refine lv_bipush (v := iI 9) hx hb dX8_wouldFail_18 (by decide) ?_
    refine z_iald hx hb hK hP 1 0 (f := S0 1) rfl rfl (i := 9) (by omega) (by omega) (by decide) 9 rfl dX8_wouldFail_20 ?_
    have f_2 := hB 9
    refine zi_if_ne (tgt := 28) hx hb dX8_wouldFail_21 (by decide) ⟨by omega, by omega⟩ (fun c_3 => ?_) (fun c_3 => ?_)
    · refine lv_iconst (v := iI 0) hx hb dX8_wouldFail_28 rfl ?_
      refine z_ai (va_runV (As := [.int (iI 0)]) (rest := []) ⟨hx, hb, hml, hown, hts⟩ (c_X8_fails l D k a0 S0  0 (by omega) _) (cwV 1 hts gX8_wouldFail_X8_fails rfl rfl rfl (by decide +kernel) ⟨(Nat.le_of_ble_eq_true rfl), (Nat.le_of_ble_eq_true rfl)⟩) (z_preV hK hG hA hP hD hS [0, 1, 2, 3, 4, 5, 6, 7] rfl (by decide) 10 rfl rfl) rfl rfl hl.1 rfl (lv_room (Nat.le_of_ble_eq_true rfl)) dX8_wouldFail_29 ⟨(Nat.le_of_ble_eq_true rfl), (Nat.le_of_ble_eq_true rfl)⟩) hA hP hD hS [0, 1, 2, 3, 4, 5, 6, 7] rfl rfl (fun H locs hP hD hS => ?_)
      have hP : va_P D vwCl (wRef k a0 (upA S0 0 (upZ (upZ (S0 0) 8 0) 7 0))) H := hP
      have hD : va_D A (wRef k a0 (upA S0 0 (upZ (upZ (S0 0) 8 0) 7 0))) := hD
      refine zi_if_eqB (tgt := 37) hx hb dX8_wouldFail_32 (by decide) (fun _ => ?_) (fun c_4 => absurd c_4 (by decide))
      refine lv_aload_n hx hb dX8_wouldFail_37 rfl (lv_at hl 0 rfl) ?_
      refine lv_iload_n hx hb dX8_wouldFail_38 rfl (lv_at hl 1 rfl) ?_
      refine lv_iload_n hx hb dX8_wouldFail_39 rfl (lv_at hl 2 rfl) ?_
      refine lv_aload_n hx hb dX8_wouldFail_40 rfl (lv_at hl 0 rfl) ?_
      refine va_get (D := D) (ci := 10) (v := .ref (a0 1)) (C := RX8) (T := TX8) (N := 19) hx hb hts (fun w h => List.mem_cons_of_mem _ (List.mem_append_left _ (List.mem_append_right _ h))) hown hK hP 0 rfl rfl 0 (by decide) (hts (.fieldLink RX8 7 "MondayFactoryModel" "g" "[I") (List.mem_of_getElem? (i := 1) rfl)) (fun _ h9 => h9) rfl dX8_wouldFail_41 ?_
      refine lv_bipush (v := iI 11) hx hb dX8_wouldFail_44 (by decide) ?_
      refine lv_aload_n hx hb dX8_wouldFail_46 rfl (lv_at hl 0 rfl) ?_
      refine z_ai0 (va_runV (As := []) (rest := [.int (iI 11), .ref (a0 1), .int (iI p1), .int (iI p0), .ref (a0 0)]) ⟨hx, hb, hml, hown, hts⟩ (c_X8_nextOne l D k a0 (upA S0 0 (upZ (upZ (S0 0) 8 0) 7 0))   hB (by have e0 : ((upA S0 0 (upZ (upZ (S0 0) 8 0) 7 0)) 1 9) = S0 1 9 := rfl; omega) _) (cwV 0 hts gX8_wouldFail_X8_nextOne rfl rfl rfl (by decide +kernel) ⟨(Nat.le_of_ble_eq_true rfl), (Nat.le_of_ble_eq_true rfl)⟩) (z_preV hK hG hA hP hD hS [0, 1, 2, 3, 4, 5, 6, 7] rfl (by decide) 10 rfl rfl) rfl rfl hl.1 rfl (lv_room (Nat.le_of_ble_eq_true rfl)) dX8_wouldFail_47 ⟨(Nat.le_of_ble_eq_true rfl), (Nat.le_of_ble_eq_true rfl)⟩) hA hP hD hS [0, 1, 2, 3, 4, 5, 6, 7] rfl (fun H locs hP hS => ?_)
      refine z_eqi (z2 := sp_X8_nextOne (upA S0 0 (upZ (upZ (S0 0) 8 0) 7 0))) rfl ?_
      have q_5 : 0 ≤ sp_X8_nextOne (upA S0 0 (upZ (upZ (S0 0) 8 0) 7 0)) ∧ sp_X8_nextOne (upA S0 0 (upZ (upZ (S0 0) 8 0) 7 0)) < S0 1 9 := nextOne_rng _ (by have e0 : ((upA S0 0 (upZ (upZ (S0 0) 8 0) 7 0)) 1 9) = S0 1 9 := rfl; omega)
      refine zi_add hx hb dX8_wouldFail_50 ?_
      refine z_iald hx hb hK hP 1 0 (f := S0 1) rfl rfl (i := 11 + (sp_X8_nextOne (upA S0 0 (upZ (upZ (S0 0) 8 0) 7 0)))) (by omega) (by omega) (by decide) ((11 + (sp_X8_nextOne (upA S0 0 (upZ (upZ (S0 0) 8 0) 7 0)))).toNat) rfl dX8_wouldFail_51 ?_
      have f_6 := hB ((11 + (sp_X8_nextOne (upA S0 0 (upZ (upZ (S0 0) 8 0) 7 0)))).toNat)
      have qc := hC p0 (by omega) (by omega)
      refine z_ai0 (va_runV (As := [.int (iI p0), .int (iI p1), .int (iI (S0 1 ((11 + (sp_X8_nextOne (upA S0 0 (upZ (upZ (S0 0) 8 0) 7 0)))).toNat)))]) (rest := []) ⟨hx, hb, hml, hown, hts⟩ (c_X8_failed l D k a0 (upA S0 0 (upZ (upZ (S0 0) 8 0) 7 0))  p0 p1 (S0 1 ((11 + (sp_X8_nextOne (upA S0 0 (upZ (upZ (S0 0) 8 0) 7 0)))).toNat)) hB (by omega) (by omega) (by omega) _) (cwV 3 hts gX8_wouldFail_X8_failed rfl rfl rfl (by decide +kernel) ⟨(Nat.le_of_ble_eq_true rfl), (Nat.le_of_ble_eq_true rfl)⟩) (z_preV hK hG hA hP hD hS [0, 1, 2, 3, 4, 5, 6, 7] rfl (by decide) 10 rfl rfl) rfl rfl hl.1 rfl (lv_room (Nat.le_of_ble_eq_true rfl)) dX8_wouldFail_52 ⟨(Nat.le_of_ble_eq_true rfl), (Nat.le_of_ble_eq_true rfl)⟩) hA hP hD hS [0, 1, 2, 3, 4, 5, 6, 7] rfl (fun H locs hP hS => ?_)
      refine z_eqi (z2 := sp_X8_failed (upA S0 0 (upZ (upZ (S0 0) 8 0) 7 0)) p0 p1 (S0 1 ((11 + (sp_X8_nextOne (upA S0 0 (upZ (upZ (S0 0) 8 0) 7 0)))).toNat))) rfl ?_
      have q_7 := failed_rng (upA S0 0 (upZ (upZ (S0 0) 8 0) 7 0)) p0 p1 (S0 1 ((11 + (sp_X8_nextOne (upA S0 0 (upZ (upZ (S0 0) 8 0) 7 0)))).toNat))
      exact z_iret hx hb hr hlocks hP hS dX8_wouldFail_55 (Eq.trans (zif_pos c_1) (Eq.trans (zif_neg c_3) rfl)) (congrArg (fun z => wRef k a0 (upA S0 0 z)) (show sS0_0_X8_wouldFail S0 p0 p1 p2 = upZ (upZ (S0 0) 8 0) 7 0 from (Eq.trans (zif_pos c_1) (Eq.trans (zif_neg c_3) rfl)))) (Nat.le_refl _) (Nat.le_refl _)
    · refine lv_iconst (v := iI 2) hx hb dX8_wouldFail_24 rfl ?_
      refine lv_goto (tgt := 29) hx hb dX8_wouldFail_25 (by decide) ?_
      refine z_ai (va_runV (As := [.int (iI 2)]) (rest := []) ⟨hx, hb, hml, hown, hts⟩ (c_X8_fails l D k a0 S0  2 (by omega) _) (cwV 1 hts gX8_wouldFail_X8_fails rfl rfl rfl (by decide +kernel) ⟨(Nat.le_of_ble_eq_true rfl), (Nat.le_of_ble_eq_true rfl)⟩) (z_preV hK hG hA hP hD hS [0, 1, 2, 3, 4, 5, 6, 7] rfl (by decide) 10 rfl rfl) rfl rfl hl.1 rfl (lv_room (Nat.le_of_ble_eq_true rfl)) dX8_wouldFail_29 ⟨(Nat.le_of_ble_eq_true rfl), (Nat.le_of_ble_eq_true rfl)⟩) hA hP hD hS [0, 1, 2, 3, 4, 5, 6, 7] rfl rfl (fun H locs hP hD hS => ?_)
      have hP : va_P D vwCl (wRef k a0 (upA S0 0 (upZ (upZ (S0 0) 8 2) 7 0))) H := hP
      have hD : va_D A (wRef k a0 (upA S0 0 (upZ (upZ (S0 0) 8 2) 7 0))) := hD
      refine zi_if_eqB (tgt := 37) hx hb dX8_wouldFail_32 (by decide) (fun c_8 => absurd c_8 (by decide)) (fun _ => ?_)
      refine lv_iconst (v := iI 0) hx hb dX8_wouldFail_35 rfl ?_
      exact z_iret hx hb hr hlocks hP hS dX8_wouldFail_36 (Eq.trans (zif_pos c_1) (Eq.trans (zif_pos c_3) rfl)) (congrArg (fun z => wRef k a0 (upA S0 0 z)) (show sS0_0_X8_wouldFail S0 p0 p1 p2 = upZ (upZ (S0 0) 8 2) 7 0 from (Eq.trans (zif_pos c_1) (Eq.trans (zif_pos c_3) rfl)))) (Nat.le_refl _) (Nat.le_refl _)
  · refine lv_iconst (v := iI 1) hx hb dX8_wouldFail_10 rfl ?_
    refine lv_goto (tgt := 29) hx hb dX8_wouldFail_11 (by decide) ?_
    refine z_ai (va_runV (As := [.int (iI 1)]) (rest := []) ⟨hx, hb, hml, hown, hts⟩ (c_X8_fails l D k a0 S0  1 (by omega) _) (cwV 1 hts gX8_wouldFail_X8_fails rfl rfl rfl (by decide +kernel) ⟨(Nat.le_of_ble_eq_true rfl), (Nat.le_of_ble_eq_true rfl)⟩) (z_preV hK hG hA hP hD hS [0, 1, 2, 3, 4, 5, 6, 7] rfl (by decide) 10 rfl rfl) rfl rfl hl.1 rfl (lv_room (Nat.le_of_ble_eq_true rfl)) dX8_wouldFail_29 ⟨(Nat.le_of_ble_eq_true rfl), (Nat.le_of_ble_eq_true rfl)⟩) hA hP hD hS [0, 1, 2, 3, 4, 5, 6, 7] rfl rfl (fun H locs hP hD hS => ?_)
    have hP : va_P D vwCl (wRef k a0 (upA S0 0 (upZ (upZ (S0 0) 8 1) 7 0))) H := hP
    have hD : va_D A (wRef k a0 (upA S0 0 (upZ (upZ (S0 0) 8 1) 7 0))) := hD
    refine zi_if_eqB (tgt := 37) hx hb dX8_wouldFail_32 (by decide) (fun c_9 => absurd c_9 (by decide)) (fun _ => ?_)
    refine lv_iconst (v := iI 0) hx hb dX8_wouldFail_35 rfl ?_
    exact z_iret hx hb hr hlocks hP hS dX8_wouldFail_36 (Eq.trans (zif_neg c_1) rfl) (congrArg (fun z => wRef k a0 (upA S0 0 z)) (show sS0_0_X8_wouldFail S0 p0 p1 p2 = upZ (upZ (S0 0) 8 1) 7 0 from (Eq.trans (zif_neg c_1) rfl))) (Nat.le_refl _) (Nat.le_refl _)
noncomputable def sp_X8_next (S0 : Nat → Nat → Int) : Int := zif ((S0 1 9) = 0)
  (0)
  (sp_X8_nextOne (upA S0 0 (upZ (upZ (S0 0) 8 0) 7 0)))
noncomputable def sS0_0_X8_next (S0 : Nat → Nat → Int) : (Nat → Int) := zif ((S0 1 9) = 0)
  (upZ (upZ (S0 0) 8 1) 7 0)
  (upZ (upZ (S0 0) 8 0) 7 0)
set_option maxHeartbeats 4000000 in
set_option maxRecDepth 100000 in
theorem c_X8_next (l : Launch) (D : va_G) (k : Nat → ClassId) (a0 : Nat → Nat) (S0 : Nat → Nat → Int) (hB : zBf (S0 1)) (hB0 : zBf (S0 0)) (hC : ∀ b : Int, 0 ≤ b → b ≤ 2 → 0 ≤ S0 1 (15 + 26 * b + 0).toNat ∧ S0 1 (15 + 26 * b + 0).toNat ≤ 5) (hI : 0 ≤ S0 1 9 ∧ S0 1 9 ≤ 4) : zMi l yX8_next wsX8_next ({ frames := 1, cells := 0, slots := 0, locals := 22 } : Room) D k [.ref (a0 0)] (wRef k a0 S0) (sp_X8_next S0) (wRef k a0 (upA S0 0 (sS0_0_X8_next S0))) 0 0 := by
  refine zMi_of (cc := cX8_next) (maxL := 1) (ret := (some .int)) (by decide) rfl (Nat.le_of_ble_eq_true rfl) ?_
  intro p e s m args below meth c A ls hx hb hr hml hown hts hlocks hK hP hD hG hA hS hl
  have hown : s.vm.findClass RX8 = some m.cls := hown
  have hl : lv_has ls 1 [(0, .ref (a0 0))] := hl
  obtain ⟨H, hH⟩ : ∃ z, z = s.heap := ⟨_, rfl⟩
  obtain ⟨locs, hlc⟩ : ∃ z : List Loc, z = [] := ⟨_, rfl⟩
  rw [← hH] at hP
  have hS : va_S A s.heap H locs := by rw [hH, hlc]; exact hS
  rw [← hlc, ← hH]
  clear hlc hH
  refine lv_aload_n hx hb dX8_next_0 rfl (lv_at hl 0 rfl) ?_
  refine lv_aload_n hx hb dX8_next_1 rfl (lv_at hl 0 rfl) ?_
  refine va_get (D := D) (ci := 10) (v := .ref (a0 1)) (C := RX8) (T := TX8) (N := 19) hx hb hts (fun w h => List.mem_cons_of_mem _ (List.mem_append_left _ (List.mem_append_right _ h))) hown hK hP 0 rfl rfl 0 (by decide) (hts (.fieldLink RX8 7 "MondayFactoryModel" "g" "[I") (List.mem_of_getElem? (i := 1) rfl)) (fun _ h9 => h9) rfl dX8_next_2 ?_
  refine lv_bipush (v := iI 9) hx hb dX8_next_5 (by decide) ?_
  refine z_iald hx hb hK hP 1 0 (f := S0 1) rfl rfl (i := 9) (by omega) (by omega) (by decide) 9 rfl dX8_next_7 ?_
  have f_1 := hB 9
  refine zi_if_ne (tgt := 15) hx hb dX8_next_8 (by decide) ⟨by omega, by omega⟩ (fun c_2 => ?_) (fun c_2 => ?_)
  · refine lv_iconst (v := iI 0) hx hb dX8_next_15 rfl ?_
    refine z_ai (va_runV (As := [.int (iI 0)]) (rest := []) ⟨hx, hb, hml, hown, hts⟩ (c_X8_fails l D k a0 S0  0 (by omega) _) (cwV 1 hts gX8_next_X8_fails rfl rfl rfl (by decide +kernel) ⟨(Nat.le_of_ble_eq_true rfl), (Nat.le_of_ble_eq_true rfl)⟩) (z_preV hK hG hA hP hD hS [0, 1, 2, 3, 4, 5, 6, 7] rfl (by decide) 10 rfl rfl) rfl rfl hl.1 rfl (lv_room (Nat.le_of_ble_eq_true rfl)) dX8_next_16 ⟨(Nat.le_of_ble_eq_true rfl), (Nat.le_of_ble_eq_true rfl)⟩) hA hP hD hS [0, 1, 2, 3, 4, 5, 6, 7] rfl rfl (fun H locs hP hD hS => ?_)
    have hP : va_P D vwCl (wRef k a0 (upA S0 0 (upZ (upZ (S0 0) 8 0) 7 0))) H := hP
    have hD : va_D A (wRef k a0 (upA S0 0 (upZ (upZ (S0 0) 8 0) 7 0))) := hD
    refine zi_if_eqB (tgt := 26) hx hb dX8_next_19 (by decide) (fun _ => ?_) (fun c_3 => absurd c_3 (by decide))
    refine lv_aload_n hx hb dX8_next_26 rfl (lv_at hl 0 rfl) ?_
    refine z_ai0 (va_runV (As := []) (rest := []) ⟨hx, hb, hml, hown, hts⟩ (c_X8_nextOne l D k a0 (upA S0 0 (upZ (upZ (S0 0) 8 0) 7 0))   hB (by have e0 : ((upA S0 0 (upZ (upZ (S0 0) 8 0) 7 0)) 1 9) = S0 1 9 := rfl; omega) _) (cwV 0 hts gX8_next_X8_nextOne rfl rfl rfl (by decide +kernel) ⟨(Nat.le_of_ble_eq_true rfl), (Nat.le_of_ble_eq_true rfl)⟩) (z_preV hK hG hA hP hD hS [0, 1, 2, 3, 4, 5, 6, 7] rfl (by decide) 10 rfl rfl) rfl rfl hl.1 rfl (lv_room (Nat.le_of_ble_eq_true rfl)) dX8_next_27 ⟨(Nat.le_of_ble_eq_true rfl), (Nat.le_of_ble_eq_true rfl)⟩) hA hP hD hS [0, 1, 2, 3, 4, 5, 6, 7] rfl (fun H locs hP hS => ?_)
    refine z_eqi (z2 := sp_X8_nextOne (upA S0 0 (upZ (upZ (S0 0) 8 0) 7 0))) rfl ?_
    exact z_iret hx hb hr hlocks hP hS dX8_next_30 (Eq.trans (zif_neg c_2) rfl) (congrArg (fun z => wRef k a0 (upA S0 0 z)) (show sS0_0_X8_next S0 = upZ (upZ (S0 0) 8 0) 7 0 from (Eq.trans (zif_neg c_2) rfl))) (Nat.le_refl _) (Nat.le_refl _)
  · refine lv_iconst (v := iI 1) hx hb dX8_next_11 rfl ?_
    refine lv_goto (tgt := 16) hx hb dX8_next_12 (by decide) ?_
    refine z_ai (va_runV (As := [.int (iI 1)]) (rest := []) ⟨hx, hb, hml, hown, hts⟩ (c_X8_fails l D k a0 S0  1 (by omega) _) (cwV 1 hts gX8_next_X8_fails rfl rfl rfl (by decide +kernel) ⟨(Nat.le_of_ble_eq_true rfl), (Nat.le_of_ble_eq_true rfl)⟩) (z_preV hK hG hA hP hD hS [0, 1, 2, 3, 4, 5, 6, 7] rfl (by decide) 10 rfl rfl) rfl rfl hl.1 rfl (lv_room (Nat.le_of_ble_eq_true rfl)) dX8_next_16 ⟨(Nat.le_of_ble_eq_true rfl), (Nat.le_of_ble_eq_true rfl)⟩) hA hP hD hS [0, 1, 2, 3, 4, 5, 6, 7] rfl rfl (fun H locs hP hD hS => ?_)
    have hP : va_P D vwCl (wRef k a0 (upA S0 0 (upZ (upZ (S0 0) 8 1) 7 0))) H := hP
    have hD : va_D A (wRef k a0 (upA S0 0 (upZ (upZ (S0 0) 8 1) 7 0))) := hD
    refine zi_if_eqB (tgt := 26) hx hb dX8_next_19 (by decide) (fun c_4 => absurd c_4 (by decide)) (fun _ => ?_)
    refine lv_iconst (v := iI 0) hx hb dX8_next_22 rfl ?_
    refine lv_goto (tgt := 30) hx hb dX8_next_23 (by decide) ?_
    exact z_iret hx hb hr hlocks hP hS dX8_next_30 (Eq.trans (zif_pos c_2) rfl) (congrArg (fun z => wRef k a0 (upA S0 0 z)) (show sS0_0_X8_next S0 = upZ (upZ (S0 0) 8 1) 7 0 from (Eq.trans (zif_pos c_2) rfl))) (Nat.le_refl _) (Nat.le_refl _)
noncomputable def sp_X8_rejectOf (S0 : Nat → Nat → Int) (p0 : Int) (p1 : Int) : Int := zif (0 ≤ p0 ∧ p0 < S0 1 10)
  (zif (0 ≤ p1 ∧ p1 ≤ 5)
    (zif (4 ≤ p1)
      (zif (p1 = 4)
        (rWorth (S0 1) p0 (S0 1 7))
        (2 + (S0 1 (((93 + (4 * p0)) + 2).toNat))))
      (S0 1 (((93 + (4 * p0)) + p1).toNat)))
    (0))
  (0)
noncomputable def sS0_0_X8_rejectOf (S0 : Nat → Nat → Int) (p0 : Int) (p1 : Int) : (Nat → Int) := zif (0 ≤ p0 ∧ p0 < S0 1 10)
  (zif (0 ≤ p1 ∧ p1 ≤ 5)
    (zif (4 ≤ p1)
      (zif (p1 = 4)
        (upZ (upZ (S0 0) 8 0) 7 0)
        (upZ (upZ (S0 0) 8 0) 7 0))
      (upZ (upZ (S0 0) 8 0) 7 0))
    (upZ (upZ (S0 0) 8 2) 7 0))
  (upZ (upZ (S0 0) 8 1) 7 0)
set_option maxHeartbeats 4000000 in
set_option maxRecDepth 100000 in
theorem c_X8_rejectOf (l : Launch) (D : va_G) (k : Nat → ClassId) (a0 : Nat → Nat) (S0 : Nat → Nat → Int) (p0 : Int) (p1 : Int) (hB : zBf (S0 1)) (hB0 : zBf (S0 0)) (hC : ∀ b : Int, 0 ≤ b → b ≤ 2 → 0 ≤ S0 1 (15 + 26 * b + 0).toNat ∧ S0 1 (15 + 26 * b + 0).toNat ≤ 5) (hF : 0 ≤ S0 1 10 ∧ S0 1 10 ≤ 8) (h7 : -1000000 ≤ S0 1 7 ∧ S0 1 7 ≤ 1000000) (h0 : -2147483648 ≤ p0 ∧ p0 < 2147483648) (h1 : -2147483648 ≤ p1 ∧ p1 < 2147483648) : zMi l yX8_rejectOf wsX8_rejectOf ({ frames := 2, cells := 0, slots := 0, locals := 45 } : Room) D k [.ref (a0 0), .int (iI p0), .int (iI p1)] (wRef k a0 S0) (sp_X8_rejectOf S0 p0 p1) (wRef k a0 (upA S0 0 (sS0_0_X8_rejectOf S0 p0 p1))) 0 0 := by
  refine zMi_of (cc := cX8_rejectOf) (maxL := 3) (ret := (some .int)) (by decide) rfl (Nat.le_of_ble_eq_true rfl) ?_
  intro p e s m args below meth c A ls hx hb hr hml hown hts hlocks hK hP hD hG hA hS hl
  have hown : s.vm.findClass RX8 = some m.cls := hown
  have hl : lv_has ls 3 [(0, .ref (a0 0)), (1, .int (iI p0)), (2, .int (iI p1))] := hl
  obtain ⟨H, hH⟩ : ∃ z, z = s.heap := ⟨_, rfl⟩
  obtain ⟨locs, hlc⟩ : ∃ z : List Loc, z = [] := ⟨_, rfl⟩
  rw [← hH] at hP
  have hS : va_S A s.heap H locs := by rw [hH, hlc]; exact hS
  rw [← hlc, ← hH]
  clear hlc hH
  refine lv_aload_n hx hb dX8_rejectOf_0 rfl (lv_at hl 0 rfl) ?_
  refine lv_aload_n hx hb dX8_rejectOf_1 rfl (lv_at hl 0 rfl) ?_
  refine lv_iload_n hx hb dX8_rejectOf_2 rfl (lv_at hl 1 rfl) ?_
  refine z_ai0 (va_runV (As := [.int (iI p0)]) (rest := [.ref (a0 0)]) ⟨hx, hb, hml, hown, hts⟩ (c_X8_isReject l D k a0 S0  p0 hB (by omega) _) (cwV 1 hts gX8_rejectOf_X8_isReject rfl rfl rfl (by decide +kernel) ⟨(Nat.le_of_ble_eq_true rfl), (Nat.le_of_ble_eq_true rfl)⟩) (z_preV hK hG hA hP hD hS [0, 1, 2, 3, 4, 5, 6, 7] rfl (by decide) 10 rfl rfl) rfl rfl hl.1 rfl (lv_room (Nat.le_of_ble_eq_true rfl)) dX8_rejectOf_3 ⟨(Nat.le_of_ble_eq_true rfl), (Nat.le_of_ble_eq_true rfl)⟩) hA hP hD hS [0, 1, 2, 3, 4, 5, 6, 7] rfl (fun H locs hP hS => ?_)
  have f_1 := hB 10
  refine zi_if_neB (tgt := 13) hx hb dX8_rejectOf_6 (by decide) (fun c_2 => ?_) (fun c_2 => ?_)
  · refine lv_iload_n hx hb dX8_rejectOf_13 rfl (lv_at hl 2 rfl) ?_
    refine lv_iconst (v := iI 0) hx hb dX8_rejectOf_14 rfl ?_
    refine lv_iconst (v := iI 5) hx hb dX8_rejectOf_15 rfl ?_
    refine z_ai0 (va_runS (As := [.int (iI p1), .int (iI 0), .int (iI 5)]) (rest := [.ref (a0 0)]) ⟨hx, hb, hml, hown, hts⟩ (c_X8_in l D k   p1 0 5 (by omega) (by omega) (by omega) _) (va_cwS 3 hts gX8_rejectOf_X8_in rfl rfl rfl (by decide +kernel) ⟨(Nat.le_of_ble_eq_true rfl), (Nat.le_of_ble_eq_true rfl)⟩) (z_preS hK hG hA hP hD hS [] rfl (by decide)) rfl rfl hl.1 rfl (lv_room (Nat.le_of_ble_eq_true rfl)) dX8_rejectOf_16 ⟨(Nat.le_of_ble_eq_true rfl), (Nat.le_of_ble_eq_true rfl)⟩) hA hP hD hS [] rfl (fun H locs hP hS => ?_)
    refine zi_if_eqB (tgt := 26) hx hb dX8_rejectOf_19 (by decide) (fun c_3 => ?_) (fun c_3 => ?_)
    · refine lv_iconst (v := iI 2) hx hb dX8_rejectOf_26 rfl ?_
      refine z_ai (va_runV (As := [.int (iI 2)]) (rest := []) ⟨hx, hb, hml, hown, hts⟩ (c_X8_fails l D k a0 S0  2 (by omega) _) (cwV 1 hts gX8_rejectOf_X8_fails rfl rfl rfl (by decide +kernel) ⟨(Nat.le_of_ble_eq_true rfl), (Nat.le_of_ble_eq_true rfl)⟩) (z_preV hK hG hA hP hD hS [0, 1, 2, 3, 4, 5, 6, 7] rfl (by decide) 10 rfl rfl) rfl rfl hl.1 rfl (lv_room (Nat.le_of_ble_eq_true rfl)) dX8_rejectOf_27 ⟨(Nat.le_of_ble_eq_true rfl), (Nat.le_of_ble_eq_true rfl)⟩) hA hP hD hS [0, 1, 2, 3, 4, 5, 6, 7] rfl rfl (fun H locs hP hD hS => ?_)
      have hP : va_P D vwCl (wRef k a0 (upA S0 0 (upZ (upZ (S0 0) 8 2) 7 0))) H := hP
      have hD : va_D A (wRef k a0 (upA S0 0 (upZ (upZ (S0 0) 8 2) 7 0))) := hD
      refine zi_if_eqB (tgt := 35) hx hb dX8_rejectOf_30 (by decide) (fun c_4 => absurd c_4 (by decide)) (fun _ => ?_)
      refine lv_iconst (v := iI 0) hx hb dX8_rejectOf_33 rfl ?_
      exact z_iret hx hb hr hlocks hP hS dX8_rejectOf_34 (Eq.trans (zif_pos c_2) (Eq.trans (zif_neg c_3) rfl)) (congrArg (fun z => wRef k a0 (upA S0 0 z)) (show sS0_0_X8_rejectOf S0 p0 p1 = upZ (upZ (S0 0) 8 2) 7 0 from (Eq.trans (zif_pos c_2) (Eq.trans (zif_neg c_3) rfl)))) (Nat.le_refl _) (Nat.le_refl _)
    · refine lv_iconst (v := iI 0) hx hb dX8_rejectOf_22 rfl ?_
      refine lv_goto (tgt := 27) hx hb dX8_rejectOf_23 (by decide) ?_
      refine z_ai (va_runV (As := [.int (iI 0)]) (rest := []) ⟨hx, hb, hml, hown, hts⟩ (c_X8_fails l D k a0 S0  0 (by omega) _) (cwV 1 hts gX8_rejectOf_X8_fails rfl rfl rfl (by decide +kernel) ⟨(Nat.le_of_ble_eq_true rfl), (Nat.le_of_ble_eq_true rfl)⟩) (z_preV hK hG hA hP hD hS [0, 1, 2, 3, 4, 5, 6, 7] rfl (by decide) 10 rfl rfl) rfl rfl hl.1 rfl (lv_room (Nat.le_of_ble_eq_true rfl)) dX8_rejectOf_27 ⟨(Nat.le_of_ble_eq_true rfl), (Nat.le_of_ble_eq_true rfl)⟩) hA hP hD hS [0, 1, 2, 3, 4, 5, 6, 7] rfl rfl (fun H locs hP hD hS => ?_)
      have hP : va_P D vwCl (wRef k a0 (upA S0 0 (upZ (upZ (S0 0) 8 0) 7 0))) H := hP
      have hD : va_D A (wRef k a0 (upA S0 0 (upZ (upZ (S0 0) 8 0) 7 0))) := hD
      refine zi_if_eqB (tgt := 35) hx hb dX8_rejectOf_30 (by decide) (fun _ => ?_) (fun c_5 => absurd c_5 (by decide))
      refine lv_iload_n hx hb dX8_rejectOf_35 rfl (lv_at hl 2 rfl) ?_
      refine lv_iconst (v := iI 4) hx hb dX8_rejectOf_36 rfl ?_
      refine zi_icmp_ge (tgt := 49) hx hb dX8_rejectOf_37 (by decide) ⟨by omega, by omega⟩ ⟨by omega, by omega⟩ (fun c_6 => ?_) (fun c_6 => ?_)
      · refine lv_iload_n hx hb dX8_rejectOf_49 rfl (lv_at hl 2 rfl) ?_
        refine lv_iconst (v := iI 4) hx hb dX8_rejectOf_50 rfl ?_
        refine zi_icmp_ne (tgt := 69) hx hb dX8_rejectOf_51 (by decide) ⟨by omega, by omega⟩ ⟨by omega, by omega⟩ (fun c_7 => ?_) (fun c_7 => ?_)
        · refine lv_aload_n hx hb dX8_rejectOf_69 rfl (lv_at hl 0 rfl) ?_
          refine lv_iload_n hx hb dX8_rejectOf_70 rfl (lv_at hl 1 rfl) ?_
          refine z_ai0 (va_runV (As := [.int (iI p0)]) (rest := []) ⟨hx, hb, hml, hown, hts⟩ (c_X8_cost l D k a0 (upA S0 0 (upZ (upZ (S0 0) 8 0) 7 0))  p0 (by omega) _) (cwV 1 hts gX8_rejectOf_X8_cost rfl rfl rfl (by decide +kernel) ⟨(Nat.le_of_ble_eq_true rfl), (Nat.le_of_ble_eq_true rfl)⟩) (z_preV hK hG hA hP hD hS [0, 1, 2, 3, 4, 5, 6, 7] rfl (by decide) 10 rfl rfl) rfl rfl hl.1 rfl (lv_room (Nat.le_of_ble_eq_true rfl)) dX8_rejectOf_71 ⟨(Nat.le_of_ble_eq_true rfl), (Nat.le_of_ble_eq_true rfl)⟩) hA hP hD hS [0, 1, 2, 3, 4, 5, 6, 7] rfl (fun H locs hP hS => ?_)
          refine z_eqi (z2 := 2 + (S0 1 (((93 + (4 * p0)) + 2).toNat))) rfl ?_
          have f_8 := hB ((((93 + (4 * p0)) + 2).toNat))
          exact z_iret hx hb hr hlocks hP hS dX8_rejectOf_74 (Eq.trans (zif_pos c_2) (Eq.trans (zif_pos c_3) (Eq.trans (zif_pos c_6) (Eq.trans (zif_neg c_7) rfl)))) (congrArg (fun z => wRef k a0 (upA S0 0 z)) (show sS0_0_X8_rejectOf S0 p0 p1 = upZ (upZ (S0 0) 8 0) 7 0 from (Eq.trans (zif_pos c_2) (Eq.trans (zif_pos c_3) (Eq.trans (zif_pos c_6) (Eq.trans (zif_neg c_7) rfl)))))) (Nat.le_refl _) (Nat.le_refl _)
        · refine lv_aload_n hx hb dX8_rejectOf_54 rfl (lv_at hl 0 rfl) ?_
          refine lv_iload_n hx hb dX8_rejectOf_55 rfl (lv_at hl 1 rfl) ?_
          refine lv_aload_n hx hb dX8_rejectOf_56 rfl (lv_at hl 0 rfl) ?_
          refine va_get (D := D) (ci := 10) (v := .ref (a0 1)) (C := RX8) (T := TX8) (N := 19) hx hb hts (fun w h => List.mem_cons_of_mem _ (List.mem_append_left _ (List.mem_append_right _ h))) hown hK hP 0 rfl rfl 0 (by decide) (hts (.fieldLink RX8 7 "MondayFactoryModel" "g" "[I") (List.mem_of_getElem? (i := 1) rfl)) (fun _ h9 => h9) rfl dX8_rejectOf_57 ?_
          refine lv_bipush (v := iI 7) hx hb dX8_rejectOf_60 (by decide) ?_
          refine z_iald hx hb hK hP 1 0 (f := S0 1) rfl rfl (i := 7) (by omega) (by omega) (by decide) 7 rfl dX8_rejectOf_62 ?_
          have f_9 := hB 7
          refine z_ai0 (va_runV (As := [.int (iI p0), .int (iI (S0 1 7))]) (rest := []) ⟨hx, hb, hml, hown, hts⟩ (c_X8_worth l D k a0 (upA S0 0 (upZ (upZ (S0 0) 8 0) 7 0))  p0 (S0 1 7) hB (by omega) (by omega) _) (cwV 2 hts gX8_rejectOf_X8_worth rfl rfl rfl (by decide +kernel) ⟨(Nat.le_of_ble_eq_true rfl), (Nat.le_of_ble_eq_true rfl)⟩) (z_preV hK hG hA hP hD hS [0, 1, 2, 3, 4, 5, 6, 7] rfl (by decide) 10 rfl rfl) rfl rfl hl.1 rfl (lv_room (Nat.le_of_ble_eq_true rfl)) dX8_rejectOf_63 ⟨(Nat.le_of_ble_eq_true rfl), (Nat.le_of_ble_eq_true rfl)⟩) hA hP hD hS [0, 1, 2, 3, 4, 5, 6, 7] rfl (fun H locs hP hS => ?_)
          refine z_eqi (z2 := rWorth (S0 1) p0 (S0 1 7)) rfl ?_
          have q_10 : 1 ≤ rWorth (S0 1) p0 (S0 1 7) ∧ rWorth (S0 1) p0 (S0 1 7) ≤ 1003000000 := rWorth_rng (G := S0 1) hB (by omega)
          refine lv_goto (tgt := 74) hx hb dX8_rejectOf_66 (by decide) ?_
          exact z_iret hx hb hr hlocks hP hS dX8_rejectOf_74 (Eq.trans (zif_pos c_2) (Eq.trans (zif_pos c_3) (Eq.trans (zif_pos c_6) (Eq.trans (zif_pos c_7) rfl)))) (congrArg (fun z => wRef k a0 (upA S0 0 z)) (show sS0_0_X8_rejectOf S0 p0 p1 = upZ (upZ (S0 0) 8 0) 7 0 from (Eq.trans (zif_pos c_2) (Eq.trans (zif_pos c_3) (Eq.trans (zif_pos c_6) (Eq.trans (zif_pos c_7) rfl)))))) (Nat.le_refl _) (Nat.le_refl _)
      · refine lv_aload_n hx hb dX8_rejectOf_40 rfl (lv_at hl 0 rfl) ?_
        refine lv_iload_n hx hb dX8_rejectOf_41 rfl (lv_at hl 1 rfl) ?_
        refine lv_iload_n hx hb dX8_rejectOf_42 rfl (lv_at hl 2 rfl) ?_
        refine z_ai0 (va_runV (As := [.int (iI p0), .int (iI p1)]) (rest := []) ⟨hx, hb, hml, hown, hts⟩ (c_X8_its l D k a0 (upA S0 0 (upZ (upZ (S0 0) 8 0) 7 0))  p0 p1 (by omega) _) (cwV 2 hts gX8_rejectOf_X8_its rfl rfl rfl (by decide +kernel) ⟨(Nat.le_of_ble_eq_true rfl), (Nat.le_of_ble_eq_true rfl)⟩) (z_preV hK hG hA hP hD hS [0, 1, 2, 3, 4, 5, 6, 7] rfl (by decide) 10 rfl rfl) rfl rfl hl.1 rfl (lv_room (Nat.le_of_ble_eq_true rfl)) dX8_rejectOf_43 ⟨(Nat.le_of_ble_eq_true rfl), (Nat.le_of_ble_eq_true rfl)⟩) hA hP hD hS [0, 1, 2, 3, 4, 5, 6, 7] rfl (fun H locs hP hS => ?_)
        refine z_eqi (z2 := S0 1 (((93 + (4 * p0)) + p1).toNat)) rfl ?_
        have f_11 := hB (((93 + (4 * p0)) + p1).toNat)
        refine lv_goto (tgt := 74) hx hb dX8_rejectOf_46 (by decide) ?_
        exact z_iret hx hb hr hlocks hP hS dX8_rejectOf_74 (Eq.trans (zif_pos c_2) (Eq.trans (zif_pos c_3) (Eq.trans (zif_neg c_6) rfl))) (congrArg (fun z => wRef k a0 (upA S0 0 z)) (show sS0_0_X8_rejectOf S0 p0 p1 = upZ (upZ (S0 0) 8 0) 7 0 from (Eq.trans (zif_pos c_2) (Eq.trans (zif_pos c_3) (Eq.trans (zif_neg c_6) rfl))))) (Nat.le_refl _) (Nat.le_refl _)
  · refine lv_iconst (v := iI 1) hx hb dX8_rejectOf_9 rfl ?_
    refine lv_goto (tgt := 27) hx hb dX8_rejectOf_10 (by decide) ?_
    refine z_ai (va_runV (As := [.int (iI 1)]) (rest := []) ⟨hx, hb, hml, hown, hts⟩ (c_X8_fails l D k a0 S0  1 (by omega) _) (cwV 1 hts gX8_rejectOf_X8_fails rfl rfl rfl (by decide +kernel) ⟨(Nat.le_of_ble_eq_true rfl), (Nat.le_of_ble_eq_true rfl)⟩) (z_preV hK hG hA hP hD hS [0, 1, 2, 3, 4, 5, 6, 7] rfl (by decide) 10 rfl rfl) rfl rfl hl.1 rfl (lv_room (Nat.le_of_ble_eq_true rfl)) dX8_rejectOf_27 ⟨(Nat.le_of_ble_eq_true rfl), (Nat.le_of_ble_eq_true rfl)⟩) hA hP hD hS [0, 1, 2, 3, 4, 5, 6, 7] rfl rfl (fun H locs hP hD hS => ?_)
    have hP : va_P D vwCl (wRef k a0 (upA S0 0 (upZ (upZ (S0 0) 8 1) 7 0))) H := hP
    have hD : va_D A (wRef k a0 (upA S0 0 (upZ (upZ (S0 0) 8 1) 7 0))) := hD
    refine zi_if_eqB (tgt := 35) hx hb dX8_rejectOf_30 (by decide) (fun c_12 => absurd c_12 (by decide)) (fun _ => ?_)
    refine lv_iconst (v := iI 0) hx hb dX8_rejectOf_33 rfl ?_
    exact z_iret hx hb hr hlocks hP hS dX8_rejectOf_34 (Eq.trans (zif_neg c_2) rfl) (congrArg (fun z => wRef k a0 (upA S0 0 z)) (show sS0_0_X8_rejectOf S0 p0 p1 = upZ (upZ (S0 0) 8 1) 7 0 from (Eq.trans (zif_neg c_2) rfl))) (Nat.le_refl _) (Nat.le_refl _)
