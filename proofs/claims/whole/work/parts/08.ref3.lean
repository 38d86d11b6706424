/-- a reject's price, so many having been sold in the week -/
noncomputable def rWorth (G : Nat → Int) (p0 p1 : Int) : Int := max 1 (12 - G (93 + 4 * p0 + 0).toNat + zif (G (93 + 4 * p0 + 3).toNat = 2) 4 0 - p1)
theorem rWorth_rng {G : Nat → Int} (h : zBf G) {p0 p1 : Int} (h1 : -2000000 ≤ p1 ∧ p1 ≤ 2000000) : 1 ≤ rWorth G p0 p1 ∧ rWorth G p0 p1 ≤ 1003000000 := by
  have a := h (93 + 4 * p0 + 0).toNat
  unfold rWorth
  rcases Classical.em (G (93 + 4 * p0 + 3).toNat = 2) with q | q
  · rw [zif_pos q]; omega
  · rw [zif_neg q]; omega
set_option maxHeartbeats 4000000 in
set_option maxRecDepth 100000 in
theorem c_X8_worth (l : Launch) (D : va_G) (k : Nat → ClassId) (a0 : Nat → Nat) (S0 : Nat → Nat → Int) (p0 : Int) (p1 : Int) (hB : zBf (S0 1)) (h0 : 0 ≤ p0 ∧ p0 < 8) (h1 : -2000000 ≤ p1 ∧ p1 ≤ 2000000) : zMi l yX8_worth wsX8_worth ({ frames := 1, cells := 0, slots := 0, locals := 22 } : Room) D k [.ref (a0 0), .int (iI p0), .int (iI p1)] (wRef k a0 S0) (rWorth (S0 1) p0 p1) (wRef k a0 S0) 0 0 := by
  refine zMi_of (cc := cX8_worth) (maxL := 4) (ret := (some .int)) (by decide) rfl (Nat.le_of_ble_eq_true rfl) ?_
  intro p e s m args below meth c A ls hx hb hr hml hown hts hlocks hK hP hD hG hA hS hl
  have hown : s.vm.findClass RX8 = some m.cls := hown
  have hl : lv_has ls 4 [(0, .ref (a0 0)), (1, .int (iI p0)), (2, .int (iI p1))] := hl
  obtain ⟨H, hH⟩ : ∃ z, z = s.heap := ⟨_, rfl⟩
  obtain ⟨locs, hlc⟩ : ∃ z : List Loc, z = [] := ⟨_, rfl⟩
  rw [← hH] at hP
  have hS : va_S A s.heap H locs := by rw [hH, hlc]; exact hS
  rw [← hlc, ← hH]
  clear hlc hH
  refine lv_bipush (v := iI 12) hx hb dX8_worth_0 (by decide) ?_
  refine lv_aload_n hx hb dX8_worth_2 rfl (lv_at hl 0 rfl) ?_
  refine lv_iload_n hx hb dX8_worth_3 rfl (lv_at hl 1 rfl) ?_
  refine lv_iconst (v := iI 0) hx hb dX8_worth_4 rfl ?_
  refine z_ai0 (va_runV (As := [.int (iI p0), .int (iI 0)]) (rest := [.int (iI 12)]) ⟨hx, hb, hml, hown, hts⟩ (c_X8_its l D k a0 S0  p0 0 (by omega) _) (cwV 2 hts gX8_worth_X8_its rfl rfl rfl (by decide +kernel) ⟨(Nat.le_of_ble_eq_true rfl), (Nat.le_of_ble_eq_true rfl)⟩) (z_preV hK hG hA hP hD hS [0, 1, 2, 3, 4, 5, 6, 7] rfl (by decide) 10 rfl rfl) rfl rfl hl.1 rfl (lv_room (Nat.le_of_ble_eq_true rfl)) dX8_worth_5 ⟨(Nat.le_of_ble_eq_true rfl), (Nat.le_of_ble_eq_true rfl)⟩) hA hP hD hS [0, 1, 2, 3, 4, 5, 6, 7] rfl (fun H locs hP hS => ?_)
  have f_1 := hB (((93 + (4 * p0)) + 0).toNat)
  refine zi_sub hx hb dX8_worth_8 ?_
  refine lv_aload_n hx hb dX8_worth_9 rfl (lv_at hl 0 rfl) ?_
  refine lv_iload_n hx hb dX8_worth_10 rfl (lv_at hl 1 rfl) ?_
  refine lv_iconst (v := iI 3) hx hb dX8_worth_11 rfl ?_
  refine z_ai0 (va_runV (As := [.int (iI p0), .int (iI 3)]) (rest := [.int (iI (12 - (S0 1 (((93 + (4 * p0)) + 0).toNat))))]) ⟨hx, hb, hml, hown, hts⟩ (c_X8_its l D k a0 S0  p0 3 (by omega) _) (cwV 2 hts gX8_worth_X8_its rfl rfl rfl (by decide +kernel) ⟨(Nat.le_of_ble_eq_true rfl), (Nat.le_of_ble_eq_true rfl)⟩) (z_preV hK hG hA hP hD hS [0, 1, 2, 3, 4, 5, 6, 7] rfl (by decide) 10 rfl rfl) rfl rfl hl.1 rfl (lv_room (Nat.le_of_ble_eq_true rfl)) dX8_worth_12 ⟨(Nat.le_of_ble_eq_true rfl), (Nat.le_of_ble_eq_true rfl)⟩) hA hP hD hS [0, 1, 2, 3, 4, 5, 6, 7] rfl (fun H locs hP hS => ?_)
  have f_2 := hB (((93 + (4 * p0)) + 3).toNat)
  refine lv_iconst (v := iI 2) hx hb dX8_worth_15 rfl ?_
  refine zi_icmp_ne (tgt := 23) hx hb dX8_worth_16 (by decide) ⟨by omega, by omega⟩ ⟨by omega, by omega⟩ (fun c_3 => ?_) (fun c_3 => ?_)
  · refine lv_iconst (v := iI 0) hx hb dX8_worth_23 rfl ?_
    refine zi_add hx hb dX8_worth_24 ?_
    refine lv_iload_n hx hb dX8_worth_25 rfl (lv_at hl 2 rfl) ?_
    refine zi_sub hx hb dX8_worth_26 ?_
    refine lv_istore_n (lv' := [(3, .int (iI (((12 - (S0 1 (((93 + (4 * p0)) + 0).toNat))) + 0) - p1))), (0, .ref (a0 0)), (1, .int (iI p0)), (2, .int (iI p1))]) hx hb dX8_worth_27 rfl hl (by decide) rfl (fun ls hl => ?_)
    refine lv_iload_n hx hb dX8_worth_28 rfl (lv_at hl 0 rfl) ?_
    refine lv_iconst (v := iI 1) hx hb dX8_worth_29 rfl ?_
    refine zi_icmp_ge (tgt := 37) hx hb dX8_worth_30 (by decide) ⟨by omega, by omega⟩ ⟨by omega, by omega⟩ (fun c_4 => ?_) (fun c_4 => ?_)
    · refine lv_iload_n hx hb dX8_worth_37 rfl (lv_at hl 0 rfl) ?_
      exact z_iret hx hb hr hlocks hP hS dX8_worth_38 (by unfold rWorth; rcases Classical.em (S0 1 (93 + 4 * p0 + 3).toNat = 2) with q | q; (rw [zif_pos q]; omega); (rw [zif_neg q]; omega)) rfl (Nat.le_refl _) (Nat.le_refl _)
    · refine lv_iconst (v := iI 1) hx hb dX8_worth_33 rfl ?_
      refine lv_goto (tgt := 38) hx hb dX8_worth_34 (by decide) ?_
      exact z_iret hx hb hr hlocks hP hS dX8_worth_38 (by unfold rWorth; rcases Classical.em (S0 1 (93 + 4 * p0 + 3).toNat = 2) with q | q; (rw [zif_pos q]; omega); (rw [zif_neg q]; omega)) rfl (Nat.le_refl _) (Nat.le_refl _)
  · refine lv_iconst (v := iI 4) hx hb dX8_worth_19 rfl ?_
    refine lv_goto (tgt := 24) hx hb dX8_worth_20 (by decide) ?_
    refine zi_add hx hb dX8_worth_24 ?_
    refine lv_iload_n hx hb dX8_worth_25 rfl (lv_at hl 2 rfl) ?_
    refine zi_sub hx hb dX8_worth_26 ?_
    refine lv_istore_n (lv' := [(3, .int (iI (((12 - (S0 1 (((93 + (4 * p0)) + 0).toNat))) + 4) - p1))), (0, .ref (a0 0)), (1, .int (iI p0)), (2, .int (iI p1))]) hx hb dX8_worth_27 rfl hl (by decide) rfl (fun ls hl => ?_)
    refine lv_iload_n hx hb dX8_worth_28 rfl (lv_at hl 0 rfl) ?_
    refine lv_iconst (v := iI 1) hx hb dX8_worth_29 rfl ?_
    refine zi_icmp_ge (tgt := 37) hx hb dX8_worth_30 (by decide) ⟨by omega, by omega⟩ ⟨by omega, by omega⟩ (fun c_5 => ?_) (fun c_5 => ?_)
    · refine lv_iload_n hx hb dX8_worth_37 rfl (lv_at hl 0 rfl) ?_
      exact z_iret hx hb hr hlocks hP hS dX8_worth_38 (by unfold rWorth; rcases Classical.em (S0 1 (93 + 4 * p0 + 3).toNat = 2) with q | q; (rw [zif_pos q]; omega); (rw [zif_neg q]; omega)) rfl (Nat.le_refl _) (Nat.le_refl _)
    · refine lv_iconst (v := iI 1) hx hb dX8_worth_33 rfl ?_
      refine lv_goto (tgt := 38) hx hb dX8_worth_34 (by decide) ?_
      exact z_iret hx hb hr hlocks hP hS dX8_worth_38 (by unfold rWorth; rcases Classical.em (S0 1 (93 + 4 * p0 + 3).toNat = 2) with q | q; (rw [zif_pos q]; omega); (rw [zif_neg q]; omega)) rfl (Nat.le_refl _) (Nat.le_refl _)
noncomputable def sp_X8_make (S0 : Nat → Nat → Int) (p0 : Int) (p1 : Int) (p2 : Int) : Int := zif (0 ≤ p0 ∧ p0 ≤ 2)
  (zif (0 ≤ p1 ∧ p1 ≤ 9)
    (zif (4 ≤ p2 ∧ p2 ≤ 9)
      (zif ((S0 1 (((15 + (26 * p0)) + 0).toNat)) = 5)
        (0)
        (sp_X8_puts (up2 (upA (upA (upA S0 0 (upZ (upZ (S0 0) 8 0) 7 0)) 0 (sS0_0_X8_keeps (upA S0 0 (upZ (upZ (S0 0) 8 0) 7 0)) 0)) 2 (sS0_2_X8_keeps (upA S0 0 (upZ (upZ (S0 0) 8 0) 7 0)) 0)) 1 2 ((S0 1 2) + 1)) p0 0 p1 p2 0))
      (0))
    (0))
  (0)
noncomputable def sS0_0_X8_make (S0 : Nat → Nat → Int) (p0 : Int) (p1 : Int) (p2 : Int) : (Nat → Int) := zif (0 ≤ p0 ∧ p0 ≤ 2)
  (zif (0 ≤ p1 ∧ p1 ≤ 9)
    (zif (4 ≤ p2 ∧ p2 ≤ 9)
      (zif ((S0 1 (((15 + (26 * p0)) + 0).toNat)) = 5)
        (upZ (upZ (upZ (upZ (upZ (upZ (S0 0) 8 0) 7 0) 8 3) 7 1) 9 1) 10 5)
        (sS0_0_X8_keeps (upA S0 0 (upZ (upZ (S0 0) 8 0) 7 0)) 0))
      (upZ (upZ (S0 0) 8 2) 7 0))
    (upZ (upZ (S0 0) 8 2) 7 0))
  (upZ (upZ (S0 0) 8 1) 7 0)
noncomputable def sS0_1_X8_make (S0 : Nat → Nat → Int) (p0 : Int) (p1 : Int) (p2 : Int) : (Nat → Int) := zif (0 ≤ p0 ∧ p0 ≤ 2)
  (zif (0 ≤ p1 ∧ p1 ≤ 9)
    (zif (4 ≤ p2 ∧ p2 ≤ 9)
      (zif ((S0 1 (((15 + (26 * p0)) + 0).toNat)) = 5)
        (S0 1)
        (rPuts ((upZ (S0 1) 2 ((S0 1 2) + 1))) p0 0 p1 p2 0))
      (S0 1))
    (S0 1))
  (S0 1)
noncomputable def sS0_2_X8_make (S0 : Nat → Nat → Int) (p0 : Int) (p1 : Int) (p2 : Int) : (Nat → Int) := zif (0 ≤ p0 ∧ p0 ≤ 2)
  (zif (0 ≤ p1 ∧ p1 ≤ 9)
    (zif (4 ≤ p2 ∧ p2 ≤ 9)
      (zif ((S0 1 (((15 + (26 * p0)) + 0).toNat)) = 5)
        (S0 2)
        (sS0_2_X8_keeps (upA S0 0 (upZ (upZ (S0 0) 8 0) 7 0)) 0))
      (S0 2))
    (S0 2))
  (S0 2)
set_option maxHeartbeats 4000000 in
set_option maxRecDepth 100000 in
theorem c_X8_make (l : Launch) (D : va_G) (k : Nat → ClassId) (a0 : Nat → Nat) (S0 : Nat → Nat → Int) (p0 : Int) (p1 : Int) (p2 : Int) (hB : zBf (S0 1)) (hB0 : zBf (S0 0)) (hC : ∀ b : Int, 0 ≤ b → b ≤ 2 → 0 ≤ S0 1 (15 + 26 * b + 0).toNat ∧ S0 1 (15 + 26 * b + 0).toNat ≤ 5) (hI : 0 ≤ S0 1 9 ∧ S0 1 9 ≤ 4) (hF : 0 ≤ S0 1 10 ∧ S0 1 10 ≤ 8) (hch : 0 ≤ S0 0 5 ∧ S0 0 5 ≤ 8) (hw : S0 0 6 = 0 ∨ S0 0 6 = 1) (h0 : -2147483648 ≤ p0 ∧ p0 < 2147483648) (h1 : -2147483648 ≤ p1 ∧ p1 < 2147483648) (h2 : -2147483648 ≤ p2 ∧ p2 < 2147483648) : zMi l yX8_make wsX8_make ({ frames := 2, cells := 0, slots := 0, locals := 49 } : Room) D k [.ref (a0 0), .int (iI p0), .int (iI p1), .int (iI p2)] (wRef k a0 S0) (sp_X8_make S0 p0 p1 p2) (wRef k a0 (upA (upA (upA S0 0 (sS0_0_X8_make S0 p0 p1 p2)) 1 (sS0_1_X8_make S0 p0 p1 p2)) 2 (sS0_2_X8_make S0 p0 p1 p2))) 0 0 := by
  refine zMi_of (cc := cX8_make) (maxL := 4) (ret := (some .int)) (by decide) rfl (Nat.le_of_ble_eq_true rfl) ?_
  intro p e s m args below meth c A ls hx hb hr hml hown hts hlocks hK hP hD hG hA hS hl
  have hown : s.vm.findClass RX8 = some m.cls := hown
  have hl : lv_has ls 4 [(0, .ref (a0 0)), (1, .int (iI p0)), (2, .int (iI p1)), (3, .int (iI p2))] := hl
  obtain ⟨H, hH⟩ : ∃ z, z = s.heap := ⟨_, rfl⟩
  obtain ⟨locs, hlc⟩ : ∃ z : List Loc, z = [] := ⟨_, rfl⟩
  rw [← hH] at hP
  have hS : va_S A s.heap H locs := by rw [hH, hlc]; exact hS
  rw [← hlc, ← hH]
  clear hlc hH
  refine lv_aload_n hx hb dX8_make_0 rfl (lv_at hl 0 rfl) ?_
  refine lv_iload_n hx hb dX8_make_1 rfl (lv_at hl 1 rfl) ?_
  refine z_ai0 (va_runS (As := [.int (iI p0)]) (rest := [.ref (a0 0)]) ⟨hx, hb, hml, hown, hts⟩ (c_X8_isBelt l D k   p0 (by omega) _) (va_cwS 1 hts gX8_make_X8_isBelt rfl rfl rfl (by decide +kernel) ⟨(Nat.le_of_ble_eq_true rfl), (Nat.le_of_ble_eq_true rfl)⟩) (z_preS hK hG hA hP hD hS [] rfl (by decide)) rfl rfl hl.1 rfl (lv_room (Nat.le_of_ble_eq_true rfl)) dX8_make_2 ⟨(Nat.le_of_ble_eq_true rfl), (Nat.le_of_ble_eq_true rfl)⟩) hA hP hD hS [] rfl (fun H locs hP hS => ?_)
  refine zi_if_neB (tgt := 12) hx hb dX8_make_5 (by decide) (fun c_1 => ?_) (fun c_1 => ?_)
  · refine lv_iload_n hx hb dX8_make_12 rfl (lv_at hl 2 rfl) ?_
    refine lv_iconst (v := iI 0) hx hb dX8_make_13 rfl ?_
    refine lv_bipush (v := iI 9) hx hb dX8_make_14 (by decide) ?_
    refine z_ai0 (va_runS (As := [.int (iI p1), .int (iI 0), .int (iI 9)]) (rest := [.ref (a0 0)]) ⟨hx, hb, hml, hown, hts⟩ (c_X8_in l D k   p1 0 9 (by omega) (by omega) (by omega) _) (va_cwS 3 hts gX8_make_X8_in rfl rfl rfl (by decide +kernel) ⟨(Nat.le_of_ble_eq_true rfl), (Nat.le_of_ble_eq_true rfl)⟩) (z_preS hK hG hA hP hD hS [] rfl (by decide)) rfl rfl hl.1 rfl (lv_room (Nat.le_of_ble_eq_true rfl)) dX8_make_16 ⟨(Nat.le_of_ble_eq_true rfl), (Nat.le_of_ble_eq_true rfl)⟩) hA hP hD hS [] rfl (fun H locs hP hS => ?_)
    refine zi_if_eqB (tgt := 36) hx hb dX8_make_19 (by decide) (fun c_2 => ?_) (fun c_2 => ?_)
    · refine lv_iconst (v := iI 2) hx hb dX8_make_36 rfl ?_
      refine z_ai (va_runV (As := [.int (iI 2)]) (rest := []) ⟨hx, hb, hml, hown, hts⟩ (c_X8_fails l D k a0 S0  2 (by omega) _) (cwV 1 hts gX8_make_X8_fails rfl rfl rfl (by decide +kernel) ⟨(Nat.le_of_ble_eq_true rfl), (Nat.le_of_ble_eq_true rfl)⟩) (z_preV hK hG hA hP hD hS [0, 1, 2, 3, 4, 5, 6, 7] rfl (by decide) 10 rfl rfl) rfl rfl hl.1 rfl (lv_room (Nat.le_of_ble_eq_true rfl)) dX8_make_37 ⟨(Nat.le_of_ble_eq_true rfl), (Nat.le_of_ble_eq_true rfl)⟩) hA hP hD hS [0, 1, 2, 3, 4, 5, 6, 7] rfl rfl (fun H locs hP hD hS => ?_)
      have hP : va_P D vwCl (wRef k a0 (upA S0 0 (upZ (upZ (S0 0) 8 2) 7 0))) H := hP
      have hD : va_D A (wRef k a0 (upA S0 0 (upZ (upZ (S0 0) 8 2) 7 0))) := hD
      refine zi_if_eqB (tgt := 45) hx hb dX8_make_40 (by decide) (fun c_3 => absurd c_3 (by decide)) (fun _ => ?_)
      refine lv_iconst (v := iI 0) hx hb dX8_make_43 rfl ?_
      exact z_iret hx hb hr hlocks hP hS dX8_make_44 (Eq.trans (zif_pos c_1) (Eq.trans (zif_neg c_2) rfl)) (Eq.trans (Eq.trans (congrArg (fun z => wRef k a0 (upA (upA (upA S0 0 z) 1 (sS0_1_X8_make S0 p0 p1 p2)) 2 (sS0_2_X8_make S0 p0 p1 p2))) (show sS0_0_X8_make S0 p0 p1 p2 = upZ (upZ (S0 0) 8 2) 7 0 from (Eq.trans (zif_pos c_1) (Eq.trans (zif_neg c_2) rfl)))) (congrArg (fun z => wRef k a0 (upA (upA (upA S0 0 (upZ (upZ (S0 0) 8 2) 7 0)) 1 z) 2 (sS0_2_X8_make S0 p0 p1 p2))) (show sS0_1_X8_make S0 p0 p1 p2 = S0 1 from (Eq.trans (zif_pos c_1) (Eq.trans (zif_neg c_2) rfl))))) (congrArg (fun z => wRef k a0 (upA (upA (upA S0 0 (upZ (upZ (S0 0) 8 2) 7 0)) 1 (S0 1)) 2 z)) (show sS0_2_X8_make S0 p0 p1 p2 = S0 2 from (Eq.trans (zif_pos c_1) (Eq.trans (zif_neg c_2) rfl))))) (Nat.le_refl _) (Nat.le_refl _)
    · refine lv_iload_n hx hb dX8_make_22 rfl (lv_at hl 3 rfl) ?_
      refine lv_iconst (v := iI 4) hx hb dX8_make_23 rfl ?_
      refine lv_bipush (v := iI 9) hx hb dX8_make_24 (by decide) ?_
      refine z_ai0 (va_runS (As := [.int (iI p2), .int (iI 4), .int (iI 9)]) (rest := [.ref (a0 0)]) ⟨hx, hb, hml, hown, hts⟩ (c_X8_in l D k   p2 4 9 (by omega) (by omega) (by omega) _) (va_cwS 3 hts gX8_make_X8_in rfl rfl rfl (by decide +kernel) ⟨(Nat.le_of_ble_eq_true rfl), (Nat.le_of_ble_eq_true rfl)⟩) (z_preS hK hG hA hP hD hS [] rfl (by decide)) rfl rfl hl.1 rfl (lv_room (Nat.le_of_ble_eq_true rfl)) dX8_make_26 ⟨(Nat.le_of_ble_eq_true rfl), (Nat.le_of_ble_eq_true rfl)⟩) hA hP hD hS [] rfl (fun H locs hP hS => ?_)
      refine zi_if_eqB (tgt := 36) hx hb dX8_make_29 (by decide) (fun c_4 => ?_) (fun c_4 => ?_)
      · refine lv_iconst (v := iI 2) hx hb dX8_make_36 rfl ?_
        refine z_ai (va_runV (As := [.int (iI 2)]) (rest := []) ⟨hx, hb, hml, hown, hts⟩ (c_X8_fails l D k a0 S0  2 (by omega) _) (cwV 1 hts gX8_make_X8_fails rfl rfl rfl (by decide +kernel) ⟨(Nat.le_of_ble_eq_true rfl), (Nat.le_of_ble_eq_true rfl)⟩) (z_preV hK hG hA hP hD hS [0, 1, 2, 3, 4, 5, 6, 7] rfl (by decide) 10 rfl rfl) rfl rfl hl.1 rfl (lv_room (Nat.le_of_ble_eq_true rfl)) dX8_make_37 ⟨(Nat.le_of_ble_eq_true rfl), (Nat.le_of_ble_eq_true rfl)⟩) hA hP hD hS [0, 1, 2, 3, 4, 5, 6, 7] rfl rfl (fun H locs hP hD hS => ?_)
        have hP : va_P D vwCl (wRef k a0 (upA S0 0 (upZ (upZ (S0 0) 8 2) 7 0))) H := hP
        have hD : va_D A (wRef k a0 (upA S0 0 (upZ (upZ (S0 0) 8 2) 7 0))) := hD
        refine zi_if_eqB (tgt := 45) hx hb dX8_make_40 (by decide) (fun c_5 => absurd c_5 (by decide)) (fun _ => ?_)
        refine lv_iconst (v := iI 0) hx hb dX8_make_43 rfl ?_
        exact z_iret hx hb hr hlocks hP hS dX8_make_44 (Eq.trans (zif_pos c_1) (Eq.trans (zif_pos c_2) (Eq.trans (zif_neg c_4) rfl))) (Eq.trans (Eq.trans (congrArg (fun z => wRef k a0 (upA (upA (upA S0 0 z) 1 (sS0_1_X8_make S0 p0 p1 p2)) 2 (sS0_2_X8_make S0 p0 p1 p2))) (show sS0_0_X8_make S0 p0 p1 p2 = upZ (upZ (S0 0) 8 2) 7 0 from (Eq.trans (zif_pos c_1) (Eq.trans (zif_pos c_2) (Eq.trans (zif_neg c_4) rfl))))) (congrArg (fun z => wRef k a0 (upA (upA (upA S0 0 (upZ (upZ (S0 0) 8 2) 7 0)) 1 z) 2 (sS0_2_X8_make S0 p0 p1 p2))) (show sS0_1_X8_make S0 p0 p1 p2 = S0 1 from (Eq.trans (zif_pos c_1) (Eq.trans (zif_pos c_2) (Eq.trans (zif_neg c_4) rfl)))))) (congrArg (fun z => wRef k a0 (upA (upA (upA S0 0 (upZ (upZ (S0 0) 8 2) 7 0)) 1 (S0 1)) 2 z)) (show sS0_2_X8_make S0 p0 p1 p2 = S0 2 from (Eq.trans (zif_pos c_1) (Eq.trans (zif_pos c_2) (Eq.trans (zif_neg c_4) rfl)))))) (Nat.le_refl _) (Nat.le_refl _)
      · refine lv_iconst (v := iI 0) hx hb dX8_make_32 rfl ?_
        refine lv_goto (tgt := 37) hx hb dX8_make_33 (by decide) ?_
        refine z_ai (va_runV (As := [.int (iI 0)]) (rest := []) ⟨hx, hb, hml, hown, hts⟩ (c_X8_fails l D k a0 S0  0 (by omega) _) (cwV 1 hts gX8_make_X8_fails rfl rfl rfl (by decide +kernel) ⟨(Nat.le_of_ble_eq_true rfl), (Nat.le_of_ble_eq_true rfl)⟩) (z_preV hK hG hA hP hD hS [0, 1, 2, 3, 4, 5, 6, 7] rfl (by decide) 10 rfl rfl) rfl rfl hl.1 rfl (lv_room (Nat.le_of_ble_eq_true rfl)) dX8_make_37 ⟨(Nat.le_of_ble_eq_true rfl), (Nat.le_of_ble_eq_true rfl)⟩) hA hP hD hS [0, 1, 2, 3, 4, 5, 6, 7] rfl rfl (fun H locs hP hD hS => ?_)
        have hP : va_P D vwCl (wRef k a0 (upA S0 0 (upZ (upZ (S0 0) 8 0) 7 0))) H := hP
        have hD : va_D A (wRef k a0 (upA S0 0 (upZ (upZ (S0 0) 8 0) 7 0))) := hD
        refine zi_if_eqB (tgt := 45) hx hb dX8_make_40 (by decide) (fun _ => ?_) (fun c_6 => absurd c_6 (by decide))
        refine lv_aload_n hx hb dX8_make_45 rfl (lv_at hl 0 rfl) ?_
        refine lv_iload_n hx hb dX8_make_46 rfl (lv_at hl 1 rfl) ?_
        refine lv_iconst (v := iI 0) hx hb dX8_make_47 rfl ?_
        have qc := hC p0 (by omega) (by omega)
        refine z_ai0 (va_runV (As := [.int (iI p0), .int (iI 0)]) (rest := []) ⟨hx, hb, hml, hown, hts⟩ (c_X8_of l D k a0 (upA S0 0 (upZ (upZ (S0 0) 8 0) 7 0))  p0 0 (by omega) (by omega) _) (cwV 2 hts gX8_make_X8_of rfl rfl rfl (by decide +kernel) ⟨(Nat.le_of_ble_eq_true rfl), (Nat.le_of_ble_eq_true rfl)⟩) (z_preV hK hG hA hP hD hS [0, 1, 2, 3, 4, 5, 6, 7] rfl (by decide) 10 rfl rfl) rfl rfl hl.1 rfl (lv_room (Nat.le_of_ble_eq_true rfl)) dX8_make_48 ⟨(Nat.le_of_ble_eq_true rfl), (Nat.le_of_ble_eq_true rfl)⟩) hA hP hD hS [0, 1, 2, 3, 4, 5, 6, 7] rfl (fun H locs hP hS => ?_)
        refine z_eqi (z2 := S0 1 (((15 + (26 * p0)) + 0).toNat)) rfl ?_
        have f_7 := hB (((15 + (26 * p0)) + 0).toNat)
        refine lv_iconst (v := iI 5) hx hb dX8_make_51 rfl ?_
        refine zi_icmp_ne (tgt := 63) hx hb dX8_make_52 (by decide) ⟨by omega, by omega⟩ ⟨by omega, by omega⟩ (fun c_8 => ?_) (fun c_8 => ?_)
        · refine lv_aload_n hx hb dX8_make_63 rfl (lv_at hl 0 rfl) ?_
          refine lv_aload_n hx hb dX8_make_64 rfl (lv_at hl 0 rfl) ?_
          refine va_get (D := D) (ci := 10) (v := .ref (a0 1)) (C := RX8) (T := TX8) (N := 19) hx hb hts (fun w h => List.mem_cons_of_mem _ (List.mem_append_left _ (List.mem_append_right _ h))) hown hK hP 0 rfl rfl 0 (by decide) (hts (.fieldLink RX8 7 "MondayFactoryModel" "g" "[I") (List.mem_of_getElem? (i := 1) rfl)) (fun _ h9 => h9) rfl dX8_make_65 ?_
          refine z_av (va_runV (As := [.ref (a0 1)]) (rest := []) ⟨hx, hb, hml, hown, hts⟩ (c_X8_keeps l D k a0 (upA S0 0 (upZ (upZ (S0 0) 8 0) 7 0)) 0  (by omega) (by have e0 : ((upA S0 0 (upZ (upZ (S0 0) 8 0) 7 0)) 0 5) = S0 0 5 := (show (upZ (upZ (S0 0) 8 0) 7 0) 5 = S0 0 5 from (Eq.trans (upZ_n (by omega)) (Eq.trans (upZ_n (by omega)) rfl))); omega) (by have e0 : ((upA S0 0 (upZ (upZ (S0 0) 8 0) 7 0)) 0 6) = S0 0 6 := (show (upZ (upZ (S0 0) 8 0) 7 0) 6 = S0 0 6 from (Eq.trans (upZ_n (by omega)) (Eq.trans (upZ_n (by omega)) rfl))); omega) _) (cwV 1 hts gX8_make_X8_keeps rfl rfl rfl (by decide +kernel) ⟨(Nat.le_of_ble_eq_true rfl), (Nat.le_of_ble_eq_true rfl)⟩) (z_preV hK hG hA hP hD hS [0, 1, 2, 3, 4, 5, 6, 7] rfl (by decide) 10 rfl rfl) rfl rfl hl.1 rfl (lv_room (Nat.le_of_ble_eq_true rfl)) dX8_make_68 ⟨(Nat.le_of_ble_eq_true rfl), (Nat.le_of_ble_eq_true rfl)⟩) hA hP hD hS [0, 1, 2, 3, 4, 5, 6, 7] rfl rfl (fun H locs hP hD hS => ?_)
          have hP : va_P D vwCl (wRef k a0 (upA (upA (upA S0 0 (upZ (upZ (S0 0) 8 0) 7 0)) 0 (sS0_0_X8_keeps (upA S0 0 (upZ (upZ (S0 0) 8 0) 7 0)) 0)) 2 (sS0_2_X8_keeps (upA S0 0 (upZ (upZ (S0 0) 8 0) 7 0)) 0))) H := hP
          have hD : va_D A (wRef k a0 (upA (upA (upA S0 0 (upZ (upZ (S0 0) 8 0) 7 0)) 0 (sS0_0_X8_keeps (upA S0 0 (upZ (upZ (S0 0) 8 0) 7 0)) 0)) 2 (sS0_2_X8_keeps (upA S0 0 (upZ (upZ (S0 0) 8 0) 7 0)) 0))) := hD
          refine lv_aload_n hx hb dX8_make_71 rfl (lv_at hl 0 rfl) ?_
          refine va_get (D := D) (ci := 10) (v := .ref (a0 1)) (C := RX8) (T := TX8) (N := 19) hx hb hts (fun w h => List.mem_cons_of_mem _ (List.mem_append_left _ (List.mem_append_right _ h))) hown hK hP 0 rfl rfl 0 (by decide) (hts (.fieldLink RX8 7 "MondayFactoryModel" "g" "[I") (List.mem_of_getElem? (i := 1) rfl)) (fun _ h9 => h9) rfl dX8_make_72 ?_
          refine lv_iconst (v := iI 2) hx hb dX8_make_75 rfl ?_
          refine lv_dup2_11 hx hb dX8_make_76 rfl rfl ?_
          refine z_iald hx hb hK hP 1 0 (f := S0 1) rfl rfl (i := 2) (by omega) (by omega) (by decide) 2 rfl dX8_make_77 ?_
          have f_9 := hB 2
          refine lv_iconst (v := iI 1) hx hb dX8_make_78 rfl ?_
          refine zi_add hx hb dX8_make_79 ?_
          refine z_iast hx hb hK hP hD hS 1 0 (f := S0 1) rfl rfl (i := 2) (by omega) (by omega) (by decide) 2 rfl dX8_make_80 (fun H locs hP hD hS => ?_)
          have hP : va_P D vwCl (wRef k a0 (up2 (upA (upA (upA S0 0 (upZ (upZ (S0 0) 8 0) 7 0)) 0 (sS0_0_X8_keeps (upA S0 0 (upZ (upZ (S0 0) 8 0) 7 0)) 0)) 2 (sS0_2_X8_keeps (upA S0 0 (upZ (upZ (S0 0) 8 0) 7 0)) 0)) 1 2 ((S0 1 2) + 1))) H := hP
          have hD : va_D A (wRef k a0 (up2 (upA (upA (upA S0 0 (upZ (upZ (S0 0) 8 0) 7 0)) 0 (sS0_0_X8_keeps (upA S0 0 (upZ (upZ (S0 0) 8 0) 7 0)) 0)) 2 (sS0_2_X8_keeps (upA S0 0 (upZ (upZ (S0 0) 8 0) 7 0)) 0)) 1 2 ((S0 1 2) + 1))) := hD
          refine lv_aload_n hx hb dX8_make_81 rfl (lv_at hl 0 rfl) ?_
          refine lv_iload_n hx hb dX8_make_82 rfl (lv_at hl 1 rfl) ?_
          refine lv_iconst (v := iI 0) hx hb dX8_make_83 rfl ?_
          refine lv_iload_n hx hb dX8_make_84 rfl (lv_at hl 2 rfl) ?_
          refine lv_iload_n hx hb dX8_make_85 rfl (lv_at hl 3 rfl) ?_
          refine lv_iconst (v := iI 0) hx hb dX8_make_86 rfl ?_
          refine z_ai (va_runV (As := [.int (iI p0), .int (iI 0), .int (iI p1), .int (iI p2), .int (iI 0)]) (rest := []) ⟨hx, hb, hml, hown, hts⟩ (c_X8_puts l D k a0 (up2 (upA (upA (upA S0 0 (upZ (upZ (S0 0) 8 0) 7 0)) 0 (sS0_0_X8_keeps (upA S0 0 (upZ (upZ (S0 0) 8 0) 7 0)) 0)) 2 (sS0_2_X8_keeps (upA S0 0 (upZ (upZ (S0 0) 8 0) 7 0)) 0)) 1 2 ((S0 1 2) + 1))  p0 0 p1 p2 0 (by omega) (by have e0 : ((up2 (upA (upA (upA S0 0 (upZ (upZ (S0 0) 8 0) 7 0)) 0 (sS0_0_X8_keeps (upA S0 0 (upZ (upZ (S0 0) 8 0) 7 0)) 0)) 2 (sS0_2_X8_keeps (upA S0 0 (upZ (upZ (S0 0) 8 0) 7 0)) 0)) 1 2 ((S0 1 2) + 1)) 1 (15 + 26 * p0 + 0).toNat) = S0 1 ((15 + 26 * p0 + 0).toNat) := (show (upZ (S0 1) 2 ((S0 1 2) + 1)) ((15 + 26 * p0 + 0).toNat) = S0 1 ((15 + 26 * p0 + 0).toNat) from (Eq.trans (upZ_n (by omega)) rfl)); omega) _) (cwV 5 hts gX8_make_X8_puts rfl rfl rfl (by decide +kernel) ⟨(Nat.le_of_ble_eq_true rfl), (Nat.le_of_ble_eq_true rfl)⟩) (z_preV hK hG hA hP hD hS [0, 1, 2, 3, 4, 5, 6, 7] rfl (by decide) 10 rfl rfl) rfl rfl hl.1 rfl (lv_room (Nat.le_of_ble_eq_true rfl)) dX8_make_87 ⟨(Nat.le_of_ble_eq_true rfl), (Nat.le_of_ble_eq_true rfl)⟩) hA hP hD hS [0, 1, 2, 3, 4, 5, 6, 7] rfl rfl (fun H locs hP hD hS => ?_)
          have hP : va_P D vwCl (wRef k a0 (upA (up2 (upA (upA (upA S0 0 (upZ (upZ (S0 0) 8 0) 7 0)) 0 (sS0_0_X8_keeps (upA S0 0 (upZ (upZ (S0 0) 8 0) 7 0)) 0)) 2 (sS0_2_X8_keeps (upA S0 0 (upZ (upZ (S0 0) 8 0) 7 0)) 0)) 1 2 ((S0 1 2) + 1)) 1 (rPuts ((upZ (S0 1) 2 ((S0 1 2) + 1))) p0 0 p1 p2 0))) H := hP
          have hD : va_D A (wRef k a0 (upA (up2 (upA (upA (upA S0 0 (upZ (upZ (S0 0) 8 0) 7 0)) 0 (sS0_0_X8_keeps (upA S0 0 (upZ (upZ (S0 0) 8 0) 7 0)) 0)) 2 (sS0_2_X8_keeps (upA S0 0 (upZ (upZ (S0 0) 8 0) 7 0)) 0)) 1 2 ((S0 1 2) + 1)) 1 (rPuts ((upZ (S0 1) 2 ((S0 1 2) + 1))) p0 0 p1 p2 0))) := hD
          refine z_eqi (z2 := sp_X8_puts (up2 (upA (upA (upA S0 0 (upZ (upZ (S0 0) 8 0) 7 0)) 0 (sS0_0_X8_keeps (upA S0 0 (upZ (upZ (S0 0) 8 0) 7 0)) 0)) 2 (sS0_2_X8_keeps (upA S0 0 (upZ (upZ (S0 0) 8 0) 7 0)) 0)) 1 2 ((S0 1 2) + 1)) p0 0 p1 p2 0) rfl ?_
          exact z_iret hx hb hr hlocks hP hS dX8_make_90 (Eq.trans (zif_pos c_1) (Eq.trans (zif_pos c_2) (Eq.trans (zif_pos c_4) (Eq.trans (zif_neg c_8) rfl)))) (Eq.trans (Eq.trans (congrArg (fun z => wRef k a0 (upA (upA (upA S0 0 z) 1 (sS0_1_X8_make S0 p0 p1 p2)) 2 (sS0_2_X8_make S0 p0 p1 p2))) (show sS0_0_X8_make S0 p0 p1 p2 = sS0_0_X8_keeps (upA S0 0 (upZ (upZ (S0 0) 8 0) 7 0)) 0 from (Eq.trans (zif_pos c_1) (Eq.trans (zif_pos c_2) (Eq.trans (zif_pos c_4) (Eq.trans (zif_neg c_8) rfl)))))) (congrArg (fun z => wRef k a0 (upA (upA (upA S0 0 (sS0_0_X8_keeps (upA S0 0 (upZ (upZ (S0 0) 8 0) 7 0)) 0)) 1 z) 2 (sS0_2_X8_make S0 p0 p1 p2))) (show sS0_1_X8_make S0 p0 p1 p2 = rPuts ((upZ (S0 1) 2 ((S0 1 2) + 1))) p0 0 p1 p2 0 from (Eq.trans (zif_pos c_1) (Eq.trans (zif_pos c_2) (Eq.trans (zif_pos c_4) (Eq.trans (zif_neg c_8) rfl))))))) (congrArg (fun z => wRef k a0 (upA (upA (upA S0 0 (sS0_0_X8_keeps (upA S0 0 (upZ (upZ (S0 0) 8 0) 7 0)) 0)) 1 (rPuts ((upZ (S0 1) 2 ((S0 1 2) + 1))) p0 0 p1 p2 0)) 2 z)) (show sS0_2_X8_make S0 p0 p1 p2 = sS0_2_X8_keeps (upA S0 0 (upZ (upZ (S0 0) 8 0) 7 0)) 0 from (Eq.trans (zif_pos c_1) (Eq.trans (zif_pos c_2) (Eq.trans (zif_pos c_4) (Eq.trans (zif_neg c_8) rfl))))))) (Nat.le_refl _) (Nat.le_refl _)
        · refine lv_aload_n hx hb dX8_make_55 rfl (lv_at hl 0 rfl) ?_
          refine lv_iconst (v := iI 3) hx hb dX8_make_56 rfl ?_
          refine lv_iconst (v := iI 1) hx hb dX8_make_57 rfl ?_
          refine lv_iconst (v := iI 5) hx hb dX8_make_58 rfl ?_
          refine z_ai (va_runV (As := [.int (iI 3), .int (iI 1), .int (iI 5)]) (rest := []) ⟨hx, hb, hml, hown, hts⟩ (c_X8_refuses l D k a0 (upA S0 0 (upZ (upZ (S0 0) 8 0) 7 0))  3 1 5  _) (cwV 3 hts gX8_make_X8_refuses rfl rfl rfl (by decide +kernel) ⟨(Nat.le_of_ble_eq_true rfl), (Nat.le_of_ble_eq_true rfl)⟩) (z_preV hK hG hA hP hD hS [0, 1, 2, 3, 4, 5, 6, 7] rfl (by decide) 10 rfl rfl) rfl rfl hl.1 rfl (lv_room (Nat.le_of_ble_eq_true rfl)) dX8_make_59 ⟨(Nat.le_of_ble_eq_true rfl), (Nat.le_of_ble_eq_true rfl)⟩) hA hP hD hS [0, 1, 2, 3, 4, 5, 6, 7] rfl rfl (fun H locs hP hD hS => ?_)
          have hP : va_P D vwCl (wRef k a0 (up2 (up2 (up2 (up2 (upA S0 0 (upZ (upZ (S0 0) 8 0) 7 0)) 0 8 3) 0 7 1) 0 9 1) 0 10 5)) H := hP
          have hD : va_D A (wRef k a0 (up2 (up2 (up2 (up2 (upA S0 0 (upZ (upZ (S0 0) 8 0) 7 0)) 0 8 3) 0 7 1) 0 9 1) 0 10 5)) := hD
          refine z_eqi (z2 := 0) rfl ?_
          exact z_iret hx hb hr hlocks hP hS dX8_make_62 (Eq.trans (zif_pos c_1) (Eq.trans (zif_pos c_2) (Eq.trans (zif_pos c_4) (Eq.trans (zif_pos c_8) rfl)))) (Eq.trans (Eq.trans (congrArg (fun z => wRef k a0 (upA (upA (upA S0 0 z) 1 (sS0_1_X8_make S0 p0 p1 p2)) 2 (sS0_2_X8_make S0 p0 p1 p2))) (show sS0_0_X8_make S0 p0 p1 p2 = upZ (upZ (upZ (upZ (upZ (upZ (S0 0) 8 0) 7 0) 8 3) 7 1) 9 1) 10 5 from (Eq.trans (zif_pos c_1) (Eq.trans (zif_pos c_2) (Eq.trans (zif_pos c_4) (Eq.trans (zif_pos c_8) rfl)))))) (congrArg (fun z => wRef k a0 (upA (upA (upA S0 0 (upZ (upZ (upZ (upZ (upZ (upZ (S0 0) 8 0) 7 0) 8 3) 7 1) 9 1) 10 5)) 1 z) 2 (sS0_2_X8_make S0 p0 p1 p2))) (show sS0_1_X8_make S0 p0 p1 p2 = S0 1 from (Eq.trans (zif_pos c_1) (Eq.trans (zif_pos c_2) (Eq.trans (zif_pos c_4) (Eq.trans (zif_pos c_8) rfl))))))) (congrArg (fun z => wRef k a0 (upA (upA (upA S0 0 (upZ (upZ (upZ (upZ (upZ (upZ (S0 0) 8 0) 7 0) 8 3) 7 1) 9 1) 10 5)) 1 (S0 1)) 2 z)) (show sS0_2_X8_make S0 p0 p1 p2 = S0 2 from (Eq.trans (zif_pos c_1) (Eq.trans (zif_pos c_2) (Eq.trans (zif_pos c_4) (Eq.trans (zif_pos c_8) rfl))))))) (Nat.le_refl _) (Nat.le_refl _)
  · refine lv_iconst (v := iI 1) hx hb dX8_make_8 rfl ?_
    refine lv_goto (tgt := 37) hx hb dX8_make_9 (by decide) ?_
    refine z_ai (va_runV (As := [.int (iI 1)]) (rest := []) ⟨hx, hb, hml, hown, hts⟩ (c_X8_fails l D k a0 S0  1 (by omega) _) (cwV 1 hts gX8_make_X8_fails rfl rfl rfl (by decide +kernel) ⟨(Nat.le_of_ble_eq_true rfl), (Nat.le_of_ble_eq_true rfl)⟩) (z_preV hK hG hA hP hD hS [0, 1, 2, 3, 4, 5, 6, 7] rfl (by decide) 10 rfl rfl) rfl rfl hl.1 rfl (lv_room (Nat.le_of_ble_eq_true rfl)) dX8_make_37 ⟨(Nat.le_of_ble_eq_true rfl), (Nat.le_of_ble_eq_true rfl)⟩) hA hP hD hS [0, 1, 2, 3, 4, 5, 6, 7] rfl rfl (fun H locs hP hD hS => ?_)
    have hP : va_P D vwCl (wRef k a0 (upA S0 0 (upZ (upZ (S0 0) 8 1) 7 0))) H := hP
    have hD : va_D A (wRef k a0 (upA S0 0 (upZ (upZ (S0 0) 8 1) 7 0))) := hD
    refine zi_if_eqB (tgt := 45) hx hb dX8_make_40 (by decide) (fun c_10 => absurd c_10 (by decide)) (fun _ => ?_)
    refine lv_iconst (v := iI 0) hx hb dX8_make_43 rfl ?_
    exact z_iret hx hb hr hlocks hP hS dX8_make_44 (Eq.trans (zif_neg c_1) rfl) (Eq.trans (Eq.trans (congrArg (fun z => wRef k a0 (upA (upA (upA S0 0 z) 1 (sS0_1_X8_make S0 p0 p1 p2)) 2 (sS0_2_X8_make S0 p0 p1 p2))) (show sS0_0_X8_make S0 p0 p1 p2 = upZ (upZ (S0 0) 8 1) 7 0 from (Eq.trans (zif_neg c_1) rfl))) (congrArg (fun z => wRef k a0 (upA (upA (upA S0 0 (upZ (upZ (S0 0) 8 1) 7 0)) 1 z) 2 (sS0_2_X8_make S0 p0 p1 p2))) (show sS0_1_X8_make S0 p0 p1 p2 = S0 1 from (Eq.trans (zif_neg c_1) rfl)))) (congrArg (fun z => wRef k a0 (upA (upA (upA S0 0 (upZ (upZ (S0 0) 8 1) 7 0)) 1 (S0 1)) 2 z)) (show sS0_2_X8_make S0 p0 p1 p2 = S0 2 from (Eq.trans (zif_neg c_1) rfl)))) (Nat.le_refl _) (Nat.le_refl _)
noncomputable def sp_X8_blank (S0 : Nat → Nat → Int) (p0 : Int) : Int := zif (0 ≤ p0 ∧ p0 ≤ 2)
  (zif ((S0 1 (((15 + (26 * p0)) + 0).toNat)) = 5)
    (0)
    (sp_X8_puts (upA (upA (upA S0 0 (upZ (upZ (S0 0) 8 0) 7 0)) 0 (sS0_0_X8_keeps (upA S0 0 (upZ (upZ (S0 0) 8 0) 7 0)) 0)) 2 (sS0_2_X8_keeps (upA S0 0 (upZ (upZ (S0 0) 8 0) 7 0)) 0)) p0 1 (-1) (-1) (-1)))
  (0)
noncomputable def sS0_0_X8_blank (S0 : Nat → Nat → Int) (p0 : Int) : (Nat → Int) := zif (0 ≤ p0 ∧ p0 ≤ 2)
  (zif ((S0 1 (((15 + (26 * p0)) + 0).toNat)) = 5)
    (upZ (upZ (upZ (upZ (upZ (upZ (S0 0) 8 0) 7 0) 8 2) 7 1) 9 1) 10 5)
    (sS0_0_X8_keeps (upA S0 0 (upZ (upZ (S0 0) 8 0) 7 0)) 0))
  (upZ (upZ (S0 0) 8 1) 7 0)
noncomputable def sS0_1_X8_blank (S0 : Nat → Nat → Int) (p0 : Int) : (Nat → Int) := zif (0 ≤ p0 ∧ p0 ≤ 2)
  (zif ((S0 1 (((15 + (26 * p0)) + 0).toNat)) = 5)
    (S0 1)
    (rPuts (S0 1) p0 1 (-1) (-1) (-1)))
  (S0 1)
noncomputable def sS0_2_X8_blank (S0 : Nat → Nat → Int) (p0 : Int) : (Nat → Int) := zif (0 ≤ p0 ∧ p0 ≤ 2)
  (zif ((S0 1 (((15 + (26 * p0)) + 0).toNat)) = 5)
    (S0 2)
    (sS0_2_X8_keeps (upA S0 0 (upZ (upZ (S0 0) 8 0) 7 0)) 0))
  (S0 2)
set_option maxHeartbeats 4000000 in
set_option maxRecDepth 100000 in
theorem c_X8_blank (l : Launch) (D : va_G) (k : Nat → ClassId) (a0 : Nat → Nat) (S0 : Nat → Nat → Int) (p0 : Int) (hB : zBf (S0 1)) (hB0 : zBf (S0 0)) (hC : ∀ b : Int, 0 ≤ b → b ≤ 2 → 0 ≤ S0 1 (15 + 26 * b + 0).toNat ∧ S0 1 (15 + 26 * b + 0).toNat ≤ 5) (hI : 0 ≤ S0 1 9 ∧ S0 1 9 ≤ 4) (hF : 0 ≤ S0 1 10 ∧ S0 1 10 ≤ 8) (hch : 0 ≤ S0 0 5 ∧ S0 0 5 ≤ 8) (hw : S0 0 6 = 0 ∨ S0 0 6 = 1) (h0 : -2147483648 ≤ p0 ∧ p0 < 2147483648) : zMi l yX8_blank wsX8_blank ({ frames := 2, cells := 0, slots := 0, locals := 49 } : Room) D k [.ref (a0 0), .int (iI p0)] (wRef k a0 S0) (sp_X8_blank S0 p0) (wRef k a0 (upA (upA (upA S0 0 (sS0_0_X8_blank S0 p0)) 1 (sS0_1_X8_blank S0 p0)) 2 (sS0_2_X8_blank S0 p0))) 0 0 := by
  refine zMi_of (cc := cX8_blank) (maxL := 2) (ret := (some .int)) (by decide) rfl (Nat.le_of_ble_eq_true rfl) ?_
  intro p e s m args below meth c A ls hx hb hr hml hown hts hlocks hK hP hD hG hA hS hl
  have hown : s.vm.findClass RX8 = some m.cls := hown
  have hl : lv_has ls 2 [(0, .ref (a0 0)), (1, .int (iI p0))] := hl
  obtain ⟨H, hH⟩ : ∃ z, z = s.heap := ⟨_, rfl⟩
  obtain ⟨locs, hlc⟩ : ∃ z : List Loc, z = [] := ⟨_, rfl⟩
  rw [← hH] at hP
  have hS : va_S A s.heap H locs := by rw [hH, hlc]; exact hS
  rw [← hlc, ← hH]
  clear hlc hH
  refine lv_aload_n hx hb dX8_blank_0 rfl (lv_at hl 0 rfl) ?_
  refine lv_iload_n hx hb dX8_blank_1 rfl (lv_at hl 1 rfl) ?_
  refine z_ai0 (va_runS (As := [.int (iI p0)]) (rest := [.ref (a0 0)]) ⟨hx, hb, hml, hown, hts⟩ (c_X8_isBelt l D k   p0 (by omega) _) (va_cwS 1 hts gX8_blank_X8_isBelt rfl rfl rfl (by decide +kernel) ⟨(Nat.le_of_ble_eq_true rfl), (Nat.le_of_ble_eq_true rfl)⟩) (z_preS hK hG hA hP hD hS [] rfl (by decide)) rfl rfl hl.1 rfl (lv_room (Nat.le_of_ble_eq_true rfl)) dX8_blank_2 ⟨(Nat.le_of_ble_eq_true rfl), (Nat.le_of_ble_eq_true rfl)⟩) hA hP hD hS [] rfl (fun H locs hP hS => ?_)
  refine zi_if_eqB (tgt := 12) hx hb dX8_blank_5 (by decide) (fun c_1 => ?_) (fun c_1 => ?_)
  · refine lv_iconst (v := iI 1) hx hb dX8_blank_12 rfl ?_
    refine z_ai (va_runV (As := [.int (iI 1)]) (rest := []) ⟨hx, hb, hml, hown, hts⟩ (c_X8_fails l D k a0 S0  1 (by omega) _) (cwV 1 hts gX8_blank_X8_fails rfl rfl rfl (by decide +kernel) ⟨(Nat.le_of_ble_eq_true rfl), (Nat.le_of_ble_eq_true rfl)⟩) (z_preV hK hG hA hP hD hS [0, 1, 2, 3, 4, 5, 6, 7] rfl (by decide) 10 rfl rfl) rfl rfl hl.1 rfl (lv_room (Nat.le_of_ble_eq_true rfl)) dX8_blank_13 ⟨(Nat.le_of_ble_eq_true rfl), (Nat.le_of_ble_eq_true rfl)⟩) hA hP hD hS [0, 1, 2, 3, 4, 5, 6, 7] rfl rfl (fun H locs hP hD hS => ?_)
    have hP : va_P D vwCl (wRef k a0 (upA S0 0 (upZ (upZ (S0 0) 8 1) 7 0))) H := hP
    have hD : va_D A (wRef k a0 (upA S0 0 (upZ (upZ (S0 0) 8 1) 7 0))) := hD
    refine zi_if_eqB (tgt := 21) hx hb dX8_blank_16 (by decide) (fun c_2 => absurd c_2 (by decide)) (fun _ => ?_)
    refine lv_iconst (v := iI 0) hx hb dX8_blank_19 rfl ?_
    exact z_iret hx hb hr hlocks hP hS dX8_blank_20 (Eq.trans (zif_neg c_1) rfl) (Eq.trans (Eq.trans (congrArg (fun z => wRef k a0 (upA (upA (upA S0 0 z) 1 (sS0_1_X8_blank S0 p0)) 2 (sS0_2_X8_blank S0 p0))) (show sS0_0_X8_blank S0 p0 = upZ (upZ (S0 0) 8 1) 7 0 from (Eq.trans (zif_neg c_1) rfl))) (congrArg (fun z => wRef k a0 (upA (upA (upA S0 0 (upZ (upZ (S0 0) 8 1) 7 0)) 1 z) 2 (sS0_2_X8_blank S0 p0))) (show sS0_1_X8_blank S0 p0 = S0 1 from (Eq.trans (zif_neg c_1) rfl)))) (congrArg (fun z => wRef k a0 (upA (upA (upA S0 0 (upZ (upZ (S0 0) 8 1) 7 0)) 1 (S0 1)) 2 z)) (show sS0_2_X8_blank S0 p0 = S0 2 from (Eq.trans (zif_neg c_1) rfl)))) (Nat.le_refl _) (Nat.le_refl _)
  · refine lv_iconst (v := iI 0) hx hb dX8_blank_8 rfl ?_
    refine lv_goto (tgt := 13) hx hb dX8_blank_9 (by decide) ?_
    refine z_ai (va_runV (As := [.int (iI 0)]) (rest := []) ⟨hx, hb, hml, hown, hts⟩ (c_X8_fails l D k a0 S0  0 (by omega) _) (cwV 1 hts gX8_blank_X8_fails rfl rfl rfl (by decide +kernel) ⟨(Nat.le_of_ble_eq_true rfl), (Nat.le_of_ble_eq_true rfl)⟩) (z_preV hK hG hA hP hD hS [0, 1, 2, 3, 4, 5, 6, 7] rfl (by decide) 10 rfl rfl) rfl rfl hl.1 rfl (lv_room (Nat.le_of_ble_eq_true rfl)) dX8_blank_13 ⟨(Nat.le_of_ble_eq_true rfl), (Nat.le_of_ble_eq_true rfl)⟩) hA hP hD hS [0, 1, 2, 3, 4, 5, 6, 7] rfl rfl (fun H locs hP hD hS => ?_)
    have hP : va_P D vwCl (wRef k a0 (upA S0 0 (upZ (upZ (S0 0) 8 0) 7 0))) H := hP
    have hD : va_D A (wRef k a0 (upA S0 0 (upZ (upZ (S0 0) 8 0) 7 0))) := hD
    refine zi_if_eqB (tgt := 21) hx hb dX8_blank_16 (by decide) (fun _ => ?_) (fun c_3 => absurd c_3 (by decide))
    refine lv_aload_n hx hb dX8_blank_21 rfl (lv_at hl 0 rfl) ?_
    refine lv_iload_n hx hb dX8_blank_22 rfl (lv_at hl 1 rfl) ?_
    refine lv_iconst (v := iI 0) hx hb dX8_blank_23 rfl ?_
    have qc := hC p0 (by omega) (by omega)
    refine z_ai0 (va_runV (As := [.int (iI p0), .int (iI 0)]) (rest := []) ⟨hx, hb, hml, hown, hts⟩ (c_X8_of l D k a0 (upA S0 0 (upZ (upZ (S0 0) 8 0) 7 0))  p0 0 (by omega) (by omega) _) (cwV 2 hts gX8_blank_X8_of rfl rfl rfl (by decide +kernel) ⟨(Nat.le_of_ble_eq_true rfl), (Nat.le_of_ble_eq_true rfl)⟩) (z_preV hK hG hA hP hD hS [0, 1, 2, 3, 4, 5, 6, 7] rfl (by decide) 10 rfl rfl) rfl rfl hl.1 rfl (lv_room (Nat.le_of_ble_eq_true rfl)) dX8_blank_24 ⟨(Nat.le_of_ble_eq_true rfl), (Nat.le_of_ble_eq_true rfl)⟩) hA hP hD hS [0, 1, 2, 3, 4, 5, 6, 7] rfl (fun H locs hP hS => ?_)
    refine z_eqi (z2 := S0 1 (((15 + (26 * p0)) + 0).toNat)) rfl ?_
    have f_4 := hB (((15 + (26 * p0)) + 0).toNat)
    refine lv_iconst (v := iI 5) hx hb dX8_blank_27 rfl ?_
    refine zi_icmp_ne (tgt := 39) hx hb dX8_blank_28 (by decide) ⟨by omega, by omega⟩ ⟨by omega, by omega⟩ (fun c_5 => ?_) (fun c_5 => ?_)
    · refine lv_aload_n hx hb dX8_blank_39 rfl (lv_at hl 0 rfl) ?_
      refine lv_aload_n hx hb dX8_blank_40 rfl (lv_at hl 0 rfl) ?_
      refine va_get (D := D) (ci := 10) (v := .ref (a0 1)) (C := RX8) (T := TX8) (N := 19) hx hb hts (fun w h => List.mem_cons_of_mem _ (List.mem_append_left _ (List.mem_append_right _ h))) hown hK hP 0 rfl rfl 0 (by decide) (hts (.fieldLink RX8 7 "MondayFactoryModel" "g" "[I") (List.mem_of_getElem? (i := 1) rfl)) (fun _ h9 => h9) rfl dX8_blank_41 ?_
      refine z_av (va_runV (As := [.ref (a0 1)]) (rest := []) ⟨hx, hb, hml, hown, hts⟩ (c_X8_keeps l D k a0 (upA S0 0 (upZ (upZ (S0 0) 8 0) 7 0)) 0  (by omega) (by have e0 : ((upA S0 0 (upZ (upZ (S0 0) 8 0) 7 0)) 0 5) = S0 0 5 := (show (upZ (upZ (S0 0) 8 0) 7 0) 5 = S0 0 5 from (Eq.trans (upZ_n (by omega)) (Eq.trans (upZ_n (by omega)) rfl))); omega) (by have e0 : ((upA S0 0 (upZ (upZ (S0 0) 8 0) 7 0)) 0 6) = S0 0 6 := (show (upZ (upZ (S0 0) 8 0) 7 0) 6 = S0 0 6 from (Eq.trans (upZ_n (by omega)) (Eq.trans (upZ_n (by omega)) rfl))); omega) _) (cwV 1 hts gX8_blank_X8_keeps rfl rfl rfl (by decide +kernel) ⟨(Nat.le_of_ble_eq_true rfl), (Nat.le_of_ble_eq_true rfl)⟩) (z_preV hK hG hA hP hD hS [0, 1, 2, 3, 4, 5, 6, 7] rfl (by decide) 10 rfl rfl) rfl rfl hl.1 rfl (lv_room (Nat.le_of_ble_eq_true rfl)) dX8_blank_44 ⟨(Nat.le_of_ble_eq_true rfl), (Nat.le_of_ble_eq_true rfl)⟩) hA hP hD hS [0, 1, 2, 3, 4, 5, 6, 7] rfl rfl (fun H locs hP hD hS => ?_)
      have hP : va_P D vwCl (wRef k a0 (upA (upA (upA S0 0 (upZ (upZ (S0 0) 8 0) 7 0)) 0 (sS0_0_X8_keeps (upA S0 0 (upZ (upZ (S0 0) 8 0) 7 0)) 0)) 2 (sS0_2_X8_keeps (upA S0 0 (upZ (upZ (S0 0) 8 0) 7 0)) 0))) H := hP
      have hD : va_D A (wRef k a0 (upA (upA (upA S0 0 (upZ (upZ (S0 0) 8 0) 7 0)) 0 (sS0_0_X8_keeps (upA S0 0 (upZ (upZ (S0 0) 8 0) 7 0)) 0)) 2 (sS0_2_X8_keeps (upA S0 0 (upZ (upZ (S0 0) 8 0) 7 0)) 0))) := hD
      refine lv_aload_n hx hb dX8_blank_47 rfl (lv_at hl 0 rfl) ?_
      refine lv_iload_n hx hb dX8_blank_48 rfl (lv_at hl 1 rfl) ?_
      refine lv_iconst (v := iI 1) hx hb dX8_blank_49 rfl ?_
      refine lv_iconst (v := iI (-1)) hx hb dX8_blank_50 rfl ?_
      refine lv_iconst (v := iI (-1)) hx hb dX8_blank_51 rfl ?_
      refine lv_iconst (v := iI (-1)) hx hb dX8_blank_52 rfl ?_
      refine z_ai (va_runV (As := [.int (iI p0), .int (iI 1), .int (iI (-1)), .int (iI (-1)), .int (iI (-1))]) (rest := []) ⟨hx, hb, hml, hown, hts⟩ (c_X8_puts l D k a0 (upA (upA (upA S0 0 (upZ (upZ (S0 0) 8 0) 7 0)) 0 (sS0_0_X8_keeps (upA S0 0 (upZ (upZ (S0 0) 8 0) 7 0)) 0)) 2 (sS0_2_X8_keeps (upA S0 0 (upZ (upZ (S0 0) 8 0) 7 0)) 0))  p0 1 (-1) (-1) (-1) (by omega) (by have e0 : ((upA (upA (upA S0 0 (upZ (upZ (S0 0) 8 0) 7 0)) 0 (sS0_0_X8_keeps (upA S0 0 (upZ (upZ (S0 0) 8 0) 7 0)) 0)) 2 (sS0_2_X8_keeps (upA S0 0 (upZ (upZ (S0 0) 8 0) 7 0)) 0)) 1 (15 + 26 * p0 + 0).toNat) = S0 1 ((15 + 26 * p0 + 0).toNat) := rfl; omega) _) (cwV 5 hts gX8_blank_X8_puts rfl rfl rfl (by decide +kernel) ⟨(Nat.le_of_ble_eq_true rfl), (Nat.le_of_ble_eq_true rfl)⟩) (z_preV hK hG hA hP hD hS [0, 1, 2, 3, 4, 5, 6, 7] rfl (by decide) 10 rfl rfl) rfl rfl hl.1 rfl (lv_room (Nat.le_of_ble_eq_true rfl)) dX8_blank_53 ⟨(Nat.le_of_ble_eq_true rfl), (Nat.le_of_ble_eq_true rfl)⟩) hA hP hD hS [0, 1, 2, 3, 4, 5, 6, 7] rfl rfl (fun H locs hP hD hS => ?_)
      have hP : va_P D vwCl (wRef k a0 (upA (upA (upA (upA S0 0 (upZ (upZ (S0 0) 8 0) 7 0)) 0 (sS0_0_X8_keeps (upA S0 0 (upZ (upZ (S0 0) 8 0) 7 0)) 0)) 2 (sS0_2_X8_keeps (upA S0 0 (upZ (upZ (S0 0) 8 0) 7 0)) 0)) 1 (rPuts (S0 1) p0 1 (-1) (-1) (-1)))) H := hP
      have hD : va_D A (wRef k a0 (upA (upA (upA (upA S0 0 (upZ (upZ (S0 0) 8 0) 7 0)) 0 (sS0_0_X8_keeps (upA S0 0 (upZ (upZ (S0 0) 8 0) 7 0)) 0)) 2 (sS0_2_X8_keeps (upA S0 0 (upZ (upZ (S0 0) 8 0) 7 0)) 0)) 1 (rPuts (S0 1) p0 1 (-1) (-1) (-1)))) := hD
      refine z_eqi (z2 := sp_X8_puts (upA (upA (upA S0 0 (upZ (upZ (S0 0) 8 0) 7 0)) 0 (sS0_0_X8_keeps (upA S0 0 (upZ (upZ (S0 0) 8 0) 7 0)) 0)) 2 (sS0_2_X8_keeps (upA S0 0 (upZ (upZ (S0 0) 8 0) 7 0)) 0)) p0 1 (-1) (-1) (-1)) rfl ?_
      exact z_iret hx hb hr hlocks hP hS dX8_blank_56 (Eq.trans (zif_pos c_1) (Eq.trans (zif_neg c_5) rfl)) (Eq.trans (Eq.trans (congrArg (fun z => wRef k a0 (upA (upA (upA S0 0 z) 1 (sS0_1_X8_blank S0 p0)) 2 (sS0_2_X8_blank S0 p0))) (show sS0_0_X8_blank S0 p0 = sS0_0_X8_keeps (upA S0 0 (upZ (upZ (S0 0) 8 0) 7 0)) 0 from (Eq.trans (zif_pos c_1) (Eq.trans (zif_neg c_5) rfl)))) (congrArg (fun z => wRef k a0 (upA (upA (upA S0 0 (sS0_0_X8_keeps (upA S0 0 (upZ (upZ (S0 0) 8 0) 7 0)) 0)) 1 z) 2 (sS0_2_X8_blank S0 p0))) (show sS0_1_X8_blank S0 p0 = rPuts (S0 1) p0 1 (-1) (-1) (-1) from (Eq.trans (zif_pos c_1) (Eq.trans (zif_neg c_5) rfl))))) (congrArg (fun z => wRef k a0 (upA (upA (upA S0 0 (sS0_0_X8_keeps (upA S0 0 (upZ (upZ (S0 0) 8 0) 7 0)) 0)) 1 (rPuts (S0 1) p0 1 (-1) (-1) (-1))) 2 z)) (show sS0_2_X8_blank S0 p0 = sS0_2_X8_keeps (upA S0 0 (upZ (upZ (S0 0) 8 0) 7 0)) 0 from (Eq.trans (zif_pos c_1) (Eq.trans (zif_neg c_5) rfl))))) (Nat.le_refl _) (Nat.le_refl _)
    · refine lv_aload_n hx hb dX8_blank_31 rfl (lv_at hl 0 rfl) ?_
      refine lv_iconst (v := iI 2) hx hb dX8_blank_32 rfl ?_
      refine lv_iconst (v := iI 1) hx hb dX8_blank_33 rfl ?_
      refine lv_iconst (v := iI 5) hx hb dX8_blank_34 rfl ?_
      refine z_ai (va_runV (As := [.int (iI 2), .int (iI 1), .int (iI 5)]) (rest := []) ⟨hx, hb, hml, hown, hts⟩ (c_X8_refuses l D k a0 (upA S0 0 (upZ (upZ (S0 0) 8 0) 7 0))  2 1 5  _) (cwV 3 hts gX8_blank_X8_refuses rfl rfl rfl (by decide +kernel) ⟨(Nat.le_of_ble_eq_true rfl), (Nat.le_of_ble_eq_true rfl)⟩) (z_preV hK hG hA hP hD hS [0, 1, 2, 3, 4, 5, 6, 7] rfl (by decide) 10 rfl rfl) rfl rfl hl.1 rfl (lv_room (Nat.le_of_ble_eq_true rfl)) dX8_blank_35 ⟨(Nat.le_of_ble_eq_true rfl), (Nat.le_of_ble_eq_true rfl)⟩) hA hP hD hS [0, 1, 2, 3, 4, 5, 6, 7] rfl rfl (fun H locs hP hD hS => ?_)
      have hP : va_P D vwCl (wRef k a0 (up2 (up2 (up2 (up2 (upA S0 0 (upZ (upZ (S0 0) 8 0) 7 0)) 0 8 2) 0 7 1) 0 9 1) 0 10 5)) H := hP
      have hD : va_D A (wRef k a0 (up2 (up2 (up2 (up2 (upA S0 0 (upZ (upZ (S0 0) 8 0) 7 0)) 0 8 2) 0 7 1) 0 9 1) 0 10 5)) := hD
      refine z_eqi (z2 := 0) rfl ?_
      exact z_iret hx hb hr hlocks hP hS dX8_blank_38 (Eq.trans (zif_pos c_1) (Eq.trans (zif_pos c_5) rfl)) (Eq.trans (Eq.trans (congrArg (fun z => wRef k a0 (upA (upA (upA S0 0 z) 1 (sS0_1_X8_blank S0 p0)) 2 (sS0_2_X8_blank S0 p0))) (show sS0_0_X8_blank S0 p0 = upZ (upZ (upZ (upZ (upZ (upZ (S0 0) 8 0) 7 0) 8 2) 7 1) 9 1) 10 5 from (Eq.trans (zif_pos c_1) (Eq.trans (zif_pos c_5) rfl)))) (congrArg (fun z => wRef k a0 (upA (upA (upA S0 0 (upZ (upZ (upZ (upZ (upZ (upZ (S0 0) 8 0) 7 0) 8 2) 7 1) 9 1) 10 5)) 1 z) 2 (sS0_2_X8_blank S0 p0))) (show sS0_1_X8_blank S0 p0 = S0 1 from (Eq.trans (zif_pos c_1) (Eq.trans (zif_pos c_5) rfl))))) (congrArg (fun z => wRef k a0 (upA (upA (upA S0 0 (upZ (upZ (upZ (upZ (upZ (upZ (S0 0) 8 0) 7 0) 8 2) 7 1) 9 1) 10 5)) 1 (S0 1)) 2 z)) (show sS0_2_X8_blank S0 p0 = S0 2 from (Eq.trans (zif_pos c_1) (Eq.trans (zif_pos c_5) rfl))))) (Nat.le_refl _) (Nat.le_refl _)
noncomputable def sp_X8_tell (S0 : Nat → Nat → Int) (p0 : Int) (p1 : Int) (p2 : Int) : Int := zif (0 ≤ p0 ∧ p0 ≤ 2)
  (zif (0 ≤ p1 ∧ p1 ≤ 9)
    (zif (4 ≤ p2 ∧ p2 ≤ 9)
      (zif ((S0 1 (((15 + (26 * p0)) + 1).toNat)) = p1)
        (zif ((S0 1 (((15 + (26 * p0)) + 2).toNat)) = p2)
          (0)
          (S0 1 (((15 + (26 * p0)) + 1).toNat)))
        (S0 1 (((15 + (26 * p0)) + 1).toNat)))
      (0))
    (0))
  (0)
noncomputable def sS0_0_X8_tell (S0 : Nat → Nat → Int) (p0 : Int) (p1 : Int) (p2 : Int) : (Nat → Int) := zif (0 ≤ p0 ∧ p0 ≤ 2)
  (zif (0 ≤ p1 ∧ p1 ≤ 9)
    (zif (4 ≤ p2 ∧ p2 ≤ 9)
      (zif ((S0 1 (((15 + (26 * p0)) + 1).toNat)) = p1)
        (zif ((S0 1 (((15 + (26 * p0)) + 2).toNat)) = p2)
          (upZ (upZ (upZ (upZ (upZ (upZ (S0 0) 8 0) 7 0) 8 3) 7 1) 9 2) 10 p1)
          (sS0_0_X8_keeps (upA S0 0 (upZ (upZ (S0 0) 8 0) 7 0)) 0))
        (sS0_0_X8_keeps (upA S0 0 (upZ (upZ (S0 0) 8 0) 7 0)) 0))
      (upZ (upZ (S0 0) 8 2) 7 0))
    (upZ (upZ (S0 0) 8 2) 7 0))
  (upZ (upZ (S0 0) 8 1) 7 0)
noncomputable def sS0_1_X8_tell (S0 : Nat → Nat → Int) (p0 : Int) (p1 : Int) (p2 : Int) : (Nat → Int) := zif (0 ≤ p0 ∧ p0 ≤ 2)
  (zif (0 ≤ p1 ∧ p1 ≤ 9)
    (zif (4 ≤ p2 ∧ p2 ≤ 9)
      (zif ((S0 1 (((15 + (26 * p0)) + 1).toNat)) = p1)
        (zif ((S0 1 (((15 + (26 * p0)) + 2).toNat)) = p2)
          (S0 1)
          (upZ (upZ (S0 1) (((15 + (26 * p0)) + 1).toNat) p1) (((15 + (26 * p0)) + 2).toNat) p2))
        (upZ (upZ (S0 1) (((15 + (26 * p0)) + 1).toNat) p1) (((15 + (26 * p0)) + 2).toNat) p2))
      (S0 1))
    (S0 1))
  (S0 1)
noncomputable def sS0_2_X8_tell (S0 : Nat → Nat → Int) (p0 : Int) (p1 : Int) (p2 : Int) : (Nat → Int) := zif (0 ≤ p0 ∧ p0 ≤ 2)
  (zif (0 ≤ p1 ∧ p1 ≤ 9)
    (zif (4 ≤ p2 ∧ p2 ≤ 9)
      (zif ((S0 1 (((15 + (26 * p0)) + 1).toNat)) = p1)
        (zif ((S0 1 (((15 + (26 * p0)) + 2).toNat)) = p2)
          (S0 2)
          (sS0_2_X8_keeps (upA S0 0 (upZ (upZ (S0 0) 8 0) 7 0)) 0))
        (sS0_2_X8_keeps (upA S0 0 (upZ (upZ (S0 0) 8 0) 7 0)) 0))
      (S0 2))
    (S0 2))
  (S0 2)
set_option maxHeartbeats 4000000 in
set_option maxRecDepth 100000 in
theorem c_X8_tell (l : Launch) (D : va_G) (k : Nat → ClassId) (a0 : Nat → Nat) (S0 : Nat → Nat → Int) (p0 : Int) (p1 : Int) (p2 : Int) (hB : zBf (S0 1)) (hB0 : zBf (S0 0)) (hC : ∀ b : Int, 0 ≤ b → b ≤ 2 → 0 ≤ S0 1 (15 + 26 * b + 0).toNat ∧ S0 1 (15 + 26 * b + 0).toNat ≤ 5) (hI : 0 ≤ S0 1 9 ∧ S0 1 9 ≤ 4) (hF : 0 ≤ S0 1 10 ∧ S0 1 10 ≤ 8) (hch : 0 ≤ S0 0 5 ∧ S0 0 5 ≤ 8) (hw : S0 0 6 = 0 ∨ S0 0 6 = 1) (h0 : -2147483648 ≤ p0 ∧ p0 < 2147483648) (h1 : -2147483648 ≤ p1 ∧ p1 < 2147483648) (h2 : -2147483648 ≤ p2 ∧ p2 < 2147483648) : zMi l yX8_tell wsX8_tell ({ frames := 2, cells := 0, slots := 0, locals := 46 } : Room) D k [.ref (a0 0), .int (iI p0), .int (iI p1), .int (iI p2)] (wRef k a0 S0) (sp_X8_tell S0 p0 p1 p2) (wRef k a0 (upA (upA (upA S0 0 (sS0_0_X8_tell S0 p0 p1 p2)) 1 (sS0_1_X8_tell S0 p0 p1 p2)) 2 (sS0_2_X8_tell S0 p0 p1 p2))) 0 0 := by
  refine zMi_of (cc := cX8_tell) (maxL := 5) (ret := (some .int)) (by decide) rfl (Nat.le_of_ble_eq_true rfl) ?_
  intro p e s m args below meth c A ls hx hb hr hml hown hts hlocks hK hP hD hG hA hS hl
  have hown : s.vm.findClass RX8 = some m.cls := hown
  have hl : lv_has ls 5 [(0, .ref (a0 0)), (1, .int (iI p0)), (2, .int (iI p1)), (3, .int (iI p2))] := hl
  obtain ⟨H, hH⟩ : ∃ z, z = s.heap := ⟨_, rfl⟩
  obtain ⟨locs, hlc⟩ : ∃ z : List Loc, z = [] := ⟨_, rfl⟩
  rw [← hH] at hP
  have hS : va_S A s.heap H locs := by rw [hH, hlc]; exact hS
  rw [← hlc, ← hH]
  clear hlc hH
  refine lv_aload_n hx hb dX8_tell_0 rfl (lv_at hl 0 rfl) ?_
  refine lv_iload_n hx hb dX8_tell_1 rfl (lv_at hl 1 rfl) ?_
  refine z_ai0 (va_runS (As := [.int (iI p0)]) (rest := [.ref (a0 0)]) ⟨hx, hb, hml, hown, hts⟩ (c_X8_isBelt l D k   p0 (by omega) _) (va_cwS 1 hts gX8_tell_X8_isBelt rfl rfl rfl (by decide +kernel) ⟨(Nat.le_of_ble_eq_true rfl), (Nat.le_of_ble_eq_true rfl)⟩) (z_preS hK hG hA hP hD hS [] rfl (by decide)) rfl rfl hl.1 rfl (lv_room (Nat.le_of_ble_eq_true rfl)) dX8_tell_2 ⟨(Nat.le_of_ble_eq_true rfl), (Nat.le_of_ble_eq_true rfl)⟩) hA hP hD hS [] rfl (fun H locs hP hS => ?_)
  refine zi_if_neB (tgt := 12) hx hb dX8_tell_5 (by decide) (fun c_1 => ?_) (fun c_1 => ?_)
  · refine lv_iload_n hx hb dX8_tell_12 rfl (lv_at hl 2 rfl) ?_
    refine lv_iconst (v := iI 0) hx hb dX8_tell_13 rfl ?_
    refine lv_bipush (v := iI 9) hx hb dX8_tell_14 (by decide) ?_
    refine z_ai0 (va_runS (As := [.int (iI p1), .int (iI 0), .int (iI 9)]) (rest := [.ref (a0 0)]) ⟨hx, hb, hml, hown, hts⟩ (c_X8_in l D k   p1 0 9 (by omega) (by omega) (by omega) _) (va_cwS 3 hts gX8_tell_X8_in rfl rfl rfl (by decide +kernel) ⟨(Nat.le_of_ble_eq_true rfl), (Nat.le_of_ble_eq_true rfl)⟩) (z_preS hK hG hA hP hD hS [] rfl (by decide)) rfl rfl hl.1 rfl (lv_room (Nat.le_of_ble_eq_true rfl)) dX8_tell_16 ⟨(Nat.le_of_ble_eq_true rfl), (Nat.le_of_ble_eq_true rfl)⟩) hA hP hD hS [] rfl (fun H locs hP hS => ?_)
    refine zi_if_eqB (tgt := 36) hx hb dX8_tell_19 (by decide) (fun c_2 => ?_) (fun c_2 => ?_)
    · refine lv_iconst (v := iI 2) hx hb dX8_tell_36 rfl ?_
      refine z_ai (va_runV (As := [.int (iI 2)]) (rest := []) ⟨hx, hb, hml, hown, hts⟩ (c_X8_fails l D k a0 S0  2 (by omega) _) (cwV 1 hts gX8_tell_X8_fails rfl rfl rfl (by decide +kernel) ⟨(Nat.le_of_ble_eq_true rfl), (Nat.le_of_ble_eq_true rfl)⟩) (z_preV hK hG hA hP hD hS [0, 1, 2, 3, 4, 5, 6, 7] rfl (by decide) 10 rfl rfl) rfl rfl hl.1 rfl (lv_room (Nat.le_of_ble_eq_true rfl)) dX8_tell_37 ⟨(Nat.le_of_ble_eq_true rfl), (Nat.le_of_ble_eq_true rfl)⟩) hA hP hD hS [0, 1, 2, 3, 4, 5, 6, 7] rfl rfl (fun H locs hP hD hS => ?_)
      have hP : va_P D vwCl (wRef k a0 (upA S0 0 (upZ (upZ (S0 0) 8 2) 7 0))) H := hP
      have hD : va_D A (wRef k a0 (upA S0 0 (upZ (upZ (S0 0) 8 2) 7 0))) := hD
      refine zi_if_eqB (tgt := 45) hx hb dX8_tell_40 (by decide) (fun c_3 => absurd c_3 (by decide)) (fun _ => ?_)
      refine lv_iconst (v := iI 0) hx hb dX8_tell_43 rfl ?_
      exact z_iret hx hb hr hlocks hP hS dX8_tell_44 (Eq.trans (zif_pos c_1) (Eq.trans (zif_neg c_2) rfl)) (Eq.trans (Eq.trans (congrArg (fun z => wRef k a0 (upA (upA (upA S0 0 z) 1 (sS0_1_X8_tell S0 p0 p1 p2)) 2 (sS0_2_X8_tell S0 p0 p1 p2))) (show sS0_0_X8_tell S0 p0 p1 p2 = upZ (upZ (S0 0) 8 2) 7 0 from (Eq.trans (zif_pos c_1) (Eq.trans (zif_neg c_2) rfl)))) (congrArg (fun z => wRef k a0 (upA (upA (upA S0 0 (upZ (upZ (S0 0) 8 2) 7 0)) 1 z) 2 (sS0_2_X8_tell S0 p0 p1 p2))) (show sS0_1_X8_tell S0 p0 p1 p2 = S0 1 from (Eq.trans (zif_pos c_1) (Eq.trans (zif_neg c_2) rfl))))) (congrArg (fun z => wRef k a0 (upA (upA (upA S0 0 (upZ (upZ (S0 0) 8 2) 7 0)) 1 (S0 1)) 2 z)) (show sS0_2_X8_tell S0 p0 p1 p2 = S0 2 from (Eq.trans (zif_pos c_1) (Eq.trans (zif_neg c_2) rfl))))) (Nat.le_refl _) (Nat.le_refl _)
    · refine lv_iload_n hx hb dX8_tell_22 rfl (lv_at hl 3 rfl) ?_
      refine lv_iconst (v := iI 4) hx hb dX8_tell_23 rfl ?_
      refine lv_bipush (v := iI 9) hx hb dX8_tell_24 (by decide) ?_
      refine z_ai0 (va_runS (As := [.int (iI p2), .int (iI 4), .int (iI 9)]) (rest := [.ref (a0 0)]) ⟨hx, hb, hml, hown, hts⟩ (c_X8_in l D k   p2 4 9 (by omega) (by omega) (by omega) _) (va_cwS 3 hts gX8_tell_X8_in rfl rfl rfl (by decide +kernel) ⟨(Nat.le_of_ble_eq_true rfl), (Nat.le_of_ble_eq_true rfl)⟩) (z_preS hK hG hA hP hD hS [] rfl (by decide)) rfl rfl hl.1 rfl (lv_room (Nat.le_of_ble_eq_true rfl)) dX8_tell_26 ⟨(Nat.le_of_ble_eq_true rfl), (Nat.le_of_ble_eq_true rfl)⟩) hA hP hD hS [] rfl (fun H locs hP hS => ?_)
      refine zi_if_eqB (tgt := 36) hx hb dX8_tell_29 (by decide) (fun c_4 => ?_) (fun c_4 => ?_)
      · refine lv_iconst (v := iI 2) hx hb dX8_tell_36 rfl ?_
        refine z_ai (va_runV (As := [.int (iI 2)]) (rest := []) ⟨hx, hb, hml, hown, hts⟩ (c_X8_fails l D k a0 S0  2 (by omega) _) (cwV 1 hts gX8_tell_X8_fails rfl rfl rfl (by decide +kernel) ⟨(Nat.le_of_ble_eq_true rfl), (Nat.le_of_ble_eq_true rfl)⟩) (z_preV hK hG hA hP hD hS [0, 1, 2, 3, 4, 5, 6, 7] rfl (by decide) 10 rfl rfl) rfl rfl hl.1 rfl (lv_room (Nat.le_of_ble_eq_true rfl)) dX8_tell_37 ⟨(Nat.le_of_ble_eq_true rfl), (Nat.le_of_ble_eq_true rfl)⟩) hA hP hD hS [0, 1, 2, 3, 4, 5, 6, 7] rfl rfl (fun H locs hP hD hS => ?_)
        have hP : va_P D vwCl (wRef k a0 (upA S0 0 (upZ (upZ (S0 0) 8 2) 7 0))) H := hP
        have hD : va_D A (wRef k a0 (upA S0 0 (upZ (upZ (S0 0) 8 2) 7 0))) := hD
        refine zi_if_eqB (tgt := 45) hx hb dX8_tell_40 (by decide) (fun c_5 => absurd c_5 (by decide)) (fun _ => ?_)
        refine lv_iconst (v := iI 0) hx hb dX8_tell_43 rfl ?_
        exact z_iret hx hb hr hlocks hP hS dX8_tell_44 (Eq.trans (zif_pos c_1) (Eq.trans (zif_pos c_2) (Eq.trans (zif_neg c_4) rfl))) (Eq.trans (Eq.trans (congrArg (fun z => wRef k a0 (upA (upA (upA S0 0 z) 1 (sS0_1_X8_tell S0 p0 p1 p2)) 2 (sS0_2_X8_tell S0 p0 p1 p2))) (show sS0_0_X8_tell S0 p0 p1 p2 = upZ (upZ (S0 0) 8 2) 7 0 from (Eq.trans (zif_pos c_1) (Eq.trans (zif_pos c_2) (Eq.trans (zif_neg c_4) rfl))))) (congrArg (fun z => wRef k a0 (upA (upA (upA S0 0 (upZ (upZ (S0 0) 8 2) 7 0)) 1 z) 2 (sS0_2_X8_tell S0 p0 p1 p2))) (show sS0_1_X8_tell S0 p0 p1 p2 = S0 1 from (Eq.trans (zif_pos c_1) (Eq.trans (zif_pos c_2) (Eq.trans (zif_neg c_4) rfl)))))) (congrArg (fun z => wRef k a0 (upA (upA (upA S0 0 (upZ (upZ (S0 0) 8 2) 7 0)) 1 (S0 1)) 2 z)) (show sS0_2_X8_tell S0 p0 p1 p2 = S0 2 from (Eq.trans (zif_pos c_1) (Eq.trans (zif_pos c_2) (Eq.trans (zif_neg c_4) rfl)))))) (Nat.le_refl _) (Nat.le_refl _)
      · refine lv_iconst (v := iI 0) hx hb dX8_tell_32 rfl ?_
        refine lv_goto (tgt := 37) hx hb dX8_tell_33 (by decide) ?_
        refine z_ai (va_runV (As := [.int (iI 0)]) (rest := []) ⟨hx, hb, hml, hown, hts⟩ (c_X8_fails l D k a0 S0  0 (by omega) _) (cwV 1 hts gX8_tell_X8_fails rfl rfl rfl (by decide +kernel) ⟨(Nat.le_of_ble_eq_true rfl), (Nat.le_of_ble_eq_true rfl)⟩) (z_preV hK hG hA hP hD hS [0, 1, 2, 3, 4, 5, 6, 7] rfl (by decide) 10 rfl rfl) rfl rfl hl.1 rfl (lv_room (Nat.le_of_ble_eq_true rfl)) dX8_tell_37 ⟨(Nat.le_of_ble_eq_true rfl), (Nat.le_of_ble_eq_true rfl)⟩) hA hP hD hS [0, 1, 2, 3, 4, 5, 6, 7] rfl rfl (fun H locs hP hD hS => ?_)
        have hP : va_P D vwCl (wRef k a0 (upA S0 0 (upZ (upZ (S0 0) 8 0) 7 0))) H := hP
        have hD : va_D A (wRef k a0 (upA S0 0 (upZ (upZ (S0 0) 8 0) 7 0))) := hD
        refine zi_if_eqB (tgt := 45) hx hb dX8_tell_40 (by decide) (fun _ => ?_) (fun c_6 => absurd c_6 (by decide))
        refine lv_aload_n hx hb dX8_tell_45 rfl (lv_at hl 0 rfl) ?_
        refine lv_iload_n hx hb dX8_tell_46 rfl (lv_at hl 1 rfl) ?_
        refine lv_iconst (v := iI 1) hx hb dX8_tell_47 rfl ?_
        refine z_ai0 (va_runV (As := [.int (iI p0), .int (iI 1)]) (rest := []) ⟨hx, hb, hml, hown, hts⟩ (c_X8_of l D k a0 (upA S0 0 (upZ (upZ (S0 0) 8 0) 7 0))  p0 1 (by omega) (by omega) _) (cwV 2 hts gX8_tell_X8_of rfl rfl rfl (by decide +kernel) ⟨(Nat.le_of_ble_eq_true rfl), (Nat.le_of_ble_eq_true rfl)⟩) (z_preV hK hG hA hP hD hS [0, 1, 2, 3, 4, 5, 6, 7] rfl (by decide) 10 rfl rfl) rfl rfl hl.1 rfl (lv_room (Nat.le_of_ble_eq_true rfl)) dX8_tell_48 ⟨(Nat.le_of_ble_eq_true rfl), (Nat.le_of_ble_eq_true rfl)⟩) hA hP hD hS [0, 1, 2, 3, 4, 5, 6, 7] rfl (fun H locs hP hS => ?_)
        refine z_eqi (z2 := S0 1 (((15 + (26 * p0)) + 1).toNat)) rfl ?_
        have f_7 := hB (((15 + (26 * p0)) + 1).toNat)
        refine lv_istore (lv' := [(4, .int (iI (S0 1 (((15 + (26 * p0)) + 1).toNat)))), (0, .ref (a0 0)), (1, .int (iI p0)), (2, .int (iI p1)), (3, .int (iI p2))]) hx hb dX8_tell_51 hl (by decide) rfl (fun ls hl => ?_)
        refine lv_iload hx hb dX8_tell_53 (lv_at hl 0 rfl) ?_
        refine lv_iload_n hx hb dX8_tell_55 rfl (lv_at hl 3 rfl) ?_
        refine zi_icmp_ne (tgt := 77) hx hb dX8_tell_56 (by decide) ⟨by omega, by omega⟩ ⟨by omega, by omega⟩ (fun c_8 => ?_) (fun c_8 => ?_)
        · refine lv_aload_n hx hb dX8_tell_77 rfl (lv_at hl 1 rfl) ?_
          refine lv_aload_n hx hb dX8_tell_78 rfl (lv_at hl 1 rfl) ?_
          refine va_get (D := D) (ci := 10) (v := .ref (a0 1)) (C := RX8) (T := TX8) (N := 19) hx hb hts (fun w h => List.mem_cons_of_mem _ (List.mem_append_left _ (List.mem_append_right _ h))) hown hK hP 0 rfl rfl 0 (by decide) (hts (.fieldLink RX8 7 "MondayFactoryModel" "g" "[I") (List.mem_of_getElem? (i := 1) rfl)) (fun _ h9 => h9) rfl dX8_tell_79 ?_
          refine z_av (va_runV (As := [.ref (a0 1)]) (rest := []) ⟨hx, hb, hml, hown, hts⟩ (c_X8_keeps l D k a0 (upA S0 0 (upZ (upZ (S0 0) 8 0) 7 0)) 0  (by omega) (by have e0 : ((upA S0 0 (upZ (upZ (S0 0) 8 0) 7 0)) 0 5) = S0 0 5 := (show (upZ (upZ (S0 0) 8 0) 7 0) 5 = S0 0 5 from (Eq.trans (upZ_n (by omega)) (Eq.trans (upZ_n (by omega)) rfl))); omega) (by have e0 : ((upA S0 0 (upZ (upZ (S0 0) 8 0) 7 0)) 0 6) = S0 0 6 := (show (upZ (upZ (S0 0) 8 0) 7 0) 6 = S0 0 6 from (Eq.trans (upZ_n (by omega)) (Eq.trans (upZ_n (by omega)) rfl))); omega) _) (cwV 1 hts gX8_tell_X8_keeps rfl rfl rfl (by decide +kernel) ⟨(Nat.le_of_ble_eq_true rfl), (Nat.le_of_ble_eq_true rfl)⟩) (z_preV hK hG hA hP hD hS [0, 1, 2, 3, 4, 5, 6, 7] rfl (by decide) 10 rfl rfl) rfl rfl hl.1 rfl (lv_room (Nat.le_of_ble_eq_true rfl)) dX8_tell_82 ⟨(Nat.le_of_ble_eq_true rfl), (Nat.le_of_ble_eq_true rfl)⟩) hA hP hD hS [0, 1, 2, 3, 4, 5, 6, 7] rfl rfl (fun H locs hP hD hS => ?_)
          have hP : va_P D vwCl (wRef k a0 (upA (upA (upA S0 0 (upZ (upZ (S0 0) 8 0) 7 0)) 0 (sS0_0_X8_keeps (upA S0 0 (upZ (upZ (S0 0) 8 0) 7 0)) 0)) 2 (sS0_2_X8_keeps (upA S0 0 (upZ (upZ (S0 0) 8 0) 7 0)) 0))) H := hP
          have hD : va_D A (wRef k a0 (upA (upA (upA S0 0 (upZ (upZ (S0 0) 8 0) 7 0)) 0 (sS0_0_X8_keeps (upA S0 0 (upZ (upZ (S0 0) 8 0) 7 0)) 0)) 2 (sS0_2_X8_keeps (upA S0 0 (upZ (upZ (S0 0) 8 0) 7 0)) 0))) := hD
          refine lv_aload_n hx hb dX8_tell_85 rfl (lv_at hl 1 rfl) ?_
          refine lv_iload_n hx hb dX8_tell_86 rfl (lv_at hl 2 rfl) ?_
          refine lv_iconst (v := iI 1) hx hb dX8_tell_87 rfl ?_
          refine lv_iload_n hx hb dX8_tell_88 rfl (lv_at hl 3 rfl) ?_
          refine z_av (va_runV (As := [.int (iI p0), .int (iI 1), .int (iI p1)]) (rest := []) ⟨hx, hb, hml, hown, hts⟩ (c_X8_lays l D k a0 (upA (upA (upA S0 0 (upZ (upZ (S0 0) 8 0) 7 0)) 0 (sS0_0_X8_keeps (upA S0 0 (upZ (upZ (S0 0) 8 0) 7 0)) 0)) 2 (sS0_2_X8_keeps (upA S0 0 (upZ (upZ (S0 0) 8 0) 7 0)) 0))  p0 1 p1 (by omega) (by omega) _) (cwV 3 hts gX8_tell_X8_lays rfl rfl rfl (by decide +kernel) ⟨(Nat.le_of_ble_eq_true rfl), (Nat.le_of_ble_eq_true rfl)⟩) (z_preV hK hG hA hP hD hS [0, 1, 2, 3, 4, 5, 6, 7] rfl (by decide) 10 rfl rfl) rfl rfl hl.1 rfl (lv_room (Nat.le_of_ble_eq_true rfl)) dX8_tell_89 ⟨(Nat.le_of_ble_eq_true rfl), (Nat.le_of_ble_eq_true rfl)⟩) hA hP hD hS [0, 1, 2, 3, 4, 5, 6, 7] rfl rfl (fun H locs hP hD hS => ?_)
          have hP : va_P D vwCl (wRef k a0 (up2 (upA (upA (upA S0 0 (upZ (upZ (S0 0) 8 0) 7 0)) 0 (sS0_0_X8_keeps (upA S0 0 (upZ (upZ (S0 0) 8 0) 7 0)) 0)) 2 (sS0_2_X8_keeps (upA S0 0 (upZ (upZ (S0 0) 8 0) 7 0)) 0)) 1 (((15 + (26 * p0)) + 1).toNat) p1)) H := hP
          have hD : va_D A (wRef k a0 (up2 (upA (upA (upA S0 0 (upZ (upZ (S0 0) 8 0) 7 0)) 0 (sS0_0_X8_keeps (upA S0 0 (upZ (upZ (S0 0) 8 0) 7 0)) 0)) 2 (sS0_2_X8_keeps (upA S0 0 (upZ (upZ (S0 0) 8 0) 7 0)) 0)) 1 (((15 + (26 * p0)) + 1).toNat) p1)) := hD
          refine lv_aload_n hx hb dX8_tell_92 rfl (lv_at hl 1 rfl) ?_
          refine lv_iload_n hx hb dX8_tell_93 rfl (lv_at hl 2 rfl) ?_
          refine lv_iconst (v := iI 2) hx hb dX8_tell_94 rfl ?_
          refine lv_iload_n hx hb dX8_tell_95 rfl (lv_at hl 4 rfl) ?_
          refine z_av (va_runV (As := [.int (iI p0), .int (iI 2), .int (iI p2)]) (rest := []) ⟨hx, hb, hml, hown, hts⟩ (c_X8_lays l D k a0 (up2 (upA (upA (upA S0 0 (upZ (upZ (S0 0) 8 0) 7 0)) 0 (sS0_0_X8_keeps (upA S0 0 (upZ (upZ (S0 0) 8 0) 7 0)) 0)) 2 (sS0_2_X8_keeps (upA S0 0 (upZ (upZ (S0 0) 8 0) 7 0)) 0)) 1 (((15 + (26 * p0)) + 1).toNat) p1)  p0 2 p2 (by omega) (by omega) _) (cwV 3 hts gX8_tell_X8_lays rfl rfl rfl (by decide +kernel) ⟨(Nat.le_of_ble_eq_true rfl), (Nat.le_of_ble_eq_true rfl)⟩) (z_preV hK hG hA hP hD hS [0, 1, 2, 3, 4, 5, 6, 7] rfl (by decide) 10 rfl rfl) rfl rfl hl.1 rfl (lv_room (Nat.le_of_ble_eq_true rfl)) dX8_tell_96 ⟨(Nat.le_of_ble_eq_true rfl), (Nat.le_of_ble_eq_true rfl)⟩) hA hP hD hS [0, 1, 2, 3, 4, 5, 6, 7] rfl rfl (fun H locs hP hD hS => ?_)
          have hP : va_P D vwCl (wRef k a0 (up2 (up2 (upA (upA (upA S0 0 (upZ (upZ (S0 0) 8 0) 7 0)) 0 (sS0_0_X8_keeps (upA S0 0 (upZ (upZ (S0 0) 8 0) 7 0)) 0)) 2 (sS0_2_X8_keeps (upA S0 0 (upZ (upZ (S0 0) 8 0) 7 0)) 0)) 1 (((15 + (26 * p0)) + 1).toNat) p1) 1 (((15 + (26 * p0)) + 2).toNat) p2)) H := hP
          have hD : va_D A (wRef k a0 (up2 (up2 (upA (upA (upA S0 0 (upZ (upZ (S0 0) 8 0) 7 0)) 0 (sS0_0_X8_keeps (upA S0 0 (upZ (upZ (S0 0) 8 0) 7 0)) 0)) 2 (sS0_2_X8_keeps (upA S0 0 (upZ (upZ (S0 0) 8 0) 7 0)) 0)) 1 (((15 + (26 * p0)) + 1).toNat) p1) 1 (((15 + (26 * p0)) + 2).toNat) p2)) := hD
          refine lv_iload hx hb dX8_tell_99 (lv_at hl 0 rfl) ?_
          exact z_iret hx hb hr hlocks hP hS dX8_tell_101 (Eq.trans (zif_pos c_1) (Eq.trans (zif_pos c_2) (Eq.trans (zif_pos c_4) (Eq.trans (zif_neg c_8) rfl)))) (Eq.trans (Eq.trans (congrArg (fun z => wRef k a0 (upA (upA (upA S0 0 z) 1 (sS0_1_X8_tell S0 p0 p1 p2)) 2 (sS0_2_X8_tell S0 p0 p1 p2))) (show sS0_0_X8_tell S0 p0 p1 p2 = sS0_0_X8_keeps (upA S0 0 (upZ (upZ (S0 0) 8 0) 7 0)) 0 from (Eq.trans (zif_pos c_1) (Eq.trans (zif_pos c_2) (Eq.trans (zif_pos c_4) (Eq.trans (zif_neg c_8) rfl)))))) (congrArg (fun z => wRef k a0 (upA (upA (upA S0 0 (sS0_0_X8_keeps (upA S0 0 (upZ (upZ (S0 0) 8 0) 7 0)) 0)) 1 z) 2 (sS0_2_X8_tell S0 p0 p1 p2))) (show sS0_1_X8_tell S0 p0 p1 p2 = upZ (upZ (S0 1) (((15 + (26 * p0)) + 1).toNat) p1) (((15 + (26 * p0)) + 2).toNat) p2 from (Eq.trans (zif_pos c_1) (Eq.trans (zif_pos c_2) (Eq.trans (zif_pos c_4) (Eq.trans (zif_neg c_8) rfl))))))) (congrArg (fun z => wRef k a0 (upA (upA (upA S0 0 (sS0_0_X8_keeps (upA S0 0 (upZ (upZ (S0 0) 8 0) 7 0)) 0)) 1 (upZ (upZ (S0 1) (((15 + (26 * p0)) + 1).toNat) p1) (((15 + (26 * p0)) + 2).toNat) p2)) 2 z)) (show sS0_2_X8_tell S0 p0 p1 p2 = sS0_2_X8_keeps (upA S0 0 (upZ (upZ (S0 0) 8 0) 7 0)) 0 from (Eq.trans (zif_pos c_1) (Eq.trans (zif_pos c_2) (Eq.trans (zif_pos c_4) (Eq.trans (zif_neg c_8) rfl))))))) (Nat.le_refl _) (Nat.le_refl _)
        · refine lv_aload_n hx hb dX8_tell_59 rfl (lv_at hl 1 rfl) ?_
          refine lv_iload_n hx hb dX8_tell_60 rfl (lv_at hl 2 rfl) ?_
          refine lv_iconst (v := iI 2) hx hb dX8_tell_61 rfl ?_
          refine z_ai0 (va_runV (As := [.int (iI p0), .int (iI 2)]) (rest := []) ⟨hx, hb, hml, hown, hts⟩ (c_X8_of l D k a0 (upA S0 0 (upZ (upZ (S0 0) 8 0) 7 0))  p0 2 (by omega) (by omega) _) (cwV 2 hts gX8_tell_X8_of rfl rfl rfl (by decide +kernel) ⟨(Nat.le_of_ble_eq_true rfl), (Nat.le_of_ble_eq_true rfl)⟩) (z_preV hK hG hA hP hD hS [0, 1, 2, 3, 4, 5, 6, 7] rfl (by decide) 10 rfl rfl) rfl rfl hl.1 rfl (lv_room (Nat.le_of_ble_eq_true rfl)) dX8_tell_62 ⟨(Nat.le_of_ble_eq_true rfl), (Nat.le_of_ble_eq_true rfl)⟩) hA hP hD hS [0, 1, 2, 3, 4, 5, 6, 7] rfl (fun H locs hP hS => ?_)
          refine z_eqi (z2 := S0 1 (((15 + (26 * p0)) + 2).toNat)) rfl ?_
          have f_9 := hB (((15 + (26 * p0)) + 2).toNat)
          refine lv_iload_n hx hb dX8_tell_65 rfl (lv_at hl 4 rfl) ?_
          refine zi_icmp_ne (tgt := 77) hx hb dX8_tell_66 (by decide) ⟨by omega, by omega⟩ ⟨by omega, by omega⟩ (fun c_10 => ?_) (fun c_10 => ?_)
          · refine lv_aload_n hx hb dX8_tell_77 rfl (lv_at hl 1 rfl) ?_
            refine lv_aload_n hx hb dX8_tell_78 rfl (lv_at hl 1 rfl) ?_
            refine va_get (D := D) (ci := 10) (v := .ref (a0 1)) (C := RX8) (T := TX8) (N := 19) hx hb hts (fun w h => List.mem_cons_of_mem _ (List.mem_append_left _ (List.mem_append_right _ h))) hown hK hP 0 rfl rfl 0 (by decide) (hts (.fieldLink RX8 7 "MondayFactoryModel" "g" "[I") (List.mem_of_getElem? (i := 1) rfl)) (fun _ h9 => h9) rfl dX8_tell_79 ?_
            refine z_av (va_runV (As := [.ref (a0 1)]) (rest := []) ⟨hx, hb, hml, hown, hts⟩ (c_X8_keeps l D k a0 (upA S0 0 (upZ (upZ (S0 0) 8 0) 7 0)) 0  (by omega) (by have e0 : ((upA S0 0 (upZ (upZ (S0 0) 8 0) 7 0)) 0 5) = S0 0 5 := (show (upZ (upZ (S0 0) 8 0) 7 0) 5 = S0 0 5 from (Eq.trans (upZ_n (by omega)) (Eq.trans (upZ_n (by omega)) rfl))); omega) (by have e0 : ((upA S0 0 (upZ (upZ (S0 0) 8 0) 7 0)) 0 6) = S0 0 6 := (show (upZ (upZ (S0 0) 8 0) 7 0) 6 = S0 0 6 from (Eq.trans (upZ_n (by omega)) (Eq.trans (upZ_n (by omega)) rfl))); omega) _) (cwV 1 hts gX8_tell_X8_keeps rfl rfl rfl (by decide +kernel) ⟨(Nat.le_of_ble_eq_true rfl), (Nat.le_of_ble_eq_true rfl)⟩) (z_preV hK hG hA hP hD hS [0, 1, 2, 3, 4, 5, 6, 7] rfl (by decide) 10 rfl rfl) rfl rfl hl.1 rfl (lv_room (Nat.le_of_ble_eq_true rfl)) dX8_tell_82 ⟨(Nat.le_of_ble_eq_true rfl), (Nat.le_of_ble_eq_true rfl)⟩) hA hP hD hS [0, 1, 2, 3, 4, 5, 6, 7] rfl rfl (fun H locs hP hD hS => ?_)
            have hP : va_P D vwCl (wRef k a0 (upA (upA (upA S0 0 (upZ (upZ (S0 0) 8 0) 7 0)) 0 (sS0_0_X8_keeps (upA S0 0 (upZ (upZ (S0 0) 8 0) 7 0)) 0)) 2 (sS0_2_X8_keeps (upA S0 0 (upZ (upZ (S0 0) 8 0) 7 0)) 0))) H := hP
            have hD : va_D A (wRef k a0 (upA (upA (upA S0 0 (upZ (upZ (S0 0) 8 0) 7 0)) 0 (sS0_0_X8_keeps (upA S0 0 (upZ (upZ (S0 0) 8 0) 7 0)) 0)) 2 (sS0_2_X8_keeps (upA S0 0 (upZ (upZ (S0 0) 8 0) 7 0)) 0))) := hD
            refine lv_aload_n hx hb dX8_tell_85 rfl (lv_at hl 1 rfl) ?_
            refine lv_iload_n hx hb dX8_tell_86 rfl (lv_at hl 2 rfl) ?_
            refine lv_iconst (v := iI 1) hx hb dX8_tell_87 rfl ?_
            refine lv_iload_n hx hb dX8_tell_88 rfl (lv_at hl 3 rfl) ?_
            refine z_av (va_runV (As := [.int (iI p0), .int (iI 1), .int (iI p1)]) (rest := []) ⟨hx, hb, hml, hown, hts⟩ (c_X8_lays l D k a0 (upA (upA (upA S0 0 (upZ (upZ (S0 0) 8 0) 7 0)) 0 (sS0_0_X8_keeps (upA S0 0 (upZ (upZ (S0 0) 8 0) 7 0)) 0)) 2 (sS0_2_X8_keeps (upA S0 0 (upZ (upZ (S0 0) 8 0) 7 0)) 0))  p0 1 p1 (by omega) (by omega) _) (cwV 3 hts gX8_tell_X8_lays rfl rfl rfl (by decide +kernel) ⟨(Nat.le_of_ble_eq_true rfl), (Nat.le_of_ble_eq_true rfl)⟩) (z_preV hK hG hA hP hD hS [0, 1, 2, 3, 4, 5, 6, 7] rfl (by decide) 10 rfl rfl) rfl rfl hl.1 rfl (lv_room (Nat.le_of_ble_eq_true rfl)) dX8_tell_89 ⟨(Nat.le_of_ble_eq_true rfl), (Nat.le_of_ble_eq_true rfl)⟩) hA hP hD hS [0, 1, 2, 3, 4, 5, 6, 7] rfl rfl (fun H locs hP hD hS => ?_)
            have hP : va_P D vwCl (wRef k a0 (up2 (upA (upA (upA S0 0 (upZ (upZ (S0 0) 8 0) 7 0)) 0 (sS0_0_X8_keeps (upA S0 0 (upZ (upZ (S0 0) 8 0) 7 0)) 0)) 2 (sS0_2_X8_keeps (upA S0 0 (upZ (upZ (S0 0) 8 0) 7 0)) 0)) 1 (((15 + (26 * p0)) + 1).toNat) p1)) H := hP
            have hD : va_D A (wRef k a0 (up2 (upA (upA (upA S0 0 (upZ (upZ (S0 0) 8 0) 7 0)) 0 (sS0_0_X8_keeps (upA S0 0 (upZ (upZ (S0 0) 8 0) 7 0)) 0)) 2 (sS0_2_X8_keeps (upA S0 0 (upZ (upZ (S0 0) 8 0) 7 0)) 0)) 1 (((15 + (26 * p0)) + 1).toNat) p1)) := hD
            refine lv_aload_n hx hb dX8_tell_92 rfl (lv_at hl 1 rfl) ?_
            refine lv_iload_n hx hb dX8_tell_93 rfl (lv_at hl 2 rfl) ?_
            refine lv_iconst (v := iI 2) hx hb dX8_tell_94 rfl ?_
            refine lv_iload_n hx hb dX8_tell_95 rfl (lv_at hl 4 rfl) ?_
            refine z_av (va_runV (As := [.int (iI p0), .int (iI 2), .int (iI p2)]) (rest := []) ⟨hx, hb, hml, hown, hts⟩ (c_X8_lays l D k a0 (up2 (upA (upA (upA S0 0 (upZ (upZ (S0 0) 8 0) 7 0)) 0 (sS0_0_X8_keeps (upA S0 0 (upZ (upZ (S0 0) 8 0) 7 0)) 0)) 2 (sS0_2_X8_keeps (upA S0 0 (upZ (upZ (S0 0) 8 0) 7 0)) 0)) 1 (((15 + (26 * p0)) + 1).toNat) p1)  p0 2 p2 (by omega) (by omega) _) (cwV 3 hts gX8_tell_X8_lays rfl rfl rfl (by decide +kernel) ⟨(Nat.le_of_ble_eq_true rfl), (Nat.le_of_ble_eq_true rfl)⟩) (z_preV hK hG hA hP hD hS [0, 1, 2, 3, 4, 5, 6, 7] rfl (by decide) 10 rfl rfl) rfl rfl hl.1 rfl (lv_room (Nat.le_of_ble_eq_true rfl)) dX8_tell_96 ⟨(Nat.le_of_ble_eq_true rfl), (Nat.le_of_ble_eq_true rfl)⟩) hA hP hD hS [0, 1, 2, 3, 4, 5, 6, 7] rfl rfl (fun H locs hP hD hS => ?_)
            have hP : va_P D vwCl (wRef k a0 (up2 (up2 (upA (upA (upA S0 0 (upZ (upZ (S0 0) 8 0) 7 0)) 0 (sS0_0_X8_keeps (upA S0 0 (upZ (upZ (S0 0) 8 0) 7 0)) 0)) 2 (sS0_2_X8_keeps (upA S0 0 (upZ (upZ (S0 0) 8 0) 7 0)) 0)) 1 (((15 + (26 * p0)) + 1).toNat) p1) 1 (((15 + (26 * p0)) + 2).toNat) p2)) H := hP
            have hD : va_D A (wRef k a0 (up2 (up2 (upA (upA (upA S0 0 (upZ (upZ (S0 0) 8 0) 7 0)) 0 (sS0_0_X8_keeps (upA S0 0 (upZ (upZ (S0 0) 8 0) 7 0)) 0)) 2 (sS0_2_X8_keeps (upA S0 0 (upZ (upZ (S0 0) 8 0) 7 0)) 0)) 1 (((15 + (26 * p0)) + 1).toNat) p1) 1 (((15 + (26 * p0)) + 2).toNat) p2)) := hD
            refine lv_iload hx hb dX8_tell_99 (lv_at hl 0 rfl) ?_
            exact z_iret hx hb hr hlocks hP hS dX8_tell_101 (Eq.trans (zif_pos c_1) (Eq.trans (zif_pos c_2) (Eq.trans (zif_pos c_4) (Eq.trans (zif_pos c_8) (Eq.trans (zif_neg c_10) rfl))))) (Eq.trans (Eq.trans (congrArg (fun z => wRef k a0 (upA (upA (upA S0 0 z) 1 (sS0_1_X8_tell S0 p0 p1 p2)) 2 (sS0_2_X8_tell S0 p0 p1 p2))) (show sS0_0_X8_tell S0 p0 p1 p2 = sS0_0_X8_keeps (upA S0 0 (upZ (upZ (S0 0) 8 0) 7 0)) 0 from (Eq.trans (zif_pos c_1) (Eq.trans (zif_pos c_2) (Eq.trans (zif_pos c_4) (Eq.trans (zif_pos c_8) (Eq.trans (zif_neg c_10) rfl))))))) (congrArg (fun z => wRef k a0 (upA (upA (upA S0 0 (sS0_0_X8_keeps (upA S0 0 (upZ (upZ (S0 0) 8 0) 7 0)) 0)) 1 z) 2 (sS0_2_X8_tell S0 p0 p1 p2))) (show sS0_1_X8_tell S0 p0 p1 p2 = upZ (upZ (S0 1) (((15 + (26 * p0)) + 1).toNat) p1) (((15 + (26 * p0)) + 2).toNat) p2 from (Eq.trans (zif_pos c_1) (Eq.trans (zif_pos c_2) (Eq.trans (zif_pos c_4) (Eq.trans (zif_pos c_8) (Eq.trans (zif_neg c_10) rfl)))))))) (congrArg (fun z => wRef k a0 (upA (upA (upA S0 0 (sS0_0_X8_keeps (upA S0 0 (upZ (upZ (S0 0) 8 0) 7 0)) 0)) 1 (upZ (upZ (S0 1) (((15 + (26 * p0)) + 1).toNat) p1) (((15 + (26 * p0)) + 2).toNat) p2)) 2 z)) (show sS0_2_X8_tell S0 p0 p1 p2 = sS0_2_X8_keeps (upA S0 0 (upZ (upZ (S0 0) 8 0) 7 0)) 0 from (Eq.trans (zif_pos c_1) (Eq.trans (zif_pos c_2) (Eq.trans (zif_pos c_4) (Eq.trans (zif_pos c_8) (Eq.trans (zif_neg c_10) rfl)))))))) (Nat.le_refl _) (Nat.le_refl _)
          · refine lv_aload_n hx hb dX8_tell_69 rfl (lv_at hl 1 rfl) ?_
            refine lv_iconst (v := iI 3) hx hb dX8_tell_70 rfl ?_
            refine lv_iconst (v := iI 2) hx hb dX8_tell_71 rfl ?_
            refine lv_iload_n hx hb dX8_tell_72 rfl (lv_at hl 3 rfl) ?_
            refine z_ai (va_runV (As := [.int (iI 3), .int (iI 2), .int (iI p1)]) (rest := []) ⟨hx, hb, hml, hown, hts⟩ (c_X8_refuses l D k a0 (upA S0 0 (upZ (upZ (S0 0) 8 0) 7 0))  3 2 p1  _) (cwV 3 hts gX8_tell_X8_refuses rfl rfl rfl (by decide +kernel) ⟨(Nat.le_of_ble_eq_true rfl), (Nat.le_of_ble_eq_true rfl)⟩) (z_preV hK hG hA hP hD hS [0, 1, 2, 3, 4, 5, 6, 7] rfl (by decide) 10 rfl rfl) rfl rfl hl.1 rfl (lv_room (Nat.le_of_ble_eq_true rfl)) dX8_tell_73 ⟨(Nat.le_of_ble_eq_true rfl), (Nat.le_of_ble_eq_true rfl)⟩) hA hP hD hS [0, 1, 2, 3, 4, 5, 6, 7] rfl rfl (fun H locs hP hD hS => ?_)
            have hP : va_P D vwCl (wRef k a0 (up2 (up2 (up2 (up2 (upA S0 0 (upZ (upZ (S0 0) 8 0) 7 0)) 0 8 3) 0 7 1) 0 9 2) 0 10 p1)) H := hP
            have hD : va_D A (wRef k a0 (up2 (up2 (up2 (up2 (upA S0 0 (upZ (upZ (S0 0) 8 0) 7 0)) 0 8 3) 0 7 1) 0 9 2) 0 10 p1)) := hD
            refine z_eqi (z2 := 0) rfl ?_
            exact z_iret hx hb hr hlocks hP hS dX8_tell_76 (Eq.trans (zif_pos c_1) (Eq.trans (zif_pos c_2) (Eq.trans (zif_pos c_4) (Eq.trans (zif_pos c_8) (Eq.trans (zif_pos c_10) rfl))))) (Eq.trans (Eq.trans (congrArg (fun z => wRef k a0 (upA (upA (upA S0 0 z) 1 (sS0_1_X8_tell S0 p0 p1 p2)) 2 (sS0_2_X8_tell S0 p0 p1 p2))) (show sS0_0_X8_tell S0 p0 p1 p2 = upZ (upZ (upZ (upZ (upZ (upZ (S0 0) 8 0) 7 0) 8 3) 7 1) 9 2) 10 p1 from (Eq.trans (zif_pos c_1) (Eq.trans (zif_pos c_2) (Eq.trans (zif_pos c_4) (Eq.trans (zif_pos c_8) (Eq.trans (zif_pos c_10) rfl))))))) (congrArg (fun z => wRef k a0 (upA (upA (upA S0 0 (upZ (upZ (upZ (upZ (upZ (upZ (S0 0) 8 0) 7 0) 8 3) 7 1) 9 2) 10 p1)) 1 z) 2 (sS0_2_X8_tell S0 p0 p1 p2))) (show sS0_1_X8_tell S0 p0 p1 p2 = S0 1 from (Eq.trans (zif_pos c_1) (Eq.trans (zif_pos c_2) (Eq.trans (zif_pos c_4) (Eq.trans (zif_pos c_8) (Eq.trans (zif_pos c_10) rfl)))))))) (congrArg (fun z => wRef k a0 (upA (upA (upA S0 0 (upZ (upZ (upZ (upZ (upZ (upZ (S0 0) 8 0) 7 0) 8 3) 7 1) 9 2) 10 p1)) 1 (S0 1)) 2 z)) (show sS0_2_X8_tell S0 p0 p1 p2 = S0 2 from (Eq.trans (zif_pos c_1) (Eq.trans (zif_pos c_2) (Eq.trans (zif_pos c_4) (Eq.trans (zif_pos c_8) (Eq.trans (zif_pos c_10) rfl)))))))) (Nat.le_refl _) (Nat.le_refl _)
  · refine lv_iconst (v := iI 1) hx hb dX8_tell_8 rfl ?_
    refine lv_goto (tgt := 37) hx hb dX8_tell_9 (by decide) ?_
    refine z_ai (va_runV (As := [.int (iI 1)]) (rest := []) ⟨hx, hb, hml, hown, hts⟩ (c_X8_fails l D k a0 S0  1 (by omega) _) (cwV 1 hts gX8_tell_X8_fails rfl rfl rfl (by decide +kernel) ⟨(Nat.le_of_ble_eq_true rfl), (Nat.le_of_ble_eq_true rfl)⟩) (z_preV hK hG hA hP hD hS [0, 1, 2, 3, 4, 5, 6, 7] rfl (by decide) 10 rfl rfl) rfl rfl hl.1 rfl (lv_room (Nat.le_of_ble_eq_true rfl)) dX8_tell_37 ⟨(Nat.le_of_ble_eq_true rfl), (Nat.le_of_ble_eq_true rfl)⟩) hA hP hD hS [0, 1, 2, 3, 4, 5, 6, 7] rfl rfl (fun H locs hP hD hS => ?_)
    have hP : va_P D vwCl (wRef k a0 (upA S0 0 (upZ (upZ (S0 0) 8 1) 7 0))) H := hP
    have hD : va_D A (wRef k a0 (upA S0 0 (upZ (upZ (S0 0) 8 1) 7 0))) := hD
    refine zi_if_eqB (tgt := 45) hx hb dX8_tell_40 (by decide) (fun c_11 => absurd c_11 (by decide)) (fun _ => ?_)
    refine lv_iconst (v := iI 0) hx hb dX8_tell_43 rfl ?_
    exact z_iret hx hb hr hlocks hP hS dX8_tell_44 (Eq.trans (zif_neg c_1) rfl) (Eq.trans (Eq.trans (congrArg (fun z => wRef k a0 (upA (upA (upA S0 0 z) 1 (sS0_1_X8_tell S0 p0 p1 p2)) 2 (sS0_2_X8_tell S0 p0 p1 p2))) (show sS0_0_X8_tell S0 p0 p1 p2 = upZ (upZ (S0 0) 8 1) 7 0 from (Eq.trans (zif_neg c_1) rfl))) (congrArg (fun z => wRef k a0 (upA (upA (upA S0 0 (upZ (upZ (S0 0) 8 1) 7 0)) 1 z) 2 (sS0_2_X8_tell S0 p0 p1 p2))) (show sS0_1_X8_tell S0 p0 p1 p2 = S0 1 from (Eq.trans (zif_neg c_1) rfl)))) (congrArg (fun z => wRef k a0 (upA (upA (upA S0 0 (upZ (upZ (S0 0) 8 1) 7 0)) 1 (S0 1)) 2 z)) (show sS0_2_X8_tell S0 p0 p1 p2 = S0 2 from (Eq.trans (zif_neg c_1) rfl)))) (Nat.le_refl _) (Nat.le_refl _)
