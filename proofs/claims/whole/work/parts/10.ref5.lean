theorem rOff_n {G : Nat → Int} {p0 : Int} {j : Nat} (h : 0 ≤ p0 ∧ p0 < G 10 ∧ G 10 ≤ 8) (hj : j ≠ 10) (hj2 : j < 93) : rOff G p0 j = G j := by
  unfold rOff
  rw [zer_out (by omega), shf_out (by omega), upZ_n hj]
/-- an inspector gone -/
def rLeave (G : Nat → Int) (p0 : Int) : Nat → Int := upZ (shf (upZ G 9 (G 9 - 1)) (11 + p0).toNat (11 + (G 9 - 1)).toNat 1) (11 + (G 9 - 1)).toNat 0
theorem leave_s {G : Nat → Int} {lo : Nat} {x : Int} (h : (lo : Int) ≤ 11 + x) (hx : 0 ≤ x) : upZ (shf G lo (11 + x).toNat 1) (11 + x).toNat (shf G lo (11 + x).toNat 1 (11 + x + 1).toNat) = shf G lo (11 + (x + 1)).toNat 1 := by
  rw [show (11 + x + 1).toNat = (11 + x).toNat + 1 by omega, show (11 + (x + 1)).toNat = (11 + x).toNat + 1 by omega]
  exact shf_step (by omega) (by omega) rfl
theorem tires_s {h : Int → Int} {G : Nat → Int} {x : Int} {v : Int} (hx : 0 ≤ x) (hv : v = h (mapZ h G 11 (11 + x).toNat (11 + x).toNat)) : upZ (mapZ h G 11 (11 + x).toNat) (11 + x).toNat v = mapZ h G 11 (11 + (x + 1)).toNat := by
  rw [show (11 + (x + 1)).toNat = (11 + x).toNat + 1 by omega]
  exact mapZ_step (by omega) hv
abbrev rRest : Int → Int := fun z => max 0 (min (z + (-2)) 9)
noncomputable def sp_X8_inspect (S0 : Nat → Nat → Int) (p0 : Int) : Int := zif (0 ≤ p0 ∧ p0 ≤ 2)
  (zif ((S0 1 (((15 + (26 * p0)) + 0).toNat)) = 0)
    (0)
    (zif ((S0 1 9) = 0)
      (0)
      (sp_X8_inspects (upA (upA (upA S0 0 (upZ (upZ (S0 0) 8 0) 7 0)) 0 (sS0_0_X8_keeps (upA S0 0 (upZ (upZ (S0 0) 8 0) 7 0)) 0)) 2 (sS0_2_X8_keeps (upA S0 0 (upZ (upZ (S0 0) 8 0) 7 0)) 0)) p0)))
  (0)
noncomputable def sS0_0_X8_inspect (S0 : Nat → Nat → Int) (p0 : Int) : (Nat → Int) := zif (0 ≤ p0 ∧ p0 ≤ 2)
  (zif ((S0 1 (((15 + (26 * p0)) + 0).toNat)) = 0)
    (upZ (upZ (upZ (upZ (upZ (upZ (S0 0) 8 0) 7 0) 8 2) 7 1) 9 3) 10 p0)
    (zif ((S0 1 9) = 0)
      (upZ (upZ (upZ (upZ (upZ (upZ (S0 0) 8 0) 7 0) 8 2) 7 1) 9 4) 10 ((S0 1 1)))
      (sS0_0_X8_keeps (upA S0 0 (upZ (upZ (S0 0) 8 0) 7 0)) 0)))
  (upZ (upZ (S0 0) 8 1) 7 0)
noncomputable def sS0_1_X8_inspect (S0 : Nat → Nat → Int) (p0 : Int) : (Nat → Int) := zif (0 ≤ p0 ∧ p0 ≤ 2)
  (zif ((S0 1 (((15 + (26 * p0)) + 0).toNat)) = 0)
    (S0 1)
    (zif ((S0 1 9) = 0)
      (S0 1)
      (sS0_1_X8_inspects (upA (upA (upA S0 0 (upZ (upZ (S0 0) 8 0) 7 0)) 0 (sS0_0_X8_keeps (upA S0 0 (upZ (upZ (S0 0) 8 0) 7 0)) 0)) 2 (sS0_2_X8_keeps (upA S0 0 (upZ (upZ (S0 0) 8 0) 7 0)) 0)) p0)))
  (S0 1)
noncomputable def sS0_2_X8_inspect (S0 : Nat → Nat → Int) (p0 : Int) : (Nat → Int) := zif (0 ≤ p0 ∧ p0 ≤ 2)
  (zif ((S0 1 (((15 + (26 * p0)) + 0).toNat)) = 0)
    (S0 2)
    (zif ((S0 1 9) = 0)
      (S0 2)
      (sS0_2_X8_keeps (upA S0 0 (upZ (upZ (S0 0) 8 0) 7 0)) 0)))
  (S0 2)
set_option maxHeartbeats 4000000 in
set_option maxRecDepth 100000 in
theorem c_X8_inspect (l : Launch) (D : va_G) (k : Nat → ClassId) (a0 : Nat → Nat) (S0 : Nat → Nat → Int) (p0 : Int) (hB : zBf (S0 1)) (hT : zBt (S0 1)) (hB0 : zBf (S0 0)) (hC : ∀ b : Int, 0 ≤ b → b ≤ 2 → 0 ≤ S0 1 (15 + 26 * b + 0).toNat ∧ S0 1 (15 + 26 * b + 0).toNat ≤ 5) (hI : 0 ≤ S0 1 9 ∧ S0 1 9 ≤ 4) (hF : 0 ≤ S0 1 10 ∧ S0 1 10 ≤ 8) (hch : 0 ≤ S0 0 5 ∧ S0 0 5 ≤ 8) (hw : S0 0 6 = 0 ∨ S0 0 6 = 1) (h0 : -2147483648 ≤ p0 ∧ p0 < 2147483648) : zMi l yX8_inspect wsX8_inspect ({ frames := 5, cells := 0, slots := 0, locals := 115 } : Room) D k [.ref (a0 0), .int (iI p0)] (wRef k a0 S0) (sp_X8_inspect S0 p0) (wRef k a0 (upA (upA (upA S0 0 (sS0_0_X8_inspect S0 p0)) 1 (sS0_1_X8_inspect S0 p0)) 2 (sS0_2_X8_inspect S0 p0))) 0 0 := by
  refine zMi_of (cc := cX8_inspect) (maxL := 2) (ret := (some .int)) (by decide) rfl (Nat.le_of_ble_eq_true rfl) ?_
  intro p e s m args below meth c A ls hx hb hr hml hown hts hlocks hK hP hD hG hA hS hl
  have hown : s.vm.findClass RX8 = some m.cls := hown
  have hl : lv_has ls 2 [(0, .ref (a0 0)), (1, .int (iI p0))] := hl
  obtain ⟨H, hH⟩ : ∃ z, z = s.heap := ⟨_, rfl⟩
  obtain ⟨locs, hlc⟩ : ∃ z : List Loc, z = [] := ⟨_, rfl⟩
  rw [← hH] at hP
  have hS : va_S A s.heap H locs := by rw [hH, hlc]; exact hS
  rw [← hlc, ← hH]
  clear hlc hH
  refine lv_aload_n hx hb dX8_inspect_0 rfl (lv_at hl 0 rfl) ?_
  refine lv_iload_n hx hb dX8_inspect_1 rfl (lv_at hl 1 rfl) ?_
  refine z_ai0 (va_runS (As := [.int (iI p0)]) (rest := [.ref (a0 0)]) ⟨hx, hb, hml, hown, hts⟩ (c_X8_isBelt l D k   p0 (by omega) _) (va_cwS 1 hts gX8_inspect_X8_isBelt rfl rfl rfl (by decide +kernel) ⟨(Nat.le_of_ble_eq_true rfl), (Nat.le_of_ble_eq_true rfl)⟩) (z_preS hK hG hA hP hD hS [] rfl (by decide)) rfl rfl hl.1 rfl (lv_room (Nat.le_of_ble_eq_true rfl)) dX8_inspect_2 ⟨(Nat.le_of_ble_eq_true rfl), (Nat.le_of_ble_eq_true rfl)⟩) hA hP hD hS [] rfl (fun H locs hP hS => ?_)
  refine zi_if_eqB (tgt := 12) hx hb dX8_inspect_5 (by decide) (fun c_1 => ?_) (fun c_1 => ?_)
  · refine lv_iconst (v := iI 1) hx hb dX8_inspect_12 rfl ?_
    refine z_ai (va_runV (As := [.int (iI 1)]) (rest := []) ⟨hx, hb, hml, hown, hts⟩ (c_X8_fails l D k a0 S0  1 (by omega) _) (cwV 1 hts gX8_inspect_X8_fails rfl rfl rfl (by decide +kernel) ⟨(Nat.le_of_ble_eq_true rfl), (Nat.le_of_ble_eq_true rfl)⟩) (z_preV hK hG hA hP hD hS [0, 1, 2, 3, 4, 5, 6, 7] rfl (by decide) 10 rfl rfl) rfl rfl hl.1 rfl (lv_room (Nat.le_of_ble_eq_true rfl)) dX8_inspect_13 ⟨(Nat.le_of_ble_eq_true rfl), (Nat.le_of_ble_eq_true rfl)⟩) hA hP hD hS [0, 1, 2, 3, 4, 5, 6, 7] rfl rfl (fun H locs hP hD hS => ?_)
    have hP : va_P D vwCl (wRef k a0 (upA S0 0 (upZ (upZ (S0 0) 8 1) 7 0))) H := hP
    have hD : va_D A (wRef k a0 (upA S0 0 (upZ (upZ (S0 0) 8 1) 7 0))) := hD
    refine zi_if_eqB (tgt := 21) hx hb dX8_inspect_16 (by decide) (fun c_2 => absurd c_2 (by decide)) (fun _ => ?_)
    refine lv_iconst (v := iI 0) hx hb dX8_inspect_19 rfl ?_
    exact z_iret hx hb hr hlocks hP hS dX8_inspect_20 (Eq.trans (zif_neg c_1) rfl) (Eq.trans (Eq.trans (congrArg (fun z => wRef k a0 (upA (upA (upA S0 0 z) 1 (sS0_1_X8_inspect S0 p0)) 2 (sS0_2_X8_inspect S0 p0))) (show sS0_0_X8_inspect S0 p0 = upZ (upZ (S0 0) 8 1) 7 0 from (Eq.trans (zif_neg c_1) rfl))) (congrArg (fun z => wRef k a0 (upA (upA (upA S0 0 (upZ (upZ (S0 0) 8 1) 7 0)) 1 z) 2 (sS0_2_X8_inspect S0 p0))) (show sS0_1_X8_inspect S0 p0 = S0 1 from (Eq.trans (zif_neg c_1) rfl)))) (congrArg (fun z => wRef k a0 (upA (upA (upA S0 0 (upZ (upZ (S0 0) 8 1) 7 0)) 1 (S0 1)) 2 z)) (show sS0_2_X8_inspect S0 p0 = S0 2 from (Eq.trans (zif_neg c_1) rfl)))) (Nat.le_refl _) (Nat.le_refl _)
  · refine lv_iconst (v := iI 0) hx hb dX8_inspect_8 rfl ?_
    refine lv_goto (tgt := 13) hx hb dX8_inspect_9 (by decide) ?_
    refine z_ai (va_runV (As := [.int (iI 0)]) (rest := []) ⟨hx, hb, hml, hown, hts⟩ (c_X8_fails l D k a0 S0  0 (by omega) _) (cwV 1 hts gX8_inspect_X8_fails rfl rfl rfl (by decide +kernel) ⟨(Nat.le_of_ble_eq_true rfl), (Nat.le_of_ble_eq_true rfl)⟩) (z_preV hK hG hA hP hD hS [0, 1, 2, 3, 4, 5, 6, 7] rfl (by decide) 10 rfl rfl) rfl rfl hl.1 rfl (lv_room (Nat.le_of_ble_eq_true rfl)) dX8_inspect_13 ⟨(Nat.le_of_ble_eq_true rfl), (Nat.le_of_ble_eq_true rfl)⟩) hA hP hD hS [0, 1, 2, 3, 4, 5, 6, 7] rfl rfl (fun H locs hP hD hS => ?_)
    have hP : va_P D vwCl (wRef k a0 (upA S0 0 (upZ (upZ (S0 0) 8 0) 7 0))) H := hP
    have hD : va_D A (wRef k a0 (upA S0 0 (upZ (upZ (S0 0) 8 0) 7 0))) := hD
    refine zi_if_eqB (tgt := 21) hx hb dX8_inspect_16 (by decide) (fun _ => ?_) (fun c_3 => absurd c_3 (by decide))
    refine lv_aload_n hx hb dX8_inspect_21 rfl (lv_at hl 0 rfl) ?_
    refine lv_iload_n hx hb dX8_inspect_22 rfl (lv_at hl 1 rfl) ?_
    refine lv_iconst (v := iI 0) hx hb dX8_inspect_23 rfl ?_
    have qc := hC p0 (by omega) (by omega)
    refine z_ai0 (va_runV (As := [.int (iI p0), .int (iI 0)]) (rest := []) ⟨hx, hb, hml, hown, hts⟩ (c_X8_of l D k a0 (upA S0 0 (upZ (upZ (S0 0) 8 0) 7 0))  p0 0 (by omega) (by omega) _) (cwV 2 hts gX8_inspect_X8_of rfl rfl rfl (by decide +kernel) ⟨(Nat.le_of_ble_eq_true rfl), (Nat.le_of_ble_eq_true rfl)⟩) (z_preV hK hG hA hP hD hS [0, 1, 2, 3, 4, 5, 6, 7] rfl (by decide) 10 rfl rfl) rfl rfl hl.1 rfl (lv_room (Nat.le_of_ble_eq_true rfl)) dX8_inspect_24 ⟨(Nat.le_of_ble_eq_true rfl), (Nat.le_of_ble_eq_true rfl)⟩) hA hP hD hS [0, 1, 2, 3, 4, 5, 6, 7] rfl (fun H locs hP hS => ?_)
    refine z_eqi (z2 := S0 1 (((15 + (26 * p0)) + 0).toNat)) rfl ?_
    have f_4 := hT (((15 + (26 * p0)) + 0).toNat)
    refine zi_if_ne (tgt := 38) hx hb dX8_inspect_27 (by decide) ⟨by omega, by omega⟩ (fun c_5 => ?_) (fun c_5 => ?_)
    · refine lv_aload_n hx hb dX8_inspect_38 rfl (lv_at hl 0 rfl) ?_
      refine va_get (D := D) (ci := 10) (v := .ref (a0 1)) (C := RX8) (T := TX8) (N := 19) hx hb hts (fun w h => List.mem_cons_of_mem _ (List.mem_append_left _ (List.mem_append_right _ h))) hown hK hP 0 rfl rfl 0 (by decide) (hts (.fieldLink RX8 7 "MondayFactoryModel" "g" "[I") (List.mem_of_getElem? (i := 1) rfl)) (fun _ h9 => h9) rfl dX8_inspect_39 ?_
      refine lv_bipush (v := iI 9) hx hb dX8_inspect_42 (by decide) ?_
      refine z_iald hx hb hK hP 1 0 (f := S0 1) rfl rfl (i := 9) (by omega) (by omega) (by decide) 9 rfl dX8_inspect_44 ?_
      have f_6 := hT 9
      refine zi_if_ne (tgt := 61) hx hb dX8_inspect_45 (by decide) ⟨by omega, by omega⟩ (fun c_7 => ?_) (fun c_7 => ?_)
      · refine lv_aload_n hx hb dX8_inspect_61 rfl (lv_at hl 0 rfl) ?_
        refine lv_aload_n hx hb dX8_inspect_62 rfl (lv_at hl 0 rfl) ?_
        refine va_get (D := D) (ci := 10) (v := .ref (a0 1)) (C := RX8) (T := TX8) (N := 19) hx hb hts (fun w h => List.mem_cons_of_mem _ (List.mem_append_left _ (List.mem_append_right _ h))) hown hK hP 0 rfl rfl 0 (by decide) (hts (.fieldLink RX8 7 "MondayFactoryModel" "g" "[I") (List.mem_of_getElem? (i := 1) rfl)) (fun _ h9 => h9) rfl dX8_inspect_63 ?_
        refine z_av (va_runV (As := [.ref (a0 1)]) (rest := []) ⟨hx, hb, hml, hown, hts⟩ (c_X8_keeps l D k a0 (upA S0 0 (upZ (upZ (S0 0) 8 0) 7 0)) 0  (by omega) (by have e0 : ((upA S0 0 (upZ (upZ (S0 0) 8 0) 7 0)) 0 5) = S0 0 5 := (show (upZ (upZ (S0 0) 8 0) 7 0) 5 = S0 0 5 from (Eq.trans (upZ_n (by omega)) (Eq.trans (upZ_n (by omega)) rfl))); omega) (by have e0 : ((upA S0 0 (upZ (upZ (S0 0) 8 0) 7 0)) 0 6) = S0 0 6 := (show (upZ (upZ (S0 0) 8 0) 7 0) 6 = S0 0 6 from (Eq.trans (upZ_n (by omega)) (Eq.trans (upZ_n (by omega)) rfl))); omega) _) (cwV 1 hts gX8_inspect_X8_keeps rfl rfl rfl (by decide +kernel) ⟨(Nat.le_of_ble_eq_true rfl), (Nat.le_of_ble_eq_true rfl)⟩) (z_preV hK hG hA hP hD hS [0, 1, 2, 3, 4, 5, 6, 7] rfl (by decide) 10 rfl rfl) rfl rfl hl.1 rfl (lv_room (Nat.le_of_ble_eq_true rfl)) dX8_inspect_66 ⟨(Nat.le_of_ble_eq_true rfl), (Nat.le_of_ble_eq_true rfl)⟩) hA hP hD hS [0, 1, 2, 3, 4, 5, 6, 7] rfl rfl (fun H locs hP hD hS => ?_)
        have hP : va_P D vwCl (wRef k a0 (upA (upA (upA S0 0 (upZ (upZ (S0 0) 8 0) 7 0)) 0 (sS0_0_X8_keeps (upA S0 0 (upZ (upZ (S0 0) 8 0) 7 0)) 0)) 2 (sS0_2_X8_keeps (upA S0 0 (upZ (upZ (S0 0) 8 0) 7 0)) 0))) H := hP
        have hD : va_D A (wRef k a0 (upA (upA (upA S0 0 (upZ (upZ (S0 0) 8 0) 7 0)) 0 (sS0_0_X8_keeps (upA S0 0 (upZ (upZ (S0 0) 8 0) 7 0)) 0)) 2 (sS0_2_X8_keeps (upA S0 0 (upZ (upZ (S0 0) 8 0) 7 0)) 0))) := hD
        refine lv_aload_n hx hb dX8_inspect_69 rfl (lv_at hl 0 rfl) ?_
        refine lv_iload_n hx hb dX8_inspect_70 rfl (lv_at hl 1 rfl) ?_
        refine z_ai (va_runV (As := [.int (iI p0)]) (rest := []) ⟨hx, hb, hml, hown, hts⟩ (c_X8_inspects l D k a0 (upA (upA (upA S0 0 (upZ (upZ (S0 0) 8 0) 7 0)) 0 (sS0_0_X8_keeps (upA S0 0 (upZ (upZ (S0 0) 8 0) 7 0)) 0)) 2 (sS0_2_X8_keeps (upA S0 0 (upZ (upZ (S0 0) 8 0) 7 0)) 0))  p0 hB hT (by omega) (by have e0 : ((upA (upA (upA S0 0 (upZ (upZ (S0 0) 8 0) 7 0)) 0 (sS0_0_X8_keeps (upA S0 0 (upZ (upZ (S0 0) 8 0) 7 0)) 0)) 2 (sS0_2_X8_keeps (upA S0 0 (upZ (upZ (S0 0) 8 0) 7 0)) 0)) 1 (15 + 26 * p0 + 0).toNat) = S0 1 ((15 + 26 * p0 + 0).toNat) := rfl; omega) (by have e0 : ((upA (upA (upA S0 0 (upZ (upZ (S0 0) 8 0) 7 0)) 0 (sS0_0_X8_keeps (upA S0 0 (upZ (upZ (S0 0) 8 0) 7 0)) 0)) 2 (sS0_2_X8_keeps (upA S0 0 (upZ (upZ (S0 0) 8 0) 7 0)) 0)) 1 9) = S0 1 9 := rfl; omega) (by have e0 : ((upA (upA (upA S0 0 (upZ (upZ (S0 0) 8 0) 7 0)) 0 (sS0_0_X8_keeps (upA S0 0 (upZ (upZ (S0 0) 8 0) 7 0)) 0)) 2 (sS0_2_X8_keeps (upA S0 0 (upZ (upZ (S0 0) 8 0) 7 0)) 0)) 1 10) = S0 1 10 := rfl; omega) _) (cwV 1 hts gX8_inspect_X8_inspects rfl rfl rfl (by decide +kernel) ⟨(Nat.le_of_ble_eq_true rfl), (Nat.le_of_ble_eq_true rfl)⟩) (z_preV hK hG hA hP hD hS [0, 1, 2, 3, 4, 5, 6, 7] rfl (by decide) 10 rfl rfl) rfl rfl hl.1 rfl (lv_room (Nat.le_of_ble_eq_true rfl)) dX8_inspect_71 ⟨(Nat.le_of_ble_eq_true rfl), (Nat.le_of_ble_eq_true rfl)⟩) hA hP hD hS [0, 1, 2, 3, 4, 5, 6, 7] rfl rfl (fun H locs hP hD hS => ?_)
        have hP : va_P D vwCl (wRef k a0 (upA (upA (upA (upA S0 0 (upZ (upZ (S0 0) 8 0) 7 0)) 0 (sS0_0_X8_keeps (upA S0 0 (upZ (upZ (S0 0) 8 0) 7 0)) 0)) 2 (sS0_2_X8_keeps (upA S0 0 (upZ (upZ (S0 0) 8 0) 7 0)) 0)) 1 (sS0_1_X8_inspects (upA (upA (upA S0 0 (upZ (upZ (S0 0) 8 0) 7 0)) 0 (sS0_0_X8_keeps (upA S0 0 (upZ (upZ (S0 0) 8 0) 7 0)) 0)) 2 (sS0_2_X8_keeps (upA S0 0 (upZ (upZ (S0 0) 8 0) 7 0)) 0)) p0))) H := hP
        have hD : va_D A (wRef k a0 (upA (upA (upA (upA S0 0 (upZ (upZ (S0 0) 8 0) 7 0)) 0 (sS0_0_X8_keeps (upA S0 0 (upZ (upZ (S0 0) 8 0) 7 0)) 0)) 2 (sS0_2_X8_keeps (upA S0 0 (upZ (upZ (S0 0) 8 0) 7 0)) 0)) 1 (sS0_1_X8_inspects (upA (upA (upA S0 0 (upZ (upZ (S0 0) 8 0) 7 0)) 0 (sS0_0_X8_keeps (upA S0 0 (upZ (upZ (S0 0) 8 0) 7 0)) 0)) 2 (sS0_2_X8_keeps (upA S0 0 (upZ (upZ (S0 0) 8 0) 7 0)) 0)) p0))) := hD
        refine z_eqi (z2 := sp_X8_inspects (upA (upA (upA S0 0 (upZ (upZ (S0 0) 8 0) 7 0)) 0 (sS0_0_X8_keeps (upA S0 0 (upZ (upZ (S0 0) 8 0) 7 0)) 0)) 2 (sS0_2_X8_keeps (upA S0 0 (upZ (upZ (S0 0) 8 0) 7 0)) 0)) p0) rfl ?_
        exact z_iret hx hb hr hlocks hP hS dX8_inspect_74 (Eq.trans (zif_pos c_1) (Eq.trans (zif_neg c_5) (Eq.trans (zif_neg c_7) rfl))) (Eq.trans (Eq.trans (congrArg (fun z => wRef k a0 (upA (upA (upA S0 0 z) 1 (sS0_1_X8_inspect S0 p0)) 2 (sS0_2_X8_inspect S0 p0))) (show sS0_0_X8_inspect S0 p0 = sS0_0_X8_keeps (upA S0 0 (upZ (upZ (S0 0) 8 0) 7 0)) 0 from (Eq.trans (zif_pos c_1) (Eq.trans (zif_neg c_5) (Eq.trans (zif_neg c_7) rfl))))) (congrArg (fun z => wRef k a0 (upA (upA (upA S0 0 (sS0_0_X8_keeps (upA S0 0 (upZ (upZ (S0 0) 8 0) 7 0)) 0)) 1 z) 2 (sS0_2_X8_inspect S0 p0))) (show sS0_1_X8_inspect S0 p0 = sS0_1_X8_inspects (upA (upA (upA S0 0 (upZ (upZ (S0 0) 8 0) 7 0)) 0 (sS0_0_X8_keeps (upA S0 0 (upZ (upZ (S0 0) 8 0) 7 0)) 0)) 2 (sS0_2_X8_keeps (upA S0 0 (upZ (upZ (S0 0) 8 0) 7 0)) 0)) p0 from (Eq.trans (zif_pos c_1) (Eq.trans (zif_neg c_5) (Eq.trans (zif_neg c_7) rfl)))))) (congrArg (fun z => wRef k a0 (upA (upA (upA S0 0 (sS0_0_X8_keeps (upA S0 0 (upZ (upZ (S0 0) 8 0) 7 0)) 0)) 1 (sS0_1_X8_inspects (upA (upA (upA S0 0 (upZ (upZ (S0 0) 8 0) 7 0)) 0 (sS0_0_X8_keeps (upA S0 0 (upZ (upZ (S0 0) 8 0) 7 0)) 0)) 2 (sS0_2_X8_keeps (upA S0 0 (upZ (upZ (S0 0) 8 0) 7 0)) 0)) p0)) 2 z)) (show sS0_2_X8_inspect S0 p0 = sS0_2_X8_keeps (upA S0 0 (upZ (upZ (S0 0) 8 0) 7 0)) 0 from (Eq.trans (zif_pos c_1) (Eq.trans (zif_neg c_5) (Eq.trans (zif_neg c_7) rfl)))))) (Nat.le_refl _) (Nat.le_refl _)
      · refine lv_aload_n hx hb dX8_inspect_48 rfl (lv_at hl 0 rfl) ?_
        refine lv_iconst (v := iI 2) hx hb dX8_inspect_49 rfl ?_
        refine lv_iconst (v := iI 4) hx hb dX8_inspect_50 rfl ?_
        refine lv_aload_n hx hb dX8_inspect_51 rfl (lv_at hl 0 rfl) ?_
        refine va_get (D := D) (ci := 10) (v := .ref (a0 1)) (C := RX8) (T := TX8) (N := 19) hx hb hts (fun w h => List.mem_cons_of_mem _ (List.mem_append_left _ (List.mem_append_right _ h))) hown hK hP 0 rfl rfl 0 (by decide) (hts (.fieldLink RX8 7 "MondayFactoryModel" "g" "[I") (List.mem_of_getElem? (i := 1) rfl)) (fun _ h9 => h9) rfl dX8_inspect_52 ?_
        refine lv_iconst (v := iI 1) hx hb dX8_inspect_55 rfl ?_
        refine z_iald hx hb hK hP 1 0 (f := S0 1) rfl rfl (i := 1) (by omega) (by omega) (by decide) 1 rfl dX8_inspect_56 ?_
        have f_8 := hT 1
        refine z_ai (va_runV (As := [.int (iI 2), .int (iI 4), .int (iI (S0 1 1))]) (rest := []) ⟨hx, hb, hml, hown, hts⟩ (c_X8_refuses l D k a0 (upA S0 0 (upZ (upZ (S0 0) 8 0) 7 0))  2 4 (S0 1 1)  _) (cwV 3 hts gX8_inspect_X8_refuses rfl rfl rfl (by decide +kernel) ⟨(Nat.le_of_ble_eq_true rfl), (Nat.le_of_ble_eq_true rfl)⟩) (z_preV hK hG hA hP hD hS [0, 1, 2, 3, 4, 5, 6, 7] rfl (by decide) 10 rfl rfl) rfl rfl hl.1 rfl (lv_room (Nat.le_of_ble_eq_true rfl)) dX8_inspect_57 ⟨(Nat.le_of_ble_eq_true rfl), (Nat.le_of_ble_eq_true rfl)⟩) hA hP hD hS [0, 1, 2, 3, 4, 5, 6, 7] rfl rfl (fun H locs hP hD hS => ?_)
        have hP : va_P D vwCl (wRef k a0 (up2 (up2 (up2 (up2 (upA S0 0 (upZ (upZ (S0 0) 8 0) 7 0)) 0 8 2) 0 7 1) 0 9 4) 0 10 ((S0 1 1)))) H := hP
        have hD : va_D A (wRef k a0 (up2 (up2 (up2 (up2 (upA S0 0 (upZ (upZ (S0 0) 8 0) 7 0)) 0 8 2) 0 7 1) 0 9 4) 0 10 ((S0 1 1)))) := hD
        refine z_eqi (z2 := 0) rfl ?_
        exact z_iret hx hb hr hlocks hP hS dX8_inspect_60 (Eq.trans (zif_pos c_1) (Eq.trans (zif_neg c_5) (Eq.trans (zif_pos c_7) rfl))) (Eq.trans (Eq.trans (congrArg (fun z => wRef k a0 (upA (upA (upA S0 0 z) 1 (sS0_1_X8_inspect S0 p0)) 2 (sS0_2_X8_inspect S0 p0))) (show sS0_0_X8_inspect S0 p0 = upZ (upZ (upZ (upZ (upZ (upZ (S0 0) 8 0) 7 0) 8 2) 7 1) 9 4) 10 ((S0 1 1)) from (Eq.trans (zif_pos c_1) (Eq.trans (zif_neg c_5) (Eq.trans (zif_pos c_7) rfl))))) (congrArg (fun z => wRef k a0 (upA (upA (upA S0 0 (upZ (upZ (upZ (upZ (upZ (upZ (S0 0) 8 0) 7 0) 8 2) 7 1) 9 4) 10 ((S0 1 1)))) 1 z) 2 (sS0_2_X8_inspect S0 p0))) (show sS0_1_X8_inspect S0 p0 = S0 1 from (Eq.trans (zif_pos c_1) (Eq.trans (zif_neg c_5) (Eq.trans (zif_pos c_7) rfl)))))) (congrArg (fun z => wRef k a0 (upA (upA (upA S0 0 (upZ (upZ (upZ (upZ (upZ (upZ (S0 0) 8 0) 7 0) 8 2) 7 1) 9 4) 10 ((S0 1 1)))) 1 (S0 1)) 2 z)) (show sS0_2_X8_inspect S0 p0 = S0 2 from (Eq.trans (zif_pos c_1) (Eq.trans (zif_neg c_5) (Eq.trans (zif_pos c_7) rfl)))))) (Nat.le_refl _) (Nat.le_refl _)
    · refine lv_aload_n hx hb dX8_inspect_30 rfl (lv_at hl 0 rfl) ?_
      refine lv_iconst (v := iI 2) hx hb dX8_inspect_31 rfl ?_
      refine lv_iconst (v := iI 3) hx hb dX8_inspect_32 rfl ?_
      refine lv_iload_n hx hb dX8_inspect_33 rfl (lv_at hl 1 rfl) ?_
      refine z_ai (va_runV (As := [.int (iI 2), .int (iI 3), .int (iI p0)]) (rest := []) ⟨hx, hb, hml, hown, hts⟩ (c_X8_refuses l D k a0 (upA S0 0 (upZ (upZ (S0 0) 8 0) 7 0))  2 3 p0  _) (cwV 3 hts gX8_inspect_X8_refuses rfl rfl rfl (by decide +kernel) ⟨(Nat.le_of_ble_eq_true rfl), (Nat.le_of_ble_eq_true rfl)⟩) (z_preV hK hG hA hP hD hS [0, 1, 2, 3, 4, 5, 6, 7] rfl (by decide) 10 rfl rfl) rfl rfl hl.1 rfl (lv_room (Nat.le_of_ble_eq_true rfl)) dX8_inspect_34 ⟨(Nat.le_of_ble_eq_true rfl), (Nat.le_of_ble_eq_true rfl)⟩) hA hP hD hS [0, 1, 2, 3, 4, 5, 6, 7] rfl rfl (fun H locs hP hD hS => ?_)
      have hP : va_P D vwCl (wRef k a0 (up2 (up2 (up2 (up2 (upA S0 0 (upZ (upZ (S0 0) 8 0) 7 0)) 0 8 2) 0 7 1) 0 9 3) 0 10 p0)) H := hP
      have hD : va_D A (wRef k a0 (up2 (up2 (up2 (up2 (upA S0 0 (upZ (upZ (S0 0) 8 0) 7 0)) 0 8 2) 0 7 1) 0 9 3) 0 10 p0)) := hD
      refine z_eqi (z2 := 0) rfl ?_
      exact z_iret hx hb hr hlocks hP hS dX8_inspect_37 (Eq.trans (zif_pos c_1) (Eq.trans (zif_pos c_5) rfl)) (Eq.trans (Eq.trans (congrArg (fun z => wRef k a0 (upA (upA (upA S0 0 z) 1 (sS0_1_X8_inspect S0 p0)) 2 (sS0_2_X8_inspect S0 p0))) (show sS0_0_X8_inspect S0 p0 = upZ (upZ (upZ (upZ (upZ (upZ (S0 0) 8 0) 7 0) 8 2) 7 1) 9 3) 10 p0 from (Eq.trans (zif_pos c_1) (Eq.trans (zif_pos c_5) rfl)))) (congrArg (fun z => wRef k a0 (upA (upA (upA S0 0 (upZ (upZ (upZ (upZ (upZ (upZ (S0 0) 8 0) 7 0) 8 2) 7 1) 9 3) 10 p0)) 1 z) 2 (sS0_2_X8_inspect S0 p0))) (show sS0_1_X8_inspect S0 p0 = S0 1 from (Eq.trans (zif_pos c_1) (Eq.trans (zif_pos c_5) rfl))))) (congrArg (fun z => wRef k a0 (upA (upA (upA S0 0 (upZ (upZ (upZ (upZ (upZ (upZ (S0 0) 8 0) 7 0) 8 2) 7 1) 9 3) 10 p0)) 1 (S0 1)) 2 z)) (show sS0_2_X8_inspect S0 p0 = S0 2 from (Eq.trans (zif_pos c_1) (Eq.trans (zif_pos c_5) rfl))))) (Nat.le_refl _) (Nat.le_refl _)
noncomputable def sp_X8_hire (S0 : Nat → Nat → Int) : Int := zif ((S0 1 9) = 4)
  (0)
  (((S0 1 9) + 1) - 1)
noncomputable def sS0_0_X8_hire (S0 : Nat → Nat → Int) : (Nat → Int) := zif ((S0 1 9) = 4)
  (upZ (upZ (upZ (upZ (S0 0) 8 1) 7 1) 9 1) 10 4)
  (sS0_0_X8_keeps S0 0)
noncomputable def sS0_1_X8_hire (S0 : Nat → Nat → Int) : (Nat → Int) := zif ((S0 1 9) = 4)
  (S0 1)
  (upZ (upZ (S0 1) ((11 + (S0 1 9)).toNat) 0) 9 ((S0 1 9) + 1))
noncomputable def sS0_2_X8_hire (S0 : Nat → Nat → Int) : (Nat → Int) := zif ((S0 1 9) = 4)
  (S0 2)
  (sS0_2_X8_keeps S0 0)
set_option maxHeartbeats 4000000 in
set_option maxRecDepth 100000 in
theorem c_X8_hire (l : Launch) (D : va_G) (k : Nat → ClassId) (a0 : Nat → Nat) (S0 : Nat → Nat → Int) (hB : zBf (S0 1)) (hT : zBt (S0 1)) (hB0 : zBf (S0 0)) (hC : ∀ b : Int, 0 ≤ b → b ≤ 2 → 0 ≤ S0 1 (15 + 26 * b + 0).toNat ∧ S0 1 (15 + 26 * b + 0).toNat ≤ 5) (hI : 0 ≤ S0 1 9 ∧ S0 1 9 ≤ 4) (hF : 0 ≤ S0 1 10 ∧ S0 1 10 ≤ 8) (hch : 0 ≤ S0 0 5 ∧ S0 0 5 ≤ 8) (hw : S0 0 6 = 0 ∨ S0 0 6 = 1) : zMi l yX8_hire wsX8_hire ({ frames := 2, cells := 0, slots := 0, locals := 46 } : Room) D k [.ref (a0 0)] (wRef k a0 S0) (sp_X8_hire S0) (wRef k a0 (upA (upA (upA S0 0 (sS0_0_X8_hire S0)) 1 (sS0_1_X8_hire S0)) 2 (sS0_2_X8_hire S0))) 0 0 := by
  refine zMi_of (cc := cX8_hire) (maxL := 1) (ret := (some .int)) (by decide) rfl (Nat.le_of_ble_eq_true rfl) ?_
  intro p e s m args below meth c A ls hx hb hr hml hown hts hlocks hK hP hD hG hA hS hl
  have hown : s.vm.findClass RX8 = some m.cls := hown
  have hl : lv_has ls 1 [(0, .ref (a0 0))] := hl
  obtain ⟨H, hH⟩ : ∃ z, z = s.heap := ⟨_, rfl⟩
  obtain ⟨locs, hlc⟩ : ∃ z : List Loc, z = [] := ⟨_, rfl⟩
  rw [← hH] at hP
  have hS : va_S A s.heap H locs := by rw [hH, hlc]; exact hS
  rw [← hlc, ← hH]
  clear hlc hH
  refine lv_aload_n hx hb dX8_hire_0 rfl (lv_at hl 0 rfl) ?_
  refine va_get (D := D) (ci := 10) (v := .ref (a0 1)) (C := RX8) (T := TX8) (N := 19) hx hb hts (fun w h => List.mem_cons_of_mem _ (List.mem_append_left _ (List.mem_append_right _ h))) hown hK hP 0 rfl rfl 0 (by decide) (hts (.fieldLink RX8 7 "MondayFactoryModel" "g" "[I") (List.mem_of_getElem? (i := 1) rfl)) (fun _ h9 => h9) rfl dX8_hire_1 ?_
  refine lv_bipush (v := iI 9) hx hb dX8_hire_4 (by decide) ?_
  refine z_iald hx hb hK hP 1 0 (f := S0 1) rfl rfl (i := 9) (by omega) (by omega) (by decide) 9 rfl dX8_hire_6 ?_
  have f_1 := hT 9
  refine lv_iconst (v := iI 4) hx hb dX8_hire_7 rfl ?_
  refine zi_icmp_ne (tgt := 19) hx hb dX8_hire_8 (by decide) ⟨by omega, by omega⟩ ⟨by omega, by omega⟩ (fun c_2 => ?_) (fun c_2 => ?_)
  · refine lv_aload_n hx hb dX8_hire_19 rfl (lv_at hl 0 rfl) ?_
    refine lv_aload_n hx hb dX8_hire_20 rfl (lv_at hl 0 rfl) ?_
    refine va_get (D := D) (ci := 10) (v := .ref (a0 1)) (C := RX8) (T := TX8) (N := 19) hx hb hts (fun w h => List.mem_cons_of_mem _ (List.mem_append_left _ (List.mem_append_right _ h))) hown hK hP 0 rfl rfl 0 (by decide) (hts (.fieldLink RX8 7 "MondayFactoryModel" "g" "[I") (List.mem_of_getElem? (i := 1) rfl)) (fun _ h9 => h9) rfl dX8_hire_21 ?_
    refine z_av (va_runV (As := [.ref (a0 1)]) (rest := []) ⟨hx, hb, hml, hown, hts⟩ (c_X8_keeps l D k a0 S0 0  (by omega) (by omega) (by omega) _) (cwV 1 hts gX8_hire_X8_keeps rfl rfl rfl (by decide +kernel) ⟨(Nat.le_of_ble_eq_true rfl), (Nat.le_of_ble_eq_true rfl)⟩) (z_preV hK hG hA hP hD hS [0, 1, 2, 3, 4, 5, 6, 7] rfl (by decide) 10 rfl rfl) rfl rfl hl.1 rfl (lv_room (Nat.le_of_ble_eq_true rfl)) dX8_hire_24 ⟨(Nat.le_of_ble_eq_true rfl), (Nat.le_of_ble_eq_true rfl)⟩) hA hP hD hS [0, 1, 2, 3, 4, 5, 6, 7] rfl rfl (fun H locs hP hD hS => ?_)
    have hP : va_P D vwCl (wRef k a0 (upA (upA S0 0 (sS0_0_X8_keeps S0 0)) 2 (sS0_2_X8_keeps S0 0))) H := hP
    have hD : va_D A (wRef k a0 (upA (upA S0 0 (sS0_0_X8_keeps S0 0)) 2 (sS0_2_X8_keeps S0 0))) := hD
    refine lv_aload_n hx hb dX8_hire_27 rfl (lv_at hl 0 rfl) ?_
    refine va_get (D := D) (ci := 10) (v := .ref (a0 1)) (C := RX8) (T := TX8) (N := 19) hx hb hts (fun w h => List.mem_cons_of_mem _ (List.mem_append_left _ (List.mem_append_right _ h))) hown hK hP 0 rfl rfl 0 (by decide) (hts (.fieldLink RX8 7 "MondayFactoryModel" "g" "[I") (List.mem_of_getElem? (i := 1) rfl)) (fun _ h9 => h9) rfl dX8_hire_28 ?_
    refine lv_bipush (v := iI 11) hx hb dX8_hire_31 (by decide) ?_
    refine lv_aload_n hx hb dX8_hire_33 rfl (lv_at hl 0 rfl) ?_
    refine va_get (D := D) (ci := 10) (v := .ref (a0 1)) (C := RX8) (T := TX8) (N := 19) hx hb hts (fun w h => List.mem_cons_of_mem _ (List.mem_append_left _ (List.mem_append_right _ h))) hown hK hP 0 rfl rfl 0 (by decide) (hts (.fieldLink RX8 7 "MondayFactoryModel" "g" "[I") (List.mem_of_getElem? (i := 1) rfl)) (fun _ h9 => h9) rfl dX8_hire_34 ?_
    refine lv_bipush (v := iI 9) hx hb dX8_hire_37 (by decide) ?_
    refine z_iald hx hb hK hP 1 0 (f := S0 1) rfl rfl (i := 9) (by omega) (by omega) (by decide) 9 rfl dX8_hire_39 ?_
    refine zi_add hx hb dX8_hire_40 ?_
    refine lv_iconst (v := iI 0) hx hb dX8_hire_41 rfl ?_
    refine z_iast hx hb hK hP hD hS 1 0 (f := S0 1) rfl rfl (i := 11 + (S0 1 9)) (by omega) (by omega) (by decide) ((11 + (S0 1 9)).toNat) rfl dX8_hire_42 (fun H locs hP hD hS => ?_)
    have hP : va_P D vwCl (wRef k a0 (up2 (upA (upA S0 0 (sS0_0_X8_keeps S0 0)) 2 (sS0_2_X8_keeps S0 0)) 1 ((11 + (S0 1 9)).toNat) 0)) H := hP
    have hD : va_D A (wRef k a0 (up2 (upA (upA S0 0 (sS0_0_X8_keeps S0 0)) 2 (sS0_2_X8_keeps S0 0)) 1 ((11 + (S0 1 9)).toNat) 0)) := hD
    refine lv_aload_n hx hb dX8_hire_43 rfl (lv_at hl 0 rfl) ?_
    refine va_get (D := D) (ci := 10) (v := .ref (a0 1)) (C := RX8) (T := TX8) (N := 19) hx hb hts (fun w h => List.mem_cons_of_mem _ (List.mem_append_left _ (List.mem_append_right _ h))) hown hK hP 0 rfl rfl 0 (by decide) (hts (.fieldLink RX8 7 "MondayFactoryModel" "g" "[I") (List.mem_of_getElem? (i := 1) rfl)) (fun _ h9 => h9) rfl dX8_hire_44 ?_
    refine lv_bipush (v := iI 9) hx hb dX8_hire_47 (by decide) ?_
    refine lv_dup2_11 hx hb dX8_hire_49 rfl rfl ?_
    refine z_iald hx hb hK hP 1 0 (f := upZ (S0 1) ((11 + (S0 1 9)).toNat) 0) rfl rfl (i := 9) (by omega) (by omega) (by decide) 9 rfl dX8_hire_50 ?_
    refine z_eqi (z2 := S0 1 9) (show (upZ (S0 1) ((11 + (S0 1 9)).toNat) 0) 9 = S0 1 9 from (Eq.trans (upZ_n (by omega)) rfl)) ?_
    refine lv_iconst (v := iI 1) hx hb dX8_hire_51 rfl ?_
    refine zi_add hx hb dX8_hire_52 ?_
    refine z_iast hx hb hK hP hD hS 1 0 (f := upZ (S0 1) ((11 + (S0 1 9)).toNat) 0) rfl rfl (i := 9) (by omega) (by omega) (by decide) 9 rfl dX8_hire_53 (fun H locs hP hD hS => ?_)
    have hP : va_P D vwCl (wRef k a0 (up2 (up2 (upA (upA S0 0 (sS0_0_X8_keeps S0 0)) 2 (sS0_2_X8_keeps S0 0)) 1 ((11 + (S0 1 9)).toNat) 0) 1 9 ((S0 1 9) + 1))) H := hP
    have hD : va_D A (wRef k a0 (up2 (up2 (upA (upA S0 0 (sS0_0_X8_keeps S0 0)) 2 (sS0_2_X8_keeps S0 0)) 1 ((11 + (S0 1 9)).toNat) 0) 1 9 ((S0 1 9) + 1))) := hD
    refine lv_aload_n hx hb dX8_hire_54 rfl (lv_at hl 0 rfl) ?_
    refine va_get (D := D) (ci := 10) (v := .ref (a0 1)) (C := RX8) (T := TX8) (N := 19) hx hb hts (fun w h => List.mem_cons_of_mem _ (List.mem_append_left _ (List.mem_append_right _ h))) hown hK hP 0 rfl rfl 0 (by decide) (hts (.fieldLink RX8 7 "MondayFactoryModel" "g" "[I") (List.mem_of_getElem? (i := 1) rfl)) (fun _ h9 => h9) rfl dX8_hire_55 ?_
    refine lv_bipush (v := iI 9) hx hb dX8_hire_58 (by decide) ?_
    refine z_iald hx hb hK hP 1 0 (f := upZ (upZ (S0 1) ((11 + (S0 1 9)).toNat) 0) 9 ((S0 1 9) + 1)) rfl rfl (i := 9) (by omega) (by omega) (by decide) 9 rfl dX8_hire_60 ?_
    refine z_eqi (z2 := (S0 1 9) + 1) (show (upZ (upZ (S0 1) ((11 + (S0 1 9)).toNat) 0) 9 ((S0 1 9) + 1)) 9 = (S0 1 9) + 1 from (Eq.trans upZ_s rfl)) ?_
    refine lv_iconst (v := iI 1) hx hb dX8_hire_61 rfl ?_
    refine zi_sub hx hb dX8_hire_62 ?_
    exact z_iret hx hb hr hlocks hP hS dX8_hire_63 (Eq.trans (zif_neg c_2) rfl) (Eq.trans (Eq.trans (congrArg (fun z => wRef k a0 (upA (upA (upA S0 0 z) 1 (sS0_1_X8_hire S0)) 2 (sS0_2_X8_hire S0))) (show sS0_0_X8_hire S0 = sS0_0_X8_keeps S0 0 from (Eq.trans (zif_neg c_2) rfl))) (congrArg (fun z => wRef k a0 (upA (upA (upA S0 0 (sS0_0_X8_keeps S0 0)) 1 z) 2 (sS0_2_X8_hire S0))) (show sS0_1_X8_hire S0 = upZ (upZ (S0 1) ((11 + (S0 1 9)).toNat) 0) 9 ((S0 1 9) + 1) from (Eq.trans (zif_neg c_2) rfl)))) (congrArg (fun z => wRef k a0 (upA (upA (upA S0 0 (sS0_0_X8_keeps S0 0)) 1 (upZ (upZ (S0 1) ((11 + (S0 1 9)).toNat) 0) 9 ((S0 1 9) + 1))) 2 z)) (show sS0_2_X8_hire S0 = sS0_2_X8_keeps S0 0 from (Eq.trans (zif_neg c_2) rfl)))) (Nat.le_refl _) (Nat.le_refl _)
  · refine lv_aload_n hx hb dX8_hire_11 rfl (lv_at hl 0 rfl) ?_
    refine lv_iconst (v := iI 1) hx hb dX8_hire_12 rfl ?_
    refine lv_iconst (v := iI 1) hx hb dX8_hire_13 rfl ?_
    refine lv_iconst (v := iI 4) hx hb dX8_hire_14 rfl ?_
    refine z_ai (va_runV (As := [.int (iI 1), .int (iI 1), .int (iI 4)]) (rest := []) ⟨hx, hb, hml, hown, hts⟩ (c_X8_refuses l D k a0 S0  1 1 4  _) (cwV 3 hts gX8_hire_X8_refuses rfl rfl rfl (by decide +kernel) ⟨(Nat.le_of_ble_eq_true rfl), (Nat.le_of_ble_eq_true rfl)⟩) (z_preV hK hG hA hP hD hS [0, 1, 2, 3, 4, 5, 6, 7] rfl (by decide) 10 rfl rfl) rfl rfl hl.1 rfl (lv_room (Nat.le_of_ble_eq_true rfl)) dX8_hire_15 ⟨(Nat.le_of_ble_eq_true rfl), (Nat.le_of_ble_eq_true rfl)⟩) hA hP hD hS [0, 1, 2, 3, 4, 5, 6, 7] rfl rfl (fun H locs hP hD hS => ?_)
    have hP : va_P D vwCl (wRef k a0 (up2 (up2 (up2 (up2 S0 0 8 1) 0 7 1) 0 9 1) 0 10 4)) H := hP
    have hD : va_D A (wRef k a0 (up2 (up2 (up2 (up2 S0 0 8 1) 0 7 1) 0 9 1) 0 10 4)) := hD
    exact z_iret hx hb hr hlocks hP hS dX8_hire_18 (Eq.trans (zif_pos c_2) rfl) (Eq.trans (Eq.trans (congrArg (fun z => wRef k a0 (upA (upA (upA S0 0 z) 1 (sS0_1_X8_hire S0)) 2 (sS0_2_X8_hire S0))) (show sS0_0_X8_hire S0 = upZ (upZ (upZ (upZ (S0 0) 8 1) 7 1) 9 1) 10 4 from (Eq.trans (zif_pos c_2) rfl))) (congrArg (fun z => wRef k a0 (upA (upA (upA S0 0 (upZ (upZ (upZ (upZ (S0 0) 8 1) 7 1) 9 1) 10 4)) 1 z) 2 (sS0_2_X8_hire S0))) (show sS0_1_X8_hire S0 = S0 1 from (Eq.trans (zif_pos c_2) rfl)))) (congrArg (fun z => wRef k a0 (upA (upA (upA S0 0 (upZ (upZ (upZ (upZ (S0 0) 8 1) 7 1) 9 1) 10 4)) 1 (S0 1)) 2 z)) (show sS0_2_X8_hire S0 = S0 2 from (Eq.trans (zif_pos c_2) rfl)))) (Nat.le_refl _) (Nat.le_refl _)
noncomputable def sp_X8_leave (S0 : Nat → Nat → Int) (p0 : Int) : Int := zif (0 ≤ p0 ∧ p0 < S0 1 9)
  (S0 1 ((11 + p0).toNat))
  (0)
noncomputable def sS0_0_X8_leave (S0 : Nat → Nat → Int) (p0 : Int) : (Nat → Int) := zif (0 ≤ p0 ∧ p0 < S0 1 9)
  (sS0_0_X8_keeps (upA S0 0 (upZ (upZ (S0 0) 8 0) 7 0)) 0)
  (upZ (upZ (S0 0) 8 1) 7 0)
noncomputable def sS0_1_X8_leave (S0 : Nat → Nat → Int) (p0 : Int) : (Nat → Int) := zif (0 ≤ p0 ∧ p0 < S0 1 9)
  (upZ (shf (upZ (S0 1) 9 (S0 1 9 - 1)) (11 + p0).toNat (11 + (S0 1 9 - 1)).toNat 1) ((11 + ((shf (upZ (S0 1) 9 (S0 1 9 - 1)) (11 + p0).toNat (11 + (S0 1 9 - 1)).toNat 1) 9)).toNat) 0)
  (S0 1)
noncomputable def sS0_2_X8_leave (S0 : Nat → Nat → Int) (p0 : Int) : (Nat → Int) := zif (0 ≤ p0 ∧ p0 < S0 1 9)
  (sS0_2_X8_keeps (upA S0 0 (upZ (upZ (S0 0) 8 0) 7 0)) 0)
  (S0 2)
set_option maxHeartbeats 4000000 in
set_option maxRecDepth 100000 in
theorem c_X8_leave (l : Launch) (D : va_G) (k : Nat → ClassId) (a0 : Nat → Nat) (S0 : Nat → Nat → Int) (p0 : Int) (hB : zBf (S0 1)) (hT : zBt (S0 1)) (hB0 : zBf (S0 0)) (hC : ∀ b : Int, 0 ≤ b → b ≤ 2 → 0 ≤ S0 1 (15 + 26 * b + 0).toNat ∧ S0 1 (15 + 26 * b + 0).toNat ≤ 5) (hI : 0 ≤ S0 1 9 ∧ S0 1 9 ≤ 4) (hF : 0 ≤ S0 1 10 ∧ S0 1 10 ≤ 8) (hch : 0 ≤ S0 0 5 ∧ S0 0 5 ≤ 8) (hw : S0 0 6 = 0 ∨ S0 0 6 = 1) (h0 : -2147483648 ≤ p0 ∧ p0 < 2147483648) : zMi l yX8_leave wsX8_leave ({ frames := 2, cells := 0, slots := 0, locals := 46 } : Room) D k [.ref (a0 0), .int (iI p0)] (wRef k a0 S0) (sp_X8_leave S0 p0) (wRef k a0 (upA (upA (upA S0 0 (sS0_0_X8_leave S0 p0)) 1 (sS0_1_X8_leave S0 p0)) 2 (sS0_2_X8_leave S0 p0))) 0 0 := by
  refine zMi_of (cc := cX8_leave) (maxL := 4) (ret := (some .int)) (by decide) rfl (Nat.le_of_ble_eq_true rfl) ?_
  intro p e s m args below meth c A ls hx hb hr hml hown hts hlocks hK hP hD hG hA hS hl
  have hown : s.vm.findClass RX8 = some m.cls := hown
  have hl : lv_has ls 4 [(0, .ref (a0 0)), (1, .int (iI p0))] := hl
  obtain ⟨H, hH⟩ : ∃ z, z = s.heap := ⟨_, rfl⟩
  obtain ⟨locs, hlc⟩ : ∃ z : List Loc, z = [] := ⟨_, rfl⟩
  rw [← hH] at hP
  have hS : va_S A s.heap H locs := by rw [hH, hlc]; exact hS
  rw [← hlc, ← hH]
  clear hlc hH
  refine lv_aload_n hx hb dX8_leave_0 rfl (lv_at hl 0 rfl) ?_
  refine lv_aload_n hx hb dX8_leave_1 rfl (lv_at hl 0 rfl) ?_
  refine lv_iload_n hx hb dX8_leave_2 rfl (lv_at hl 1 rfl) ?_
  refine z_ai0 (va_runV (As := [.int (iI p0)]) (rest := [.ref (a0 0)]) ⟨hx, hb, hml, hown, hts⟩ (c_X8_isInspector l D k a0 S0  p0 hB (by omega) _) (cwV 1 hts gX8_leave_X8_isInspector rfl rfl rfl (by decide +kernel) ⟨(Nat.le_of_ble_eq_true rfl), (Nat.le_of_ble_eq_true rfl)⟩) (z_preV hK hG hA hP hD hS [0, 1, 2, 3, 4, 5, 6, 7] rfl (by decide) 10 rfl rfl) rfl rfl hl.1 rfl (lv_room (Nat.le_of_ble_eq_true rfl)) dX8_leave_3 ⟨(Nat.le_of_ble_eq_true rfl), (Nat.le_of_ble_eq_true rfl)⟩) hA hP hD hS [0, 1, 2, 3, 4, 5, 6, 7] rfl (fun H locs hP hS => ?_)
  have f_1 := hT 9
  refine zi_if_eqB (tgt := 13) hx hb dX8_leave_6 (by decide) (fun c_2 => ?_) (fun c_2 => ?_)
  · refine lv_iconst (v := iI 1) hx hb dX8_leave_13 rfl ?_
    refine z_ai (va_runV (As := [.int (iI 1)]) (rest := []) ⟨hx, hb, hml, hown, hts⟩ (c_X8_fails l D k a0 S0  1 (by omega) _) (cwV 1 hts gX8_leave_X8_fails rfl rfl rfl (by decide +kernel) ⟨(Nat.le_of_ble_eq_true rfl), (Nat.le_of_ble_eq_true rfl)⟩) (z_preV hK hG hA hP hD hS [0, 1, 2, 3, 4, 5, 6, 7] rfl (by decide) 10 rfl rfl) rfl rfl hl.1 rfl (lv_room (Nat.le_of_ble_eq_true rfl)) dX8_leave_14 ⟨(Nat.le_of_ble_eq_true rfl), (Nat.le_of_ble_eq_true rfl)⟩) hA hP hD hS [0, 1, 2, 3, 4, 5, 6, 7] rfl rfl (fun H locs hP hD hS => ?_)
    have hP : va_P D vwCl (wRef k a0 (upA S0 0 (upZ (upZ (S0 0) 8 1) 7 0))) H := hP
    have hD : va_D A (wRef k a0 (upA S0 0 (upZ (upZ (S0 0) 8 1) 7 0))) := hD
    refine zi_if_eqB (tgt := 22) hx hb dX8_leave_17 (by decide) (fun c_3 => absurd c_3 (by decide)) (fun _ => ?_)
    refine lv_iconst (v := iI 0) hx hb dX8_leave_20 rfl ?_
    exact z_iret hx hb hr hlocks hP hS dX8_leave_21 (Eq.trans (zif_neg c_2) rfl) (Eq.trans (Eq.trans (congrArg (fun z => wRef k a0 (upA (upA (upA S0 0 z) 1 (sS0_1_X8_leave S0 p0)) 2 (sS0_2_X8_leave S0 p0))) (show sS0_0_X8_leave S0 p0 = upZ (upZ (S0 0) 8 1) 7 0 from (Eq.trans (zif_neg c_2) rfl))) (congrArg (fun z => wRef k a0 (upA (upA (upA S0 0 (upZ (upZ (S0 0) 8 1) 7 0)) 1 z) 2 (sS0_2_X8_leave S0 p0))) (show sS0_1_X8_leave S0 p0 = S0 1 from (Eq.trans (zif_neg c_2) rfl)))) (congrArg (fun z => wRef k a0 (upA (upA (upA S0 0 (upZ (upZ (S0 0) 8 1) 7 0)) 1 (S0 1)) 2 z)) (show sS0_2_X8_leave S0 p0 = S0 2 from (Eq.trans (zif_neg c_2) rfl)))) (Nat.le_refl _) (Nat.le_refl _)
  · refine lv_iconst (v := iI 0) hx hb dX8_leave_9 rfl ?_
    refine lv_goto (tgt := 14) hx hb dX8_leave_10 (by decide) ?_
    refine z_ai (va_runV (As := [.int (iI 0)]) (rest := []) ⟨hx, hb, hml, hown, hts⟩ (c_X8_fails l D k a0 S0  0 (by omega) _) (cwV 1 hts gX8_leave_X8_fails rfl rfl rfl (by decide +kernel) ⟨(Nat.le_of_ble_eq_true rfl), (Nat.le_of_ble_eq_true rfl)⟩) (z_preV hK hG hA hP hD hS [0, 1, 2, 3, 4, 5, 6, 7] rfl (by decide) 10 rfl rfl) rfl rfl hl.1 rfl (lv_room (Nat.le_of_ble_eq_true rfl)) dX8_leave_14 ⟨(Nat.le_of_ble_eq_true rfl), (Nat.le_of_ble_eq_true rfl)⟩) hA hP hD hS [0, 1, 2, 3, 4, 5, 6, 7] rfl rfl (fun H locs hP hD hS => ?_)
    have hP : va_P D vwCl (wRef k a0 (upA S0 0 (upZ (upZ (S0 0) 8 0) 7 0))) H := hP
    have hD : va_D A (wRef k a0 (upA S0 0 (upZ (upZ (S0 0) 8 0) 7 0))) := hD
    refine zi_if_eqB (tgt := 22) hx hb dX8_leave_17 (by decide) (fun _ => ?_) (fun c_4 => absurd c_4 (by decide))
    refine lv_aload_n hx hb dX8_leave_22 rfl (lv_at hl 0 rfl) ?_
    refine va_get (D := D) (ci := 10) (v := .ref (a0 1)) (C := RX8) (T := TX8) (N := 19) hx hb hts (fun w h => List.mem_cons_of_mem _ (List.mem_append_left _ (List.mem_append_right _ h))) hown hK hP 0 rfl rfl 0 (by decide) (hts (.fieldLink RX8 7 "MondayFactoryModel" "g" "[I") (List.mem_of_getElem? (i := 1) rfl)) (fun _ h9 => h9) rfl dX8_leave_23 ?_
    refine lv_bipush (v := iI 11) hx hb dX8_leave_26 (by decide) ?_
    refine lv_iload_n hx hb dX8_leave_28 rfl (lv_at hl 1 rfl) ?_
    refine zi_add hx hb dX8_leave_29 ?_
    refine z_iald hx hb hK hP 1 0 (f := S0 1) rfl rfl (i := 11 + p0) (by omega) (by omega) (by decide) ((11 + p0).toNat) rfl dX8_leave_30 ?_
    have f_5 := hT ((11 + p0).toNat)
    refine lv_istore_n (lv' := [(2, .int (iI (S0 1 ((11 + p0).toNat)))), (0, .ref (a0 0)), (1, .int (iI p0))]) hx hb dX8_leave_31 rfl hl (by decide) rfl (fun ls hl => ?_)
    refine lv_aload_n hx hb dX8_leave_32 rfl (lv_at hl 1 rfl) ?_
    refine lv_aload_n hx hb dX8_leave_33 rfl (lv_at hl 1 rfl) ?_
    refine va_get (D := D) (ci := 10) (v := .ref (a0 1)) (C := RX8) (T := TX8) (N := 19) hx hb hts (fun w h => List.mem_cons_of_mem _ (List.mem_append_left _ (List.mem_append_right _ h))) hown hK hP 0 rfl rfl 0 (by decide) (hts (.fieldLink RX8 7 "MondayFactoryModel" "g" "[I") (List.mem_of_getElem? (i := 1) rfl)) (fun _ h9 => h9) rfl dX8_leave_34 ?_
    refine z_av (va_runV (As := [.ref (a0 1)]) (rest := []) ⟨hx, hb, hml, hown, hts⟩ (c_X8_keeps l D k a0 (upA S0 0 (upZ (upZ (S0 0) 8 0) 7 0)) 0  (by omega) (by have e0 : ((upA S0 0 (upZ (upZ (S0 0) 8 0) 7 0)) 0 5) = S0 0 5 := (show (upZ (upZ (S0 0) 8 0) 7 0) 5 = S0 0 5 from (Eq.trans (upZ_n (by omega)) (Eq.trans (upZ_n (by omega)) rfl))); omega) (by have e0 : ((upA S0 0 (upZ (upZ (S0 0) 8 0) 7 0)) 0 6) = S0 0 6 := (show (upZ (upZ (S0 0) 8 0) 7 0) 6 = S0 0 6 from (Eq.trans (upZ_n (by omega)) (Eq.trans (upZ_n (by omega)) rfl))); omega) _) (cwV 1 hts gX8_leave_X8_keeps rfl rfl rfl (by decide +kernel) ⟨(Nat.le_of_ble_eq_true rfl), (Nat.le_of_ble_eq_true rfl)⟩) (z_preV hK hG hA hP hD hS [0, 1, 2, 3, 4, 5, 6, 7] rfl (by decide) 10 rfl rfl) rfl rfl hl.1 rfl (lv_room (Nat.le_of_ble_eq_true rfl)) dX8_leave_37 ⟨(Nat.le_of_ble_eq_true rfl), (Nat.le_of_ble_eq_true rfl)⟩) hA hP hD hS [0, 1, 2, 3, 4, 5, 6, 7] rfl rfl (fun H locs hP hD hS => ?_)
    have hP : va_P D vwCl (wRef k a0 (upA (upA (upA S0 0 (upZ (upZ (S0 0) 8 0) 7 0)) 0 (sS0_0_X8_keeps (upA S0 0 (upZ (upZ (S0 0) 8 0) 7 0)) 0)) 2 (sS0_2_X8_keeps (upA S0 0 (upZ (upZ (S0 0) 8 0) 7 0)) 0))) H := hP
    have hD : va_D A (wRef k a0 (upA (upA (upA S0 0 (upZ (upZ (S0 0) 8 0) 7 0)) 0 (sS0_0_X8_keeps (upA S0 0 (upZ (upZ (S0 0) 8 0) 7 0)) 0)) 2 (sS0_2_X8_keeps (upA S0 0 (upZ (upZ (S0 0) 8 0) 7 0)) 0))) := hD
    refine lv_aload_n hx hb dX8_leave_40 rfl (lv_at hl 1 rfl) ?_
    refine va_get (D := D) (ci := 10) (v := .ref (a0 1)) (C := RX8) (T := TX8) (N := 19) hx hb hts (fun w h => List.mem_cons_of_mem _ (List.mem_append_left _ (List.mem_append_right _ h))) hown hK hP 0 rfl rfl 0 (by decide) (hts (.fieldLink RX8 7 "MondayFactoryModel" "g" "[I") (List.mem_of_getElem? (i := 1) rfl)) (fun _ h9 => h9) rfl dX8_leave_41 ?_
    refine lv_bipush (v := iI 9) hx hb dX8_leave_44 (by decide) ?_
    refine lv_dup2_11 hx hb dX8_leave_46 rfl rfl ?_
    refine z_iald hx hb hK hP 1 0 (f := S0 1) rfl rfl (i := 9) (by omega) (by omega) (by decide) 9 rfl dX8_leave_47 ?_
    refine lv_iconst (v := iI 1) hx hb dX8_leave_48 rfl ?_
    refine zi_sub hx hb dX8_leave_49 ?_
    refine z_iast hx hb hK hP hD hS 1 0 (f := S0 1) rfl rfl (i := 9) (by omega) (by omega) (by decide) 9 rfl dX8_leave_50 (fun H locs hP hD hS => ?_)
    have hP : va_P D vwCl (wRef k a0 (up2 (upA (upA (upA S0 0 (upZ (upZ (S0 0) 8 0) 7 0)) 0 (sS0_0_X8_keeps (upA S0 0 (upZ (upZ (S0 0) 8 0) 7 0)) 0)) 2 (sS0_2_X8_keeps (upA S0 0 (upZ (upZ (S0 0) 8 0) 7 0)) 0)) 1 9 ((S0 1 9) - 1))) H := hP
    have hD : va_D A (wRef k a0 (up2 (upA (upA (upA S0 0 (upZ (upZ (S0 0) 8 0) 7 0)) 0 (sS0_0_X8_keeps (upA S0 0 (upZ (upZ (S0 0) 8 0) 7 0)) 0)) 2 (sS0_2_X8_keeps (upA S0 0 (upZ (upZ (S0 0) 8 0) 7 0)) 0)) 1 9 ((S0 1 9) - 1))) := hD
    refine lv_iload_n hx hb dX8_leave_51 rfl (lv_at hl 2 rfl) ?_
    refine lv_istore_n (lv' := [(3, .int (iI p0)), (2, .int (iI (S0 1 ((11 + p0).toNat)))), (0, .ref (a0 0)), (1, .int (iI p0))]) hx hb dX8_leave_52 rfl hl (by decide) rfl (fun ls hl => ?_)
    have lp53_0 : ∀ (n : Nat) (x3 : Int) (F1 : Nat → Int), (4 - x3).toNat < n → (p0 ≤ x3) → (x3 ≤ S0 1 9 - 1) → (F1 = shf (upZ (S0 1) 9 (S0 1 9 - 1)) (11 + p0).toNat (11 + x3).toNat 1) → ∀ (H : Heap) (locs : List Loc) (ls : Array Slot), va_P D vwCl (wRef k a0 (upA (up2 (upA (upA (upA S0 0 (upZ (upZ (S0 0) 8 0) 7 0)) 0 (sS0_0_X8_keeps (upA S0 0 (upZ (upZ (S0 0) 8 0) 7 0)) 0)) 2 (sS0_2_X8_keeps (upA S0 0 (upZ (upZ (S0 0) 8 0) 7 0)) 0)) 1 9 ((S0 1 9) - 1)) 1 F1)) H → va_D A (wRef k a0 (upA (up2 (upA (upA (upA S0 0 (upZ (upZ (S0 0) 8 0) 7 0)) 0 (sS0_0_X8_keeps (upA S0 0 (upZ (upZ (S0 0) 8 0) 7 0)) 0)) 2 (sS0_2_X8_keeps (upA S0 0 (upZ (upZ (S0 0) 8 0) 7 0)) 0)) 1 9 ((S0 1 9) - 1)) 1 F1)) → va_S A s.heap H locs → lv_has ls 4 [(3, .int (iI x3)), (2, .int (iI (S0 1 ((11 + p0).toNat)))), (0, .ref (a0 0)), (1, .int (iI p0))] → W p l e ({ frames := 2, cells := 0, slots := 0, locals := 46 } : Room) s m args below meth c H locs 0 0 (MQ below (zQi D A (sp_X8_leave S0 p0) (wRef k a0 (upA (upA (upA S0 0 (sS0_0_X8_leave S0 p0)) 1 (sS0_1_X8_leave S0 p0)) 2 (sS0_2_X8_leave S0 p0)))) args s 0 0 A) (F0 m 53 ls []) := by
      intro n53
      induction n53 with
      | zero => intro x3 F1 hm; exact absurd hm (Nat.not_lt_zero _)
      | succ n53 ih53 =>
        intro x3 F1 hm53 i0 i1 iF  H locs ls hP hD hS hl
        have g0 : F1 9 = S0 1 9 - 1 := by rw [iF, shf_out (by omega)]; exact upZ_s
        refine lv_iload_n hx hb dX8_leave_53 rfl (lv_at hl 0 rfl) ?_
        refine lv_aload_n hx hb dX8_leave_54 rfl (lv_at hl 2 rfl) ?_
        refine va_get (D := D) (ci := 10) (v := .ref (a0 1)) (C := RX8) (T := TX8) (N := 19) hx hb hts (fun w h => List.mem_cons_of_mem _ (List.mem_append_left _ (List.mem_append_right _ h))) hown hK hP 0 rfl rfl 0 (by decide) (hts (.fieldLink RX8 7 "MondayFactoryModel" "g" "[I") (List.mem_of_getElem? (i := 1) rfl)) (fun _ h9 => h9) rfl dX8_leave_55 ?_
        refine lv_bipush (v := iI 9) hx hb dX8_leave_58 (by decide) ?_
        refine z_iald hx hb hK hP 1 0 (f := F1) rfl rfl (i := 9) (by omega) (by omega) (by decide) 9 rfl dX8_leave_60 ?_
        refine zi_icmp_ge (tgt := 90) hx hb dX8_leave_61 (by decide) ⟨by omega, by omega⟩ ⟨by omega, by omega⟩ (fun c_6 => ?_) (fun c_6 => ?_)
        · have v_7 : F1 = shf (upZ (S0 1) 9 (S0 1 9 - 1)) (11 + p0).toNat (11 + (S0 1 9 - 1)).toNat 1 := (by rw [iF, show x3 = S0 1 9 - 1 by omega])
          rw [v_7] at hP hD
          have v_8 : x3 = S0 1 9 - 1 := (by omega)
          rw [v_8] at hl
          have g2 : shf (upZ (S0 1) 9 (S0 1 9 - 1)) (11 + p0).toNat (11 + (S0 1 9 - 1)).toNat 1 9 = S0 1 9 - 1 := by rw [shf_out (by omega)]; exact upZ_s
          refine lv_aload_n hx hb dX8_leave_90 rfl (lv_at hl 2 rfl) ?_
          refine va_get (D := D) (ci := 10) (v := .ref (a0 1)) (C := RX8) (T := TX8) (N := 19) hx hb hts (fun w h => List.mem_cons_of_mem _ (List.mem_append_left _ (List.mem_append_right _ h))) hown hK hP 0 rfl rfl 0 (by decide) (hts (.fieldLink RX8 7 "MondayFactoryModel" "g" "[I") (List.mem_of_getElem? (i := 1) rfl)) (fun _ h9 => h9) rfl dX8_leave_91 ?_
          refine lv_bipush (v := iI 11) hx hb dX8_leave_94 (by decide) ?_
          refine lv_aload_n hx hb dX8_leave_96 rfl (lv_at hl 2 rfl) ?_
          refine va_get (D := D) (ci := 10) (v := .ref (a0 1)) (C := RX8) (T := TX8) (N := 19) hx hb hts (fun w h => List.mem_cons_of_mem _ (List.mem_append_left _ (List.mem_append_right _ h))) hown hK hP 0 rfl rfl 0 (by decide) (hts (.fieldLink RX8 7 "MondayFactoryModel" "g" "[I") (List.mem_of_getElem? (i := 1) rfl)) (fun _ h9 => h9) rfl dX8_leave_97 ?_
          refine lv_bipush (v := iI 9) hx hb dX8_leave_100 (by decide) ?_
          refine z_iald hx hb hK hP 1 0 (f := shf (upZ (S0 1) 9 (S0 1 9 - 1)) (11 + p0).toNat (11 + (S0 1 9 - 1)).toNat 1) rfl rfl (i := 9) (by omega) (by omega) (by decide) 9 rfl dX8_leave_102 ?_
          refine zi_add hx hb dX8_leave_103 ?_
          refine lv_iconst (v := iI 0) hx hb dX8_leave_104 rfl ?_
          refine z_iast hx hb hK hP hD hS 1 0 (f := shf (upZ (S0 1) 9 (S0 1 9 - 1)) (11 + p0).toNat (11 + (S0 1 9 - 1)).toNat 1) rfl rfl (i := 11 + ((shf (upZ (S0 1) 9 (S0 1 9 - 1)) (11 + p0).toNat (11 + (S0 1 9 - 1)).toNat 1) 9)) (by omega) (by omega) (by decide) ((11 + ((shf (upZ (S0 1) 9 (S0 1 9 - 1)) (11 + p0).toNat (11 + (S0 1 9 - 1)).toNat 1) 9)).toNat) rfl dX8_leave_105 (fun H locs hP hD hS => ?_)
          have hP : va_P D vwCl (wRef k a0 (up2 (upA (up2 (upA (upA (upA S0 0 (upZ (upZ (S0 0) 8 0) 7 0)) 0 (sS0_0_X8_keeps (upA S0 0 (upZ (upZ (S0 0) 8 0) 7 0)) 0)) 2 (sS0_2_X8_keeps (upA S0 0 (upZ (upZ (S0 0) 8 0) 7 0)) 0)) 1 9 ((S0 1 9) - 1)) 1 (shf (upZ (S0 1) 9 (S0 1 9 - 1)) (11 + p0).toNat (11 + (S0 1 9 - 1)).toNat 1)) 1 ((11 + ((shf (upZ (S0 1) 9 (S0 1 9 - 1)) (11 + p0).toNat (11 + (S0 1 9 - 1)).toNat 1) 9)).toNat) 0)) H := hP
          have hD : va_D A (wRef k a0 (up2 (upA (up2 (upA (upA (upA S0 0 (upZ (upZ (S0 0) 8 0) 7 0)) 0 (sS0_0_X8_keeps (upA S0 0 (upZ (upZ (S0 0) 8 0) 7 0)) 0)) 2 (sS0_2_X8_keeps (upA S0 0 (upZ (upZ (S0 0) 8 0) 7 0)) 0)) 1 9 ((S0 1 9) - 1)) 1 (shf (upZ (S0 1) 9 (S0 1 9 - 1)) (11 + p0).toNat (11 + (S0 1 9 - 1)).toNat 1)) 1 ((11 + ((shf (upZ (S0 1) 9 (S0 1 9 - 1)) (11 + p0).toNat (11 + (S0 1 9 - 1)).toNat 1) 9)).toNat) 0)) := hD
          refine lv_iload_n hx hb dX8_leave_106 rfl (lv_at hl 1 rfl) ?_
          exact z_iret hx hb hr hlocks hP hS dX8_leave_107 (Eq.trans (zif_pos c_2) rfl) (Eq.trans (Eq.trans (congrArg (fun z => wRef k a0 (upA (upA (upA S0 0 z) 1 (sS0_1_X8_leave S0 p0)) 2 (sS0_2_X8_leave S0 p0))) (show sS0_0_X8_leave S0 p0 = sS0_0_X8_keeps (upA S0 0 (upZ (upZ (S0 0) 8 0) 7 0)) 0 from (Eq.trans (zif_pos c_2) rfl))) (congrArg (fun z => wRef k a0 (upA (upA (upA S0 0 (sS0_0_X8_keeps (upA S0 0 (upZ (upZ (S0 0) 8 0) 7 0)) 0)) 1 z) 2 (sS0_2_X8_leave S0 p0))) (show sS0_1_X8_leave S0 p0 = upZ (shf (upZ (S0 1) 9 (S0 1 9 - 1)) (11 + p0).toNat (11 + (S0 1 9 - 1)).toNat 1) ((11 + ((shf (upZ (S0 1) 9 (S0 1 9 - 1)) (11 + p0).toNat (11 + (S0 1 9 - 1)).toNat 1) 9)).toNat) 0 from (Eq.trans (zif_pos c_2) rfl)))) (congrArg (fun z => wRef k a0 (upA (upA (upA S0 0 (sS0_0_X8_keeps (upA S0 0 (upZ (upZ (S0 0) 8 0) 7 0)) 0)) 1 (upZ (shf (upZ (S0 1) 9 (S0 1 9 - 1)) (11 + p0).toNat (11 + (S0 1 9 - 1)).toNat 1) ((11 + ((shf (upZ (S0 1) 9 (S0 1 9 - 1)) (11 + p0).toNat (11 + (S0 1 9 - 1)).toNat 1) 9)).toNat) 0)) 2 z)) (show sS0_2_X8_leave S0 p0 = sS0_2_X8_keeps (upA S0 0 (upZ (upZ (S0 0) 8 0) 7 0)) 0 from (Eq.trans (zif_pos c_2) rfl)))) (Nat.le_refl _) (Nat.le_refl _)
        · refine lv_aload_n hx hb dX8_leave_64 rfl (lv_at hl 2 rfl) ?_
          refine va_get (D := D) (ci := 10) (v := .ref (a0 1)) (C := RX8) (T := TX8) (N := 19) hx hb hts (fun w h => List.mem_cons_of_mem _ (List.mem_append_left _ (List.mem_append_right _ h))) hown hK hP 0 rfl rfl 0 (by decide) (hts (.fieldLink RX8 7 "MondayFactoryModel" "g" "[I") (List.mem_of_getElem? (i := 1) rfl)) (fun _ h9 => h9) rfl dX8_leave_65 ?_
          refine lv_bipush (v := iI 11) hx hb dX8_leave_68 (by decide) ?_
          refine lv_iload_n hx hb dX8_leave_70 rfl (lv_at hl 0 rfl) ?_
          refine zi_add hx hb dX8_leave_71 ?_
          refine lv_aload_n hx hb dX8_leave_72 rfl (lv_at hl 2 rfl) ?_
          refine va_get (D := D) (ci := 10) (v := .ref (a0 1)) (C := RX8) (T := TX8) (N := 19) hx hb hts (fun w h => List.mem_cons_of_mem _ (List.mem_append_left _ (List.mem_append_right _ h))) hown hK hP 0 rfl rfl 0 (by decide) (hts (.fieldLink RX8 7 "MondayFactoryModel" "g" "[I") (List.mem_of_getElem? (i := 1) rfl)) (fun _ h9 => h9) rfl dX8_leave_73 ?_
          refine lv_bipush (v := iI 11) hx hb dX8_leave_76 (by decide) ?_
          refine lv_iload_n hx hb dX8_leave_78 rfl (lv_at hl 0 rfl) ?_
          refine zi_add hx hb dX8_leave_79 ?_
          refine lv_iconst (v := iI 1) hx hb dX8_leave_80 rfl ?_
          refine zi_add hx hb dX8_leave_81 ?_
          refine z_iald hx hb hK hP 1 0 (f := F1) rfl rfl (i := (11 + x3) + 1) (by omega) (by omega) (by decide) (((11 + x3) + 1).toNat) rfl dX8_leave_82 ?_
          refine z_iast hx hb hK hP hD hS 1 0 (f := F1) rfl rfl (i := 11 + x3) (by omega) (by omega) (by decide) ((11 + x3).toNat) rfl dX8_leave_83 (fun H locs hP hD hS => ?_)
          have hP : va_P D vwCl (wRef k a0 (up2 (upA (up2 (upA (upA (upA S0 0 (upZ (upZ (S0 0) 8 0) 7 0)) 0 (sS0_0_X8_keeps (upA S0 0 (upZ (upZ (S0 0) 8 0) 7 0)) 0)) 2 (sS0_2_X8_keeps (upA S0 0 (upZ (upZ (S0 0) 8 0) 7 0)) 0)) 1 9 ((S0 1 9) - 1)) 1 F1) 1 ((11 + x3).toNat) (F1 (((11 + x3) + 1).toNat)))) H := hP
          have hD : va_D A (wRef k a0 (up2 (upA (up2 (upA (upA (upA S0 0 (upZ (upZ (S0 0) 8 0) 7 0)) 0 (sS0_0_X8_keeps (upA S0 0 (upZ (upZ (S0 0) 8 0) 7 0)) 0)) 2 (sS0_2_X8_keeps (upA S0 0 (upZ (upZ (S0 0) 8 0) 7 0)) 0)) 1 9 ((S0 1 9) - 1)) 1 F1) 1 ((11 + x3).toNat) (F1 (((11 + x3) + 1).toNat)))) := hD
          refine lv_iinc (v := iI (x3 + 1)) (lv' := [(3, .int (iI (x3 + 1))), (2, .int (iI (S0 1 ((11 + p0).toNat)))), (0, .ref (a0 0)), (1, .int (iI p0))]) hx hb dX8_leave_84 hl (k := 0) rfl (iI_add _ _) (by decide) rfl (fun ls hl => ?_)
          refine lv_goto (tgt := 53) hx hb dX8_leave_87 (by decide) ?_
          exact ih53 (x3 + 1) (upZ F1 ((11 + x3).toNat) (F1 (((11 + x3) + 1).toNat))) (by omega) (by omega) (by omega) (by rw [iF]; exact leave_s (by omega) (by omega))  H locs ls hP hD hS (lv_sub hl [0, 1, 2, 3] rfl)
    exact lp53_0 5 p0 (upZ (S0 1) 9 ((S0 1 9) - 1)) (by omega) (by omega) (by omega) (shf_0 (by omega)).symm  H locs ls hP hD hS (lv_sub hl [0, 1, 2, 3] rfl)
noncomputable def sp_X8_sell (S0 : Nat → Nat → Int) (p0 : Int) : Int := zif (0 ≤ p0 ∧ p0 < S0 1 10)
  (rWorth (S0 1) p0 (S0 1 7))
  (0)
noncomputable def sS0_0_X8_sell (S0 : Nat → Nat → Int) (p0 : Int) : (Nat → Int) := zif (0 ≤ p0 ∧ p0 < S0 1 10)
  (sS0_0_X8_keeps (upA S0 0 (upZ (upZ (S0 0) 8 0) 7 0)) 0)
  (upZ (upZ (S0 0) 8 1) 7 0)
noncomputable def sS0_1_X8_sell (S0 : Nat → Nat → Int) (p0 : Int) : (Nat → Int) := zif (0 ≤ p0 ∧ p0 < S0 1 10)
  (upZ (upZ (upZ (rOff (S0 1) p0) 0 ((S0 1 0) + (rWorth (S0 1) p0 (S0 1 7)))) 6 ((S0 1 6) + 1)) 7 ((S0 1 7) + 1))
  (S0 1)
noncomputable def sS0_2_X8_sell (S0 : Nat → Nat → Int) (p0 : Int) : (Nat → Int) := zif (0 ≤ p0 ∧ p0 < S0 1 10)
  (sS0_2_X8_keeps (upA S0 0 (upZ (upZ (S0 0) 8 0) 7 0)) 0)
  (S0 2)
set_option maxHeartbeats 4000000 in
set_option maxRecDepth 100000 in
theorem c_X8_sell (l : Launch) (D : va_G) (k : Nat → ClassId) (a0 : Nat → Nat) (S0 : Nat → Nat → Int) (p0 : Int) (hB : zBf (S0 1)) (hT : zBt (S0 1)) (hB0 : zBf (S0 0)) (hC : ∀ b : Int, 0 ≤ b → b ≤ 2 → 0 ≤ S0 1 (15 + 26 * b + 0).toNat ∧ S0 1 (15 + 26 * b + 0).toNat ≤ 5) (hI : 0 ≤ S0 1 9 ∧ S0 1 9 ≤ 4) (hF : 0 ≤ S0 1 10 ∧ S0 1 10 ≤ 8) (hch : 0 ≤ S0 0 5 ∧ S0 0 5 ≤ 8) (hw : S0 0 6 = 0 ∨ S0 0 6 = 1) (h0 : -2147483648 ≤ p0 ∧ p0 < 2147483648) : zMi l yX8_sell wsX8_sell ({ frames := 2, cells := 0, slots := 0, locals := 46 } : Room) D k [.ref (a0 0), .int (iI p0)] (wRef k a0 S0) (sp_X8_sell S0 p0) (wRef k a0 (upA (upA (upA S0 0 (sS0_0_X8_sell S0 p0)) 1 (sS0_1_X8_sell S0 p0)) 2 (sS0_2_X8_sell S0 p0))) 0 0 := by
  refine zMi_of (cc := cX8_sell) (maxL := 3) (ret := (some .int)) (by decide) rfl (Nat.le_of_ble_eq_true rfl) ?_
  intro p e s m args below meth c A ls hx hb hr hml hown hts hlocks hK hP hD hG hA hS hl
  have hown : s.vm.findClass RX8 = some m.cls := hown
  have hl : lv_has ls 3 [(0, .ref (a0 0)), (1, .int (iI p0))] := hl
  obtain ⟨H, hH⟩ : ∃ z, z = s.heap := ⟨_, rfl⟩
  obtain ⟨locs, hlc⟩ : ∃ z : List Loc, z = [] := ⟨_, rfl⟩
  rw [← hH] at hP
  have hS : va_S A s.heap H locs := by rw [hH, hlc]; exact hS
  rw [← hlc, ← hH]
  clear hlc hH
  refine lv_aload_n hx hb dX8_sell_0 rfl (lv_at hl 0 rfl) ?_
  refine lv_aload_n hx hb dX8_sell_1 rfl (lv_at hl 0 rfl) ?_
  refine lv_iload_n hx hb dX8_sell_2 rfl (lv_at hl 1 rfl) ?_
  refine z_ai0 (va_runV (As := [.int (iI p0)]) (rest := [.ref (a0 0)]) ⟨hx, hb, hml, hown, hts⟩ (c_X8_isReject l D k a0 S0  p0 hB (by omega) _) (cwV 1 hts gX8_sell_X8_isReject rfl rfl rfl (by decide +kernel) ⟨(Nat.le_of_ble_eq_true rfl), (Nat.le_of_ble_eq_true rfl)⟩) (z_preV hK hG hA hP hD hS [0, 1, 2, 3, 4, 5, 6, 7] rfl (by decide) 10 rfl rfl) rfl rfl hl.1 rfl (lv_room (Nat.le_of_ble_eq_true rfl)) dX8_sell_3 ⟨(Nat.le_of_ble_eq_true rfl), (Nat.le_of_ble_eq_true rfl)⟩) hA hP hD hS [0, 1, 2, 3, 4, 5, 6, 7] rfl (fun H locs hP hS => ?_)
  have f_1 := hT 10
  refine zi_if_eqB (tgt := 13) hx hb dX8_sell_6 (by decide) (fun c_2 => ?_) (fun c_2 => ?_)
  · refine lv_iconst (v := iI 1) hx hb dX8_sell_13 rfl ?_
    refine z_ai (va_runV (As := [.int (iI 1)]) (rest := []) ⟨hx, hb, hml, hown, hts⟩ (c_X8_fails l D k a0 S0  1 (by omega) _) (cwV 1 hts gX8_sell_X8_fails rfl rfl rfl (by decide +kernel) ⟨(Nat.le_of_ble_eq_true rfl), (Nat.le_of_ble_eq_true rfl)⟩) (z_preV hK hG hA hP hD hS [0, 1, 2, 3, 4, 5, 6, 7] rfl (by decide) 10 rfl rfl) rfl rfl hl.1 rfl (lv_room (Nat.le_of_ble_eq_true rfl)) dX8_sell_14 ⟨(Nat.le_of_ble_eq_true rfl), (Nat.le_of_ble_eq_true rfl)⟩) hA hP hD hS [0, 1, 2, 3, 4, 5, 6, 7] rfl rfl (fun H locs hP hD hS => ?_)
    have hP : va_P D vwCl (wRef k a0 (upA S0 0 (upZ (upZ (S0 0) 8 1) 7 0))) H := hP
    have hD : va_D A (wRef k a0 (upA S0 0 (upZ (upZ (S0 0) 8 1) 7 0))) := hD
    refine zi_if_eqB (tgt := 22) hx hb dX8_sell_17 (by decide) (fun c_3 => absurd c_3 (by decide)) (fun _ => ?_)
    refine lv_iconst (v := iI 0) hx hb dX8_sell_20 rfl ?_
    exact z_iret hx hb hr hlocks hP hS dX8_sell_21 (Eq.trans (zif_neg c_2) rfl) (Eq.trans (Eq.trans (congrArg (fun z => wRef k a0 (upA (upA (upA S0 0 z) 1 (sS0_1_X8_sell S0 p0)) 2 (sS0_2_X8_sell S0 p0))) (show sS0_0_X8_sell S0 p0 = upZ (upZ (S0 0) 8 1) 7 0 from (Eq.trans (zif_neg c_2) rfl))) (congrArg (fun z => wRef k a0 (upA (upA (upA S0 0 (upZ (upZ (S0 0) 8 1) 7 0)) 1 z) 2 (sS0_2_X8_sell S0 p0))) (show sS0_1_X8_sell S0 p0 = S0 1 from (Eq.trans (zif_neg c_2) rfl)))) (congrArg (fun z => wRef k a0 (upA (upA (upA S0 0 (upZ (upZ (S0 0) 8 1) 7 0)) 1 (S0 1)) 2 z)) (show sS0_2_X8_sell S0 p0 = S0 2 from (Eq.trans (zif_neg c_2) rfl)))) (Nat.le_refl _) (Nat.le_refl _)
  · refine lv_iconst (v := iI 0) hx hb dX8_sell_9 rfl ?_
    refine lv_goto (tgt := 14) hx hb dX8_sell_10 (by decide) ?_
    refine z_ai (va_runV (As := [.int (iI 0)]) (rest := []) ⟨hx, hb, hml, hown, hts⟩ (c_X8_fails l D k a0 S0  0 (by omega) _) (cwV 1 hts gX8_sell_X8_fails rfl rfl rfl (by decide +kernel) ⟨(Nat.le_of_ble_eq_true rfl), (Nat.le_of_ble_eq_true rfl)⟩) (z_preV hK hG hA hP hD hS [0, 1, 2, 3, 4, 5, 6, 7] rfl (by decide) 10 rfl rfl) rfl rfl hl.1 rfl (lv_room (Nat.le_of_ble_eq_true rfl)) dX8_sell_14 ⟨(Nat.le_of_ble_eq_true rfl), (Nat.le_of_ble_eq_true rfl)⟩) hA hP hD hS [0, 1, 2, 3, 4, 5, 6, 7] rfl rfl (fun H locs hP hD hS => ?_)
    have hP : va_P D vwCl (wRef k a0 (upA S0 0 (upZ (upZ (S0 0) 8 0) 7 0))) H := hP
    have hD : va_D A (wRef k a0 (upA S0 0 (upZ (upZ (S0 0) 8 0) 7 0))) := hD
    refine zi_if_eqB (tgt := 22) hx hb dX8_sell_17 (by decide) (fun _ => ?_) (fun c_4 => absurd c_4 (by decide))
    refine lv_aload_n hx hb dX8_sell_22 rfl (lv_at hl 0 rfl) ?_
    refine lv_aload_n hx hb dX8_sell_23 rfl (lv_at hl 0 rfl) ?_
    refine va_get (D := D) (ci := 10) (v := .ref (a0 1)) (C := RX8) (T := TX8) (N := 19) hx hb hts (fun w h => List.mem_cons_of_mem _ (List.mem_append_left _ (List.mem_append_right _ h))) hown hK hP 0 rfl rfl 0 (by decide) (hts (.fieldLink RX8 7 "MondayFactoryModel" "g" "[I") (List.mem_of_getElem? (i := 1) rfl)) (fun _ h9 => h9) rfl dX8_sell_24 ?_
    refine z_av (va_runV (As := [.ref (a0 1)]) (rest := []) ⟨hx, hb, hml, hown, hts⟩ (c_X8_keeps l D k a0 (upA S0 0 (upZ (upZ (S0 0) 8 0) 7 0)) 0  (by omega) (by have e0 : ((upA S0 0 (upZ (upZ (S0 0) 8 0) 7 0)) 0 5) = S0 0 5 := (show (upZ (upZ (S0 0) 8 0) 7 0) 5 = S0 0 5 from (Eq.trans (upZ_n (by omega)) (Eq.trans (upZ_n (by omega)) rfl))); omega) (by have e0 : ((upA S0 0 (upZ (upZ (S0 0) 8 0) 7 0)) 0 6) = S0 0 6 := (show (upZ (upZ (S0 0) 8 0) 7 0) 6 = S0 0 6 from (Eq.trans (upZ_n (by omega)) (Eq.trans (upZ_n (by omega)) rfl))); omega) _) (cwV 1 hts gX8_sell_X8_keeps rfl rfl rfl (by decide +kernel) ⟨(Nat.le_of_ble_eq_true rfl), (Nat.le_of_ble_eq_true rfl)⟩) (z_preV hK hG hA hP hD hS [0, 1, 2, 3, 4, 5, 6, 7] rfl (by decide) 10 rfl rfl) rfl rfl hl.1 rfl (lv_room (Nat.le_of_ble_eq_true rfl)) dX8_sell_27 ⟨(Nat.le_of_ble_eq_true rfl), (Nat.le_of_ble_eq_true rfl)⟩) hA hP hD hS [0, 1, 2, 3, 4, 5, 6, 7] rfl rfl (fun H locs hP hD hS => ?_)
    have hP : va_P D vwCl (wRef k a0 (upA (upA (upA S0 0 (upZ (upZ (S0 0) 8 0) 7 0)) 0 (sS0_0_X8_keeps (upA S0 0 (upZ (upZ (S0 0) 8 0) 7 0)) 0)) 2 (sS0_2_X8_keeps (upA S0 0 (upZ (upZ (S0 0) 8 0) 7 0)) 0))) H := hP
    have hD : va_D A (wRef k a0 (upA (upA (upA S0 0 (upZ (upZ (S0 0) 8 0) 7 0)) 0 (sS0_0_X8_keeps (upA S0 0 (upZ (upZ (S0 0) 8 0) 7 0)) 0)) 2 (sS0_2_X8_keeps (upA S0 0 (upZ (upZ (S0 0) 8 0) 7 0)) 0))) := hD
    refine lv_aload_n hx hb dX8_sell_30 rfl (lv_at hl 0 rfl) ?_
    refine lv_iload_n hx hb dX8_sell_31 rfl (lv_at hl 1 rfl) ?_
    refine lv_aload_n hx hb dX8_sell_32 rfl (lv_at hl 0 rfl) ?_
    refine va_get (D := D) (ci := 10) (v := .ref (a0 1)) (C := RX8) (T := TX8) (N := 19) hx hb hts (fun w h => List.mem_cons_of_mem _ (List.mem_append_left _ (List.mem_append_right _ h))) hown hK hP 0 rfl rfl 0 (by decide) (hts (.fieldLink RX8 7 "MondayFactoryModel" "g" "[I") (List.mem_of_getElem? (i := 1) rfl)) (fun _ h9 => h9) rfl dX8_sell_33 ?_
    refine lv_bipush (v := iI 7) hx hb dX8_sell_36 (by decide) ?_
    refine z_iald hx hb hK hP 1 0 (f := S0 1) rfl rfl (i := 7) (by omega) (by omega) (by decide) 7 rfl dX8_sell_38 ?_
    have f_5 := hT 7
    refine z_ai0 (va_runV (As := [.int (iI p0), .int (iI (S0 1 7))]) (rest := []) ⟨hx, hb, hml, hown, hts⟩ (c_X8_worth l D k a0 (upA (upA (upA S0 0 (upZ (upZ (S0 0) 8 0) 7 0)) 0 (sS0_0_X8_keeps (upA S0 0 (upZ (upZ (S0 0) 8 0) 7 0)) 0)) 2 (sS0_2_X8_keeps (upA S0 0 (upZ (upZ (S0 0) 8 0) 7 0)) 0))  p0 (S0 1 7) hB (by omega) (by omega) _) (cwV 2 hts gX8_sell_X8_worth rfl rfl rfl (by decide +kernel) ⟨(Nat.le_of_ble_eq_true rfl), (Nat.le_of_ble_eq_true rfl)⟩) (z_preV hK hG hA hP hD hS [0, 1, 2, 3, 4, 5, 6, 7] rfl (by decide) 10 rfl rfl) rfl rfl hl.1 rfl (lv_room (Nat.le_of_ble_eq_true rfl)) dX8_sell_39 ⟨(Nat.le_of_ble_eq_true rfl), (Nat.le_of_ble_eq_true rfl)⟩) hA hP hD hS [0, 1, 2, 3, 4, 5, 6, 7] rfl (fun H locs hP hS => ?_)
    refine z_eqi (z2 := rWorth (S0 1) p0 (S0 1 7)) rfl ?_
    have q_6 : 1 ≤ rWorth (S0 1) p0 (S0 1 7) ∧ rWorth (S0 1) p0 (S0 1 7) ≤ 1003000000 := rWorth_rng (G := S0 1) hB (by omega)
    refine lv_istore_n (lv' := [(2, .int (iI (rWorth (S0 1) p0 (S0 1 7)))), (0, .ref (a0 0)), (1, .int (iI p0))]) hx hb dX8_sell_42 rfl hl (by decide) rfl (fun ls hl => ?_)
    refine lv_aload_n hx hb dX8_sell_43 rfl (lv_at hl 1 rfl) ?_
    refine lv_iload_n hx hb dX8_sell_44 rfl (lv_at hl 2 rfl) ?_
    refine z_av (va_runV (As := [.int (iI p0)]) (rest := []) ⟨hx, hb, hml, hown, hts⟩ (c_X8_leavesShelf l D k a0 (upA (upA (upA S0 0 (upZ (upZ (S0 0) 8 0) 7 0)) 0 (sS0_0_X8_keeps (upA S0 0 (upZ (upZ (S0 0) 8 0) 7 0)) 0)) 2 (sS0_2_X8_keeps (upA S0 0 (upZ (upZ (S0 0) 8 0) 7 0)) 0))  p0 hB (by have e0 : ((upA (upA (upA S0 0 (upZ (upZ (S0 0) 8 0) 7 0)) 0 (sS0_0_X8_keeps (upA S0 0 (upZ (upZ (S0 0) 8 0) 7 0)) 0)) 2 (sS0_2_X8_keeps (upA S0 0 (upZ (upZ (S0 0) 8 0) 7 0)) 0)) 1 10) = S0 1 10 := rfl; omega) _) (cwV 1 hts gX8_sell_X8_leavesShelf rfl rfl rfl (by decide +kernel) ⟨(Nat.le_of_ble_eq_true rfl), (Nat.le_of_ble_eq_true rfl)⟩) (z_preV hK hG hA hP hD hS [0, 1, 2, 3, 4, 5, 6, 7] rfl (by decide) 10 rfl rfl) rfl rfl hl.1 rfl (lv_room (Nat.le_of_ble_eq_true rfl)) dX8_sell_45 ⟨(Nat.le_of_ble_eq_true rfl), (Nat.le_of_ble_eq_true rfl)⟩) hA hP hD hS [0, 1, 2, 3, 4, 5, 6, 7] rfl rfl (fun H locs hP hD hS => ?_)
    have hP : va_P D vwCl (wRef k a0 (upA (upA (upA (upA S0 0 (upZ (upZ (S0 0) 8 0) 7 0)) 0 (sS0_0_X8_keeps (upA S0 0 (upZ (upZ (S0 0) 8 0) 7 0)) 0)) 2 (sS0_2_X8_keeps (upA S0 0 (upZ (upZ (S0 0) 8 0) 7 0)) 0)) 1 (rOff (S0 1) p0))) H := hP
    have hD : va_D A (wRef k a0 (upA (upA (upA (upA S0 0 (upZ (upZ (S0 0) 8 0) 7 0)) 0 (sS0_0_X8_keeps (upA S0 0 (upZ (upZ (S0 0) 8 0) 7 0)) 0)) 2 (sS0_2_X8_keeps (upA S0 0 (upZ (upZ (S0 0) 8 0) 7 0)) 0)) 1 (rOff (S0 1) p0))) := hD
    refine lv_aload_n hx hb dX8_sell_48 rfl (lv_at hl 1 rfl) ?_
    refine va_get (D := D) (ci := 10) (v := .ref (a0 1)) (C := RX8) (T := TX8) (N := 19) hx hb hts (fun w h => List.mem_cons_of_mem _ (List.mem_append_left _ (List.mem_append_right _ h))) hown hK hP 0 rfl rfl 0 (by decide) (hts (.fieldLink RX8 7 "MondayFactoryModel" "g" "[I") (List.mem_of_getElem? (i := 1) rfl)) (fun _ h9 => h9) rfl dX8_sell_49 ?_
    refine lv_iconst (v := iI 0) hx hb dX8_sell_52 rfl ?_
    refine lv_dup2_11 hx hb dX8_sell_53 rfl rfl ?_
    refine z_iald hx hb hK hP 1 0 (f := rOff (S0 1) p0) rfl rfl (i := 0) (by omega) (by omega) (by decide) 0 rfl dX8_sell_54 ?_
    refine z_eqi (z2 := S0 1 0) (show (rOff (S0 1) p0) 0 = S0 1 0 from (Eq.trans (rOff_n (by omega) (by omega) (by omega)) rfl)) ?_
    have f_7 := hT 0
    refine lv_iload_n hx hb dX8_sell_55 rfl (lv_at hl 0 rfl) ?_
    refine zi_add hx hb dX8_sell_56 ?_
    refine z_iast hx hb hK hP hD hS 1 0 (f := rOff (S0 1) p0) rfl rfl (i := 0) (by omega) (by omega) (by decide) 0 rfl dX8_sell_57 (fun H locs hP hD hS => ?_)
    have hP : va_P D vwCl (wRef k a0 (up2 (upA (upA (upA (upA S0 0 (upZ (upZ (S0 0) 8 0) 7 0)) 0 (sS0_0_X8_keeps (upA S0 0 (upZ (upZ (S0 0) 8 0) 7 0)) 0)) 2 (sS0_2_X8_keeps (upA S0 0 (upZ (upZ (S0 0) 8 0) 7 0)) 0)) 1 (rOff (S0 1) p0)) 1 0 ((S0 1 0) + (rWorth (S0 1) p0 (S0 1 7))))) H := hP
    have hD : va_D A (wRef k a0 (up2 (upA (upA (upA (upA S0 0 (upZ (upZ (S0 0) 8 0) 7 0)) 0 (sS0_0_X8_keeps (upA S0 0 (upZ (upZ (S0 0) 8 0) 7 0)) 0)) 2 (sS0_2_X8_keeps (upA S0 0 (upZ (upZ (S0 0) 8 0) 7 0)) 0)) 1 (rOff (S0 1) p0)) 1 0 ((S0 1 0) + (rWorth (S0 1) p0 (S0 1 7))))) := hD
    refine lv_aload_n hx hb dX8_sell_58 rfl (lv_at hl 1 rfl) ?_
    refine va_get (D := D) (ci := 10) (v := .ref (a0 1)) (C := RX8) (T := TX8) (N := 19) hx hb hts (fun w h => List.mem_cons_of_mem _ (List.mem_append_left _ (List.mem_append_right _ h))) hown hK hP 0 rfl rfl 0 (by decide) (hts (.fieldLink RX8 7 "MondayFactoryModel" "g" "[I") (List.mem_of_getElem? (i := 1) rfl)) (fun _ h9 => h9) rfl dX8_sell_59 ?_
    refine lv_bipush (v := iI 6) hx hb dX8_sell_62 (by decide) ?_
    refine lv_dup2_11 hx hb dX8_sell_64 rfl rfl ?_
    refine z_iald hx hb hK hP 1 0 (f := upZ (rOff (S0 1) p0) 0 ((S0 1 0) + (rWorth (S0 1) p0 (S0 1 7)))) rfl rfl (i := 6) (by omega) (by omega) (by decide) 6 rfl dX8_sell_65 ?_
    refine z_eqi (z2 := S0 1 6) (show (upZ (rOff (S0 1) p0) 0 ((S0 1 0) + (rWorth (S0 1) p0 (S0 1 7)))) 6 = S0 1 6 from (Eq.trans (upZ_n (by omega)) (Eq.trans (rOff_n (by omega) (by omega) (by omega)) rfl))) ?_
    have f_8 := hT 6
    refine lv_iconst (v := iI 1) hx hb dX8_sell_66 rfl ?_
    refine zi_add hx hb dX8_sell_67 ?_
    refine z_iast hx hb hK hP hD hS 1 0 (f := upZ (rOff (S0 1) p0) 0 ((S0 1 0) + (rWorth (S0 1) p0 (S0 1 7)))) rfl rfl (i := 6) (by omega) (by omega) (by decide) 6 rfl dX8_sell_68 (fun H locs hP hD hS => ?_)
    have hP : va_P D vwCl (wRef k a0 (up2 (up2 (upA (upA (upA (upA S0 0 (upZ (upZ (S0 0) 8 0) 7 0)) 0 (sS0_0_X8_keeps (upA S0 0 (upZ (upZ (S0 0) 8 0) 7 0)) 0)) 2 (sS0_2_X8_keeps (upA S0 0 (upZ (upZ (S0 0) 8 0) 7 0)) 0)) 1 (rOff (S0 1) p0)) 1 0 ((S0 1 0) + (rWorth (S0 1) p0 (S0 1 7)))) 1 6 ((S0 1 6) + 1))) H := hP
    have hD : va_D A (wRef k a0 (up2 (up2 (upA (upA (upA (upA S0 0 (upZ (upZ (S0 0) 8 0) 7 0)) 0 (sS0_0_X8_keeps (upA S0 0 (upZ (upZ (S0 0) 8 0) 7 0)) 0)) 2 (sS0_2_X8_keeps (upA S0 0 (upZ (upZ (S0 0) 8 0) 7 0)) 0)) 1 (rOff (S0 1) p0)) 1 0 ((S0 1 0) + (rWorth (S0 1) p0 (S0 1 7)))) 1 6 ((S0 1 6) + 1))) := hD
    refine lv_aload_n hx hb dX8_sell_69 rfl (lv_at hl 1 rfl) ?_
    refine va_get (D := D) (ci := 10) (v := .ref (a0 1)) (C := RX8) (T := TX8) (N := 19) hx hb hts (fun w h => List.mem_cons_of_mem _ (List.mem_append_left _ (List.mem_append_right _ h))) hown hK hP 0 rfl rfl 0 (by decide) (hts (.fieldLink RX8 7 "MondayFactoryModel" "g" "[I") (List.mem_of_getElem? (i := 1) rfl)) (fun _ h9 => h9) rfl dX8_sell_70 ?_
    refine lv_bipush (v := iI 7) hx hb dX8_sell_73 (by decide) ?_
    refine lv_dup2_11 hx hb dX8_sell_75 rfl rfl ?_
    refine z_iald hx hb hK hP 1 0 (f := upZ (upZ (rOff (S0 1) p0) 0 ((S0 1 0) + (rWorth (S0 1) p0 (S0 1 7)))) 6 ((S0 1 6) + 1)) rfl rfl (i := 7) (by omega) (by omega) (by decide) 7 rfl dX8_sell_76 ?_
    refine z_eqi (z2 := S0 1 7) (show (upZ (upZ (rOff (S0 1) p0) 0 ((S0 1 0) + (rWorth (S0 1) p0 (S0 1 7)))) 6 ((S0 1 6) + 1)) 7 = S0 1 7 from (Eq.trans (upZ_n (by omega)) (Eq.trans (upZ_n (by omega)) (Eq.trans (rOff_n (by omega) (by omega) (by omega)) rfl)))) ?_
    refine lv_iconst (v := iI 1) hx hb dX8_sell_77 rfl ?_
    refine zi_add hx hb dX8_sell_78 ?_
    refine z_iast hx hb hK hP hD hS 1 0 (f := upZ (upZ (rOff (S0 1) p0) 0 ((S0 1 0) + (rWorth (S0 1) p0 (S0 1 7)))) 6 ((S0 1 6) + 1)) rfl rfl (i := 7) (by omega) (by omega) (by decide) 7 rfl dX8_sell_79 (fun H locs hP hD hS => ?_)
    have hP : va_P D vwCl (wRef k a0 (up2 (up2 (up2 (upA (upA (upA (upA S0 0 (upZ (upZ (S0 0) 8 0) 7 0)) 0 (sS0_0_X8_keeps (upA S0 0 (upZ (upZ (S0 0) 8 0) 7 0)) 0)) 2 (sS0_2_X8_keeps (upA S0 0 (upZ (upZ (S0 0) 8 0) 7 0)) 0)) 1 (rOff (S0 1) p0)) 1 0 ((S0 1 0) + (rWorth (S0 1) p0 (S0 1 7)))) 1 6 ((S0 1 6) + 1)) 1 7 ((S0 1 7) + 1))) H := hP
    have hD : va_D A (wRef k a0 (up2 (up2 (up2 (upA (upA (upA (upA S0 0 (upZ (upZ (S0 0) 8 0) 7 0)) 0 (sS0_0_X8_keeps (upA S0 0 (upZ (upZ (S0 0) 8 0) 7 0)) 0)) 2 (sS0_2_X8_keeps (upA S0 0 (upZ (upZ (S0 0) 8 0) 7 0)) 0)) 1 (rOff (S0 1) p0)) 1 0 ((S0 1 0) + (rWorth (S0 1) p0 (S0 1 7)))) 1 6 ((S0 1 6) + 1)) 1 7 ((S0 1 7) + 1))) := hD
    refine lv_iload_n hx hb dX8_sell_80 rfl (lv_at hl 0 rfl) ?_
    exact z_iret hx hb hr hlocks hP hS dX8_sell_81 (Eq.trans (zif_pos c_2) rfl) (Eq.trans (Eq.trans (congrArg (fun z => wRef k a0 (upA (upA (upA S0 0 z) 1 (sS0_1_X8_sell S0 p0)) 2 (sS0_2_X8_sell S0 p0))) (show sS0_0_X8_sell S0 p0 = sS0_0_X8_keeps (upA S0 0 (upZ (upZ (S0 0) 8 0) 7 0)) 0 from (Eq.trans (zif_pos c_2) rfl))) (congrArg (fun z => wRef k a0 (upA (upA (upA S0 0 (sS0_0_X8_keeps (upA S0 0 (upZ (upZ (S0 0) 8 0) 7 0)) 0)) 1 z) 2 (sS0_2_X8_sell S0 p0))) (show sS0_1_X8_sell S0 p0 = upZ (upZ (upZ (rOff (S0 1) p0) 0 ((S0 1 0) + (rWorth (S0 1) p0 (S0 1 7)))) 6 ((S0 1 6) + 1)) 7 ((S0 1 7) + 1) from (Eq.trans (zif_pos c_2) rfl)))) (congrArg (fun z => wRef k a0 (upA (upA (upA S0 0 (sS0_0_X8_keeps (upA S0 0 (upZ (upZ (S0 0) 8 0) 7 0)) 0)) 1 (upZ (upZ (upZ (rOff (S0 1) p0) 0 ((S0 1 0) + (rWorth (S0 1) p0 (S0 1 7)))) 6 ((S0 1 6) + 1)) 7 ((S0 1 7) + 1))) 2 z)) (show sS0_2_X8_sell S0 p0 = sS0_2_X8_keeps (upA S0 0 (upZ (upZ (S0 0) 8 0) 7 0)) 0 from (Eq.trans (zif_pos c_2) rfl)))) (Nat.le_refl _) (Nat.le_refl _)
noncomputable def sp_X8_repair (S0 : Nat → Nat → Int) (p0 : Int) : Int := zif (0 ≤ p0 ∧ p0 < S0 1 10)
  (zif ((S0 1 15) = 5)
    (0)
    (zif ((2 + (S0 1 (((93 + (4 * p0)) + 2).toNat))) ≤ (S0 1 0))
      (2 + (S0 1 (((93 + (4 * p0)) + 2).toNat)))
      (0)))
  (0)
noncomputable def sS0_0_X8_repair (S0 : Nat → Nat → Int) (p0 : Int) : (Nat → Int) := zif (0 ≤ p0 ∧ p0 < S0 1 10)
  (zif ((S0 1 15) = 5)
    (upZ (upZ (upZ (upZ (upZ (upZ (S0 0) 8 0) 7 0) 8 2) 7 1) 9 1) 10 5)
    (zif ((2 + (S0 1 (((93 + (4 * p0)) + 2).toNat))) ≤ (S0 1 0))
      (sS0_0_X8_keeps (upA S0 0 (upZ (upZ (S0 0) 8 0) 7 0)) 0)
      (upZ (upZ (upZ (upZ (upZ (upZ (S0 0) 8 0) 7 0) 8 2) 7 1) 9 5) 10 (((2 + (S0 1 (((93 + (4 * p0)) + 2).toNat))) - (S0 1 0))))))
  (upZ (upZ (S0 0) 8 1) 7 0)
noncomputable def sS0_1_X8_repair (S0 : Nat → Nat → Int) (p0 : Int) : (Nat → Int) := zif (0 ≤ p0 ∧ p0 < S0 1 10)
  (zif ((S0 1 15) = 5)
    (S0 1)
    (zif ((2 + (S0 1 (((93 + (4 * p0)) + 2).toNat))) ≤ (S0 1 0))
      (upZ (upZ (rOff ((rPuts (S0 1) 0 0 (max 0 (min ((S0 1 (((93 + (4 * p0)) + 0).toNat)) + 2) 9)) (max 4 (min ((S0 1 (((93 + (4 * p0)) + 1).toNat)) - 1) 9)) ((S0 1 (((93 + (4 * p0)) + 2).toNat)) + 1))) p0) 0 ((S0 1 0) - (2 + (S0 1 (((93 + (4 * p0)) + 2).toNat))))) 8 ((S0 1 8) + 1))
      (S0 1)))
  (S0 1)
noncomputable def sS0_2_X8_repair (S0 : Nat → Nat → Int) (p0 : Int) : (Nat → Int) := zif (0 ≤ p0 ∧ p0 < S0 1 10)
  (zif ((S0 1 15) = 5)
    (S0 2)
    (zif ((2 + (S0 1 (((93 + (4 * p0)) + 2).toNat))) ≤ (S0 1 0))
      (sS0_2_X8_keeps (upA S0 0 (upZ (upZ (S0 0) 8 0) 7 0)) 0)
      (S0 2)))
  (S0 2)
set_option maxHeartbeats 4000000 in
set_option maxRecDepth 100000 in
theorem c_X8_repair (l : Launch) (D : va_G) (k : Nat → ClassId) (a0 : Nat → Nat) (S0 : Nat → Nat → Int) (p0 : Int) (hB : zBf (S0 1)) (hT : zBt (S0 1)) (hB0 : zBf (S0 0)) (hC : ∀ b : Int, 0 ≤ b → b ≤ 2 → 0 ≤ S0 1 (15 + 26 * b + 0).toNat ∧ S0 1 (15 + 26 * b + 0).toNat ≤ 5) (hI : 0 ≤ S0 1 9 ∧ S0 1 9 ≤ 4) (hF : 0 ≤ S0 1 10 ∧ S0 1 10 ≤ 8) (hch : 0 ≤ S0 0 5 ∧ S0 0 5 ≤ 8) (hw : S0 0 6 = 0 ∨ S0 0 6 = 1) (h0 : -2147483648 ≤ p0 ∧ p0 < 2147483648) : zMi l yX8_repair wsX8_repair ({ frames := 2, cells := 0, slots := 0, locals := 49 } : Room) D k [.ref (a0 0), .int (iI p0)] (wRef k a0 S0) (sp_X8_repair S0 p0) (wRef k a0 (upA (upA (upA S0 0 (sS0_0_X8_repair S0 p0)) 1 (sS0_1_X8_repair S0 p0)) 2 (sS0_2_X8_repair S0 p0))) 0 0 := by
  refine zMi_of (cc := cX8_repair) (maxL := 3) (ret := (some .int)) (by decide) rfl (Nat.le_of_ble_eq_true rfl) ?_
  intro p e s m args below meth c A ls hx hb hr hml hown hts hlocks hK hP hD hG hA hS hl
  have hown : s.vm.findClass RX8 = some m.cls := hown
  have hl : lv_has ls 3 [(0, .ref (a0 0)), (1, .int (iI p0))] := hl
  obtain ⟨H, hH⟩ : ∃ z, z = s.heap := ⟨_, rfl⟩
  obtain ⟨locs, hlc⟩ : ∃ z : List Loc, z = [] := ⟨_, rfl⟩
  rw [← hH] at hP
  have hS : va_S A s.heap H locs := by rw [hH, hlc]; exact hS
  rw [← hlc, ← hH]
  clear hlc hH
  refine lv_aload_n hx hb dX8_repair_0 rfl (lv_at hl 0 rfl) ?_
  refine lv_aload_n hx hb dX8_repair_1 rfl (lv_at hl 0 rfl) ?_
  refine lv_iload_n hx hb dX8_repair_2 rfl (lv_at hl 1 rfl) ?_
  refine z_ai0 (va_runV (As := [.int (iI p0)]) (rest := [.ref (a0 0)]) ⟨hx, hb, hml, hown, hts⟩ (c_X8_isReject l D k a0 S0  p0 hB (by omega) _) (cwV 1 hts gX8_repair_X8_isReject rfl rfl rfl (by decide +kernel) ⟨(Nat.le_of_ble_eq_true rfl), (Nat.le_of_ble_eq_true rfl)⟩) (z_preV hK hG hA hP hD hS [0, 1, 2, 3, 4, 5, 6, 7] rfl (by decide) 10 rfl rfl) rfl rfl hl.1 rfl (lv_room (Nat.le_of_ble_eq_true rfl)) dX8_repair_3 ⟨(Nat.le_of_ble_eq_true rfl), (Nat.le_of_ble_eq_true rfl)⟩) hA hP hD hS [0, 1, 2, 3, 4, 5, 6, 7] rfl (fun H locs hP hS => ?_)
  have f_1 := hT 10
  refine zi_if_eqB (tgt := 13) hx hb dX8_repair_6 (by decide) (fun c_2 => ?_) (fun c_2 => ?_)
  · refine lv_iconst (v := iI 1) hx hb dX8_repair_13 rfl ?_
    refine z_ai (va_runV (As := [.int (iI 1)]) (rest := []) ⟨hx, hb, hml, hown, hts⟩ (c_X8_fails l D k a0 S0  1 (by omega) _) (cwV 1 hts gX8_repair_X8_fails rfl rfl rfl (by decide +kernel) ⟨(Nat.le_of_ble_eq_true rfl), (Nat.le_of_ble_eq_true rfl)⟩) (z_preV hK hG hA hP hD hS [0, 1, 2, 3, 4, 5, 6, 7] rfl (by decide) 10 rfl rfl) rfl rfl hl.1 rfl (lv_room (Nat.le_of_ble_eq_true rfl)) dX8_repair_14 ⟨(Nat.le_of_ble_eq_true rfl), (Nat.le_of_ble_eq_true rfl)⟩) hA hP hD hS [0, 1, 2, 3, 4, 5, 6, 7] rfl rfl (fun H locs hP hD hS => ?_)
    have hP : va_P D vwCl (wRef k a0 (upA S0 0 (upZ (upZ (S0 0) 8 1) 7 0))) H := hP
    have hD : va_D A (wRef k a0 (upA S0 0 (upZ (upZ (S0 0) 8 1) 7 0))) := hD
    refine zi_if_eqB (tgt := 22) hx hb dX8_repair_17 (by decide) (fun c_3 => absurd c_3 (by decide)) (fun _ => ?_)
    refine lv_iconst (v := iI 0) hx hb dX8_repair_20 rfl ?_
    exact z_iret hx hb hr hlocks hP hS dX8_repair_21 (Eq.trans (zif_neg c_2) rfl) (Eq.trans (Eq.trans (congrArg (fun z => wRef k a0 (upA (upA (upA S0 0 z) 1 (sS0_1_X8_repair S0 p0)) 2 (sS0_2_X8_repair S0 p0))) (show sS0_0_X8_repair S0 p0 = upZ (upZ (S0 0) 8 1) 7 0 from (Eq.trans (zif_neg c_2) rfl))) (congrArg (fun z => wRef k a0 (upA (upA (upA S0 0 (upZ (upZ (S0 0) 8 1) 7 0)) 1 z) 2 (sS0_2_X8_repair S0 p0))) (show sS0_1_X8_repair S0 p0 = S0 1 from (Eq.trans (zif_neg c_2) rfl)))) (congrArg (fun z => wRef k a0 (upA (upA (upA S0 0 (upZ (upZ (S0 0) 8 1) 7 0)) 1 (S0 1)) 2 z)) (show sS0_2_X8_repair S0 p0 = S0 2 from (Eq.trans (zif_neg c_2) rfl)))) (Nat.le_refl _) (Nat.le_refl _)
  · refine lv_iconst (v := iI 0) hx hb dX8_repair_9 rfl ?_
    refine lv_goto (tgt := 14) hx hb dX8_repair_10 (by decide) ?_
    refine z_ai (va_runV (As := [.int (iI 0)]) (rest := []) ⟨hx, hb, hml, hown, hts⟩ (c_X8_fails l D k a0 S0  0 (by omega) _) (cwV 1 hts gX8_repair_X8_fails rfl rfl rfl (by decide +kernel) ⟨(Nat.le_of_ble_eq_true rfl), (Nat.le_of_ble_eq_true rfl)⟩) (z_preV hK hG hA hP hD hS [0, 1, 2, 3, 4, 5, 6, 7] rfl (by decide) 10 rfl rfl) rfl rfl hl.1 rfl (lv_room (Nat.le_of_ble_eq_true rfl)) dX8_repair_14 ⟨(Nat.le_of_ble_eq_true rfl), (Nat.le_of_ble_eq_true rfl)⟩) hA hP hD hS [0, 1, 2, 3, 4, 5, 6, 7] rfl rfl (fun H locs hP hD hS => ?_)
    have hP : va_P D vwCl (wRef k a0 (upA S0 0 (upZ (upZ (S0 0) 8 0) 7 0))) H := hP
    have hD : va_D A (wRef k a0 (upA S0 0 (upZ (upZ (S0 0) 8 0) 7 0))) := hD
    refine zi_if_eqB (tgt := 22) hx hb dX8_repair_17 (by decide) (fun _ => ?_) (fun c_4 => absurd c_4 (by decide))
    refine lv_aload_n hx hb dX8_repair_22 rfl (lv_at hl 0 rfl) ?_
    refine lv_iconst (v := iI 0) hx hb dX8_repair_23 rfl ?_
    refine lv_iconst (v := iI 0) hx hb dX8_repair_24 rfl ?_
    have qc : 0 ≤ S0 1 15 ∧ S0 1 15 ≤ 5 := hC 0 (by omega) (by omega)
    have z15 : S0 1 (15 + 26 * (0 : Int) + 0).toNat = S0 1 15 := rfl
    refine z_ai0 (va_runV (As := [.int (iI 0), .int (iI 0)]) (rest := []) ⟨hx, hb, hml, hown, hts⟩ (c_X8_of l D k a0 (upA S0 0 (upZ (upZ (S0 0) 8 0) 7 0))  0 0 (by omega) (by omega) _) (cwV 2 hts gX8_repair_X8_of rfl rfl rfl (by decide +kernel) ⟨(Nat.le_of_ble_eq_true rfl), (Nat.le_of_ble_eq_true rfl)⟩) (z_preV hK hG hA hP hD hS [0, 1, 2, 3, 4, 5, 6, 7] rfl (by decide) 10 rfl rfl) rfl rfl hl.1 rfl (lv_room (Nat.le_of_ble_eq_true rfl)) dX8_repair_25 ⟨(Nat.le_of_ble_eq_true rfl), (Nat.le_of_ble_eq_true rfl)⟩) hA hP hD hS [0, 1, 2, 3, 4, 5, 6, 7] rfl (fun H locs hP hS => ?_)
    refine z_eqi (z2 := S0 1 15) rfl ?_
    have f_5 := hT 15
    refine lv_iconst (v := iI 5) hx hb dX8_repair_28 rfl ?_
    refine zi_icmp_ne (tgt := 40) hx hb dX8_repair_29 (by decide) ⟨by omega, by omega⟩ ⟨by omega, by omega⟩ (fun c_6 => ?_) (fun c_6 => ?_)
    · refine lv_aload_n hx hb dX8_repair_40 rfl (lv_at hl 0 rfl) ?_
      refine lv_iload_n hx hb dX8_repair_41 rfl (lv_at hl 1 rfl) ?_
      refine z_ai0 (va_runV (As := [.int (iI p0)]) (rest := []) ⟨hx, hb, hml, hown, hts⟩ (c_X8_cost l D k a0 (upA S0 0 (upZ (upZ (S0 0) 8 0) 7 0))  p0 (by omega) _) (cwV 1 hts gX8_repair_X8_cost rfl rfl rfl (by decide +kernel) ⟨(Nat.le_of_ble_eq_true rfl), (Nat.le_of_ble_eq_true rfl)⟩) (z_preV hK hG hA hP hD hS [0, 1, 2, 3, 4, 5, 6, 7] rfl (by decide) 10 rfl rfl) rfl rfl hl.1 rfl (lv_room (Nat.le_of_ble_eq_true rfl)) dX8_repair_42 ⟨(Nat.le_of_ble_eq_true rfl), (Nat.le_of_ble_eq_true rfl)⟩) hA hP hD hS [0, 1, 2, 3, 4, 5, 6, 7] rfl (fun H locs hP hS => ?_)
      refine z_eqi (z2 := 2 + (S0 1 (((93 + (4 * p0)) + 2).toNat))) rfl ?_
      have f_7 := hT ((((93 + (4 * p0)) + 2).toNat))
      refine lv_istore_n (lv' := [(2, .int (iI (2 + (S0 1 (((93 + (4 * p0)) + 2).toNat))))), (0, .ref (a0 0)), (1, .int (iI p0))]) hx hb dX8_repair_45 rfl hl (by decide) rfl (fun ls hl => ?_)
      refine lv_aload_n hx hb dX8_repair_46 rfl (lv_at hl 1 rfl) ?_
      refine va_get (D := D) (ci := 10) (v := .ref (a0 1)) (C := RX8) (T := TX8) (N := 19) hx hb hts (fun w h => List.mem_cons_of_mem _ (List.mem_append_left _ (List.mem_append_right _ h))) hown hK hP 0 rfl rfl 0 (by decide) (hts (.fieldLink RX8 7 "MondayFactoryModel" "g" "[I") (List.mem_of_getElem? (i := 1) rfl)) (fun _ h9 => h9) rfl dX8_repair_47 ?_
      refine lv_iconst (v := iI 0) hx hb dX8_repair_50 rfl ?_
      refine z_iald hx hb hK hP 1 0 (f := S0 1) rfl rfl (i := 0) (by omega) (by omega) (by decide) 0 rfl dX8_repair_51 ?_
      have f_8 := hT 0
      refine lv_iload_n hx hb dX8_repair_52 rfl (lv_at hl 0 rfl) ?_
      refine zi_icmp_ge (tgt := 71) hx hb dX8_repair_53 (by decide) ⟨by omega, by omega⟩ ⟨by omega, by omega⟩ (fun c_9 => ?_) (fun c_9 => ?_)
      · refine lv_aload_n hx hb dX8_repair_71 rfl (lv_at hl 1 rfl) ?_
        refine lv_aload_n hx hb dX8_repair_72 rfl (lv_at hl 1 rfl) ?_
        refine va_get (D := D) (ci := 10) (v := .ref (a0 1)) (C := RX8) (T := TX8) (N := 19) hx hb hts (fun w h => List.mem_cons_of_mem _ (List.mem_append_left _ (List.mem_append_right _ h))) hown hK hP 0 rfl rfl 0 (by decide) (hts (.fieldLink RX8 7 "MondayFactoryModel" "g" "[I") (List.mem_of_getElem? (i := 1) rfl)) (fun _ h9 => h9) rfl dX8_repair_73 ?_
        refine z_av (va_runV (As := [.ref (a0 1)]) (rest := []) ⟨hx, hb, hml, hown, hts⟩ (c_X8_keeps l D k a0 (upA S0 0 (upZ (upZ (S0 0) 8 0) 7 0)) 0  (by omega) (by have e0 : ((upA S0 0 (upZ (upZ (S0 0) 8 0) 7 0)) 0 5) = S0 0 5 := (show (upZ (upZ (S0 0) 8 0) 7 0) 5 = S0 0 5 from (Eq.trans (upZ_n (by omega)) (Eq.trans (upZ_n (by omega)) rfl))); omega) (by have e0 : ((upA S0 0 (upZ (upZ (S0 0) 8 0) 7 0)) 0 6) = S0 0 6 := (show (upZ (upZ (S0 0) 8 0) 7 0) 6 = S0 0 6 from (Eq.trans (upZ_n (by omega)) (Eq.trans (upZ_n (by omega)) rfl))); omega) _) (cwV 1 hts gX8_repair_X8_keeps rfl rfl rfl (by decide +kernel) ⟨(Nat.le_of_ble_eq_true rfl), (Nat.le_of_ble_eq_true rfl)⟩) (z_preV hK hG hA hP hD hS [0, 1, 2, 3, 4, 5, 6, 7] rfl (by decide) 10 rfl rfl) rfl rfl hl.1 rfl (lv_room (Nat.le_of_ble_eq_true rfl)) dX8_repair_76 ⟨(Nat.le_of_ble_eq_true rfl), (Nat.le_of_ble_eq_true rfl)⟩) hA hP hD hS [0, 1, 2, 3, 4, 5, 6, 7] rfl rfl (fun H locs hP hD hS => ?_)
        have hP : va_P D vwCl (wRef k a0 (upA (upA (upA S0 0 (upZ (upZ (S0 0) 8 0) 7 0)) 0 (sS0_0_X8_keeps (upA S0 0 (upZ (upZ (S0 0) 8 0) 7 0)) 0)) 2 (sS0_2_X8_keeps (upA S0 0 (upZ (upZ (S0 0) 8 0) 7 0)) 0))) H := hP
        have hD : va_D A (wRef k a0 (upA (upA (upA S0 0 (upZ (upZ (S0 0) 8 0) 7 0)) 0 (sS0_0_X8_keeps (upA S0 0 (upZ (upZ (S0 0) 8 0) 7 0)) 0)) 2 (sS0_2_X8_keeps (upA S0 0 (upZ (upZ (S0 0) 8 0) 7 0)) 0))) := hD
        refine lv_aload_n hx hb dX8_repair_79 rfl (lv_at hl 1 rfl) ?_
        refine lv_iconst (v := iI 0) hx hb dX8_repair_80 rfl ?_
        refine lv_iconst (v := iI 0) hx hb dX8_repair_81 rfl ?_
        refine lv_aload_n hx hb dX8_repair_82 rfl (lv_at hl 1 rfl) ?_
        refine lv_iload_n hx hb dX8_repair_83 rfl (lv_at hl 2 rfl) ?_
        refine lv_iconst (v := iI 0) hx hb dX8_repair_84 rfl ?_
        refine z_ai0 (va_runV (As := [.int (iI p0), .int (iI 0)]) (rest := [.int (iI 0), .int (iI 0), .ref (a0 0)]) ⟨hx, hb, hml, hown, hts⟩ (c_X8_its l D k a0 (upA (upA (upA S0 0 (upZ (upZ (S0 0) 8 0) 7 0)) 0 (sS0_0_X8_keeps (upA S0 0 (upZ (upZ (S0 0) 8 0) 7 0)) 0)) 2 (sS0_2_X8_keeps (upA S0 0 (upZ (upZ (S0 0) 8 0) 7 0)) 0))  p0 0 (by omega) _) (cwV 2 hts gX8_repair_X8_its rfl rfl rfl (by decide +kernel) ⟨(Nat.le_of_ble_eq_true rfl), (Nat.le_of_ble_eq_true rfl)⟩) (z_preV hK hG hA hP hD hS [0, 1, 2, 3, 4, 5, 6, 7] rfl (by decide) 10 rfl rfl) rfl rfl hl.1 rfl (lv_room (Nat.le_of_ble_eq_true rfl)) dX8_repair_85 ⟨(Nat.le_of_ble_eq_true rfl), (Nat.le_of_ble_eq_true rfl)⟩) hA hP hD hS [0, 1, 2, 3, 4, 5, 6, 7] rfl (fun H locs hP hS => ?_)
        refine z_eqi (z2 := S0 1 (((93 + (4 * p0)) + 0).toNat)) rfl ?_
        have f_10 := hT (((93 + (4 * p0)) + 0).toNat)
        refine lv_iconst (v := iI 2) hx hb dX8_repair_88 rfl ?_
        refine zi_add hx hb dX8_repair_89 ?_
        refine lv_iconst (v := iI 0) hx hb dX8_repair_90 rfl ?_
        refine lv_bipush (v := iI 9) hx hb dX8_repair_91 (by decide) ?_
        refine z_ai0 (va_runS (As := [.int (iI ((S0 1 (((93 + (4 * p0)) + 0).toNat)) + 2)), .int (iI 0), .int (iI 9)]) (rest := [.int (iI 0), .int (iI 0), .ref (a0 0)]) ⟨hx, hb, hml, hown, hts⟩ (c_X8_within l D k   ((S0 1 (((93 + (4 * p0)) + 0).toNat)) + 2) 0 9 (by omega) (by omega) (by omega) (by omega) _) (va_cwS 3 hts gX8_repair_X8_within rfl rfl rfl (by decide +kernel) ⟨(Nat.le_of_ble_eq_true rfl), (Nat.le_of_ble_eq_true rfl)⟩) (z_preS hK hG hA hP hD hS [] rfl (by decide)) rfl rfl hl.1 rfl (lv_room (Nat.le_of_ble_eq_true rfl)) dX8_repair_93 ⟨(Nat.le_of_ble_eq_true rfl), (Nat.le_of_ble_eq_true rfl)⟩) hA hP hD hS [] rfl (fun H locs hP hS => ?_)
        have f_11 := hT ((((93 + (4 * p0)) + 0).toNat))
        refine lv_aload_n hx hb dX8_repair_96 rfl (lv_at hl 1 rfl) ?_
        refine lv_iload_n hx hb dX8_repair_97 rfl (lv_at hl 2 rfl) ?_
        refine lv_iconst (v := iI 1) hx hb dX8_repair_98 rfl ?_
        refine z_ai0 (va_runV (As := [.int (iI p0), .int (iI 1)]) (rest := [.int (iI (max 0 (min ((S0 1 (((93 + (4 * p0)) + 0).toNat)) + 2) 9))), .int (iI 0), .int (iI 0), .ref (a0 0)]) ⟨hx, hb, hml, hown, hts⟩ (c_X8_its l D k a0 (upA (upA (upA S0 0 (upZ (upZ (S0 0) 8 0) 7 0)) 0 (sS0_0_X8_keeps (upA S0 0 (upZ (upZ (S0 0) 8 0) 7 0)) 0)) 2 (sS0_2_X8_keeps (upA S0 0 (upZ (upZ (S0 0) 8 0) 7 0)) 0))  p0 1 (by omega) _) (cwV 2 hts gX8_repair_X8_its rfl rfl rfl (by decide +kernel) ⟨(Nat.le_of_ble_eq_true rfl), (Nat.le_of_ble_eq_true rfl)⟩) (z_preV hK hG hA hP hD hS [0, 1, 2, 3, 4, 5, 6, 7] rfl (by decide) 10 rfl rfl) rfl rfl hl.1 rfl (lv_room (Nat.le_of_ble_eq_true rfl)) dX8_repair_99 ⟨(Nat.le_of_ble_eq_true rfl), (Nat.le_of_ble_eq_true rfl)⟩) hA hP hD hS [0, 1, 2, 3, 4, 5, 6, 7] rfl (fun H locs hP hS => ?_)
        refine z_eqi (z2 := S0 1 (((93 + (4 * p0)) + 1).toNat)) rfl ?_
        have f_12 := hT (((93 + (4 * p0)) + 1).toNat)
        refine lv_iconst (v := iI 1) hx hb dX8_repair_102 rfl ?_
        refine zi_sub hx hb dX8_repair_103 ?_
        refine lv_iconst (v := iI 4) hx hb dX8_repair_104 rfl ?_
        refine lv_bipush (v := iI 9) hx hb dX8_repair_105 (by decide) ?_
        refine z_ai0 (va_runS (As := [.int (iI ((S0 1 (((93 + (4 * p0)) + 1).toNat)) - 1)), .int (iI 4), .int (iI 9)]) (rest := [.int (iI (max 0 (min ((S0 1 (((93 + (4 * p0)) + 0).toNat)) + 2) 9))), .int (iI 0), .int (iI 0), .ref (a0 0)]) ⟨hx, hb, hml, hown, hts⟩ (c_X8_within l D k   ((S0 1 (((93 + (4 * p0)) + 1).toNat)) - 1) 4 9 (by omega) (by omega) (by omega) (by omega) _) (va_cwS 3 hts gX8_repair_X8_within rfl rfl rfl (by decide +kernel) ⟨(Nat.le_of_ble_eq_true rfl), (Nat.le_of_ble_eq_true rfl)⟩) (z_preS hK hG hA hP hD hS [] rfl (by decide)) rfl rfl hl.1 rfl (lv_room (Nat.le_of_ble_eq_true rfl)) dX8_repair_107 ⟨(Nat.le_of_ble_eq_true rfl), (Nat.le_of_ble_eq_true rfl)⟩) hA hP hD hS [] rfl (fun H locs hP hS => ?_)
        have f_13 := hT ((((93 + (4 * p0)) + 1).toNat))
        refine lv_aload_n hx hb dX8_repair_110 rfl (lv_at hl 1 rfl) ?_
        refine lv_iload_n hx hb dX8_repair_111 rfl (lv_at hl 2 rfl) ?_
        refine lv_iconst (v := iI 2) hx hb dX8_repair_112 rfl ?_
        refine z_ai0 (va_runV (As := [.int (iI p0), .int (iI 2)]) (rest := [.int (iI (max 4 (min ((S0 1 (((93 + (4 * p0)) + 1).toNat)) - 1) 9))), .int (iI (max 0 (min ((S0 1 (((93 + (4 * p0)) + 0).toNat)) + 2) 9))), .int (iI 0), .int (iI 0), .ref (a0 0)]) ⟨hx, hb, hml, hown, hts⟩ (c_X8_its l D k a0 (upA (upA (upA S0 0 (upZ (upZ (S0 0) 8 0) 7 0)) 0 (sS0_0_X8_keeps (upA S0 0 (upZ (upZ (S0 0) 8 0) 7 0)) 0)) 2 (sS0_2_X8_keeps (upA S0 0 (upZ (upZ (S0 0) 8 0) 7 0)) 0))  p0 2 (by omega) _) (cwV 2 hts gX8_repair_X8_its rfl rfl rfl (by decide +kernel) ⟨(Nat.le_of_ble_eq_true rfl), (Nat.le_of_ble_eq_true rfl)⟩) (z_preV hK hG hA hP hD hS [0, 1, 2, 3, 4, 5, 6, 7] rfl (by decide) 10 rfl rfl) rfl rfl hl.1 rfl (lv_room (Nat.le_of_ble_eq_true rfl)) dX8_repair_113 ⟨(Nat.le_of_ble_eq_true rfl), (Nat.le_of_ble_eq_true rfl)⟩) hA hP hD hS [0, 1, 2, 3, 4, 5, 6, 7] rfl (fun H locs hP hS => ?_)
        refine z_eqi (z2 := S0 1 (((93 + (4 * p0)) + 2).toNat)) rfl ?_
        have f_14 := hT (((93 + (4 * p0)) + 2).toNat)
        refine lv_iconst (v := iI 1) hx hb dX8_repair_116 rfl ?_
        refine zi_add hx hb dX8_repair_117 ?_
        refine z_ai (va_runV (As := [.int (iI 0), .int (iI 0), .int (iI (max 0 (min ((S0 1 (((93 + (4 * p0)) + 0).toNat)) + 2) 9))), .int (iI (max 4 (min ((S0 1 (((93 + (4 * p0)) + 1).toNat)) - 1) 9))), .int (iI ((S0 1 (((93 + (4 * p0)) + 2).toNat)) + 1))]) (rest := []) ⟨hx, hb, hml, hown, hts⟩ (c_X8_puts l D k a0 (upA (upA (upA S0 0 (upZ (upZ (S0 0) 8 0) 7 0)) 0 (sS0_0_X8_keeps (upA S0 0 (upZ (upZ (S0 0) 8 0) 7 0)) 0)) 2 (sS0_2_X8_keeps (upA S0 0 (upZ (upZ (S0 0) 8 0) 7 0)) 0))  0 0 (max 0 (min ((S0 1 (((93 + (4 * p0)) + 0).toNat)) + 2) 9)) (max 4 (min ((S0 1 (((93 + (4 * p0)) + 1).toNat)) - 1) 9)) ((S0 1 (((93 + (4 * p0)) + 2).toNat)) + 1) (by omega) (by have e0 : ((upA (upA (upA S0 0 (upZ (upZ (S0 0) 8 0) 7 0)) 0 (sS0_0_X8_keeps (upA S0 0 (upZ (upZ (S0 0) 8 0) 7 0)) 0)) 2 (sS0_2_X8_keeps (upA S0 0 (upZ (upZ (S0 0) 8 0) 7 0)) 0)) 1 (15 + 26 * 0 + 0 : Int).toNat) = S0 1 15 := rfl; omega) _) (cwV 5 hts gX8_repair_X8_puts rfl rfl rfl (by decide +kernel) ⟨(Nat.le_of_ble_eq_true rfl), (Nat.le_of_ble_eq_true rfl)⟩) (z_preV hK hG hA hP hD hS [0, 1, 2, 3, 4, 5, 6, 7] rfl (by decide) 10 rfl rfl) rfl rfl hl.1 rfl (lv_room (Nat.le_of_ble_eq_true rfl)) dX8_repair_118 ⟨(Nat.le_of_ble_eq_true rfl), (Nat.le_of_ble_eq_true rfl)⟩) hA hP hD hS [0, 1, 2, 3, 4, 5, 6, 7] rfl rfl (fun H locs hP hD hS => ?_)
        have hP : va_P D vwCl (wRef k a0 (upA (upA (upA (upA S0 0 (upZ (upZ (S0 0) 8 0) 7 0)) 0 (sS0_0_X8_keeps (upA S0 0 (upZ (upZ (S0 0) 8 0) 7 0)) 0)) 2 (sS0_2_X8_keeps (upA S0 0 (upZ (upZ (S0 0) 8 0) 7 0)) 0)) 1 (rPuts (S0 1) 0 0 (max 0 (min ((S0 1 (((93 + (4 * p0)) + 0).toNat)) + 2) 9)) (max 4 (min ((S0 1 (((93 + (4 * p0)) + 1).toNat)) - 1) 9)) ((S0 1 (((93 + (4 * p0)) + 2).toNat)) + 1)))) H := hP
        have hD : va_D A (wRef k a0 (upA (upA (upA (upA S0 0 (upZ (upZ (S0 0) 8 0) 7 0)) 0 (sS0_0_X8_keeps (upA S0 0 (upZ (upZ (S0 0) 8 0) 7 0)) 0)) 2 (sS0_2_X8_keeps (upA S0 0 (upZ (upZ (S0 0) 8 0) 7 0)) 0)) 1 (rPuts (S0 1) 0 0 (max 0 (min ((S0 1 (((93 + (4 * p0)) + 0).toNat)) + 2) 9)) (max 4 (min ((S0 1 (((93 + (4 * p0)) + 1).toNat)) - 1) 9)) ((S0 1 (((93 + (4 * p0)) + 2).toNat)) + 1)))) := hD
        refine z_eqi (z2 := sp_X8_puts (upA (upA (upA S0 0 (upZ (upZ (S0 0) 8 0) 7 0)) 0 (sS0_0_X8_keeps (upA S0 0 (upZ (upZ (S0 0) 8 0) 7 0)) 0)) 2 (sS0_2_X8_keeps (upA S0 0 (upZ (upZ (S0 0) 8 0) 7 0)) 0)) 0 0 (max 0 (min ((S0 1 (((93 + (4 * p0)) + 0).toNat)) + 2) 9)) (max 4 (min ((S0 1 (((93 + (4 * p0)) + 1).toNat)) - 1) 9)) ((S0 1 (((93 + (4 * p0)) + 2).toNat)) + 1)) rfl ?_
        have q_15 : rPuts (S0 1) 0 0 (max 0 (min ((S0 1 (((93 + (4 * p0)) + 0).toNat)) + 2) 9)) (max 4 (min ((S0 1 (((93 + (4 * p0)) + 1).toNat)) - 1) 9)) ((S0 1 (((93 + (4 * p0)) + 2).toNat)) + 1) 10 = S0 1 10 := rPuts_n (by omega) (by omega) (by omega)
        refine lv_pop hx hb dX8_repair_121 rfl ?_
        refine lv_aload_n hx hb dX8_repair_122 rfl (lv_at hl 1 rfl) ?_
        refine lv_iload_n hx hb dX8_repair_123 rfl (lv_at hl 2 rfl) ?_
        refine z_av (va_runV (As := [.int (iI p0)]) (rest := []) ⟨hx, hb, hml, hown, hts⟩ (c_X8_leavesShelf l D k a0 (upA (upA (upA (upA S0 0 (upZ (upZ (S0 0) 8 0) 7 0)) 0 (sS0_0_X8_keeps (upA S0 0 (upZ (upZ (S0 0) 8 0) 7 0)) 0)) 2 (sS0_2_X8_keeps (upA S0 0 (upZ (upZ (S0 0) 8 0) 7 0)) 0)) 1 (rPuts (S0 1) 0 0 (max 0 (min ((S0 1 (((93 + (4 * p0)) + 0).toNat)) + 2) 9)) (max 4 (min ((S0 1 (((93 + (4 * p0)) + 1).toNat)) - 1) 9)) ((S0 1 (((93 + (4 * p0)) + 2).toNat)) + 1)))  p0 (zBf.puts (G := S0 1) hB (by omega) (by omega) (by omega) (by omega) (by have e0 : ((upA (upA (upA S0 0 (upZ (upZ (S0 0) 8 0) 7 0)) 0 (sS0_0_X8_keeps (upA S0 0 (upZ (upZ (S0 0) 8 0) 7 0)) 0)) 2 (sS0_2_X8_keeps (upA S0 0 (upZ (upZ (S0 0) 8 0) 7 0)) 0)) 1 (15 + 26 * 0 + 0 : Int).toNat) = S0 1 15 := rfl; omega)) (by have e0 : ((upA (upA (upA (upA S0 0 (upZ (upZ (S0 0) 8 0) 7 0)) 0 (sS0_0_X8_keeps (upA S0 0 (upZ (upZ (S0 0) 8 0) 7 0)) 0)) 2 (sS0_2_X8_keeps (upA S0 0 (upZ (upZ (S0 0) 8 0) 7 0)) 0)) 1 (rPuts (S0 1) 0 0 (max 0 (min ((S0 1 (((93 + (4 * p0)) + 0).toNat)) + 2) 9)) (max 4 (min ((S0 1 (((93 + (4 * p0)) + 1).toNat)) - 1) 9)) ((S0 1 (((93 + (4 * p0)) + 2).toNat)) + 1))) 1 10) = S0 1 10 := (show (rPuts (S0 1) 0 0 (max 0 (min ((S0 1 (((93 + (4 * p0)) + 0).toNat)) + 2) 9)) (max 4 (min ((S0 1 (((93 + (4 * p0)) + 1).toNat)) - 1) 9)) ((S0 1 (((93 + (4 * p0)) + 2).toNat)) + 1)) 10 = S0 1 10 from (Eq.trans (rPuts_n (by omega) (by omega) (by omega)) rfl)); omega) _) (cwV 1 hts gX8_repair_X8_leavesShelf rfl rfl rfl (by decide +kernel) ⟨(Nat.le_of_ble_eq_true rfl), (Nat.le_of_ble_eq_true rfl)⟩) (z_preV hK hG hA hP hD hS [0, 1, 2, 3, 4, 5, 6, 7] rfl (by decide) 10 rfl rfl) rfl rfl hl.1 rfl (lv_room (Nat.le_of_ble_eq_true rfl)) dX8_repair_124 ⟨(Nat.le_of_ble_eq_true rfl), (Nat.le_of_ble_eq_true rfl)⟩) hA hP hD hS [0, 1, 2, 3, 4, 5, 6, 7] rfl rfl (fun H locs hP hD hS => ?_)
        have hP : va_P D vwCl (wRef k a0 (upA (upA (upA (upA (upA S0 0 (upZ (upZ (S0 0) 8 0) 7 0)) 0 (sS0_0_X8_keeps (upA S0 0 (upZ (upZ (S0 0) 8 0) 7 0)) 0)) 2 (sS0_2_X8_keeps (upA S0 0 (upZ (upZ (S0 0) 8 0) 7 0)) 0)) 1 (rPuts (S0 1) 0 0 (max 0 (min ((S0 1 (((93 + (4 * p0)) + 0).toNat)) + 2) 9)) (max 4 (min ((S0 1 (((93 + (4 * p0)) + 1).toNat)) - 1) 9)) ((S0 1 (((93 + (4 * p0)) + 2).toNat)) + 1))) 1 (rOff ((rPuts (S0 1) 0 0 (max 0 (min ((S0 1 (((93 + (4 * p0)) + 0).toNat)) + 2) 9)) (max 4 (min ((S0 1 (((93 + (4 * p0)) + 1).toNat)) - 1) 9)) ((S0 1 (((93 + (4 * p0)) + 2).toNat)) + 1))) p0))) H := hP
        have hD : va_D A (wRef k a0 (upA (upA (upA (upA (upA S0 0 (upZ (upZ (S0 0) 8 0) 7 0)) 0 (sS0_0_X8_keeps (upA S0 0 (upZ (upZ (S0 0) 8 0) 7 0)) 0)) 2 (sS0_2_X8_keeps (upA S0 0 (upZ (upZ (S0 0) 8 0) 7 0)) 0)) 1 (rPuts (S0 1) 0 0 (max 0 (min ((S0 1 (((93 + (4 * p0)) + 0).toNat)) + 2) 9)) (max 4 (min ((S0 1 (((93 + (4 * p0)) + 1).toNat)) - 1) 9)) ((S0 1 (((93 + (4 * p0)) + 2).toNat)) + 1))) 1 (rOff ((rPuts (S0 1) 0 0 (max 0 (min ((S0 1 (((93 + (4 * p0)) + 0).toNat)) + 2) 9)) (max 4 (min ((S0 1 (((93 + (4 * p0)) + 1).toNat)) - 1) 9)) ((S0 1 (((93 + (4 * p0)) + 2).toNat)) + 1))) p0))) := hD
        refine lv_aload_n hx hb dX8_repair_127 rfl (lv_at hl 1 rfl) ?_
        refine va_get (D := D) (ci := 10) (v := .ref (a0 1)) (C := RX8) (T := TX8) (N := 19) hx hb hts (fun w h => List.mem_cons_of_mem _ (List.mem_append_left _ (List.mem_append_right _ h))) hown hK hP 0 rfl rfl 0 (by decide) (hts (.fieldLink RX8 7 "MondayFactoryModel" "g" "[I") (List.mem_of_getElem? (i := 1) rfl)) (fun _ h9 => h9) rfl dX8_repair_128 ?_
        refine lv_iconst (v := iI 0) hx hb dX8_repair_131 rfl ?_
        refine lv_dup2_11 hx hb dX8_repair_132 rfl rfl ?_
        refine z_iald hx hb hK hP 1 0 (f := rOff ((rPuts (S0 1) 0 0 (max 0 (min ((S0 1 (((93 + (4 * p0)) + 0).toNat)) + 2) 9)) (max 4 (min ((S0 1 (((93 + (4 * p0)) + 1).toNat)) - 1) 9)) ((S0 1 (((93 + (4 * p0)) + 2).toNat)) + 1))) p0) rfl rfl (i := 0) (by omega) (by omega) (by decide) 0 rfl dX8_repair_133 ?_
        refine z_eqi (z2 := S0 1 0) (show (rOff ((rPuts (S0 1) 0 0 (max 0 (min ((S0 1 (((93 + (4 * p0)) + 0).toNat)) + 2) 9)) (max 4 (min ((S0 1 (((93 + (4 * p0)) + 1).toNat)) - 1) 9)) ((S0 1 (((93 + (4 * p0)) + 2).toNat)) + 1))) p0) 0 = S0 1 0 from (Eq.trans (rOff_n (by omega) (by omega) (by omega)) (Eq.trans (rPuts_n (by omega) (by omega) (by omega)) rfl))) ?_
        refine lv_iload_n hx hb dX8_repair_134 rfl (lv_at hl 0 rfl) ?_
        refine zi_sub hx hb dX8_repair_135 ?_
        refine z_iast hx hb hK hP hD hS 1 0 (f := rOff ((rPuts (S0 1) 0 0 (max 0 (min ((S0 1 (((93 + (4 * p0)) + 0).toNat)) + 2) 9)) (max 4 (min ((S0 1 (((93 + (4 * p0)) + 1).toNat)) - 1) 9)) ((S0 1 (((93 + (4 * p0)) + 2).toNat)) + 1))) p0) rfl rfl (i := 0) (by omega) (by omega) (by decide) 0 rfl dX8_repair_136 (fun H locs hP hD hS => ?_)
        have hP : va_P D vwCl (wRef k a0 (up2 (upA (upA (upA (upA (upA S0 0 (upZ (upZ (S0 0) 8 0) 7 0)) 0 (sS0_0_X8_keeps (upA S0 0 (upZ (upZ (S0 0) 8 0) 7 0)) 0)) 2 (sS0_2_X8_keeps (upA S0 0 (upZ (upZ (S0 0) 8 0) 7 0)) 0)) 1 (rPuts (S0 1) 0 0 (max 0 (min ((S0 1 (((93 + (4 * p0)) + 0).toNat)) + 2) 9)) (max 4 (min ((S0 1 (((93 + (4 * p0)) + 1).toNat)) - 1) 9)) ((S0 1 (((93 + (4 * p0)) + 2).toNat)) + 1))) 1 (rOff ((rPuts (S0 1) 0 0 (max 0 (min ((S0 1 (((93 + (4 * p0)) + 0).toNat)) + 2) 9)) (max 4 (min ((S0 1 (((93 + (4 * p0)) + 1).toNat)) - 1) 9)) ((S0 1 (((93 + (4 * p0)) + 2).toNat)) + 1))) p0)) 1 0 ((S0 1 0) - (2 + (S0 1 (((93 + (4 * p0)) + 2).toNat)))))) H := hP
        have hD : va_D A (wRef k a0 (up2 (upA (upA (upA (upA (upA S0 0 (upZ (upZ (S0 0) 8 0) 7 0)) 0 (sS0_0_X8_keeps (upA S0 0 (upZ (upZ (S0 0) 8 0) 7 0)) 0)) 2 (sS0_2_X8_keeps (upA S0 0 (upZ (upZ (S0 0) 8 0) 7 0)) 0)) 1 (rPuts (S0 1) 0 0 (max 0 (min ((S0 1 (((93 + (4 * p0)) + 0).toNat)) + 2) 9)) (max 4 (min ((S0 1 (((93 + (4 * p0)) + 1).toNat)) - 1) 9)) ((S0 1 (((93 + (4 * p0)) + 2).toNat)) + 1))) 1 (rOff ((rPuts (S0 1) 0 0 (max 0 (min ((S0 1 (((93 + (4 * p0)) + 0).toNat)) + 2) 9)) (max 4 (min ((S0 1 (((93 + (4 * p0)) + 1).toNat)) - 1) 9)) ((S0 1 (((93 + (4 * p0)) + 2).toNat)) + 1))) p0)) 1 0 ((S0 1 0) - (2 + (S0 1 (((93 + (4 * p0)) + 2).toNat)))))) := hD
        refine lv_aload_n hx hb dX8_repair_137 rfl (lv_at hl 1 rfl) ?_
        refine va_get (D := D) (ci := 10) (v := .ref (a0 1)) (C := RX8) (T := TX8) (N := 19) hx hb hts (fun w h => List.mem_cons_of_mem _ (List.mem_append_left _ (List.mem_append_right _ h))) hown hK hP 0 rfl rfl 0 (by decide) (hts (.fieldLink RX8 7 "MondayFactoryModel" "g" "[I") (List.mem_of_getElem? (i := 1) rfl)) (fun _ h9 => h9) rfl dX8_repair_138 ?_
        refine lv_bipush (v := iI 8) hx hb dX8_repair_141 (by decide) ?_
        refine lv_dup2_11 hx hb dX8_repair_143 rfl rfl ?_
        refine z_iald hx hb hK hP 1 0 (f := upZ (rOff ((rPuts (S0 1) 0 0 (max 0 (min ((S0 1 (((93 + (4 * p0)) + 0).toNat)) + 2) 9)) (max 4 (min ((S0 1 (((93 + (4 * p0)) + 1).toNat)) - 1) 9)) ((S0 1 (((93 + (4 * p0)) + 2).toNat)) + 1))) p0) 0 ((S0 1 0) - (2 + (S0 1 (((93 + (4 * p0)) + 2).toNat))))) rfl rfl (i := 8) (by omega) (by omega) (by decide) 8 rfl dX8_repair_144 ?_
        refine z_eqi (z2 := S0 1 8) (show (upZ (rOff ((rPuts (S0 1) 0 0 (max 0 (min ((S0 1 (((93 + (4 * p0)) + 0).toNat)) + 2) 9)) (max 4 (min ((S0 1 (((93 + (4 * p0)) + 1).toNat)) - 1) 9)) ((S0 1 (((93 + (4 * p0)) + 2).toNat)) + 1))) p0) 0 ((S0 1 0) - (2 + (S0 1 (((93 + (4 * p0)) + 2).toNat))))) 8 = S0 1 8 from (Eq.trans (upZ_n (by omega)) (Eq.trans (rOff_n (by omega) (by omega) (by omega)) (Eq.trans (rPuts_n (by omega) (by omega) (by omega)) rfl)))) ?_
        have f_16 := hT 8
        refine lv_iconst (v := iI 1) hx hb dX8_repair_145 rfl ?_
        refine zi_add hx hb dX8_repair_146 ?_
        refine z_iast hx hb hK hP hD hS 1 0 (f := upZ (rOff ((rPuts (S0 1) 0 0 (max 0 (min ((S0 1 (((93 + (4 * p0)) + 0).toNat)) + 2) 9)) (max 4 (min ((S0 1 (((93 + (4 * p0)) + 1).toNat)) - 1) 9)) ((S0 1 (((93 + (4 * p0)) + 2).toNat)) + 1))) p0) 0 ((S0 1 0) - (2 + (S0 1 (((93 + (4 * p0)) + 2).toNat))))) rfl rfl (i := 8) (by omega) (by omega) (by decide) 8 rfl dX8_repair_147 (fun H locs hP hD hS => ?_)
        have hP : va_P D vwCl (wRef k a0 (up2 (up2 (upA (upA (upA (upA (upA S0 0 (upZ (upZ (S0 0) 8 0) 7 0)) 0 (sS0_0_X8_keeps (upA S0 0 (upZ (upZ (S0 0) 8 0) 7 0)) 0)) 2 (sS0_2_X8_keeps (upA S0 0 (upZ (upZ (S0 0) 8 0) 7 0)) 0)) 1 (rPuts (S0 1) 0 0 (max 0 (min ((S0 1 (((93 + (4 * p0)) + 0).toNat)) + 2) 9)) (max 4 (min ((S0 1 (((93 + (4 * p0)) + 1).toNat)) - 1) 9)) ((S0 1 (((93 + (4 * p0)) + 2).toNat)) + 1))) 1 (rOff ((rPuts (S0 1) 0 0 (max 0 (min ((S0 1 (((93 + (4 * p0)) + 0).toNat)) + 2) 9)) (max 4 (min ((S0 1 (((93 + (4 * p0)) + 1).toNat)) - 1) 9)) ((S0 1 (((93 + (4 * p0)) + 2).toNat)) + 1))) p0)) 1 0 ((S0 1 0) - (2 + (S0 1 (((93 + (4 * p0)) + 2).toNat))))) 1 8 ((S0 1 8) + 1))) H := hP
        have hD : va_D A (wRef k a0 (up2 (up2 (upA (upA (upA (upA (upA S0 0 (upZ (upZ (S0 0) 8 0) 7 0)) 0 (sS0_0_X8_keeps (upA S0 0 (upZ (upZ (S0 0) 8 0) 7 0)) 0)) 2 (sS0_2_X8_keeps (upA S0 0 (upZ (upZ (S0 0) 8 0) 7 0)) 0)) 1 (rPuts (S0 1) 0 0 (max 0 (min ((S0 1 (((93 + (4 * p0)) + 0).toNat)) + 2) 9)) (max 4 (min ((S0 1 (((93 + (4 * p0)) + 1).toNat)) - 1) 9)) ((S0 1 (((93 + (4 * p0)) + 2).toNat)) + 1))) 1 (rOff ((rPuts (S0 1) 0 0 (max 0 (min ((S0 1 (((93 + (4 * p0)) + 0).toNat)) + 2) 9)) (max 4 (min ((S0 1 (((93 + (4 * p0)) + 1).toNat)) - 1) 9)) ((S0 1 (((93 + (4 * p0)) + 2).toNat)) + 1))) p0)) 1 0 ((S0 1 0) - (2 + (S0 1 (((93 + (4 * p0)) + 2).toNat))))) 1 8 ((S0 1 8) + 1))) := hD
        refine lv_iload_n hx hb dX8_repair_148 rfl (lv_at hl 0 rfl) ?_
        exact z_iret hx hb hr hlocks hP hS dX8_repair_149 (Eq.trans (zif_pos c_2) (Eq.trans (zif_neg c_6) (Eq.trans (zif_pos c_9) rfl))) (Eq.trans (Eq.trans (congrArg (fun z => wRef k a0 (upA (upA (upA S0 0 z) 1 (sS0_1_X8_repair S0 p0)) 2 (sS0_2_X8_repair S0 p0))) (show sS0_0_X8_repair S0 p0 = sS0_0_X8_keeps (upA S0 0 (upZ (upZ (S0 0) 8 0) 7 0)) 0 from (Eq.trans (zif_pos c_2) (Eq.trans (zif_neg c_6) (Eq.trans (zif_pos c_9) rfl))))) (congrArg (fun z => wRef k a0 (upA (upA (upA S0 0 (sS0_0_X8_keeps (upA S0 0 (upZ (upZ (S0 0) 8 0) 7 0)) 0)) 1 z) 2 (sS0_2_X8_repair S0 p0))) (show sS0_1_X8_repair S0 p0 = upZ (upZ (rOff ((rPuts (S0 1) 0 0 (max 0 (min ((S0 1 (((93 + (4 * p0)) + 0).toNat)) + 2) 9)) (max 4 (min ((S0 1 (((93 + (4 * p0)) + 1).toNat)) - 1) 9)) ((S0 1 (((93 + (4 * p0)) + 2).toNat)) + 1))) p0) 0 ((S0 1 0) - (2 + (S0 1 (((93 + (4 * p0)) + 2).toNat))))) 8 ((S0 1 8) + 1) from (Eq.trans (zif_pos c_2) (Eq.trans (zif_neg c_6) (Eq.trans (zif_pos c_9) rfl)))))) (congrArg (fun z => wRef k a0 (upA (upA (upA S0 0 (sS0_0_X8_keeps (upA S0 0 (upZ (upZ (S0 0) 8 0) 7 0)) 0)) 1 (upZ (upZ (rOff ((rPuts (S0 1) 0 0 (max 0 (min ((S0 1 (((93 + (4 * p0)) + 0).toNat)) + 2) 9)) (max 4 (min ((S0 1 (((93 + (4 * p0)) + 1).toNat)) - 1) 9)) ((S0 1 (((93 + (4 * p0)) + 2).toNat)) + 1))) p0) 0 ((S0 1 0) - (2 + (S0 1 (((93 + (4 * p0)) + 2).toNat))))) 8 ((S0 1 8) + 1))) 2 z)) (show sS0_2_X8_repair S0 p0 = sS0_2_X8_keeps (upA S0 0 (upZ (upZ (S0 0) 8 0) 7 0)) 0 from (Eq.trans (zif_pos c_2) (Eq.trans (zif_neg c_6) (Eq.trans (zif_pos c_9) rfl)))))) (Nat.le_refl _) (Nat.le_refl _)
      · refine lv_aload_n hx hb dX8_repair_56 rfl (lv_at hl 1 rfl) ?_
        refine lv_iconst (v := iI 2) hx hb dX8_repair_57 rfl ?_
        refine lv_iconst (v := iI 5) hx hb dX8_repair_58 rfl ?_
        refine lv_iload_n hx hb dX8_repair_59 rfl (lv_at hl 0 rfl) ?_
        refine lv_aload_n hx hb dX8_repair_60 rfl (lv_at hl 1 rfl) ?_
        refine va_get (D := D) (ci := 10) (v := .ref (a0 1)) (C := RX8) (T := TX8) (N := 19) hx hb hts (fun w h => List.mem_cons_of_mem _ (List.mem_append_left _ (List.mem_append_right _ h))) hown hK hP 0 rfl rfl 0 (by decide) (hts (.fieldLink RX8 7 "MondayFactoryModel" "g" "[I") (List.mem_of_getElem? (i := 1) rfl)) (fun _ h9 => h9) rfl dX8_repair_61 ?_
        refine lv_iconst (v := iI 0) hx hb dX8_repair_64 rfl ?_
        refine z_iald hx hb hK hP 1 0 (f := S0 1) rfl rfl (i := 0) (by omega) (by omega) (by decide) 0 rfl dX8_repair_65 ?_
        refine zi_sub hx hb dX8_repair_66 ?_
        refine z_ai (va_runV (As := [.int (iI 2), .int (iI 5), .int (iI ((2 + (S0 1 (((93 + (4 * p0)) + 2).toNat))) - (S0 1 0)))]) (rest := []) ⟨hx, hb, hml, hown, hts⟩ (c_X8_refuses l D k a0 (upA S0 0 (upZ (upZ (S0 0) 8 0) 7 0))  2 5 ((2 + (S0 1 (((93 + (4 * p0)) + 2).toNat))) - (S0 1 0))  _) (cwV 3 hts gX8_repair_X8_refuses rfl rfl rfl (by decide +kernel) ⟨(Nat.le_of_ble_eq_true rfl), (Nat.le_of_ble_eq_true rfl)⟩) (z_preV hK hG hA hP hD hS [0, 1, 2, 3, 4, 5, 6, 7] rfl (by decide) 10 rfl rfl) rfl rfl hl.1 rfl (lv_room (Nat.le_of_ble_eq_true rfl)) dX8_repair_67 ⟨(Nat.le_of_ble_eq_true rfl), (Nat.le_of_ble_eq_true rfl)⟩) hA hP hD hS [0, 1, 2, 3, 4, 5, 6, 7] rfl rfl (fun H locs hP hD hS => ?_)
        have hP : va_P D vwCl (wRef k a0 (up2 (up2 (up2 (up2 (upA S0 0 (upZ (upZ (S0 0) 8 0) 7 0)) 0 8 2) 0 7 1) 0 9 5) 0 10 (((2 + (S0 1 (((93 + (4 * p0)) + 2).toNat))) - (S0 1 0))))) H := hP
        have hD : va_D A (wRef k a0 (up2 (up2 (up2 (up2 (upA S0 0 (upZ (upZ (S0 0) 8 0) 7 0)) 0 8 2) 0 7 1) 0 9 5) 0 10 (((2 + (S0 1 (((93 + (4 * p0)) + 2).toNat))) - (S0 1 0))))) := hD
        refine z_eqi (z2 := 0) rfl ?_
        exact z_iret hx hb hr hlocks hP hS dX8_repair_70 (Eq.trans (zif_pos c_2) (Eq.trans (zif_neg c_6) (Eq.trans (zif_neg c_9) rfl))) (Eq.trans (Eq.trans (congrArg (fun z => wRef k a0 (upA (upA (upA S0 0 z) 1 (sS0_1_X8_repair S0 p0)) 2 (sS0_2_X8_repair S0 p0))) (show sS0_0_X8_repair S0 p0 = upZ (upZ (upZ (upZ (upZ (upZ (S0 0) 8 0) 7 0) 8 2) 7 1) 9 5) 10 (((2 + (S0 1 (((93 + (4 * p0)) + 2).toNat))) - (S0 1 0))) from (Eq.trans (zif_pos c_2) (Eq.trans (zif_neg c_6) (Eq.trans (zif_neg c_9) rfl))))) (congrArg (fun z => wRef k a0 (upA (upA (upA S0 0 (upZ (upZ (upZ (upZ (upZ (upZ (S0 0) 8 0) 7 0) 8 2) 7 1) 9 5) 10 (((2 + (S0 1 (((93 + (4 * p0)) + 2).toNat))) - (S0 1 0))))) 1 z) 2 (sS0_2_X8_repair S0 p0))) (show sS0_1_X8_repair S0 p0 = S0 1 from (Eq.trans (zif_pos c_2) (Eq.trans (zif_neg c_6) (Eq.trans (zif_neg c_9) rfl)))))) (congrArg (fun z => wRef k a0 (upA (upA (upA S0 0 (upZ (upZ (upZ (upZ (upZ (upZ (S0 0) 8 0) 7 0) 8 2) 7 1) 9 5) 10 (((2 + (S0 1 (((93 + (4 * p0)) + 2).toNat))) - (S0 1 0))))) 1 (S0 1)) 2 z)) (show sS0_2_X8_repair S0 p0 = S0 2 from (Eq.trans (zif_pos c_2) (Eq.trans (zif_neg c_6) (Eq.trans (zif_neg c_9) rfl)))))) (Nat.le_refl _) (Nat.le_refl _)
    · refine lv_aload_n hx hb dX8_repair_32 rfl (lv_at hl 0 rfl) ?_
      refine lv_iconst (v := iI 2) hx hb dX8_repair_33 rfl ?_
      refine lv_iconst (v := iI 1) hx hb dX8_repair_34 rfl ?_
      refine lv_iconst (v := iI 5) hx hb dX8_repair_35 rfl ?_
      refine z_ai (va_runV (As := [.int (iI 2), .int (iI 1), .int (iI 5)]) (rest := []) ⟨hx, hb, hml, hown, hts⟩ (c_X8_refuses l D k a0 (upA S0 0 (upZ (upZ (S0 0) 8 0) 7 0))  2 1 5  _) (cwV 3 hts gX8_repair_X8_refuses rfl rfl rfl (by decide +kernel) ⟨(Nat.le_of_ble_eq_true rfl), (Nat.le_of_ble_eq_true rfl)⟩) (z_preV hK hG hA hP hD hS [0, 1, 2, 3, 4, 5, 6, 7] rfl (by decide) 10 rfl rfl) rfl rfl hl.1 rfl (lv_room (Nat.le_of_ble_eq_true rfl)) dX8_repair_36 ⟨(Nat.le_of_ble_eq_true rfl), (Nat.le_of_ble_eq_true rfl)⟩) hA hP hD hS [0, 1, 2, 3, 4, 5, 6, 7] rfl rfl (fun H locs hP hD hS => ?_)
      have hP : va_P D vwCl (wRef k a0 (up2 (up2 (up2 (up2 (upA S0 0 (upZ (upZ (S0 0) 8 0) 7 0)) 0 8 2) 0 7 1) 0 9 1) 0 10 5)) H := hP
      have hD : va_D A (wRef k a0 (up2 (up2 (up2 (up2 (upA S0 0 (upZ (upZ (S0 0) 8 0) 7 0)) 0 8 2) 0 7 1) 0 9 1) 0 10 5)) := hD
      refine z_eqi (z2 := 0) rfl ?_
      exact z_iret hx hb hr hlocks hP hS dX8_repair_39 (Eq.trans (zif_pos c_2) (Eq.trans (zif_pos c_6) rfl)) (Eq.trans (Eq.trans (congrArg (fun z => wRef k a0 (upA (upA (upA S0 0 z) 1 (sS0_1_X8_repair S0 p0)) 2 (sS0_2_X8_repair S0 p0))) (show sS0_0_X8_repair S0 p0 = upZ (upZ (upZ (upZ (upZ (upZ (S0 0) 8 0) 7 0) 8 2) 7 1) 9 1) 10 5 from (Eq.trans (zif_pos c_2) (Eq.trans (zif_pos c_6) rfl)))) (congrArg (fun z => wRef k a0 (upA (upA (upA S0 0 (upZ (upZ (upZ (upZ (upZ (upZ (S0 0) 8 0) 7 0) 8 2) 7 1) 9 1) 10 5)) 1 z) 2 (sS0_2_X8_repair S0 p0))) (show sS0_1_X8_repair S0 p0 = S0 1 from (Eq.trans (zif_pos c_2) (Eq.trans (zif_pos c_6) rfl))))) (congrArg (fun z => wRef k a0 (upA (upA (upA S0 0 (upZ (upZ (upZ (upZ (upZ (upZ (S0 0) 8 0) 7 0) 8 2) 7 1) 9 1) 10 5)) 1 (S0 1)) 2 z)) (show sS0_2_X8_repair S0 p0 = S0 2 from (Eq.trans (zif_pos c_2) (Eq.trans (zif_pos c_6) rfl))))) (Nat.le_refl _) (Nat.le_refl _)
noncomputable def sp_X8_week (S0 : Nat → Nat → Int) : Int := zif ((S0 1 67) ≤ 0)
  (0)
  (zif (S0 1 73 = 1)
    (0)
    (1))
noncomputable def sS0_0_X8_week (S0 : Nat → Nat → Int) : (Nat → Int) := zif ((S0 1 67) ≤ 0)
  (sS0_0_X8_keeps S0 0)
  (zif (S0 1 73 = 1)
    (sS0_0_X8_keeps S0 0)
    (sS0_0_X8_keeps S0 0))
noncomputable def sS0_1_X8_week (S0 : Nat → Nat → Int) : (Nat → Int) := zif ((S0 1 67) ≤ 0)
  (upZ (upZ (upZ (mapZ rRest (rPass ((rPass (S0 1) 1)) 0) 11 (11 + S0 1 9).toNat) 5 (((mapZ rRest (rPass ((rPass (S0 1) 1)) 0) 11 (11 + S0 1 9).toNat) 5) + 0)) 7 0) 1 (((mapZ rRest (rPass ((rPass (S0 1) 1)) 0) 11 (11 + S0 1 9).toNat) 1) + 1))
  (zif (S0 1 73 = 1)
    (upZ (upZ (upZ (mapZ rRest (rPass ((rPass ((rGoes (S0 1) 2)) 1)) 0) 11 (11 + S0 1 9).toNat) 5 (((mapZ rRest (rPass ((rPass ((rGoes (S0 1) 2)) 1)) 0) 11 (11 + S0 1 9).toNat) 5) + 0)) 7 0) 1 (((mapZ rRest (rPass ((rPass ((rGoes (S0 1) 2)) 1)) 0) 11 (11 + S0 1 9).toNat) 1) + 1))
    (upZ (upZ (upZ (mapZ rRest (rPass ((rPass ((rGoes (S0 1) 2)) 1)) 0) 11 (11 + S0 1 9).toNat) 5 (((mapZ rRest (rPass ((rPass ((rGoes (S0 1) 2)) 1)) 0) 11 (11 + S0 1 9).toNat) 5) + 1)) 7 0) 1 (((mapZ rRest (rPass ((rPass ((rGoes (S0 1) 2)) 1)) 0) 11 (11 + S0 1 9).toNat) 1) + 1)))
noncomputable def sS0_2_X8_week (S0 : Nat → Nat → Int) : (Nat → Int) := zif ((S0 1 67) ≤ 0)
  (sS0_2_X8_keeps S0 0)
  (zif (S0 1 73 = 1)
    (sS0_2_X8_keeps S0 0)
    (sS0_2_X8_keeps S0 0))
set_option maxHeartbeats 4000000 in
set_option maxRecDepth 100000 in
theorem c_X8_week (l : Launch) (D : va_G) (k : Nat → ClassId) (a0 : Nat → Nat) (S0 : Nat → Nat → Int) (hB : zBf (S0 1)) (hT : zBt (S0 1)) (hB0 : zBf (S0 0)) (hC : ∀ b : Int, 0 ≤ b → b ≤ 2 → 0 ≤ S0 1 (15 + 26 * b + 0).toNat ∧ S0 1 (15 + 26 * b + 0).toNat ≤ 5) (hI : 0 ≤ S0 1 9 ∧ S0 1 9 ≤ 4) (hF : 0 ≤ S0 1 10 ∧ S0 1 10 ≤ 8) (hch : 0 ≤ S0 0 5 ∧ S0 0 5 ≤ 8) (hw : S0 0 6 = 0 ∨ S0 0 6 = 1) : zMi l yX8_week wsX8_week ({ frames := 3, cells := 0, slots := 0, locals := 70 } : Room) D k [.ref (a0 0)] (wRef k a0 S0) (sp_X8_week S0) (wRef k a0 (upA (upA (upA S0 0 (sS0_0_X8_week S0)) 1 (sS0_1_X8_week S0)) 2 (sS0_2_X8_week S0))) 0 0 := by
  refine zMi_of (cc := cX8_week) (maxL := 3) (ret := (some .int)) (by decide) rfl (Nat.le_of_ble_eq_true rfl) ?_
  intro p e s m args below meth c A ls hx hb hr hml hown hts hlocks hK hP hD hG hA hS hl
  have hown : s.vm.findClass RX8 = some m.cls := hown
  have hl : lv_has ls 3 [(0, .ref (a0 0))] := hl
  obtain ⟨H, hH⟩ : ∃ z, z = s.heap := ⟨_, rfl⟩
  obtain ⟨locs, hlc⟩ : ∃ z : List Loc, z = [] := ⟨_, rfl⟩
  rw [← hH] at hP
  have hS : va_S A s.heap H locs := by rw [hH, hlc]; exact hS
  rw [← hlc, ← hH]
  clear hlc hH
  have q0 : 0 ≤ S0 1 15 ∧ S0 1 15 ≤ 5 := hC 0 (by omega) (by omega)
  have q1 : 0 ≤ S0 1 41 ∧ S0 1 41 ≤ 5 := hC 1 (by omega) (by omega)
  have q2 : 0 ≤ S0 1 67 ∧ S0 1 67 ≤ 5 := hC 2 (by omega) (by omega)
  have z0 : S0 1 (15 + 26 * (0 : Int) + 0).toNat = S0 1 15 := rfl
  have z1 : S0 1 (15 + 26 * (1 : Int) + 0).toNat = S0 1 41 := rfl
  have z2 : S0 1 (15 + 26 * (2 : Int) + 0).toNat = S0 1 67 := rfl
  have z1a : S0 1 (15 + 26 * ((0 : Int) + 1) + 0).toNat = S0 1 41 := rfl
  have z2a : S0 1 (15 + 26 * ((1 : Int) + 1) + 0).toNat = S0 1 67 := rfl
  refine lv_aload_n hx hb dX8_week_0 rfl (lv_at hl 0 rfl) ?_
  refine lv_aload_n hx hb dX8_week_1 rfl (lv_at hl 0 rfl) ?_
  refine va_get (D := D) (ci := 10) (v := .ref (a0 1)) (C := RX8) (T := TX8) (N := 19) hx hb hts (fun w h => List.mem_cons_of_mem _ (List.mem_append_left _ (List.mem_append_right _ h))) hown hK hP 0 rfl rfl 0 (by decide) (hts (.fieldLink RX8 7 "MondayFactoryModel" "g" "[I") (List.mem_of_getElem? (i := 1) rfl)) (fun _ h9 => h9) rfl dX8_week_2 ?_
  refine z_av (va_runV (As := [.ref (a0 1)]) (rest := []) ⟨hx, hb, hml, hown, hts⟩ (c_X8_keeps l D k a0 S0 0  (by omega) (by omega) (by omega) _) (cwV 1 hts gX8_week_X8_keeps rfl rfl rfl (by decide +kernel) ⟨(Nat.le_of_ble_eq_true rfl), (Nat.le_of_ble_eq_true rfl)⟩) (z_preV hK hG hA hP hD hS [0, 1, 2, 3, 4, 5, 6, 7] rfl (by decide) 10 rfl rfl) rfl rfl hl.1 rfl (lv_room (Nat.le_of_ble_eq_true rfl)) dX8_week_5 ⟨(Nat.le_of_ble_eq_true rfl), (Nat.le_of_ble_eq_true rfl)⟩) hA hP hD hS [0, 1, 2, 3, 4, 5, 6, 7] rfl rfl (fun H locs hP hD hS => ?_)
  have hP : va_P D vwCl (wRef k a0 (upA (upA S0 0 (sS0_0_X8_keeps S0 0)) 2 (sS0_2_X8_keeps S0 0))) H := hP
  have hD : va_D A (wRef k a0 (upA (upA S0 0 (sS0_0_X8_keeps S0 0)) 2 (sS0_2_X8_keeps S0 0))) := hD
  refine lv_aload_n hx hb dX8_week_8 rfl (lv_at hl 0 rfl) ?_
  refine lv_iconst (v := iI 2) hx hb dX8_week_9 rfl ?_
  refine lv_iconst (v := iI 0) hx hb dX8_week_10 rfl ?_
  refine z_ai0 (va_runV (As := [.int (iI 2), .int (iI 0)]) (rest := []) ⟨hx, hb, hml, hown, hts⟩ (c_X8_of l D k a0 (upA (upA S0 0 (sS0_0_X8_keeps S0 0)) 2 (sS0_2_X8_keeps S0 0))  2 0 (by omega) (by omega) _) (cwV 2 hts gX8_week_X8_of rfl rfl rfl (by decide +kernel) ⟨(Nat.le_of_ble_eq_true rfl), (Nat.le_of_ble_eq_true rfl)⟩) (z_preV hK hG hA hP hD hS [0, 1, 2, 3, 4, 5, 6, 7] rfl (by decide) 10 rfl rfl) rfl rfl hl.1 rfl (lv_room (Nat.le_of_ble_eq_true rfl)) dX8_week_11 ⟨(Nat.le_of_ble_eq_true rfl), (Nat.le_of_ble_eq_true rfl)⟩) hA hP hD hS [0, 1, 2, 3, 4, 5, 6, 7] rfl (fun H locs hP hS => ?_)
  refine z_eqi (z2 := S0 1 67) rfl ?_
  have f_1 := hT 67
  refine zi_if_le (tgt := 30) hx hb dX8_week_14 (by decide) ⟨by omega, by omega⟩ (fun c_2 => ?_) (fun c_2 => ?_)
  · refine lv_iconst (v := iI 0) hx hb dX8_week_30 rfl ?_
    refine lv_istore_n (lv' := [(1, .int (iI 0)), (0, .ref (a0 0))]) hx hb dX8_week_31 rfl hl (by decide) rfl (fun ls hl => ?_)
    refine lv_aload_n hx hb dX8_week_32 rfl (lv_at hl 1 rfl) ?_
    refine lv_iconst (v := iI 2) hx hb dX8_week_33 rfl ?_
    refine lv_iconst (v := iI 0) hx hb dX8_week_34 rfl ?_
    refine z_ai0 (va_runV (As := [.int (iI 2), .int (iI 0)]) (rest := []) ⟨hx, hb, hml, hown, hts⟩ (c_X8_of l D k a0 (upA (upA S0 0 (sS0_0_X8_keeps S0 0)) 2 (sS0_2_X8_keeps S0 0))  2 0 (by omega) (by omega) _) (cwV 2 hts gX8_week_X8_of rfl rfl rfl (by decide +kernel) ⟨(Nat.le_of_ble_eq_true rfl), (Nat.le_of_ble_eq_true rfl)⟩) (z_preV hK hG hA hP hD hS [0, 1, 2, 3, 4, 5, 6, 7] rfl (by decide) 10 rfl rfl) rfl rfl hl.1 rfl (lv_room (Nat.le_of_ble_eq_true rfl)) dX8_week_35 ⟨(Nat.le_of_ble_eq_true rfl), (Nat.le_of_ble_eq_true rfl)⟩) hA hP hD hS [0, 1, 2, 3, 4, 5, 6, 7] rfl (fun H locs hP hS => ?_)
    refine z_eqi (z2 := S0 1 67) rfl ?_
    refine zi_if_le (tgt := 46) hx hb dX8_week_38 (by decide) ⟨by omega, by omega⟩ (fun _ => ?_) (fun c_3 => absurd c_3 (by omega))
    refine lv_aload_n hx hb dX8_week_46 rfl (lv_at hl 1 rfl) ?_
    refine lv_iconst (v := iI 1) hx hb dX8_week_47 rfl ?_
    refine z_av (va_runV (As := [.int (iI 1)]) (rest := []) ⟨hx, hb, hml, hown, hts⟩ (c_X8_passesOn l D k a0 (upA (upA S0 0 (sS0_0_X8_keeps S0 0)) 2 (sS0_2_X8_keeps S0 0))  1 hB (by omega) (by have e0 : ((upA (upA S0 0 (sS0_0_X8_keeps S0 0)) 2 (sS0_2_X8_keeps S0 0)) 1 (15 + 26 * 1 + 0 : Int).toNat) = S0 1 41 := rfl; omega) (by have e0 : ((upA (upA S0 0 (sS0_0_X8_keeps S0 0)) 2 (sS0_2_X8_keeps S0 0)) 1 (15 + 26 * (1 + 1) + 0 : Int).toNat) = S0 1 67 := rfl; omega) _) (cwV 1 hts gX8_week_X8_passesOn rfl rfl rfl (by decide +kernel) ⟨(Nat.le_of_ble_eq_true rfl), (Nat.le_of_ble_eq_true rfl)⟩) (z_preV hK hG hA hP hD hS [0, 1, 2, 3, 4, 5, 6, 7] rfl (by decide) 10 rfl rfl) rfl rfl hl.1 rfl (lv_room (Nat.le_of_ble_eq_true rfl)) dX8_week_48 ⟨(Nat.le_of_ble_eq_true rfl), (Nat.le_of_ble_eq_true rfl)⟩) hA hP hD hS [0, 1, 2, 3, 4, 5, 6, 7] rfl rfl (fun H locs hP hD hS => ?_)
    have hP : va_P D vwCl (wRef k a0 (upA (upA (upA S0 0 (sS0_0_X8_keeps S0 0)) 2 (sS0_2_X8_keeps S0 0)) 1 (rPass (S0 1) 1))) H := hP
    have hD : va_D A (wRef k a0 (upA (upA (upA S0 0 (sS0_0_X8_keeps S0 0)) 2 (sS0_2_X8_keeps S0 0)) 1 (rPass (S0 1) 1))) := hD
    have q_4 : 0 ≤ rPass (S0 1) 1 41 ∧ rPass (S0 1) 1 41 ≤ 4 := rPass_own (G := S0 1) (by omega) (by have e0 : ((upA (upA S0 0 (sS0_0_X8_keeps S0 0)) 2 (sS0_2_X8_keeps S0 0)) 1 (15 + 26 * 1 + 0 : Int).toNat) = S0 1 41 := rfl; omega) (by have e0 : ((upA (upA S0 0 (sS0_0_X8_keeps S0 0)) 2 (sS0_2_X8_keeps S0 0)) 1 (15 + 26 * (1 + 1) + 0 : Int).toNat) = S0 1 67 := rfl; omega)
    have : (rPass (S0 1) 1) (15 + 26 * (0 : Int) + 0).toNat = (rPass (S0 1) 1) 15 := rfl
    have : (rPass (S0 1) 1) (15 + 26 * ((0 : Int) + 1) + 0).toNat = (rPass (S0 1) 1) 41 := rfl
    have : (rPass (S0 1) 1) (15 + 26 * (1 : Int) + 0).toNat = (rPass (S0 1) 1) 41 := rfl
    have : (rPass (S0 1) 1) (15 + 26 * ((1 : Int) + 1) + 0).toNat = (rPass (S0 1) 1) 67 := rfl
    have : (rPass (S0 1) 1) (15 + 26 * (2 : Int) + 0).toNat = (rPass (S0 1) 1) 67 := rfl
    have q_5 : rPass (S0 1) 1 9 = S0 1 9 := rPass_n (G := S0 1) (by omega) (by have e0 : ((upA (upA S0 0 (sS0_0_X8_keeps S0 0)) 2 (sS0_2_X8_keeps S0 0)) 1 (15 + 26 * 1 + 0 : Int).toNat) = S0 1 41 := rfl; omega) (by have e0 : ((upA (upA S0 0 (sS0_0_X8_keeps S0 0)) 2 (sS0_2_X8_keeps S0 0)) 1 (15 + 26 * (1 + 1) + 0 : Int).toNat) = S0 1 67 := rfl; omega) (by omega)
    have q_6 : rPass (S0 1) 1 15 = S0 1 15 := rPass_n (G := S0 1) (by omega) (by have e0 : ((upA (upA S0 0 (sS0_0_X8_keeps S0 0)) 2 (sS0_2_X8_keeps S0 0)) 1 (15 + 26 * 1 + 0 : Int).toNat) = S0 1 41 := rfl; omega) (by have e0 : ((upA (upA S0 0 (sS0_0_X8_keeps S0 0)) 2 (sS0_2_X8_keeps S0 0)) 1 (15 + 26 * (1 + 1) + 0 : Int).toNat) = S0 1 67 := rfl; omega) (by omega)
    refine lv_aload_n hx hb dX8_week_51 rfl (lv_at hl 1 rfl) ?_
    refine lv_iconst (v := iI 0) hx hb dX8_week_52 rfl ?_
    refine z_av (va_runV (As := [.int (iI 0)]) (rest := []) ⟨hx, hb, hml, hown, hts⟩ (c_X8_passesOn l D k a0 (upA (upA (upA S0 0 (sS0_0_X8_keeps S0 0)) 2 (sS0_2_X8_keeps S0 0)) 1 (rPass (S0 1) 1))  0 (zBf.pass (G := S0 1) hB (by omega) (by have e0 : ((upA (upA S0 0 (sS0_0_X8_keeps S0 0)) 2 (sS0_2_X8_keeps S0 0)) 1 (15 + 26 * 1 + 0 : Int).toNat) = S0 1 41 := rfl; omega) (by have e0 : ((upA (upA S0 0 (sS0_0_X8_keeps S0 0)) 2 (sS0_2_X8_keeps S0 0)) 1 (15 + 26 * (1 + 1) + 0 : Int).toNat) = S0 1 67 := rfl; omega)) (by omega) (by have e0 : ((upA (upA (upA S0 0 (sS0_0_X8_keeps S0 0)) 2 (sS0_2_X8_keeps S0 0)) 1 (rPass (S0 1) 1)) 1 (15 + 26 * 0 + 0 : Int).toNat) = S0 1 15 := (show (rPass (S0 1) 1) 15 = S0 1 15 from (Eq.trans (rPass_n (by omega) (by omega) (by omega) (by omega)) rfl)); omega) (by have e0 : ((upA (upA (upA S0 0 (sS0_0_X8_keeps S0 0)) 2 (sS0_2_X8_keeps S0 0)) 1 (rPass (S0 1) 1)) 1 (15 + 26 * (0 + 1) + 0 : Int).toNat) = (rPass (S0 1) 1) 41 := rfl; omega) _) (cwV 1 hts gX8_week_X8_passesOn rfl rfl rfl (by decide +kernel) ⟨(Nat.le_of_ble_eq_true rfl), (Nat.le_of_ble_eq_true rfl)⟩) (z_preV hK hG hA hP hD hS [0, 1, 2, 3, 4, 5, 6, 7] rfl (by decide) 10 rfl rfl) rfl rfl hl.1 rfl (lv_room (Nat.le_of_ble_eq_true rfl)) dX8_week_53 ⟨(Nat.le_of_ble_eq_true rfl), (Nat.le_of_ble_eq_true rfl)⟩) hA hP hD hS [0, 1, 2, 3, 4, 5, 6, 7] rfl rfl (fun H locs hP hD hS => ?_)
    have hP : va_P D vwCl (wRef k a0 (upA (upA (upA (upA S0 0 (sS0_0_X8_keeps S0 0)) 2 (sS0_2_X8_keeps S0 0)) 1 (rPass (S0 1) 1)) 1 (rPass ((rPass (S0 1) 1)) 0))) H := hP
    have hD : va_D A (wRef k a0 (upA (upA (upA (upA S0 0 (sS0_0_X8_keeps S0 0)) 2 (sS0_2_X8_keeps S0 0)) 1 (rPass (S0 1) 1)) 1 (rPass ((rPass (S0 1) 1)) 0))) := hD
    have q_7 : 0 ≤ rPass ((rPass (S0 1) 1)) 0 15 ∧ rPass ((rPass (S0 1) 1)) 0 15 ≤ 4 := rPass_own (G := (rPass (S0 1) 1)) (by omega) (by have e0 : ((upA (upA (upA S0 0 (sS0_0_X8_keeps S0 0)) 2 (sS0_2_X8_keeps S0 0)) 1 (rPass (S0 1) 1)) 1 (15 + 26 * 0 + 0 : Int).toNat) = S0 1 15 := (show (rPass (S0 1) 1) 15 = S0 1 15 from (Eq.trans (rPass_n (by omega) (by omega) (by omega) (by omega)) rfl)); omega) (by have e0 : ((upA (upA (upA S0 0 (sS0_0_X8_keeps S0 0)) 2 (sS0_2_X8_keeps S0 0)) 1 (rPass (S0 1) 1)) 1 (15 + 26 * (0 + 1) + 0 : Int).toNat) = (rPass (S0 1) 1) 41 := rfl; omega)
    have q_8 : rPass ((rPass (S0 1) 1)) 0 9 = (rPass (S0 1) 1) 9 := rPass_n (G := (rPass (S0 1) 1)) (by omega) (by have e0 : ((upA (upA (upA S0 0 (sS0_0_X8_keeps S0 0)) 2 (sS0_2_X8_keeps S0 0)) 1 (rPass (S0 1) 1)) 1 (15 + 26 * 0 + 0 : Int).toNat) = S0 1 15 := (show (rPass (S0 1) 1) 15 = S0 1 15 from (Eq.trans (rPass_n (by omega) (by omega) (by omega) (by omega)) rfl)); omega) (by have e0 : ((upA (upA (upA S0 0 (sS0_0_X8_keeps S0 0)) 2 (sS0_2_X8_keeps S0 0)) 1 (rPass (S0 1) 1)) 1 (15 + 26 * (0 + 1) + 0 : Int).toNat) = (rPass (S0 1) 1) 41 := rfl; omega) (by omega)
    refine lv_iconst (v := iI 0) hx hb dX8_week_56 rfl ?_
    refine lv_istore_n (lv' := [(2, .int (iI 0)), (1, .int (iI 0)), (0, .ref (a0 0))]) hx hb dX8_week_57 rfl hl (by decide) rfl (fun ls hl => ?_)
    have lp58_0 : ∀ (n : Nat) (x2 : Int) (F1 : Nat → Int), (4 - x2).toNat < n → (0 ≤ x2) → (x2 ≤ S0 1 9) → (F1 = mapZ rRest (rPass ((rPass (S0 1) 1)) 0) 11 (11 + x2).toNat) → ∀ (H : Heap) (locs : List Loc) (ls : Array Slot), va_P D vwCl (wRef k a0 (upA (upA (upA (upA (upA S0 0 (sS0_0_X8_keeps S0 0)) 2 (sS0_2_X8_keeps S0 0)) 1 (rPass (S0 1) 1)) 1 (rPass ((rPass (S0 1) 1)) 0)) 1 F1)) H → va_D A (wRef k a0 (upA (upA (upA (upA (upA S0 0 (sS0_0_X8_keeps S0 0)) 2 (sS0_2_X8_keeps S0 0)) 1 (rPass (S0 1) 1)) 1 (rPass ((rPass (S0 1) 1)) 0)) 1 F1)) → va_S A s.heap H locs → lv_has ls 3 [(2, .int (iI x2)), (1, .int (iI 0)), (0, .ref (a0 0))] → W p l e ({ frames := 3, cells := 0, slots := 0, locals := 70 } : Room) s m args below meth c H locs 0 0 (MQ below (zQi D A (sp_X8_week S0) (wRef k a0 (upA (upA (upA S0 0 (sS0_0_X8_week S0)) 1 (sS0_1_X8_week S0)) 2 (sS0_2_X8_week S0)))) args s 0 0 A) (F0 m 58 ls []) := by
      intro n58
      induction n58 with
      | zero => intro x2 F1 hm; exact absurd hm (Nat.not_lt_zero _)
      | succ n58 ih58 =>
        intro x2 F1 hm58 i0 i1 iF  H locs ls hP hD hS hl
        have g0 : F1 9 = S0 1 9 := by rw [iF, mapZ_out (by omega)]; exact (show (rPass ((rPass (S0 1) 1)) 0) 9 = S0 1 9 from (Eq.trans (rPass_n (by omega) (by omega) (by omega) (by omega)) (Eq.trans (rPass_n (by omega) (by omega) (by omega) (by omega)) rfl)))
        have hbF : zBf F1 := by rw [iF]; exact zBf.map (zBf.pass (G := (rPass (S0 1) 1)) (zBf.pass (G := S0 1) hB (by omega) (by have e0 : ((upA (upA S0 0 (sS0_0_X8_keeps S0 0)) 2 (sS0_2_X8_keeps S0 0)) 1 (15 + 26 * 1 + 0 : Int).toNat) = S0 1 41 := rfl; omega) (by have e0 : ((upA (upA S0 0 (sS0_0_X8_keeps S0 0)) 2 (sS0_2_X8_keeps S0 0)) 1 (15 + 26 * (1 + 1) + 0 : Int).toNat) = S0 1 67 := rfl; omega)) (by omega) (by have e0 : ((upA (upA (upA S0 0 (sS0_0_X8_keeps S0 0)) 2 (sS0_2_X8_keeps S0 0)) 1 (rPass (S0 1) 1)) 1 (15 + 26 * 0 + 0 : Int).toNat) = S0 1 15 := (show (rPass (S0 1) 1) 15 = S0 1 15 from (Eq.trans (rPass_n (by omega) (by omega) (by omega) (by omega)) rfl)); omega) (by have e0 : ((upA (upA (upA S0 0 (sS0_0_X8_keeps S0 0)) 2 (sS0_2_X8_keeps S0 0)) 1 (rPass (S0 1) 1)) 1 (15 + 26 * (0 + 1) + 0 : Int).toNat) = (rPass (S0 1) 1) 41 := rfl; omega)) (fun z hz => by show _ ≤ max 0 (min (z + (-2)) 9) ∧ max 0 (min (z + (-2)) 9) ≤ _; omega) _ _
        refine lv_iload_n hx hb dX8_week_58 rfl (lv_at hl 0 rfl) ?_
        refine lv_aload_n hx hb dX8_week_59 rfl (lv_at hl 2 rfl) ?_
        refine va_get (D := D) (ci := 10) (v := .ref (a0 1)) (C := RX8) (T := TX8) (N := 19) hx hb hts (fun w h => List.mem_cons_of_mem _ (List.mem_append_left _ (List.mem_append_right _ h))) hown hK hP 0 rfl rfl 0 (by decide) (hts (.fieldLink RX8 7 "MondayFactoryModel" "g" "[I") (List.mem_of_getElem? (i := 1) rfl)) (fun _ h9 => h9) rfl dX8_week_60 ?_
        refine lv_bipush (v := iI 9) hx hb dX8_week_63 (by decide) ?_
        refine z_iald hx hb hK hP 1 0 (f := F1) rfl rfl (i := 9) (by omega) (by omega) (by decide) 9 rfl dX8_week_65 ?_
        have f_9 := hbF 9
        refine zi_icmp_ge (tgt := 82) hx hb dX8_week_66 (by decide) ⟨by omega, by omega⟩ ⟨by omega, by omega⟩ (fun c_10 => ?_) (fun c_10 => ?_)
        · have v_11 : F1 = mapZ rRest (rPass ((rPass (S0 1) 1)) 0) 11 (11 + S0 1 9).toNat := (by rw [iF, show x2 = S0 1 9 by omega])
          rw [v_11] at hP hD
          have v_12 : x2 = S0 1 9 := (by omega)
          rw [v_12] at hl
          refine lv_aload_n hx hb dX8_week_82 rfl (lv_at hl 2 rfl) ?_
          refine va_get (D := D) (ci := 10) (v := .ref (a0 1)) (C := RX8) (T := TX8) (N := 19) hx hb hts (fun w h => List.mem_cons_of_mem _ (List.mem_append_left _ (List.mem_append_right _ h))) hown hK hP 0 rfl rfl 0 (by decide) (hts (.fieldLink RX8 7 "MondayFactoryModel" "g" "[I") (List.mem_of_getElem? (i := 1) rfl)) (fun _ h9 => h9) rfl dX8_week_83 ?_
          refine lv_iconst (v := iI 5) hx hb dX8_week_86 rfl ?_
          refine lv_dup2_11 hx hb dX8_week_87 rfl rfl ?_
          refine z_iald hx hb hK hP 1 0 (f := mapZ rRest (rPass ((rPass (S0 1) 1)) 0) 11 (11 + S0 1 9).toNat) rfl rfl (i := 5) (by omega) (by omega) (by decide) 5 rfl dX8_week_88 ?_
          refine lv_iload_n hx hb dX8_week_89 rfl (lv_at hl 1 rfl) ?_
          refine zi_add hx hb dX8_week_90 ?_
          refine z_iast hx hb hK hP hD hS 1 0 (f := mapZ rRest (rPass ((rPass (S0 1) 1)) 0) 11 (11 + S0 1 9).toNat) rfl rfl (i := 5) (by omega) (by omega) (by decide) 5 rfl dX8_week_91 (fun H locs hP hD hS => ?_)
          have hP : va_P D vwCl (wRef k a0 (up2 (upA (upA (upA (upA (upA S0 0 (sS0_0_X8_keeps S0 0)) 2 (sS0_2_X8_keeps S0 0)) 1 (rPass (S0 1) 1)) 1 (rPass ((rPass (S0 1) 1)) 0)) 1 (mapZ rRest (rPass ((rPass (S0 1) 1)) 0) 11 (11 + S0 1 9).toNat)) 1 5 (((mapZ rRest (rPass ((rPass (S0 1) 1)) 0) 11 (11 + S0 1 9).toNat) 5) + 0))) H := hP
          have hD : va_D A (wRef k a0 (up2 (upA (upA (upA (upA (upA S0 0 (sS0_0_X8_keeps S0 0)) 2 (sS0_2_X8_keeps S0 0)) 1 (rPass (S0 1) 1)) 1 (rPass ((rPass (S0 1) 1)) 0)) 1 (mapZ rRest (rPass ((rPass (S0 1) 1)) 0) 11 (11 + S0 1 9).toNat)) 1 5 (((mapZ rRest (rPass ((rPass (S0 1) 1)) 0) 11 (11 + S0 1 9).toNat) 5) + 0))) := hD
          refine lv_aload_n hx hb dX8_week_92 rfl (lv_at hl 2 rfl) ?_
          refine va_get (D := D) (ci := 10) (v := .ref (a0 1)) (C := RX8) (T := TX8) (N := 19) hx hb hts (fun w h => List.mem_cons_of_mem _ (List.mem_append_left _ (List.mem_append_right _ h))) hown hK hP 0 rfl rfl 0 (by decide) (hts (.fieldLink RX8 7 "MondayFactoryModel" "g" "[I") (List.mem_of_getElem? (i := 1) rfl)) (fun _ h9 => h9) rfl dX8_week_93 ?_
          refine lv_bipush (v := iI 7) hx hb dX8_week_96 (by decide) ?_
          refine lv_iconst (v := iI 0) hx hb dX8_week_98 rfl ?_
          refine z_iast hx hb hK hP hD hS 1 0 (f := upZ (mapZ rRest (rPass ((rPass (S0 1) 1)) 0) 11 (11 + S0 1 9).toNat) 5 (((mapZ rRest (rPass ((rPass (S0 1) 1)) 0) 11 (11 + S0 1 9).toNat) 5) + 0)) rfl rfl (i := 7) (by omega) (by omega) (by decide) 7 rfl dX8_week_99 (fun H locs hP hD hS => ?_)
          have hP : va_P D vwCl (wRef k a0 (up2 (up2 (upA (upA (upA (upA (upA S0 0 (sS0_0_X8_keeps S0 0)) 2 (sS0_2_X8_keeps S0 0)) 1 (rPass (S0 1) 1)) 1 (rPass ((rPass (S0 1) 1)) 0)) 1 (mapZ rRest (rPass ((rPass (S0 1) 1)) 0) 11 (11 + S0 1 9).toNat)) 1 5 (((mapZ rRest (rPass ((rPass (S0 1) 1)) 0) 11 (11 + S0 1 9).toNat) 5) + 0)) 1 7 0)) H := hP
          have hD : va_D A (wRef k a0 (up2 (up2 (upA (upA (upA (upA (upA S0 0 (sS0_0_X8_keeps S0 0)) 2 (sS0_2_X8_keeps S0 0)) 1 (rPass (S0 1) 1)) 1 (rPass ((rPass (S0 1) 1)) 0)) 1 (mapZ rRest (rPass ((rPass (S0 1) 1)) 0) 11 (11 + S0 1 9).toNat)) 1 5 (((mapZ rRest (rPass ((rPass (S0 1) 1)) 0) 11 (11 + S0 1 9).toNat) 5) + 0)) 1 7 0)) := hD
          refine lv_aload_n hx hb dX8_week_100 rfl (lv_at hl 2 rfl) ?_
          refine va_get (D := D) (ci := 10) (v := .ref (a0 1)) (C := RX8) (T := TX8) (N := 19) hx hb hts (fun w h => List.mem_cons_of_mem _ (List.mem_append_left _ (List.mem_append_right _ h))) hown hK hP 0 rfl rfl 0 (by decide) (hts (.fieldLink RX8 7 "MondayFactoryModel" "g" "[I") (List.mem_of_getElem? (i := 1) rfl)) (fun _ h9 => h9) rfl dX8_week_101 ?_
          refine lv_iconst (v := iI 1) hx hb dX8_week_104 rfl ?_
          refine lv_dup2_11 hx hb dX8_week_105 rfl rfl ?_
          refine z_iald hx hb hK hP 1 0 (f := upZ (upZ (mapZ rRest (rPass ((rPass (S0 1) 1)) 0) 11 (11 + S0 1 9).toNat) 5 (((mapZ rRest (rPass ((rPass (S0 1) 1)) 0) 11 (11 + S0 1 9).toNat) 5) + 0)) 7 0) rfl rfl (i := 1) (by omega) (by omega) (by decide) 1 rfl dX8_week_106 ?_
          refine z_eqi (z2 := (mapZ rRest (rPass ((rPass (S0 1) 1)) 0) 11 (11 + S0 1 9).toNat) 1) (show (upZ (upZ (mapZ rRest (rPass ((rPass (S0 1) 1)) 0) 11 (11 + S0 1 9).toNat) 5 (((mapZ rRest (rPass ((rPass (S0 1) 1)) 0) 11 (11 + S0 1 9).toNat) 5) + 0)) 7 0) 1 = (mapZ rRest (rPass ((rPass (S0 1) 1)) 0) 11 (11 + S0 1 9).toNat) 1 from (Eq.trans (upZ_n (by omega)) (Eq.trans (upZ_n (by omega)) rfl))) ?_
          refine lv_iconst (v := iI 1) hx hb dX8_week_107 rfl ?_
          refine zi_add hx hb dX8_week_108 ?_
          refine z_iast hx hb hK hP hD hS 1 0 (f := upZ (upZ (mapZ rRest (rPass ((rPass (S0 1) 1)) 0) 11 (11 + S0 1 9).toNat) 5 (((mapZ rRest (rPass ((rPass (S0 1) 1)) 0) 11 (11 + S0 1 9).toNat) 5) + 0)) 7 0) rfl rfl (i := 1) (by omega) (by omega) (by decide) 1 rfl dX8_week_109 (fun H locs hP hD hS => ?_)
          have hP : va_P D vwCl (wRef k a0 (up2 (up2 (up2 (upA (upA (upA (upA (upA S0 0 (sS0_0_X8_keeps S0 0)) 2 (sS0_2_X8_keeps S0 0)) 1 (rPass (S0 1) 1)) 1 (rPass ((rPass (S0 1) 1)) 0)) 1 (mapZ rRest (rPass ((rPass (S0 1) 1)) 0) 11 (11 + S0 1 9).toNat)) 1 5 (((mapZ rRest (rPass ((rPass (S0 1) 1)) 0) 11 (11 + S0 1 9).toNat) 5) + 0)) 1 7 0) 1 1 (((mapZ rRest (rPass ((rPass (S0 1) 1)) 0) 11 (11 + S0 1 9).toNat) 1) + 1))) H := hP
          have hD : va_D A (wRef k a0 (up2 (up2 (up2 (upA (upA (upA (upA (upA S0 0 (sS0_0_X8_keeps S0 0)) 2 (sS0_2_X8_keeps S0 0)) 1 (rPass (S0 1) 1)) 1 (rPass ((rPass (S0 1) 1)) 0)) 1 (mapZ rRest (rPass ((rPass (S0 1) 1)) 0) 11 (11 + S0 1 9).toNat)) 1 5 (((mapZ rRest (rPass ((rPass (S0 1) 1)) 0) 11 (11 + S0 1 9).toNat) 5) + 0)) 1 7 0) 1 1 (((mapZ rRest (rPass ((rPass (S0 1) 1)) 0) 11 (11 + S0 1 9).toNat) 1) + 1))) := hD
          refine lv_iload_n hx hb dX8_week_110 rfl (lv_at hl 1 rfl) ?_
          exact z_iret hx hb hr hlocks hP hS dX8_week_111 (Eq.trans (zif_pos c_2) rfl) (Eq.trans (Eq.trans (congrArg (fun z => wRef k a0 (upA (upA (upA S0 0 z) 1 (sS0_1_X8_week S0)) 2 (sS0_2_X8_week S0))) (show sS0_0_X8_week S0 = sS0_0_X8_keeps S0 0 from (Eq.trans (zif_pos c_2) rfl))) (congrArg (fun z => wRef k a0 (upA (upA (upA S0 0 (sS0_0_X8_keeps S0 0)) 1 z) 2 (sS0_2_X8_week S0))) (show sS0_1_X8_week S0 = upZ (upZ (upZ (mapZ rRest (rPass ((rPass (S0 1) 1)) 0) 11 (11 + S0 1 9).toNat) 5 (((mapZ rRest (rPass ((rPass (S0 1) 1)) 0) 11 (11 + S0 1 9).toNat) 5) + 0)) 7 0) 1 (((mapZ rRest (rPass ((rPass (S0 1) 1)) 0) 11 (11 + S0 1 9).toNat) 1) + 1) from (Eq.trans (zif_pos c_2) rfl)))) (congrArg (fun z => wRef k a0 (upA (upA (upA S0 0 (sS0_0_X8_keeps S0 0)) 1 (upZ (upZ (upZ (mapZ rRest (rPass ((rPass (S0 1) 1)) 0) 11 (11 + S0 1 9).toNat) 5 (((mapZ rRest (rPass ((rPass (S0 1) 1)) 0) 11 (11 + S0 1 9).toNat) 5) + 0)) 7 0) 1 (((mapZ rRest (rPass ((rPass (S0 1) 1)) 0) 11 (11 + S0 1 9).toNat) 1) + 1))) 2 z)) (show sS0_2_X8_week S0 = sS0_2_X8_keeps S0 0 from (Eq.trans (zif_pos c_2) rfl)))) (Nat.le_refl _) (Nat.le_refl _)
        · refine lv_aload_n hx hb dX8_week_69 rfl (lv_at hl 2 rfl) ?_
          refine lv_iload_n hx hb dX8_week_70 rfl (lv_at hl 0 rfl) ?_
          refine lv_bipush (v := iI (-2)) hx hb dX8_week_71 (by decide) ?_
          refine z_av (va_runV (As := [.int (iI x2), .int (iI (-2))]) (rest := []) ⟨hx, hb, hml, hown, hts⟩ (c_X8_tires l D k a0 (upA (upA (upA (upA (upA S0 0 (sS0_0_X8_keeps S0 0)) 2 (sS0_2_X8_keeps S0 0)) 1 (rPass (S0 1) 1)) 1 (rPass ((rPass (S0 1) 1)) 0)) 1 F1)  x2 (-2) hbF (by omega) (by omega) _) (cwV 2 hts gX8_week_X8_tires rfl rfl rfl (by decide +kernel) ⟨(Nat.le_of_ble_eq_true rfl), (Nat.le_of_ble_eq_true rfl)⟩) (z_preV hK hG hA hP hD hS [0, 1, 2, 3, 4, 5, 6, 7] rfl (by decide) 10 rfl rfl) rfl rfl hl.1 rfl (lv_room (Nat.le_of_ble_eq_true rfl)) dX8_week_73 ⟨(Nat.le_of_ble_eq_true rfl), (Nat.le_of_ble_eq_true rfl)⟩) hA hP hD hS [0, 1, 2, 3, 4, 5, 6, 7] rfl rfl (fun H locs hP hD hS => ?_)
          have hP : va_P D vwCl (wRef k a0 (up2 (upA (upA (upA (upA (upA S0 0 (sS0_0_X8_keeps S0 0)) 2 (sS0_2_X8_keeps S0 0)) 1 (rPass (S0 1) 1)) 1 (rPass ((rPass (S0 1) 1)) 0)) 1 F1) 1 ((11 + x2).toNat) (max 0 (min ((F1 ((11 + x2).toNat)) + (-2)) 9)))) H := hP
          have hD : va_D A (wRef k a0 (up2 (upA (upA (upA (upA (upA S0 0 (sS0_0_X8_keeps S0 0)) 2 (sS0_2_X8_keeps S0 0)) 1 (rPass (S0 1) 1)) 1 (rPass ((rPass (S0 1) 1)) 0)) 1 F1) 1 ((11 + x2).toNat) (max 0 (min ((F1 ((11 + x2).toNat)) + (-2)) 9)))) := hD
          refine lv_iinc (v := iI (x2 + 1)) (lv' := [(2, .int (iI (x2 + 1))), (1, .int (iI 0)), (0, .ref (a0 0))]) hx hb dX8_week_76 hl (k := 0) rfl (iI_add _ _) (by decide) rfl (fun ls hl => ?_)
          refine lv_goto (tgt := 58) hx hb dX8_week_79 (by decide) ?_
          exact ih58 (x2 + 1) (upZ F1 ((11 + x2).toNat) (max 0 (min ((F1 ((11 + x2).toNat)) + (-2)) 9))) (by omega) (by omega) (by omega) (by rw [iF]; exact tires_s i0 rfl)  H locs ls hP hD hS (lv_sub hl [0, 1, 2] rfl)
    exact lp58_0 5 0 (rPass ((rPass (S0 1) 1)) 0) (by omega) (by omega) (by omega) (mapZ_0 (by omega)).symm  H locs ls hP hD hS (lv_sub hl [0, 1, 2] rfl)
  · refine lv_aload_n hx hb dX8_week_17 rfl (lv_at hl 0 rfl) ?_
    refine lv_iconst (v := iI 2) hx hb dX8_week_18 rfl ?_
    refine lv_iconst (v := iI 0) hx hb dX8_week_19 rfl ?_
    refine z_ai0 (va_runV (As := [.int (iI 2), .int (iI 0)]) (rest := []) ⟨hx, hb, hml, hown, hts⟩ (c_X8_isBlank l D k a0 (upA (upA S0 0 (sS0_0_X8_keeps S0 0)) 2 (sS0_2_X8_keeps S0 0))  2 0 hB (by omega) (by omega) _) (cwV 2 hts gX8_week_X8_isBlank rfl rfl rfl (by decide +kernel) ⟨(Nat.le_of_ble_eq_true rfl), (Nat.le_of_ble_eq_true rfl)⟩) (z_preV hK hG hA hP hD hS [0, 1, 2, 3, 4, 5, 6, 7] rfl (by decide) 10 rfl rfl) rfl rfl hl.1 rfl (lv_room (Nat.le_of_ble_eq_true rfl)) dX8_week_20 ⟨(Nat.le_of_ble_eq_true rfl), (Nat.le_of_ble_eq_true rfl)⟩) hA hP hD hS [0, 1, 2, 3, 4, 5, 6, 7] rfl (fun H locs hP hS => ?_)
    refine z_eqi (z2 := zb (S0 1 73 = 1)) rfl ?_
    have f_13 := hT 73
    refine zi_if_neB (tgt := 30) hx hb dX8_week_23 (by decide) (fun c_14 => ?_) (fun c_14 => ?_)
    · refine lv_iconst (v := iI 0) hx hb dX8_week_30 rfl ?_
      refine lv_istore_n (lv' := [(1, .int (iI 0)), (0, .ref (a0 0))]) hx hb dX8_week_31 rfl hl (by decide) rfl (fun ls hl => ?_)
      refine lv_aload_n hx hb dX8_week_32 rfl (lv_at hl 1 rfl) ?_
      refine lv_iconst (v := iI 2) hx hb dX8_week_33 rfl ?_
      refine lv_iconst (v := iI 0) hx hb dX8_week_34 rfl ?_
      refine z_ai0 (va_runV (As := [.int (iI 2), .int (iI 0)]) (rest := []) ⟨hx, hb, hml, hown, hts⟩ (c_X8_of l D k a0 (upA (upA S0 0 (sS0_0_X8_keeps S0 0)) 2 (sS0_2_X8_keeps S0 0))  2 0 (by omega) (by omega) _) (cwV 2 hts gX8_week_X8_of rfl rfl rfl (by decide +kernel) ⟨(Nat.le_of_ble_eq_true rfl), (Nat.le_of_ble_eq_true rfl)⟩) (z_preV hK hG hA hP hD hS [0, 1, 2, 3, 4, 5, 6, 7] rfl (by decide) 10 rfl rfl) rfl rfl hl.1 rfl (lv_room (Nat.le_of_ble_eq_true rfl)) dX8_week_35 ⟨(Nat.le_of_ble_eq_true rfl), (Nat.le_of_ble_eq_true rfl)⟩) hA hP hD hS [0, 1, 2, 3, 4, 5, 6, 7] rfl (fun H locs hP hS => ?_)
      refine z_eqi (z2 := S0 1 67) rfl ?_
      refine zi_if_le (tgt := 46) hx hb dX8_week_38 (by decide) ⟨by omega, by omega⟩ (fun c_15 => absurd c_15 (by omega)) (fun _ => ?_)
      refine lv_aload_n hx hb dX8_week_41 rfl (lv_at hl 1 rfl) ?_
      refine lv_iconst (v := iI 2) hx hb dX8_week_42 rfl ?_
      refine z_av (va_runV (As := [.int (iI 2)]) (rest := []) ⟨hx, hb, hml, hown, hts⟩ (c_X8_goes l D k a0 (upA (upA S0 0 (sS0_0_X8_keeps S0 0)) 2 (sS0_2_X8_keeps S0 0))  2 (by omega) (by have e0 : ((upA (upA S0 0 (sS0_0_X8_keeps S0 0)) 2 (sS0_2_X8_keeps S0 0)) 1 (15 + 26 * 2 + 0 : Int).toNat) = S0 1 67 := rfl; omega) _) (cwV 1 hts gX8_week_X8_goes rfl rfl rfl (by decide +kernel) ⟨(Nat.le_of_ble_eq_true rfl), (Nat.le_of_ble_eq_true rfl)⟩) (z_preV hK hG hA hP hD hS [0, 1, 2, 3, 4, 5, 6, 7] rfl (by decide) 10 rfl rfl) rfl rfl hl.1 rfl (lv_room (Nat.le_of_ble_eq_true rfl)) dX8_week_43 ⟨(Nat.le_of_ble_eq_true rfl), (Nat.le_of_ble_eq_true rfl)⟩) hA hP hD hS [0, 1, 2, 3, 4, 5, 6, 7] rfl rfl (fun H locs hP hD hS => ?_)
      have hP : va_P D vwCl (wRef k a0 (upA (upA (upA S0 0 (sS0_0_X8_keeps S0 0)) 2 (sS0_2_X8_keeps S0 0)) 1 (rGoes (S0 1) 2))) H := hP
      have hD : va_D A (wRef k a0 (upA (upA (upA S0 0 (sS0_0_X8_keeps S0 0)) 2 (sS0_2_X8_keeps S0 0)) 1 (rGoes (S0 1) 2))) := hD
      have : (rGoes (S0 1) 2) (15 + 26 * (0 : Int) + 0).toNat = (rGoes (S0 1) 2) 15 := rfl
      have : (rGoes (S0 1) 2) (15 + 26 * ((0 : Int) + 1) + 0).toNat = (rGoes (S0 1) 2) 41 := rfl
      have : (rGoes (S0 1) 2) (15 + 26 * (1 : Int) + 0).toNat = (rGoes (S0 1) 2) 41 := rfl
      have : (rGoes (S0 1) 2) (15 + 26 * ((1 : Int) + 1) + 0).toNat = (rGoes (S0 1) 2) 67 := rfl
      have : (rGoes (S0 1) 2) (15 + 26 * (2 : Int) + 0).toNat = (rGoes (S0 1) 2) 67 := rfl
      have q_16 : rGoes (S0 1) 2 9 = S0 1 9 := rGoes_n (G := S0 1) (by omega) (by have e0 : ((upA (upA S0 0 (sS0_0_X8_keeps S0 0)) 2 (sS0_2_X8_keeps S0 0)) 1 (15 + 26 * 2 + 0 : Int).toNat) = S0 1 67 := rfl; omega) (by omega)
      have q_17 : rGoes (S0 1) 2 15 = S0 1 15 := rGoes_n (G := S0 1) (by omega) (by have e0 : ((upA (upA S0 0 (sS0_0_X8_keeps S0 0)) 2 (sS0_2_X8_keeps S0 0)) 1 (15 + 26 * 2 + 0 : Int).toNat) = S0 1 67 := rfl; omega) (by omega)
      have q_18 : rGoes (S0 1) 2 41 = S0 1 41 := rGoes_n (G := S0 1) (by omega) (by have e0 : ((upA (upA S0 0 (sS0_0_X8_keeps S0 0)) 2 (sS0_2_X8_keeps S0 0)) 1 (15 + 26 * 2 + 0 : Int).toNat) = S0 1 67 := rfl; omega) (by omega)
      have q_19 : rGoes (S0 1) 2 67 = S0 1 67 - 1 := rGoes_own (G := S0 1) (by omega) (by have e0 : ((upA (upA S0 0 (sS0_0_X8_keeps S0 0)) 2 (sS0_2_X8_keeps S0 0)) 1 (15 + 26 * 2 + 0 : Int).toNat) = S0 1 67 := rfl; omega)
      refine lv_aload_n hx hb dX8_week_46 rfl (lv_at hl 1 rfl) ?_
      refine lv_iconst (v := iI 1) hx hb dX8_week_47 rfl ?_
      refine z_av (va_runV (As := [.int (iI 1)]) (rest := []) ⟨hx, hb, hml, hown, hts⟩ (c_X8_passesOn l D k a0 (upA (upA (upA S0 0 (sS0_0_X8_keeps S0 0)) 2 (sS0_2_X8_keeps S0 0)) 1 (rGoes (S0 1) 2))  1 (zBf.goes (G := S0 1) hB (by have e0 : ((upA (upA S0 0 (sS0_0_X8_keeps S0 0)) 2 (sS0_2_X8_keeps S0 0)) 1 (15 + 26 * 2 + 0 : Int).toNat) = S0 1 67 := rfl; omega)) (by omega) (by have e0 : ((upA (upA (upA S0 0 (sS0_0_X8_keeps S0 0)) 2 (sS0_2_X8_keeps S0 0)) 1 (rGoes (S0 1) 2)) 1 (15 + 26 * 1 + 0 : Int).toNat) = S0 1 41 := (show (rGoes (S0 1) 2) 41 = S0 1 41 from (Eq.trans (rGoes_n (by omega) (by omega) (by omega)) rfl)); omega) (by have e0 : ((upA (upA (upA S0 0 (sS0_0_X8_keeps S0 0)) 2 (sS0_2_X8_keeps S0 0)) 1 (rGoes (S0 1) 2)) 1 (15 + 26 * (1 + 1) + 0 : Int).toNat) = (rGoes (S0 1) 2) 67 := rfl; omega) _) (cwV 1 hts gX8_week_X8_passesOn rfl rfl rfl (by decide +kernel) ⟨(Nat.le_of_ble_eq_true rfl), (Nat.le_of_ble_eq_true rfl)⟩) (z_preV hK hG hA hP hD hS [0, 1, 2, 3, 4, 5, 6, 7] rfl (by decide) 10 rfl rfl) rfl rfl hl.1 rfl (lv_room (Nat.le_of_ble_eq_true rfl)) dX8_week_48 ⟨(Nat.le_of_ble_eq_true rfl), (Nat.le_of_ble_eq_true rfl)⟩) hA hP hD hS [0, 1, 2, 3, 4, 5, 6, 7] rfl rfl (fun H locs hP hD hS => ?_)
      have hP : va_P D vwCl (wRef k a0 (upA (upA (upA (upA S0 0 (sS0_0_X8_keeps S0 0)) 2 (sS0_2_X8_keeps S0 0)) 1 (rGoes (S0 1) 2)) 1 (rPass ((rGoes (S0 1) 2)) 1))) H := hP
      have hD : va_D A (wRef k a0 (upA (upA (upA (upA S0 0 (sS0_0_X8_keeps S0 0)) 2 (sS0_2_X8_keeps S0 0)) 1 (rGoes (S0 1) 2)) 1 (rPass ((rGoes (S0 1) 2)) 1))) := hD
      have q_20 : 0 ≤ rPass ((rGoes (S0 1) 2)) 1 41 ∧ rPass ((rGoes (S0 1) 2)) 1 41 ≤ 4 := rPass_own (G := (rGoes (S0 1) 2)) (by omega) (by have e0 : ((upA (upA (upA S0 0 (sS0_0_X8_keeps S0 0)) 2 (sS0_2_X8_keeps S0 0)) 1 (rGoes (S0 1) 2)) 1 (15 + 26 * 1 + 0 : Int).toNat) = S0 1 41 := (show (rGoes (S0 1) 2) 41 = S0 1 41 from (Eq.trans (rGoes_n (by omega) (by omega) (by omega)) rfl)); omega) (by have e0 : ((upA (upA (upA S0 0 (sS0_0_X8_keeps S0 0)) 2 (sS0_2_X8_keeps S0 0)) 1 (rGoes (S0 1) 2)) 1 (15 + 26 * (1 + 1) + 0 : Int).toNat) = (rGoes (S0 1) 2) 67 := rfl; omega)
      have : (rPass ((rGoes (S0 1) 2)) 1) (15 + 26 * (0 : Int) + 0).toNat = (rPass ((rGoes (S0 1) 2)) 1) 15 := rfl
      have : (rPass ((rGoes (S0 1) 2)) 1) (15 + 26 * ((0 : Int) + 1) + 0).toNat = (rPass ((rGoes (S0 1) 2)) 1) 41 := rfl
      have : (rPass ((rGoes (S0 1) 2)) 1) (15 + 26 * (1 : Int) + 0).toNat = (rPass ((rGoes (S0 1) 2)) 1) 41 := rfl
      have : (rPass ((rGoes (S0 1) 2)) 1) (15 + 26 * ((1 : Int) + 1) + 0).toNat = (rPass ((rGoes (S0 1) 2)) 1) 67 := rfl
      have : (rPass ((rGoes (S0 1) 2)) 1) (15 + 26 * (2 : Int) + 0).toNat = (rPass ((rGoes (S0 1) 2)) 1) 67 := rfl
      have q_21 : rPass ((rGoes (S0 1) 2)) 1 9 = (rGoes (S0 1) 2) 9 := rPass_n (G := (rGoes (S0 1) 2)) (by omega) (by have e0 : ((upA (upA (upA S0 0 (sS0_0_X8_keeps S0 0)) 2 (sS0_2_X8_keeps S0 0)) 1 (rGoes (S0 1) 2)) 1 (15 + 26 * 1 + 0 : Int).toNat) = S0 1 41 := (show (rGoes (S0 1) 2) 41 = S0 1 41 from (Eq.trans (rGoes_n (by omega) (by omega) (by omega)) rfl)); omega) (by have e0 : ((upA (upA (upA S0 0 (sS0_0_X8_keeps S0 0)) 2 (sS0_2_X8_keeps S0 0)) 1 (rGoes (S0 1) 2)) 1 (15 + 26 * (1 + 1) + 0 : Int).toNat) = (rGoes (S0 1) 2) 67 := rfl; omega) (by omega)
      have q_22 : rPass ((rGoes (S0 1) 2)) 1 15 = (rGoes (S0 1) 2) 15 := rPass_n (G := (rGoes (S0 1) 2)) (by omega) (by have e0 : ((upA (upA (upA S0 0 (sS0_0_X8_keeps S0 0)) 2 (sS0_2_X8_keeps S0 0)) 1 (rGoes (S0 1) 2)) 1 (15 + 26 * 1 + 0 : Int).toNat) = S0 1 41 := (show (rGoes (S0 1) 2) 41 = S0 1 41 from (Eq.trans (rGoes_n (by omega) (by omega) (by omega)) rfl)); omega) (by have e0 : ((upA (upA (upA S0 0 (sS0_0_X8_keeps S0 0)) 2 (sS0_2_X8_keeps S0 0)) 1 (rGoes (S0 1) 2)) 1 (15 + 26 * (1 + 1) + 0 : Int).toNat) = (rGoes (S0 1) 2) 67 := rfl; omega) (by omega)
      refine lv_aload_n hx hb dX8_week_51 rfl (lv_at hl 1 rfl) ?_
      refine lv_iconst (v := iI 0) hx hb dX8_week_52 rfl ?_
      refine z_av (va_runV (As := [.int (iI 0)]) (rest := []) ⟨hx, hb, hml, hown, hts⟩ (c_X8_passesOn l D k a0 (upA (upA (upA (upA S0 0 (sS0_0_X8_keeps S0 0)) 2 (sS0_2_X8_keeps S0 0)) 1 (rGoes (S0 1) 2)) 1 (rPass ((rGoes (S0 1) 2)) 1))  0 (zBf.pass (G := (rGoes (S0 1) 2)) (zBf.goes (G := S0 1) hB (by have e0 : ((upA (upA S0 0 (sS0_0_X8_keeps S0 0)) 2 (sS0_2_X8_keeps S0 0)) 1 (15 + 26 * 2 + 0 : Int).toNat) = S0 1 67 := rfl; omega)) (by omega) (by have e0 : ((upA (upA (upA S0 0 (sS0_0_X8_keeps S0 0)) 2 (sS0_2_X8_keeps S0 0)) 1 (rGoes (S0 1) 2)) 1 (15 + 26 * 1 + 0 : Int).toNat) = S0 1 41 := (show (rGoes (S0 1) 2) 41 = S0 1 41 from (Eq.trans (rGoes_n (by omega) (by omega) (by omega)) rfl)); omega) (by have e0 : ((upA (upA (upA S0 0 (sS0_0_X8_keeps S0 0)) 2 (sS0_2_X8_keeps S0 0)) 1 (rGoes (S0 1) 2)) 1 (15 + 26 * (1 + 1) + 0 : Int).toNat) = (rGoes (S0 1) 2) 67 := rfl; omega)) (by omega) (by have e0 : ((upA (upA (upA (upA S0 0 (sS0_0_X8_keeps S0 0)) 2 (sS0_2_X8_keeps S0 0)) 1 (rGoes (S0 1) 2)) 1 (rPass ((rGoes (S0 1) 2)) 1)) 1 (15 + 26 * 0 + 0 : Int).toNat) = S0 1 15 := (show (rPass ((rGoes (S0 1) 2)) 1) 15 = S0 1 15 from (Eq.trans (rPass_n (by omega) (by omega) (by omega) (by omega)) (Eq.trans (rGoes_n (by omega) (by omega) (by omega)) rfl))); omega) (by have e0 : ((upA (upA (upA (upA S0 0 (sS0_0_X8_keeps S0 0)) 2 (sS0_2_X8_keeps S0 0)) 1 (rGoes (S0 1) 2)) 1 (rPass ((rGoes (S0 1) 2)) 1)) 1 (15 + 26 * (0 + 1) + 0 : Int).toNat) = (rPass ((rGoes (S0 1) 2)) 1) 41 := rfl; omega) _) (cwV 1 hts gX8_week_X8_passesOn rfl rfl rfl (by decide +kernel) ⟨(Nat.le_of_ble_eq_true rfl), (Nat.le_of_ble_eq_true rfl)⟩) (z_preV hK hG hA hP hD hS [0, 1, 2, 3, 4, 5, 6, 7] rfl (by decide) 10 rfl rfl) rfl rfl hl.1 rfl (lv_room (Nat.le_of_ble_eq_true rfl)) dX8_week_53 ⟨(Nat.le_of_ble_eq_true rfl), (Nat.le_of_ble_eq_true rfl)⟩) hA hP hD hS [0, 1, 2, 3, 4, 5, 6, 7] rfl rfl (fun H locs hP hD hS => ?_)
      have hP : va_P D vwCl (wRef k a0 (upA (upA (upA (upA (upA S0 0 (sS0_0_X8_keeps S0 0)) 2 (sS0_2_X8_keeps S0 0)) 1 (rGoes (S0 1) 2)) 1 (rPass ((rGoes (S0 1) 2)) 1)) 1 (rPass ((rPass ((rGoes (S0 1) 2)) 1)) 0))) H := hP
      have hD : va_D A (wRef k a0 (upA (upA (upA (upA (upA S0 0 (sS0_0_X8_keeps S0 0)) 2 (sS0_2_X8_keeps S0 0)) 1 (rGoes (S0 1) 2)) 1 (rPass ((rGoes (S0 1) 2)) 1)) 1 (rPass ((rPass ((rGoes (S0 1) 2)) 1)) 0))) := hD
      have q_23 : 0 ≤ rPass ((rPass ((rGoes (S0 1) 2)) 1)) 0 15 ∧ rPass ((rPass ((rGoes (S0 1) 2)) 1)) 0 15 ≤ 4 := rPass_own (G := (rPass ((rGoes (S0 1) 2)) 1)) (by omega) (by have e0 : ((upA (upA (upA (upA S0 0 (sS0_0_X8_keeps S0 0)) 2 (sS0_2_X8_keeps S0 0)) 1 (rGoes (S0 1) 2)) 1 (rPass ((rGoes (S0 1) 2)) 1)) 1 (15 + 26 * 0 + 0 : Int).toNat) = S0 1 15 := (show (rPass ((rGoes (S0 1) 2)) 1) 15 = S0 1 15 from (Eq.trans (rPass_n (by omega) (by omega) (by omega) (by omega)) (Eq.trans (rGoes_n (by omega) (by omega) (by omega)) rfl))); omega) (by have e0 : ((upA (upA (upA (upA S0 0 (sS0_0_X8_keeps S0 0)) 2 (sS0_2_X8_keeps S0 0)) 1 (rGoes (S0 1) 2)) 1 (rPass ((rGoes (S0 1) 2)) 1)) 1 (15 + 26 * (0 + 1) + 0 : Int).toNat) = (rPass ((rGoes (S0 1) 2)) 1) 41 := rfl; omega)
      have q_24 : rPass ((rPass ((rGoes (S0 1) 2)) 1)) 0 9 = (rPass ((rGoes (S0 1) 2)) 1) 9 := rPass_n (G := (rPass ((rGoes (S0 1) 2)) 1)) (by omega) (by have e0 : ((upA (upA (upA (upA S0 0 (sS0_0_X8_keeps S0 0)) 2 (sS0_2_X8_keeps S0 0)) 1 (rGoes (S0 1) 2)) 1 (rPass ((rGoes (S0 1) 2)) 1)) 1 (15 + 26 * 0 + 0 : Int).toNat) = S0 1 15 := (show (rPass ((rGoes (S0 1) 2)) 1) 15 = S0 1 15 from (Eq.trans (rPass_n (by omega) (by omega) (by omega) (by omega)) (Eq.trans (rGoes_n (by omega) (by omega) (by omega)) rfl))); omega) (by have e0 : ((upA (upA (upA (upA S0 0 (sS0_0_X8_keeps S0 0)) 2 (sS0_2_X8_keeps S0 0)) 1 (rGoes (S0 1) 2)) 1 (rPass ((rGoes (S0 1) 2)) 1)) 1 (15 + 26 * (0 + 1) + 0 : Int).toNat) = (rPass ((rGoes (S0 1) 2)) 1) 41 := rfl; omega) (by omega)
      refine lv_iconst (v := iI 0) hx hb dX8_week_56 rfl ?_
      refine lv_istore_n (lv' := [(2, .int (iI 0)), (1, .int (iI 0)), (0, .ref (a0 0))]) hx hb dX8_week_57 rfl hl (by decide) rfl (fun ls hl => ?_)
      have lp58_1 : ∀ (n : Nat) (x2 : Int) (F1 : Nat → Int), (4 - x2).toNat < n → (0 ≤ x2) → (x2 ≤ S0 1 9) → (F1 = mapZ rRest (rPass ((rPass ((rGoes (S0 1) 2)) 1)) 0) 11 (11 + x2).toNat) → ∀ (H : Heap) (locs : List Loc) (ls : Array Slot), va_P D vwCl (wRef k a0 (upA (upA (upA (upA (upA (upA S0 0 (sS0_0_X8_keeps S0 0)) 2 (sS0_2_X8_keeps S0 0)) 1 (rGoes (S0 1) 2)) 1 (rPass ((rGoes (S0 1) 2)) 1)) 1 (rPass ((rPass ((rGoes (S0 1) 2)) 1)) 0)) 1 F1)) H → va_D A (wRef k a0 (upA (upA (upA (upA (upA (upA S0 0 (sS0_0_X8_keeps S0 0)) 2 (sS0_2_X8_keeps S0 0)) 1 (rGoes (S0 1) 2)) 1 (rPass ((rGoes (S0 1) 2)) 1)) 1 (rPass ((rPass ((rGoes (S0 1) 2)) 1)) 0)) 1 F1)) → va_S A s.heap H locs → lv_has ls 3 [(2, .int (iI x2)), (1, .int (iI 0)), (0, .ref (a0 0))] → W p l e ({ frames := 3, cells := 0, slots := 0, locals := 70 } : Room) s m args below meth c H locs 0 0 (MQ below (zQi D A (sp_X8_week S0) (wRef k a0 (upA (upA (upA S0 0 (sS0_0_X8_week S0)) 1 (sS0_1_X8_week S0)) 2 (sS0_2_X8_week S0)))) args s 0 0 A) (F0 m 58 ls []) := by
        intro n58
        induction n58 with
        | zero => intro x2 F1 hm; exact absurd hm (Nat.not_lt_zero _)
        | succ n58 ih58 =>
          intro x2 F1 hm58 i0 i1 iF  H locs ls hP hD hS hl
          have g0 : F1 9 = S0 1 9 := by rw [iF, mapZ_out (by omega)]; exact (show (rPass ((rPass ((rGoes (S0 1) 2)) 1)) 0) 9 = S0 1 9 from (Eq.trans (rPass_n (by omega) (by omega) (by omega) (by omega)) (Eq.trans (rPass_n (by omega) (by omega) (by omega) (by omega)) (Eq.trans (rGoes_n (by omega) (by omega) (by omega)) rfl))))
          have hbF : zBf F1 := by rw [iF]; exact zBf.map (zBf.pass (G := (rPass ((rGoes (S0 1) 2)) 1)) (zBf.pass (G := (rGoes (S0 1) 2)) (zBf.goes (G := S0 1) hB (by have e0 : ((upA (upA S0 0 (sS0_0_X8_keeps S0 0)) 2 (sS0_2_X8_keeps S0 0)) 1 (15 + 26 * 2 + 0 : Int).toNat) = S0 1 67 := rfl; omega)) (by omega) (by have e0 : ((upA (upA (upA S0 0 (sS0_0_X8_keeps S0 0)) 2 (sS0_2_X8_keeps S0 0)) 1 (rGoes (S0 1) 2)) 1 (15 + 26 * 1 + 0 : Int).toNat) = S0 1 41 := (show (rGoes (S0 1) 2) 41 = S0 1 41 from (Eq.trans (rGoes_n (by omega) (by omega) (by omega)) rfl)); omega) (by have e0 : ((upA (upA (upA S0 0 (sS0_0_X8_keeps S0 0)) 2 (sS0_2_X8_keeps S0 0)) 1 (rGoes (S0 1) 2)) 1 (15 + 26 * (1 + 1) + 0 : Int).toNat) = (rGoes (S0 1) 2) 67 := rfl; omega)) (by omega) (by have e0 : ((upA (upA (upA (upA S0 0 (sS0_0_X8_keeps S0 0)) 2 (sS0_2_X8_keeps S0 0)) 1 (rGoes (S0 1) 2)) 1 (rPass ((rGoes (S0 1) 2)) 1)) 1 (15 + 26 * 0 + 0 : Int).toNat) = S0 1 15 := (show (rPass ((rGoes (S0 1) 2)) 1) 15 = S0 1 15 from (Eq.trans (rPass_n (by omega) (by omega) (by omega) (by omega)) (Eq.trans (rGoes_n (by omega) (by omega) (by omega)) rfl))); omega) (by have e0 : ((upA (upA (upA (upA S0 0 (sS0_0_X8_keeps S0 0)) 2 (sS0_2_X8_keeps S0 0)) 1 (rGoes (S0 1) 2)) 1 (rPass ((rGoes (S0 1) 2)) 1)) 1 (15 + 26 * (0 + 1) + 0 : Int).toNat) = (rPass ((rGoes (S0 1) 2)) 1) 41 := rfl; omega)) (fun z hz => by show _ ≤ max 0 (min (z + (-2)) 9) ∧ max 0 (min (z + (-2)) 9) ≤ _; omega) _ _
          refine lv_iload_n hx hb dX8_week_58 rfl (lv_at hl 0 rfl) ?_
          refine lv_aload_n hx hb dX8_week_59 rfl (lv_at hl 2 rfl) ?_
          refine va_get (D := D) (ci := 10) (v := .ref (a0 1)) (C := RX8) (T := TX8) (N := 19) hx hb hts (fun w h => List.mem_cons_of_mem _ (List.mem_append_left _ (List.mem_append_right _ h))) hown hK hP 0 rfl rfl 0 (by decide) (hts (.fieldLink RX8 7 "MondayFactoryModel" "g" "[I") (List.mem_of_getElem? (i := 1) rfl)) (fun _ h9 => h9) rfl dX8_week_60 ?_
          refine lv_bipush (v := iI 9) hx hb dX8_week_63 (by decide) ?_
          refine z_iald hx hb hK hP 1 0 (f := F1) rfl rfl (i := 9) (by omega) (by omega) (by decide) 9 rfl dX8_week_65 ?_
          have f_25 := hbF 9
          refine zi_icmp_ge (tgt := 82) hx hb dX8_week_66 (by decide) ⟨by omega, by omega⟩ ⟨by omega, by omega⟩ (fun c_26 => ?_) (fun c_26 => ?_)
          · have v_27 : F1 = mapZ rRest (rPass ((rPass ((rGoes (S0 1) 2)) 1)) 0) 11 (11 + S0 1 9).toNat := (by rw [iF, show x2 = S0 1 9 by omega])
            rw [v_27] at hP hD
            have v_28 : x2 = S0 1 9 := (by omega)
            rw [v_28] at hl
            refine lv_aload_n hx hb dX8_week_82 rfl (lv_at hl 2 rfl) ?_
            refine va_get (D := D) (ci := 10) (v := .ref (a0 1)) (C := RX8) (T := TX8) (N := 19) hx hb hts (fun w h => List.mem_cons_of_mem _ (List.mem_append_left _ (List.mem_append_right _ h))) hown hK hP 0 rfl rfl 0 (by decide) (hts (.fieldLink RX8 7 "MondayFactoryModel" "g" "[I") (List.mem_of_getElem? (i := 1) rfl)) (fun _ h9 => h9) rfl dX8_week_83 ?_
            refine lv_iconst (v := iI 5) hx hb dX8_week_86 rfl ?_
            refine lv_dup2_11 hx hb dX8_week_87 rfl rfl ?_
            refine z_iald hx hb hK hP 1 0 (f := mapZ rRest (rPass ((rPass ((rGoes (S0 1) 2)) 1)) 0) 11 (11 + S0 1 9).toNat) rfl rfl (i := 5) (by omega) (by omega) (by decide) 5 rfl dX8_week_88 ?_
            refine lv_iload_n hx hb dX8_week_89 rfl (lv_at hl 1 rfl) ?_
            refine zi_add hx hb dX8_week_90 ?_
            refine z_iast hx hb hK hP hD hS 1 0 (f := mapZ rRest (rPass ((rPass ((rGoes (S0 1) 2)) 1)) 0) 11 (11 + S0 1 9).toNat) rfl rfl (i := 5) (by omega) (by omega) (by decide) 5 rfl dX8_week_91 (fun H locs hP hD hS => ?_)
            have hP : va_P D vwCl (wRef k a0 (up2 (upA (upA (upA (upA (upA (upA S0 0 (sS0_0_X8_keeps S0 0)) 2 (sS0_2_X8_keeps S0 0)) 1 (rGoes (S0 1) 2)) 1 (rPass ((rGoes (S0 1) 2)) 1)) 1 (rPass ((rPass ((rGoes (S0 1) 2)) 1)) 0)) 1 (mapZ rRest (rPass ((rPass ((rGoes (S0 1) 2)) 1)) 0) 11 (11 + S0 1 9).toNat)) 1 5 (((mapZ rRest (rPass ((rPass ((rGoes (S0 1) 2)) 1)) 0) 11 (11 + S0 1 9).toNat) 5) + 0))) H := hP
            have hD : va_D A (wRef k a0 (up2 (upA (upA (upA (upA (upA (upA S0 0 (sS0_0_X8_keeps S0 0)) 2 (sS0_2_X8_keeps S0 0)) 1 (rGoes (S0 1) 2)) 1 (rPass ((rGoes (S0 1) 2)) 1)) 1 (rPass ((rPass ((rGoes (S0 1) 2)) 1)) 0)) 1 (mapZ rRest (rPass ((rPass ((rGoes (S0 1) 2)) 1)) 0) 11 (11 + S0 1 9).toNat)) 1 5 (((mapZ rRest (rPass ((rPass ((rGoes (S0 1) 2)) 1)) 0) 11 (11 + S0 1 9).toNat) 5) + 0))) := hD
            refine lv_aload_n hx hb dX8_week_92 rfl (lv_at hl 2 rfl) ?_
            refine va_get (D := D) (ci := 10) (v := .ref (a0 1)) (C := RX8) (T := TX8) (N := 19) hx hb hts (fun w h => List.mem_cons_of_mem _ (List.mem_append_left _ (List.mem_append_right _ h))) hown hK hP 0 rfl rfl 0 (by decide) (hts (.fieldLink RX8 7 "MondayFactoryModel" "g" "[I") (List.mem_of_getElem? (i := 1) rfl)) (fun _ h9 => h9) rfl dX8_week_93 ?_
            refine lv_bipush (v := iI 7) hx hb dX8_week_96 (by decide) ?_
            refine lv_iconst (v := iI 0) hx hb dX8_week_98 rfl ?_
            refine z_iast hx hb hK hP hD hS 1 0 (f := upZ (mapZ rRest (rPass ((rPass ((rGoes (S0 1) 2)) 1)) 0) 11 (11 + S0 1 9).toNat) 5 (((mapZ rRest (rPass ((rPass ((rGoes (S0 1) 2)) 1)) 0) 11 (11 + S0 1 9).toNat) 5) + 0)) rfl rfl (i := 7) (by omega) (by omega) (by decide) 7 rfl dX8_week_99 (fun H locs hP hD hS => ?_)
            have hP : va_P D vwCl (wRef k a0 (up2 (up2 (upA (upA (upA (upA (upA (upA S0 0 (sS0_0_X8_keeps S0 0)) 2 (sS0_2_X8_keeps S0 0)) 1 (rGoes (S0 1) 2)) 1 (rPass ((rGoes (S0 1) 2)) 1)) 1 (rPass ((rPass ((rGoes (S0 1) 2)) 1)) 0)) 1 (mapZ rRest (rPass ((rPass ((rGoes (S0 1) 2)) 1)) 0) 11 (11 + S0 1 9).toNat)) 1 5 (((mapZ rRest (rPass ((rPass ((rGoes (S0 1) 2)) 1)) 0) 11 (11 + S0 1 9).toNat) 5) + 0)) 1 7 0)) H := hP
            have hD : va_D A (wRef k a0 (up2 (up2 (upA (upA (upA (upA (upA (upA S0 0 (sS0_0_X8_keeps S0 0)) 2 (sS0_2_X8_keeps S0 0)) 1 (rGoes (S0 1) 2)) 1 (rPass ((rGoes (S0 1) 2)) 1)) 1 (rPass ((rPass ((rGoes (S0 1) 2)) 1)) 0)) 1 (mapZ rRest (rPass ((rPass ((rGoes (S0 1) 2)) 1)) 0) 11 (11 + S0 1 9).toNat)) 1 5 (((mapZ rRest (rPass ((rPass ((rGoes (S0 1) 2)) 1)) 0) 11 (11 + S0 1 9).toNat) 5) + 0)) 1 7 0)) := hD
            refine lv_aload_n hx hb dX8_week_100 rfl (lv_at hl 2 rfl) ?_
            refine va_get (D := D) (ci := 10) (v := .ref (a0 1)) (C := RX8) (T := TX8) (N := 19) hx hb hts (fun w h => List.mem_cons_of_mem _ (List.mem_append_left _ (List.mem_append_right _ h))) hown hK hP 0 rfl rfl 0 (by decide) (hts (.fieldLink RX8 7 "MondayFactoryModel" "g" "[I") (List.mem_of_getElem? (i := 1) rfl)) (fun _ h9 => h9) rfl dX8_week_101 ?_
            refine lv_iconst (v := iI 1) hx hb dX8_week_104 rfl ?_
            refine lv_dup2_11 hx hb dX8_week_105 rfl rfl ?_
            refine z_iald hx hb hK hP 1 0 (f := upZ (upZ (mapZ rRest (rPass ((rPass ((rGoes (S0 1) 2)) 1)) 0) 11 (11 + S0 1 9).toNat) 5 (((mapZ rRest (rPass ((rPass ((rGoes (S0 1) 2)) 1)) 0) 11 (11 + S0 1 9).toNat) 5) + 0)) 7 0) rfl rfl (i := 1) (by omega) (by omega) (by decide) 1 rfl dX8_week_106 ?_
            refine z_eqi (z2 := (mapZ rRest (rPass ((rPass ((rGoes (S0 1) 2)) 1)) 0) 11 (11 + S0 1 9).toNat) 1) (show (upZ (upZ (mapZ rRest (rPass ((rPass ((rGoes (S0 1) 2)) 1)) 0) 11 (11 + S0 1 9).toNat) 5 (((mapZ rRest (rPass ((rPass ((rGoes (S0 1) 2)) 1)) 0) 11 (11 + S0 1 9).toNat) 5) + 0)) 7 0) 1 = (mapZ rRest (rPass ((rPass ((rGoes (S0 1) 2)) 1)) 0) 11 (11 + S0 1 9).toNat) 1 from (Eq.trans (upZ_n (by omega)) (Eq.trans (upZ_n (by omega)) rfl))) ?_
            refine lv_iconst (v := iI 1) hx hb dX8_week_107 rfl ?_
            refine zi_add hx hb dX8_week_108 ?_
            refine z_iast hx hb hK hP hD hS 1 0 (f := upZ (upZ (mapZ rRest (rPass ((rPass ((rGoes (S0 1) 2)) 1)) 0) 11 (11 + S0 1 9).toNat) 5 (((mapZ rRest (rPass ((rPass ((rGoes (S0 1) 2)) 1)) 0) 11 (11 + S0 1 9).toNat) 5) + 0)) 7 0) rfl rfl (i := 1) (by omega) (by omega) (by decide) 1 rfl dX8_week_109 (fun H locs hP hD hS => ?_)
            have hP : va_P D vwCl (wRef k a0 (up2 (up2 (up2 (upA (upA (upA (upA (upA (upA S0 0 (sS0_0_X8_keeps S0 0)) 2 (sS0_2_X8_keeps S0 0)) 1 (rGoes (S0 1) 2)) 1 (rPass ((rGoes (S0 1) 2)) 1)) 1 (rPass ((rPass ((rGoes (S0 1) 2)) 1)) 0)) 1 (mapZ rRest (rPass ((rPass ((rGoes (S0 1) 2)) 1)) 0) 11 (11 + S0 1 9).toNat)) 1 5 (((mapZ rRest (rPass ((rPass ((rGoes (S0 1) 2)) 1)) 0) 11 (11 + S0 1 9).toNat) 5) + 0)) 1 7 0) 1 1 (((mapZ rRest (rPass ((rPass ((rGoes (S0 1) 2)) 1)) 0) 11 (11 + S0 1 9).toNat) 1) + 1))) H := hP
            have hD : va_D A (wRef k a0 (up2 (up2 (up2 (upA (upA (upA (upA (upA (upA S0 0 (sS0_0_X8_keeps S0 0)) 2 (sS0_2_X8_keeps S0 0)) 1 (rGoes (S0 1) 2)) 1 (rPass ((rGoes (S0 1) 2)) 1)) 1 (rPass ((rPass ((rGoes (S0 1) 2)) 1)) 0)) 1 (mapZ rRest (rPass ((rPass ((rGoes (S0 1) 2)) 1)) 0) 11 (11 + S0 1 9).toNat)) 1 5 (((mapZ rRest (rPass ((rPass ((rGoes (S0 1) 2)) 1)) 0) 11 (11 + S0 1 9).toNat) 5) + 0)) 1 7 0) 1 1 (((mapZ rRest (rPass ((rPass ((rGoes (S0 1) 2)) 1)) 0) 11 (11 + S0 1 9).toNat) 1) + 1))) := hD
            refine lv_iload_n hx hb dX8_week_110 rfl (lv_at hl 1 rfl) ?_
            exact z_iret hx hb hr hlocks hP hS dX8_week_111 (Eq.trans (zif_neg c_2) (Eq.trans (zif_pos c_14) rfl)) (Eq.trans (Eq.trans (congrArg (fun z => wRef k a0 (upA (upA (upA S0 0 z) 1 (sS0_1_X8_week S0)) 2 (sS0_2_X8_week S0))) (show sS0_0_X8_week S0 = sS0_0_X8_keeps S0 0 from (Eq.trans (zif_neg c_2) (Eq.trans (zif_pos c_14) rfl)))) (congrArg (fun z => wRef k a0 (upA (upA (upA S0 0 (sS0_0_X8_keeps S0 0)) 1 z) 2 (sS0_2_X8_week S0))) (show sS0_1_X8_week S0 = upZ (upZ (upZ (mapZ rRest (rPass ((rPass ((rGoes (S0 1) 2)) 1)) 0) 11 (11 + S0 1 9).toNat) 5 (((mapZ rRest (rPass ((rPass ((rGoes (S0 1) 2)) 1)) 0) 11 (11 + S0 1 9).toNat) 5) + 0)) 7 0) 1 (((mapZ rRest (rPass ((rPass ((rGoes (S0 1) 2)) 1)) 0) 11 (11 + S0 1 9).toNat) 1) + 1) from (Eq.trans (zif_neg c_2) (Eq.trans (zif_pos c_14) rfl))))) (congrArg (fun z => wRef k a0 (upA (upA (upA S0 0 (sS0_0_X8_keeps S0 0)) 1 (upZ (upZ (upZ (mapZ rRest (rPass ((rPass ((rGoes (S0 1) 2)) 1)) 0) 11 (11 + S0 1 9).toNat) 5 (((mapZ rRest (rPass ((rPass ((rGoes (S0 1) 2)) 1)) 0) 11 (11 + S0 1 9).toNat) 5) + 0)) 7 0) 1 (((mapZ rRest (rPass ((rPass ((rGoes (S0 1) 2)) 1)) 0) 11 (11 + S0 1 9).toNat) 1) + 1))) 2 z)) (show sS0_2_X8_week S0 = sS0_2_X8_keeps S0 0 from (Eq.trans (zif_neg c_2) (Eq.trans (zif_pos c_14) rfl))))) (Nat.le_refl _) (Nat.le_refl _)
          · refine lv_aload_n hx hb dX8_week_69 rfl (lv_at hl 2 rfl) ?_
            refine lv_iload_n hx hb dX8_week_70 rfl (lv_at hl 0 rfl) ?_
            refine lv_bipush (v := iI (-2)) hx hb dX8_week_71 (by decide) ?_
            refine z_av (va_runV (As := [.int (iI x2), .int (iI (-2))]) (rest := []) ⟨hx, hb, hml, hown, hts⟩ (c_X8_tires l D k a0 (upA (upA (upA (upA (upA (upA S0 0 (sS0_0_X8_keeps S0 0)) 2 (sS0_2_X8_keeps S0 0)) 1 (rGoes (S0 1) 2)) 1 (rPass ((rGoes (S0 1) 2)) 1)) 1 (rPass ((rPass ((rGoes (S0 1) 2)) 1)) 0)) 1 F1)  x2 (-2) hbF (by omega) (by omega) _) (cwV 2 hts gX8_week_X8_tires rfl rfl rfl (by decide +kernel) ⟨(Nat.le_of_ble_eq_true rfl), (Nat.le_of_ble_eq_true rfl)⟩) (z_preV hK hG hA hP hD hS [0, 1, 2, 3, 4, 5, 6, 7] rfl (by decide) 10 rfl rfl) rfl rfl hl.1 rfl (lv_room (Nat.le_of_ble_eq_true rfl)) dX8_week_73 ⟨(Nat.le_of_ble_eq_true rfl), (Nat.le_of_ble_eq_true rfl)⟩) hA hP hD hS [0, 1, 2, 3, 4, 5, 6, 7] rfl rfl (fun H locs hP hD hS => ?_)
            have hP : va_P D vwCl (wRef k a0 (up2 (upA (upA (upA (upA (upA (upA S0 0 (sS0_0_X8_keeps S0 0)) 2 (sS0_2_X8_keeps S0 0)) 1 (rGoes (S0 1) 2)) 1 (rPass ((rGoes (S0 1) 2)) 1)) 1 (rPass ((rPass ((rGoes (S0 1) 2)) 1)) 0)) 1 F1) 1 ((11 + x2).toNat) (max 0 (min ((F1 ((11 + x2).toNat)) + (-2)) 9)))) H := hP
            have hD : va_D A (wRef k a0 (up2 (upA (upA (upA (upA (upA (upA S0 0 (sS0_0_X8_keeps S0 0)) 2 (sS0_2_X8_keeps S0 0)) 1 (rGoes (S0 1) 2)) 1 (rPass ((rGoes (S0 1) 2)) 1)) 1 (rPass ((rPass ((rGoes (S0 1) 2)) 1)) 0)) 1 F1) 1 ((11 + x2).toNat) (max 0 (min ((F1 ((11 + x2).toNat)) + (-2)) 9)))) := hD
            refine lv_iinc (v := iI (x2 + 1)) (lv' := [(2, .int (iI (x2 + 1))), (1, .int (iI 0)), (0, .ref (a0 0))]) hx hb dX8_week_76 hl (k := 0) rfl (iI_add _ _) (by decide) rfl (fun ls hl => ?_)
            refine lv_goto (tgt := 58) hx hb dX8_week_79 (by decide) ?_
            exact ih58 (x2 + 1) (upZ F1 ((11 + x2).toNat) (max 0 (min ((F1 ((11 + x2).toNat)) + (-2)) 9))) (by omega) (by omega) (by omega) (by rw [iF]; exact tires_s i0 rfl)  H locs ls hP hD hS (lv_sub hl [0, 1, 2] rfl)
      exact lp58_1 5 0 (rPass ((rPass ((rGoes (S0 1) 2)) 1)) 0) (by omega) (by omega) (by omega) (mapZ_0 (by omega)).symm  H locs ls hP hD hS (lv_sub hl [0, 1, 2] rfl)
    · refine lv_iconst (v := iI 1) hx hb dX8_week_26 rfl ?_
      refine lv_goto (tgt := 31) hx hb dX8_week_27 (by decide) ?_
      refine lv_istore_n (lv' := [(1, .int (iI 1)), (0, .ref (a0 0))]) hx hb dX8_week_31 rfl hl (by decide) rfl (fun ls hl => ?_)
      refine lv_aload_n hx hb dX8_week_32 rfl (lv_at hl 1 rfl) ?_
      refine lv_iconst (v := iI 2) hx hb dX8_week_33 rfl ?_
      refine lv_iconst (v := iI 0) hx hb dX8_week_34 rfl ?_
      refine z_ai0 (va_runV (As := [.int (iI 2), .int (iI 0)]) (rest := []) ⟨hx, hb, hml, hown, hts⟩ (c_X8_of l D k a0 (upA (upA S0 0 (sS0_0_X8_keeps S0 0)) 2 (sS0_2_X8_keeps S0 0))  2 0 (by omega) (by omega) _) (cwV 2 hts gX8_week_X8_of rfl rfl rfl (by decide +kernel) ⟨(Nat.le_of_ble_eq_true rfl), (Nat.le_of_ble_eq_true rfl)⟩) (z_preV hK hG hA hP hD hS [0, 1, 2, 3, 4, 5, 6, 7] rfl (by decide) 10 rfl rfl) rfl rfl hl.1 rfl (lv_room (Nat.le_of_ble_eq_true rfl)) dX8_week_35 ⟨(Nat.le_of_ble_eq_true rfl), (Nat.le_of_ble_eq_true rfl)⟩) hA hP hD hS [0, 1, 2, 3, 4, 5, 6, 7] rfl (fun H locs hP hS => ?_)
      refine z_eqi (z2 := S0 1 67) rfl ?_
      refine zi_if_le (tgt := 46) hx hb dX8_week_38 (by decide) ⟨by omega, by omega⟩ (fun c_29 => absurd c_29 (by omega)) (fun _ => ?_)
      refine lv_aload_n hx hb dX8_week_41 rfl (lv_at hl 1 rfl) ?_
      refine lv_iconst (v := iI 2) hx hb dX8_week_42 rfl ?_
      refine z_av (va_runV (As := [.int (iI 2)]) (rest := []) ⟨hx, hb, hml, hown, hts⟩ (c_X8_goes l D k a0 (upA (upA S0 0 (sS0_0_X8_keeps S0 0)) 2 (sS0_2_X8_keeps S0 0))  2 (by omega) (by have e0 : ((upA (upA S0 0 (sS0_0_X8_keeps S0 0)) 2 (sS0_2_X8_keeps S0 0)) 1 (15 + 26 * 2 + 0 : Int).toNat) = S0 1 67 := rfl; omega) _) (cwV 1 hts gX8_week_X8_goes rfl rfl rfl (by decide +kernel) ⟨(Nat.le_of_ble_eq_true rfl), (Nat.le_of_ble_eq_true rfl)⟩) (z_preV hK hG hA hP hD hS [0, 1, 2, 3, 4, 5, 6, 7] rfl (by decide) 10 rfl rfl) rfl rfl hl.1 rfl (lv_room (Nat.le_of_ble_eq_true rfl)) dX8_week_43 ⟨(Nat.le_of_ble_eq_true rfl), (Nat.le_of_ble_eq_true rfl)⟩) hA hP hD hS [0, 1, 2, 3, 4, 5, 6, 7] rfl rfl (fun H locs hP hD hS => ?_)
      have hP : va_P D vwCl (wRef k a0 (upA (upA (upA S0 0 (sS0_0_X8_keeps S0 0)) 2 (sS0_2_X8_keeps S0 0)) 1 (rGoes (S0 1) 2))) H := hP
      have hD : va_D A (wRef k a0 (upA (upA (upA S0 0 (sS0_0_X8_keeps S0 0)) 2 (sS0_2_X8_keeps S0 0)) 1 (rGoes (S0 1) 2))) := hD
      have : (rGoes (S0 1) 2) (15 + 26 * (0 : Int) + 0).toNat = (rGoes (S0 1) 2) 15 := rfl
      have : (rGoes (S0 1) 2) (15 + 26 * ((0 : Int) + 1) + 0).toNat = (rGoes (S0 1) 2) 41 := rfl
      have : (rGoes (S0 1) 2) (15 + 26 * (1 : Int) + 0).toNat = (rGoes (S0 1) 2) 41 := rfl
      have : (rGoes (S0 1) 2) (15 + 26 * ((1 : Int) + 1) + 0).toNat = (rGoes (S0 1) 2) 67 := rfl
      have : (rGoes (S0 1) 2) (15 + 26 * (2 : Int) + 0).toNat = (rGoes (S0 1) 2) 67 := rfl
      have q_30 : rGoes (S0 1) 2 9 = S0 1 9 := rGoes_n (G := S0 1) (by omega) (by have e0 : ((upA (upA S0 0 (sS0_0_X8_keeps S0 0)) 2 (sS0_2_X8_keeps S0 0)) 1 (15 + 26 * 2 + 0 : Int).toNat) = S0 1 67 := rfl; omega) (by omega)
      have q_31 : rGoes (S0 1) 2 15 = S0 1 15 := rGoes_n (G := S0 1) (by omega) (by have e0 : ((upA (upA S0 0 (sS0_0_X8_keeps S0 0)) 2 (sS0_2_X8_keeps S0 0)) 1 (15 + 26 * 2 + 0 : Int).toNat) = S0 1 67 := rfl; omega) (by omega)
      have q_32 : rGoes (S0 1) 2 41 = S0 1 41 := rGoes_n (G := S0 1) (by omega) (by have e0 : ((upA (upA S0 0 (sS0_0_X8_keeps S0 0)) 2 (sS0_2_X8_keeps S0 0)) 1 (15 + 26 * 2 + 0 : Int).toNat) = S0 1 67 := rfl; omega) (by omega)
      have q_33 : rGoes (S0 1) 2 67 = S0 1 67 - 1 := rGoes_own (G := S0 1) (by omega) (by have e0 : ((upA (upA S0 0 (sS0_0_X8_keeps S0 0)) 2 (sS0_2_X8_keeps S0 0)) 1 (15 + 26 * 2 + 0 : Int).toNat) = S0 1 67 := rfl; omega)
      refine lv_aload_n hx hb dX8_week_46 rfl (lv_at hl 1 rfl) ?_
      refine lv_iconst (v := iI 1) hx hb dX8_week_47 rfl ?_
      refine z_av (va_runV (As := [.int (iI 1)]) (rest := []) ⟨hx, hb, hml, hown, hts⟩ (c_X8_passesOn l D k a0 (upA (upA (upA S0 0 (sS0_0_X8_keeps S0 0)) 2 (sS0_2_X8_keeps S0 0)) 1 (rGoes (S0 1) 2))  1 (zBf.goes (G := S0 1) hB (by have e0 : ((upA (upA S0 0 (sS0_0_X8_keeps S0 0)) 2 (sS0_2_X8_keeps S0 0)) 1 (15 + 26 * 2 + 0 : Int).toNat) = S0 1 67 := rfl; omega)) (by omega) (by have e0 : ((upA (upA (upA S0 0 (sS0_0_X8_keeps S0 0)) 2 (sS0_2_X8_keeps S0 0)) 1 (rGoes (S0 1) 2)) 1 (15 + 26 * 1 + 0 : Int).toNat) = S0 1 41 := (show (rGoes (S0 1) 2) 41 = S0 1 41 from (Eq.trans (rGoes_n (by omega) (by omega) (by omega)) rfl)); omega) (by have e0 : ((upA (upA (upA S0 0 (sS0_0_X8_keeps S0 0)) 2 (sS0_2_X8_keeps S0 0)) 1 (rGoes (S0 1) 2)) 1 (15 + 26 * (1 + 1) + 0 : Int).toNat) = (rGoes (S0 1) 2) 67 := rfl; omega) _) (cwV 1 hts gX8_week_X8_passesOn rfl rfl rfl (by decide +kernel) ⟨(Nat.le_of_ble_eq_true rfl), (Nat.le_of_ble_eq_true rfl)⟩) (z_preV hK hG hA hP hD hS [0, 1, 2, 3, 4, 5, 6, 7] rfl (by decide) 10 rfl rfl) rfl rfl hl.1 rfl (lv_room (Nat.le_of_ble_eq_true rfl)) dX8_week_48 ⟨(Nat.le_of_ble_eq_true rfl), (Nat.le_of_ble_eq_true rfl)⟩) hA hP hD hS [0, 1, 2, 3, 4, 5, 6, 7] rfl rfl (fun H locs hP hD hS => ?_)
      have hP : va_P D vwCl (wRef k a0 (upA (upA (upA (upA S0 0 (sS0_0_X8_keeps S0 0)) 2 (sS0_2_X8_keeps S0 0)) 1 (rGoes (S0 1) 2)) 1 (rPass ((rGoes (S0 1) 2)) 1))) H := hP
      have hD : va_D A (wRef k a0 (upA (upA (upA (upA S0 0 (sS0_0_X8_keeps S0 0)) 2 (sS0_2_X8_keeps S0 0)) 1 (rGoes (S0 1) 2)) 1 (rPass ((rGoes (S0 1) 2)) 1))) := hD
      have q_34 : 0 ≤ rPass ((rGoes (S0 1) 2)) 1 41 ∧ rPass ((rGoes (S0 1) 2)) 1 41 ≤ 4 := rPass_own (G := (rGoes (S0 1) 2)) (by omega) (by have e0 : ((upA (upA (upA S0 0 (sS0_0_X8_keeps S0 0)) 2 (sS0_2_X8_keeps S0 0)) 1 (rGoes (S0 1) 2)) 1 (15 + 26 * 1 + 0 : Int).toNat) = S0 1 41 := (show (rGoes (S0 1) 2) 41 = S0 1 41 from (Eq.trans (rGoes_n (by omega) (by omega) (by omega)) rfl)); omega) (by have e0 : ((upA (upA (upA S0 0 (sS0_0_X8_keeps S0 0)) 2 (sS0_2_X8_keeps S0 0)) 1 (rGoes (S0 1) 2)) 1 (15 + 26 * (1 + 1) + 0 : Int).toNat) = (rGoes (S0 1) 2) 67 := rfl; omega)
      have : (rPass ((rGoes (S0 1) 2)) 1) (15 + 26 * (0 : Int) + 0).toNat = (rPass ((rGoes (S0 1) 2)) 1) 15 := rfl
      have : (rPass ((rGoes (S0 1) 2)) 1) (15 + 26 * ((0 : Int) + 1) + 0).toNat = (rPass ((rGoes (S0 1) 2)) 1) 41 := rfl
      have : (rPass ((rGoes (S0 1) 2)) 1) (15 + 26 * (1 : Int) + 0).toNat = (rPass ((rGoes (S0 1) 2)) 1) 41 := rfl
      have : (rPass ((rGoes (S0 1) 2)) 1) (15 + 26 * ((1 : Int) + 1) + 0).toNat = (rPass ((rGoes (S0 1) 2)) 1) 67 := rfl
      have : (rPass ((rGoes (S0 1) 2)) 1) (15 + 26 * (2 : Int) + 0).toNat = (rPass ((rGoes (S0 1) 2)) 1) 67 := rfl
      have q_35 : rPass ((rGoes (S0 1) 2)) 1 9 = (rGoes (S0 1) 2) 9 := rPass_n (G := (rGoes (S0 1) 2)) (by omega) (by have e0 : ((upA (upA (upA S0 0 (sS0_0_X8_keeps S0 0)) 2 (sS0_2_X8_keeps S0 0)) 1 (rGoes (S0 1) 2)) 1 (15 + 26 * 1 + 0 : Int).toNat) = S0 1 41 := (show (rGoes (S0 1) 2) 41 = S0 1 41 from (Eq.trans (rGoes_n (by omega) (by omega) (by omega)) rfl)); omega) (by have e0 : ((upA (upA (upA S0 0 (sS0_0_X8_keeps S0 0)) 2 (sS0_2_X8_keeps S0 0)) 1 (rGoes (S0 1) 2)) 1 (15 + 26 * (1 + 1) + 0 : Int).toNat) = (rGoes (S0 1) 2) 67 := rfl; omega) (by omega)
      have q_36 : rPass ((rGoes (S0 1) 2)) 1 15 = (rGoes (S0 1) 2) 15 := rPass_n (G := (rGoes (S0 1) 2)) (by omega) (by have e0 : ((upA (upA (upA S0 0 (sS0_0_X8_keeps S0 0)) 2 (sS0_2_X8_keeps S0 0)) 1 (rGoes (S0 1) 2)) 1 (15 + 26 * 1 + 0 : Int).toNat) = S0 1 41 := (show (rGoes (S0 1) 2) 41 = S0 1 41 from (Eq.trans (rGoes_n (by omega) (by omega) (by omega)) rfl)); omega) (by have e0 : ((upA (upA (upA S0 0 (sS0_0_X8_keeps S0 0)) 2 (sS0_2_X8_keeps S0 0)) 1 (rGoes (S0 1) 2)) 1 (15 + 26 * (1 + 1) + 0 : Int).toNat) = (rGoes (S0 1) 2) 67 := rfl; omega) (by omega)
      refine lv_aload_n hx hb dX8_week_51 rfl (lv_at hl 1 rfl) ?_
      refine lv_iconst (v := iI 0) hx hb dX8_week_52 rfl ?_
      refine z_av (va_runV (As := [.int (iI 0)]) (rest := []) ⟨hx, hb, hml, hown, hts⟩ (c_X8_passesOn l D k a0 (upA (upA (upA (upA S0 0 (sS0_0_X8_keeps S0 0)) 2 (sS0_2_X8_keeps S0 0)) 1 (rGoes (S0 1) 2)) 1 (rPass ((rGoes (S0 1) 2)) 1))  0 (zBf.pass (G := (rGoes (S0 1) 2)) (zBf.goes (G := S0 1) hB (by have e0 : ((upA (upA S0 0 (sS0_0_X8_keeps S0 0)) 2 (sS0_2_X8_keeps S0 0)) 1 (15 + 26 * 2 + 0 : Int).toNat) = S0 1 67 := rfl; omega)) (by omega) (by have e0 : ((upA (upA (upA S0 0 (sS0_0_X8_keeps S0 0)) 2 (sS0_2_X8_keeps S0 0)) 1 (rGoes (S0 1) 2)) 1 (15 + 26 * 1 + 0 : Int).toNat) = S0 1 41 := (show (rGoes (S0 1) 2) 41 = S0 1 41 from (Eq.trans (rGoes_n (by omega) (by omega) (by omega)) rfl)); omega) (by have e0 : ((upA (upA (upA S0 0 (sS0_0_X8_keeps S0 0)) 2 (sS0_2_X8_keeps S0 0)) 1 (rGoes (S0 1) 2)) 1 (15 + 26 * (1 + 1) + 0 : Int).toNat) = (rGoes (S0 1) 2) 67 := rfl; omega)) (by omega) (by have e0 : ((upA (upA (upA (upA S0 0 (sS0_0_X8_keeps S0 0)) 2 (sS0_2_X8_keeps S0 0)) 1 (rGoes (S0 1) 2)) 1 (rPass ((rGoes (S0 1) 2)) 1)) 1 (15 + 26 * 0 + 0 : Int).toNat) = S0 1 15 := (show (rPass ((rGoes (S0 1) 2)) 1) 15 = S0 1 15 from (Eq.trans (rPass_n (by omega) (by omega) (by omega) (by omega)) (Eq.trans (rGoes_n (by omega) (by omega) (by omega)) rfl))); omega) (by have e0 : ((upA (upA (upA (upA S0 0 (sS0_0_X8_keeps S0 0)) 2 (sS0_2_X8_keeps S0 0)) 1 (rGoes (S0 1) 2)) 1 (rPass ((rGoes (S0 1) 2)) 1)) 1 (15 + 26 * (0 + 1) + 0 : Int).toNat) = (rPass ((rGoes (S0 1) 2)) 1) 41 := rfl; omega) _) (cwV 1 hts gX8_week_X8_passesOn rfl rfl rfl (by decide +kernel) ⟨(Nat.le_of_ble_eq_true rfl), (Nat.le_of_ble_eq_true rfl)⟩) (z_preV hK hG hA hP hD hS [0, 1, 2, 3, 4, 5, 6, 7] rfl (by decide) 10 rfl rfl) rfl rfl hl.1 rfl (lv_room (Nat.le_of_ble_eq_true rfl)) dX8_week_53 ⟨(Nat.le_of_ble_eq_true rfl), (Nat.le_of_ble_eq_true rfl)⟩) hA hP hD hS [0, 1, 2, 3, 4, 5, 6, 7] rfl rfl (fun H locs hP hD hS => ?_)
      have hP : va_P D vwCl (wRef k a0 (upA (upA (upA (upA (upA S0 0 (sS0_0_X8_keeps S0 0)) 2 (sS0_2_X8_keeps S0 0)) 1 (rGoes (S0 1) 2)) 1 (rPass ((rGoes (S0 1) 2)) 1)) 1 (rPass ((rPass ((rGoes (S0 1) 2)) 1)) 0))) H := hP
      have hD : va_D A (wRef k a0 (upA (upA (upA (upA (upA S0 0 (sS0_0_X8_keeps S0 0)) 2 (sS0_2_X8_keeps S0 0)) 1 (rGoes (S0 1) 2)) 1 (rPass ((rGoes (S0 1) 2)) 1)) 1 (rPass ((rPass ((rGoes (S0 1) 2)) 1)) 0))) := hD
      have q_37 : 0 ≤ rPass ((rPass ((rGoes (S0 1) 2)) 1)) 0 15 ∧ rPass ((rPass ((rGoes (S0 1) 2)) 1)) 0 15 ≤ 4 := rPass_own (G := (rPass ((rGoes (S0 1) 2)) 1)) (by omega) (by have e0 : ((upA (upA (upA (upA S0 0 (sS0_0_X8_keeps S0 0)) 2 (sS0_2_X8_keeps S0 0)) 1 (rGoes (S0 1) 2)) 1 (rPass ((rGoes (S0 1) 2)) 1)) 1 (15 + 26 * 0 + 0 : Int).toNat) = S0 1 15 := (show (rPass ((rGoes (S0 1) 2)) 1) 15 = S0 1 15 from (Eq.trans (rPass_n (by omega) (by omega) (by omega) (by omega)) (Eq.trans (rGoes_n (by omega) (by omega) (by omega)) rfl))); omega) (by have e0 : ((upA (upA (upA (upA S0 0 (sS0_0_X8_keeps S0 0)) 2 (sS0_2_X8_keeps S0 0)) 1 (rGoes (S0 1) 2)) 1 (rPass ((rGoes (S0 1) 2)) 1)) 1 (15 + 26 * (0 + 1) + 0 : Int).toNat) = (rPass ((rGoes (S0 1) 2)) 1) 41 := rfl; omega)
      have q_38 : rPass ((rPass ((rGoes (S0 1) 2)) 1)) 0 9 = (rPass ((rGoes (S0 1) 2)) 1) 9 := rPass_n (G := (rPass ((rGoes (S0 1) 2)) 1)) (by omega) (by have e0 : ((upA (upA (upA (upA S0 0 (sS0_0_X8_keeps S0 0)) 2 (sS0_2_X8_keeps S0 0)) 1 (rGoes (S0 1) 2)) 1 (rPass ((rGoes (S0 1) 2)) 1)) 1 (15 + 26 * 0 + 0 : Int).toNat) = S0 1 15 := (show (rPass ((rGoes (S0 1) 2)) 1) 15 = S0 1 15 from (Eq.trans (rPass_n (by omega) (by omega) (by omega) (by omega)) (Eq.trans (rGoes_n (by omega) (by omega) (by omega)) rfl))); omega) (by have e0 : ((upA (upA (upA (upA S0 0 (sS0_0_X8_keeps S0 0)) 2 (sS0_2_X8_keeps S0 0)) 1 (rGoes (S0 1) 2)) 1 (rPass ((rGoes (S0 1) 2)) 1)) 1 (15 + 26 * (0 + 1) + 0 : Int).toNat) = (rPass ((rGoes (S0 1) 2)) 1) 41 := rfl; omega) (by omega)
      refine lv_iconst (v := iI 0) hx hb dX8_week_56 rfl ?_
      refine lv_istore_n (lv' := [(2, .int (iI 0)), (1, .int (iI 1)), (0, .ref (a0 0))]) hx hb dX8_week_57 rfl hl (by decide) rfl (fun ls hl => ?_)
      have lp58_2 : ∀ (n : Nat) (x2 : Int) (F1 : Nat → Int), (4 - x2).toNat < n → (0 ≤ x2) → (x2 ≤ S0 1 9) → (F1 = mapZ rRest (rPass ((rPass ((rGoes (S0 1) 2)) 1)) 0) 11 (11 + x2).toNat) → ∀ (H : Heap) (locs : List Loc) (ls : Array Slot), va_P D vwCl (wRef k a0 (upA (upA (upA (upA (upA (upA S0 0 (sS0_0_X8_keeps S0 0)) 2 (sS0_2_X8_keeps S0 0)) 1 (rGoes (S0 1) 2)) 1 (rPass ((rGoes (S0 1) 2)) 1)) 1 (rPass ((rPass ((rGoes (S0 1) 2)) 1)) 0)) 1 F1)) H → va_D A (wRef k a0 (upA (upA (upA (upA (upA (upA S0 0 (sS0_0_X8_keeps S0 0)) 2 (sS0_2_X8_keeps S0 0)) 1 (rGoes (S0 1) 2)) 1 (rPass ((rGoes (S0 1) 2)) 1)) 1 (rPass ((rPass ((rGoes (S0 1) 2)) 1)) 0)) 1 F1)) → va_S A s.heap H locs → lv_has ls 3 [(2, .int (iI x2)), (1, .int (iI 1)), (0, .ref (a0 0))] → W p l e ({ frames := 3, cells := 0, slots := 0, locals := 70 } : Room) s m args below meth c H locs 0 0 (MQ below (zQi D A (sp_X8_week S0) (wRef k a0 (upA (upA (upA S0 0 (sS0_0_X8_week S0)) 1 (sS0_1_X8_week S0)) 2 (sS0_2_X8_week S0)))) args s 0 0 A) (F0 m 58 ls []) := by
        intro n58
        induction n58 with
        | zero => intro x2 F1 hm; exact absurd hm (Nat.not_lt_zero _)
        | succ n58 ih58 =>
          intro x2 F1 hm58 i0 i1 iF  H locs ls hP hD hS hl
          have g0 : F1 9 = S0 1 9 := by rw [iF, mapZ_out (by omega)]; exact (show (rPass ((rPass ((rGoes (S0 1) 2)) 1)) 0) 9 = S0 1 9 from (Eq.trans (rPass_n (by omega) (by omega) (by omega) (by omega)) (Eq.trans (rPass_n (by omega) (by omega) (by omega) (by omega)) (Eq.trans (rGoes_n (by omega) (by omega) (by omega)) rfl))))
          have hbF : zBf F1 := by rw [iF]; exact zBf.map (zBf.pass (G := (rPass ((rGoes (S0 1) 2)) 1)) (zBf.pass (G := (rGoes (S0 1) 2)) (zBf.goes (G := S0 1) hB (by have e0 : ((upA (upA S0 0 (sS0_0_X8_keeps S0 0)) 2 (sS0_2_X8_keeps S0 0)) 1 (15 + 26 * 2 + 0 : Int).toNat) = S0 1 67 := rfl; omega)) (by omega) (by have e0 : ((upA (upA (upA S0 0 (sS0_0_X8_keeps S0 0)) 2 (sS0_2_X8_keeps S0 0)) 1 (rGoes (S0 1) 2)) 1 (15 + 26 * 1 + 0 : Int).toNat) = S0 1 41 := (show (rGoes (S0 1) 2) 41 = S0 1 41 from (Eq.trans (rGoes_n (by omega) (by omega) (by omega)) rfl)); omega) (by have e0 : ((upA (upA (upA S0 0 (sS0_0_X8_keeps S0 0)) 2 (sS0_2_X8_keeps S0 0)) 1 (rGoes (S0 1) 2)) 1 (15 + 26 * (1 + 1) + 0 : Int).toNat) = (rGoes (S0 1) 2) 67 := rfl; omega)) (by omega) (by have e0 : ((upA (upA (upA (upA S0 0 (sS0_0_X8_keeps S0 0)) 2 (sS0_2_X8_keeps S0 0)) 1 (rGoes (S0 1) 2)) 1 (rPass ((rGoes (S0 1) 2)) 1)) 1 (15 + 26 * 0 + 0 : Int).toNat) = S0 1 15 := (show (rPass ((rGoes (S0 1) 2)) 1) 15 = S0 1 15 from (Eq.trans (rPass_n (by omega) (by omega) (by omega) (by omega)) (Eq.trans (rGoes_n (by omega) (by omega) (by omega)) rfl))); omega) (by have e0 : ((upA (upA (upA (upA S0 0 (sS0_0_X8_keeps S0 0)) 2 (sS0_2_X8_keeps S0 0)) 1 (rGoes (S0 1) 2)) 1 (rPass ((rGoes (S0 1) 2)) 1)) 1 (15 + 26 * (0 + 1) + 0 : Int).toNat) = (rPass ((rGoes (S0 1) 2)) 1) 41 := rfl; omega)) (fun z hz => by show _ ≤ max 0 (min (z + (-2)) 9) ∧ max 0 (min (z + (-2)) 9) ≤ _; omega) _ _
          refine lv_iload_n hx hb dX8_week_58 rfl (lv_at hl 0 rfl) ?_
          refine lv_aload_n hx hb dX8_week_59 rfl (lv_at hl 2 rfl) ?_
          refine va_get (D := D) (ci := 10) (v := .ref (a0 1)) (C := RX8) (T := TX8) (N := 19) hx hb hts (fun w h => List.mem_cons_of_mem _ (List.mem_append_left _ (List.mem_append_right _ h))) hown hK hP 0 rfl rfl 0 (by decide) (hts (.fieldLink RX8 7 "MondayFactoryModel" "g" "[I") (List.mem_of_getElem? (i := 1) rfl)) (fun _ h9 => h9) rfl dX8_week_60 ?_
          refine lv_bipush (v := iI 9) hx hb dX8_week_63 (by decide) ?_
          refine z_iald hx hb hK hP 1 0 (f := F1) rfl rfl (i := 9) (by omega) (by omega) (by decide) 9 rfl dX8_week_65 ?_
          have f_39 := hbF 9
          refine zi_icmp_ge (tgt := 82) hx hb dX8_week_66 (by decide) ⟨by omega, by omega⟩ ⟨by omega, by omega⟩ (fun c_40 => ?_) (fun c_40 => ?_)
          · have v_41 : F1 = mapZ rRest (rPass ((rPass ((rGoes (S0 1) 2)) 1)) 0) 11 (11 + S0 1 9).toNat := (by rw [iF, show x2 = S0 1 9 by omega])
            rw [v_41] at hP hD
            have v_42 : x2 = S0 1 9 := (by omega)
            rw [v_42] at hl
            refine lv_aload_n hx hb dX8_week_82 rfl (lv_at hl 2 rfl) ?_
            refine va_get (D := D) (ci := 10) (v := .ref (a0 1)) (C := RX8) (T := TX8) (N := 19) hx hb hts (fun w h => List.mem_cons_of_mem _ (List.mem_append_left _ (List.mem_append_right _ h))) hown hK hP 0 rfl rfl 0 (by decide) (hts (.fieldLink RX8 7 "MondayFactoryModel" "g" "[I") (List.mem_of_getElem? (i := 1) rfl)) (fun _ h9 => h9) rfl dX8_week_83 ?_
            refine lv_iconst (v := iI 5) hx hb dX8_week_86 rfl ?_
            refine lv_dup2_11 hx hb dX8_week_87 rfl rfl ?_
            refine z_iald hx hb hK hP 1 0 (f := mapZ rRest (rPass ((rPass ((rGoes (S0 1) 2)) 1)) 0) 11 (11 + S0 1 9).toNat) rfl rfl (i := 5) (by omega) (by omega) (by decide) 5 rfl dX8_week_88 ?_
            refine lv_iload_n hx hb dX8_week_89 rfl (lv_at hl 1 rfl) ?_
            refine zi_add hx hb dX8_week_90 ?_
            refine z_iast hx hb hK hP hD hS 1 0 (f := mapZ rRest (rPass ((rPass ((rGoes (S0 1) 2)) 1)) 0) 11 (11 + S0 1 9).toNat) rfl rfl (i := 5) (by omega) (by omega) (by decide) 5 rfl dX8_week_91 (fun H locs hP hD hS => ?_)
            have hP : va_P D vwCl (wRef k a0 (up2 (upA (upA (upA (upA (upA (upA S0 0 (sS0_0_X8_keeps S0 0)) 2 (sS0_2_X8_keeps S0 0)) 1 (rGoes (S0 1) 2)) 1 (rPass ((rGoes (S0 1) 2)) 1)) 1 (rPass ((rPass ((rGoes (S0 1) 2)) 1)) 0)) 1 (mapZ rRest (rPass ((rPass ((rGoes (S0 1) 2)) 1)) 0) 11 (11 + S0 1 9).toNat)) 1 5 (((mapZ rRest (rPass ((rPass ((rGoes (S0 1) 2)) 1)) 0) 11 (11 + S0 1 9).toNat) 5) + 1))) H := hP
            have hD : va_D A (wRef k a0 (up2 (upA (upA (upA (upA (upA (upA S0 0 (sS0_0_X8_keeps S0 0)) 2 (sS0_2_X8_keeps S0 0)) 1 (rGoes (S0 1) 2)) 1 (rPass ((rGoes (S0 1) 2)) 1)) 1 (rPass ((rPass ((rGoes (S0 1) 2)) 1)) 0)) 1 (mapZ rRest (rPass ((rPass ((rGoes (S0 1) 2)) 1)) 0) 11 (11 + S0 1 9).toNat)) 1 5 (((mapZ rRest (rPass ((rPass ((rGoes (S0 1) 2)) 1)) 0) 11 (11 + S0 1 9).toNat) 5) + 1))) := hD
            refine lv_aload_n hx hb dX8_week_92 rfl (lv_at hl 2 rfl) ?_
            refine va_get (D := D) (ci := 10) (v := .ref (a0 1)) (C := RX8) (T := TX8) (N := 19) hx hb hts (fun w h => List.mem_cons_of_mem _ (List.mem_append_left _ (List.mem_append_right _ h))) hown hK hP 0 rfl rfl 0 (by decide) (hts (.fieldLink RX8 7 "MondayFactoryModel" "g" "[I") (List.mem_of_getElem? (i := 1) rfl)) (fun _ h9 => h9) rfl dX8_week_93 ?_
            refine lv_bipush (v := iI 7) hx hb dX8_week_96 (by decide) ?_
            refine lv_iconst (v := iI 0) hx hb dX8_week_98 rfl ?_
            refine z_iast hx hb hK hP hD hS 1 0 (f := upZ (mapZ rRest (rPass ((rPass ((rGoes (S0 1) 2)) 1)) 0) 11 (11 + S0 1 9).toNat) 5 (((mapZ rRest (rPass ((rPass ((rGoes (S0 1) 2)) 1)) 0) 11 (11 + S0 1 9).toNat) 5) + 1)) rfl rfl (i := 7) (by omega) (by omega) (by decide) 7 rfl dX8_week_99 (fun H locs hP hD hS => ?_)
            have hP : va_P D vwCl (wRef k a0 (up2 (up2 (upA (upA (upA (upA (upA (upA S0 0 (sS0_0_X8_keeps S0 0)) 2 (sS0_2_X8_keeps S0 0)) 1 (rGoes (S0 1) 2)) 1 (rPass ((rGoes (S0 1) 2)) 1)) 1 (rPass ((rPass ((rGoes (S0 1) 2)) 1)) 0)) 1 (mapZ rRest (rPass ((rPass ((rGoes (S0 1) 2)) 1)) 0) 11 (11 + S0 1 9).toNat)) 1 5 (((mapZ rRest (rPass ((rPass ((rGoes (S0 1) 2)) 1)) 0) 11 (11 + S0 1 9).toNat) 5) + 1)) 1 7 0)) H := hP
            have hD : va_D A (wRef k a0 (up2 (up2 (upA (upA (upA (upA (upA (upA S0 0 (sS0_0_X8_keeps S0 0)) 2 (sS0_2_X8_keeps S0 0)) 1 (rGoes (S0 1) 2)) 1 (rPass ((rGoes (S0 1) 2)) 1)) 1 (rPass ((rPass ((rGoes (S0 1) 2)) 1)) 0)) 1 (mapZ rRest (rPass ((rPass ((rGoes (S0 1) 2)) 1)) 0) 11 (11 + S0 1 9).toNat)) 1 5 (((mapZ rRest (rPass ((rPass ((rGoes (S0 1) 2)) 1)) 0) 11 (11 + S0 1 9).toNat) 5) + 1)) 1 7 0)) := hD
            refine lv_aload_n hx hb dX8_week_100 rfl (lv_at hl 2 rfl) ?_
            refine va_get (D := D) (ci := 10) (v := .ref (a0 1)) (C := RX8) (T := TX8) (N := 19) hx hb hts (fun w h => List.mem_cons_of_mem _ (List.mem_append_left _ (List.mem_append_right _ h))) hown hK hP 0 rfl rfl 0 (by decide) (hts (.fieldLink RX8 7 "MondayFactoryModel" "g" "[I") (List.mem_of_getElem? (i := 1) rfl)) (fun _ h9 => h9) rfl dX8_week_101 ?_
            refine lv_iconst (v := iI 1) hx hb dX8_week_104 rfl ?_
            refine lv_dup2_11 hx hb dX8_week_105 rfl rfl ?_
            refine z_iald hx hb hK hP 1 0 (f := upZ (upZ (mapZ rRest (rPass ((rPass ((rGoes (S0 1) 2)) 1)) 0) 11 (11 + S0 1 9).toNat) 5 (((mapZ rRest (rPass ((rPass ((rGoes (S0 1) 2)) 1)) 0) 11 (11 + S0 1 9).toNat) 5) + 1)) 7 0) rfl rfl (i := 1) (by omega) (by omega) (by decide) 1 rfl dX8_week_106 ?_
            refine z_eqi (z2 := (mapZ rRest (rPass ((rPass ((rGoes (S0 1) 2)) 1)) 0) 11 (11 + S0 1 9).toNat) 1) (show (upZ (upZ (mapZ rRest (rPass ((rPass ((rGoes (S0 1) 2)) 1)) 0) 11 (11 + S0 1 9).toNat) 5 (((mapZ rRest (rPass ((rPass ((rGoes (S0 1) 2)) 1)) 0) 11 (11 + S0 1 9).toNat) 5) + 1)) 7 0) 1 = (mapZ rRest (rPass ((rPass ((rGoes (S0 1) 2)) 1)) 0) 11 (11 + S0 1 9).toNat) 1 from (Eq.trans (upZ_n (by omega)) (Eq.trans (upZ_n (by omega)) rfl))) ?_
            refine lv_iconst (v := iI 1) hx hb dX8_week_107 rfl ?_
            refine zi_add hx hb dX8_week_108 ?_
            refine z_iast hx hb hK hP hD hS 1 0 (f := upZ (upZ (mapZ rRest (rPass ((rPass ((rGoes (S0 1) 2)) 1)) 0) 11 (11 + S0 1 9).toNat) 5 (((mapZ rRest (rPass ((rPass ((rGoes (S0 1) 2)) 1)) 0) 11 (11 + S0 1 9).toNat) 5) + 1)) 7 0) rfl rfl (i := 1) (by omega) (by omega) (by decide) 1 rfl dX8_week_109 (fun H locs hP hD hS => ?_)
            have hP : va_P D vwCl (wRef k a0 (up2 (up2 (up2 (upA (upA (upA (upA (upA (upA S0 0 (sS0_0_X8_keeps S0 0)) 2 (sS0_2_X8_keeps S0 0)) 1 (rGoes (S0 1) 2)) 1 (rPass ((rGoes (S0 1) 2)) 1)) 1 (rPass ((rPass ((rGoes (S0 1) 2)) 1)) 0)) 1 (mapZ rRest (rPass ((rPass ((rGoes (S0 1) 2)) 1)) 0) 11 (11 + S0 1 9).toNat)) 1 5 (((mapZ rRest (rPass ((rPass ((rGoes (S0 1) 2)) 1)) 0) 11 (11 + S0 1 9).toNat) 5) + 1)) 1 7 0) 1 1 (((mapZ rRest (rPass ((rPass ((rGoes (S0 1) 2)) 1)) 0) 11 (11 + S0 1 9).toNat) 1) + 1))) H := hP
            have hD : va_D A (wRef k a0 (up2 (up2 (up2 (upA (upA (upA (upA (upA (upA S0 0 (sS0_0_X8_keeps S0 0)) 2 (sS0_2_X8_keeps S0 0)) 1 (rGoes (S0 1) 2)) 1 (rPass ((rGoes (S0 1) 2)) 1)) 1 (rPass ((rPass ((rGoes (S0 1) 2)) 1)) 0)) 1 (mapZ rRest (rPass ((rPass ((rGoes (S0 1) 2)) 1)) 0) 11 (11 + S0 1 9).toNat)) 1 5 (((mapZ rRest (rPass ((rPass ((rGoes (S0 1) 2)) 1)) 0) 11 (11 + S0 1 9).toNat) 5) + 1)) 1 7 0) 1 1 (((mapZ rRest (rPass ((rPass ((rGoes (S0 1) 2)) 1)) 0) 11 (11 + S0 1 9).toNat) 1) + 1))) := hD
            refine lv_iload_n hx hb dX8_week_110 rfl (lv_at hl 1 rfl) ?_
            exact z_iret hx hb hr hlocks hP hS dX8_week_111 (Eq.trans (zif_neg c_2) (Eq.trans (zif_neg c_14) rfl)) (Eq.trans (Eq.trans (congrArg (fun z => wRef k a0 (upA (upA (upA S0 0 z) 1 (sS0_1_X8_week S0)) 2 (sS0_2_X8_week S0))) (show sS0_0_X8_week S0 = sS0_0_X8_keeps S0 0 from (Eq.trans (zif_neg c_2) (Eq.trans (zif_neg c_14) rfl)))) (congrArg (fun z => wRef k a0 (upA (upA (upA S0 0 (sS0_0_X8_keeps S0 0)) 1 z) 2 (sS0_2_X8_week S0))) (show sS0_1_X8_week S0 = upZ (upZ (upZ (mapZ rRest (rPass ((rPass ((rGoes (S0 1) 2)) 1)) 0) 11 (11 + S0 1 9).toNat) 5 (((mapZ rRest (rPass ((rPass ((rGoes (S0 1) 2)) 1)) 0) 11 (11 + S0 1 9).toNat) 5) + 1)) 7 0) 1 (((mapZ rRest (rPass ((rPass ((rGoes (S0 1) 2)) 1)) 0) 11 (11 + S0 1 9).toNat) 1) + 1) from (Eq.trans (zif_neg c_2) (Eq.trans (zif_neg c_14) rfl))))) (congrArg (fun z => wRef k a0 (upA (upA (upA S0 0 (sS0_0_X8_keeps S0 0)) 1 (upZ (upZ (upZ (mapZ rRest (rPass ((rPass ((rGoes (S0 1) 2)) 1)) 0) 11 (11 + S0 1 9).toNat) 5 (((mapZ rRest (rPass ((rPass ((rGoes (S0 1) 2)) 1)) 0) 11 (11 + S0 1 9).toNat) 5) + 1)) 7 0) 1 (((mapZ rRest (rPass ((rPass ((rGoes (S0 1) 2)) 1)) 0) 11 (11 + S0 1 9).toNat) 1) + 1))) 2 z)) (show sS0_2_X8_week S0 = sS0_2_X8_keeps S0 0 from (Eq.trans (zif_neg c_2) (Eq.trans (zif_neg c_14) rfl))))) (Nat.le_refl _) (Nat.le_refl _)
          · refine lv_aload_n hx hb dX8_week_69 rfl (lv_at hl 2 rfl) ?_
            refine lv_iload_n hx hb dX8_week_70 rfl (lv_at hl 0 rfl) ?_
            refine lv_bipush (v := iI (-2)) hx hb dX8_week_71 (by decide) ?_
            refine z_av (va_runV (As := [.int (iI x2), .int (iI (-2))]) (rest := []) ⟨hx, hb, hml, hown, hts⟩ (c_X8_tires l D k a0 (upA (upA (upA (upA (upA (upA S0 0 (sS0_0_X8_keeps S0 0)) 2 (sS0_2_X8_keeps S0 0)) 1 (rGoes (S0 1) 2)) 1 (rPass ((rGoes (S0 1) 2)) 1)) 1 (rPass ((rPass ((rGoes (S0 1) 2)) 1)) 0)) 1 F1)  x2 (-2) hbF (by omega) (by omega) _) (cwV 2 hts gX8_week_X8_tires rfl rfl rfl (by decide +kernel) ⟨(Nat.le_of_ble_eq_true rfl), (Nat.le_of_ble_eq_true rfl)⟩) (z_preV hK hG hA hP hD hS [0, 1, 2, 3, 4, 5, 6, 7] rfl (by decide) 10 rfl rfl) rfl rfl hl.1 rfl (lv_room (Nat.le_of_ble_eq_true rfl)) dX8_week_73 ⟨(Nat.le_of_ble_eq_true rfl), (Nat.le_of_ble_eq_true rfl)⟩) hA hP hD hS [0, 1, 2, 3, 4, 5, 6, 7] rfl rfl (fun H locs hP hD hS => ?_)
            have hP : va_P D vwCl (wRef k a0 (up2 (upA (upA (upA (upA (upA (upA S0 0 (sS0_0_X8_keeps S0 0)) 2 (sS0_2_X8_keeps S0 0)) 1 (rGoes (S0 1) 2)) 1 (rPass ((rGoes (S0 1) 2)) 1)) 1 (rPass ((rPass ((rGoes (S0 1) 2)) 1)) 0)) 1 F1) 1 ((11 + x2).toNat) (max 0 (min ((F1 ((11 + x2).toNat)) + (-2)) 9)))) H := hP
            have hD : va_D A (wRef k a0 (up2 (upA (upA (upA (upA (upA (upA S0 0 (sS0_0_X8_keeps S0 0)) 2 (sS0_2_X8_keeps S0 0)) 1 (rGoes (S0 1) 2)) 1 (rPass ((rGoes (S0 1) 2)) 1)) 1 (rPass ((rPass ((rGoes (S0 1) 2)) 1)) 0)) 1 F1) 1 ((11 + x2).toNat) (max 0 (min ((F1 ((11 + x2).toNat)) + (-2)) 9)))) := hD
            refine lv_iinc (v := iI (x2 + 1)) (lv' := [(2, .int (iI (x2 + 1))), (1, .int (iI 1)), (0, .ref (a0 0))]) hx hb dX8_week_76 hl (k := 0) rfl (iI_add _ _) (by decide) rfl (fun ls hl => ?_)
            refine lv_goto (tgt := 58) hx hb dX8_week_79 (by decide) ?_
            exact ih58 (x2 + 1) (upZ F1 ((11 + x2).toNat) (max 0 (min ((F1 ((11 + x2).toNat)) + (-2)) 9))) (by omega) (by omega) (by omega) (by rw [iF]; exact tires_s i0 rfl)  H locs ls hP hD hS (lv_sub hl [0, 1, 2] rfl)
      exact lp58_2 5 0 (rPass ((rPass ((rGoes (S0 1) 2)) 1)) 0) (by omega) (by omega) (by omega) (mapZ_0 (by omega)).symm  H locs ls hP hD hS (lv_sub hl [0, 1, 2] rfl)
