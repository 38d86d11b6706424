/-- the reference as it begins to carry out a text -/
noncomputable def rB (S0 : Nat → Nat → Int) : Nat → Nat → Int := up2 (upA (upA (up2 (up2 (upA (upA S0 0 (sS0_0_X8_isText S0)) 7 (sS0_7_X8_isText S0)) 0 13 (-1)) 0 12 0) 0 (upZ (upZ ((upZ (upZ (sS0_0_X8_isText S0) 13 (-1)) 12 0)) 8 0) 7 0)) 4 (cpyZ (S0 1) (S0 4) 0 0 125)) 0 6 1
noncomputable def rEnd1 (S0 : Nat → Nat → Int) (n0 : Nat) : Nat → Nat → Int := up2 (upA (up2 ((rCrr ((rPl (rB S0) n0)) (4 * ((n0 : Int))))) 0 6 0) 1 (cpyZ ((((rCrr ((rPl (rB S0) n0)) (4 * ((n0 : Int))))) 4)) ((((rCrr ((rPl (rB S0) n0)) (4 * ((n0 : Int))))) 1)) 0 0 125)) 0 8 1
noncomputable def rEnd2 (S0 : Nat → Nat → Int) (n0 : Nat) : Nat → Nat → Int := up2 (upA (up2 ((rCrr ((rPl (rB S0) n0)) (4 * ((n0 : Int))))) 0 6 0) 1 (cpyZ ((((rCrr ((rPl (rB S0) n0)) (4 * ((n0 : Int))))) 4)) ((((rCrr ((rPl (rB S0) n0)) (4 * ((n0 : Int))))) 1)) 0 0 125)) 0 8 2
set_option maxHeartbeats 4000000 in
set_option maxRecDepth 100000 in
theorem c_X8_run_e (l : Launch) (D : va_G) (k : Nat → ClassId) (a0 : Nat → Nat) (S0 : Nat → Nat → Int) (hB0 : zBf (S0 0)) (hB5 : zBf (S0 5)) (h12 : 0 ≤ S0 0 12 ∧ S0 0 12 ≤ 60) (ht : sp_X8_isText S0 = 0) : zMi l yX8_run wsX8_run ({ frames := 4, cells := 0, slots := 0, locals := 86 } : Room) D k [.ref (a0 0)] (wRef k a0 S0) (0) (wRef k a0 (upA (up2 (up2 (upA (upA S0 0 (sS0_0_X8_isText S0)) 7 (sS0_7_X8_isText S0)) 0 13 ((sS0_0_X8_isText S0) 16)) 0 12 0) 0 (upZ (upZ ((upZ (upZ (sS0_0_X8_isText S0) 13 ((sS0_0_X8_isText S0) 16)) 12 0)) 8 1) 7 0))) 0 0 := by
  refine zMi_of (cc := cX8_run) (maxL := 4) (ret := (some .int)) (by decide) rfl (Nat.le_of_ble_eq_true rfl) ?_
  intro p e s m args below meth c A ls hx hb hr hml hown hts hlocks hK hP hD hG hA hS hl
  have hown : s.vm.findClass RX8 = some m.cls := hown
  have hl : lv_has ls 4 [(0, .ref (a0 0))] := hl
  obtain ⟨H, hH⟩ : ∃ z, z = s.heap := ⟨_, rfl⟩
  obtain ⟨locs, hlc⟩ : ∃ z : List Loc, z = [] := ⟨_, rfl⟩
  rw [← hH] at hP
  have hS : va_S A s.heap H locs := by rw [hH, hlc]; exact hS
  rw [← hlc, ← hH]
  clear hlc hH
  refine lv_aload_n hx hb dX8_run_0 rfl (lv_at hl 0 rfl) ?_
  refine z_ai (va_runV (As := []) (rest := []) ⟨hx, hb, hml, hown, hts⟩ (c_X8_isText l D k a0 S0   hB0 hB5 (by omega) _) (cwV 0 hts gX8_run_X8_isText rfl rfl rfl (by decide +kernel) ⟨(Nat.le_of_ble_eq_true rfl), (Nat.le_of_ble_eq_true rfl)⟩) (z_preV hK hG hA hP hD hS [0, 1, 2, 3, 4, 5, 6, 7] rfl (by decide) 10 rfl rfl) rfl rfl hl.1 rfl (lv_room (Nat.le_of_ble_eq_true rfl)) dX8_run_1 ⟨(Nat.le_of_ble_eq_true rfl), (Nat.le_of_ble_eq_true rfl)⟩) hA hP hD hS [0, 1, 2, 3, 4, 5, 6, 7] rfl rfl (fun H locs hP hD hS => ?_)
  have hP : va_P D vwCl (wRef k a0 (upA (upA S0 0 (sS0_0_X8_isText S0)) 7 (sS0_7_X8_isText S0))) H := hP
  have hD : va_D A (wRef k a0 (upA (upA S0 0 (sS0_0_X8_isText S0)) 7 (sS0_7_X8_isText S0))) := hD
  refine lv_istore_n (lv' := [(1, .int (iI (sp_X8_isText S0))), (0, .ref (a0 0))]) hx hb dX8_run_4 rfl hl (by decide) rfl (fun ls hl => ?_)
  refine lv_aload_n hx hb dX8_run_5 rfl (lv_at hl 1 rfl) ?_
  refine lv_iload_n hx hb dX8_run_6 rfl (lv_at hl 0 rfl) ?_
  refine zi_if_eq (tgt := 14) hx hb dX8_run_7 (by decide) ⟨by omega, by omega⟩ (fun _ => ?_) (fun c_1 => absurd c_1 (by omega))
  refine lv_aload_n hx hb dX8_run_14 rfl (lv_at hl 1 rfl) ?_
  refine va_get (D := D) (ci := 10) (v := .int (iI ((sS0_0_X8_isText S0) 16))) (C := RX8) (T := TX8) (N := 19) hx hb hts (fun w h => List.mem_cons_of_mem _ (List.mem_append_left _ (List.mem_append_right _ h))) hown hK hP 0 rfl rfl 16 (by decide) (hts (.fieldLink RX8 180 "MondayFactoryModel" "at" "I") (List.mem_of_getElem? (i := 1) rfl)) (fun _ h9 => h9) rfl dX8_run_15 ?_
  refine va_put (D := D) (ci := 10) (v := .int (iI ((sS0_0_X8_isText S0) 16))) (ty := .int) (C := RX8) (T := TX8) (N := 19) hx hb hts (fun w h => List.mem_cons_of_mem _ (List.mem_append_left _ (List.mem_append_right _ h))) tyX8 tyX8_ok nmX8 hown hK hP hD hS 0 rfl rfl 13 (by decide) (hts (.fieldLink RX8 25 "MondayFactoryModel" "error" "I") (List.mem_of_getElem? (i := 2) rfl)) (fun _ h9 => h9) rfl (by decide +kernel) rfl rfl (Nat.le_of_ble_eq_true rfl) dX8_run_18 (fun H locs hP hD hS => ?_)
  have hP : va_P D vwCl (wRef k a0 (up2 (upA (upA S0 0 (sS0_0_X8_isText S0)) 7 (sS0_7_X8_isText S0)) 0 13 ((sS0_0_X8_isText S0) 16))) H := hP
  have hD : va_D A (wRef k a0 (up2 (upA (upA S0 0 (sS0_0_X8_isText S0)) 7 (sS0_7_X8_isText S0)) 0 13 ((sS0_0_X8_isText S0) 16))) := hD
  refine lv_aload_n hx hb dX8_run_21 rfl (lv_at hl 1 rfl) ?_
  refine lv_iconst (v := iI 0) hx hb dX8_run_22 rfl ?_
  refine va_put (D := D) (ci := 10) (v := .int (iI 0)) (ty := .int) (C := RX8) (T := TX8) (N := 19) hx hb hts (fun w h => List.mem_cons_of_mem _ (List.mem_append_left _ (List.mem_append_right _ h))) tyX8 tyX8_ok nmX8 hown hK hP hD hS 0 rfl rfl 12 (by decide) (hts (.fieldLink RX8 177 "MondayFactoryModel" "length" "I") (List.mem_of_getElem? (i := 3) rfl)) (fun _ h9 => h9) rfl (by decide +kernel) rfl rfl (Nat.le_of_ble_eq_true rfl) dX8_run_23 (fun H locs hP hD hS => ?_)
  have hP : va_P D vwCl (wRef k a0 (up2 (up2 (upA (upA S0 0 (sS0_0_X8_isText S0)) 7 (sS0_7_X8_isText S0)) 0 13 ((sS0_0_X8_isText S0) 16)) 0 12 0)) H := hP
  have hD : va_D A (wRef k a0 (up2 (up2 (upA (upA S0 0 (sS0_0_X8_isText S0)) 7 (sS0_7_X8_isText S0)) 0 13 ((sS0_0_X8_isText S0) 16)) 0 12 0)) := hD
  refine lv_aload_n hx hb dX8_run_26 rfl (lv_at hl 1 rfl) ?_
  refine lv_iload_n hx hb dX8_run_27 rfl (lv_at hl 0 rfl) ?_
  refine zi_if_eq (tgt := 35) hx hb dX8_run_28 (by decide) ⟨by omega, by omega⟩ (fun _ => ?_) (fun c_2 => absurd c_2 (by omega))
  refine lv_iconst (v := iI 1) hx hb dX8_run_35 rfl ?_
  refine z_ai (va_runV (As := [.int (iI 1)]) (rest := []) ⟨hx, hb, hml, hown, hts⟩ (c_X8_fails l D k a0 (up2 (up2 (upA (upA S0 0 (sS0_0_X8_isText S0)) 7 (sS0_7_X8_isText S0)) 0 13 ((sS0_0_X8_isText S0) 16)) 0 12 0)  1 (by omega) _) (cwV 1 hts gX8_run_X8_fails rfl rfl rfl (by decide +kernel) ⟨(Nat.le_of_ble_eq_true rfl), (Nat.le_of_ble_eq_true rfl)⟩) (z_preV hK hG hA hP hD hS [0, 1, 2, 3, 4, 5, 6, 7] rfl (by decide) 10 rfl rfl) rfl rfl hl.1 rfl (lv_room (Nat.le_of_ble_eq_true rfl)) dX8_run_36 ⟨(Nat.le_of_ble_eq_true rfl), (Nat.le_of_ble_eq_true rfl)⟩) hA hP hD hS [0, 1, 2, 3, 4, 5, 6, 7] rfl rfl (fun H locs hP hD hS => ?_)
  have hP : va_P D vwCl (wRef k a0 (upA (up2 (up2 (upA (upA S0 0 (sS0_0_X8_isText S0)) 7 (sS0_7_X8_isText S0)) 0 13 ((sS0_0_X8_isText S0) 16)) 0 12 0) 0 (upZ (upZ ((upZ (upZ (sS0_0_X8_isText S0) 13 ((sS0_0_X8_isText S0) 16)) 12 0)) 8 1) 7 0))) H := hP
  have hD : va_D A (wRef k a0 (upA (up2 (up2 (upA (upA S0 0 (sS0_0_X8_isText S0)) 7 (sS0_7_X8_isText S0)) 0 13 ((sS0_0_X8_isText S0) 16)) 0 12 0) 0 (upZ (upZ ((upZ (upZ (sS0_0_X8_isText S0) 13 ((sS0_0_X8_isText S0) 16)) 12 0)) 8 1) 7 0))) := hD
  refine z_eqi (z2 := zb (0 < 1)) rfl ?_
  refine zi_if_eqB (tgt := 44) hx hb dX8_run_39 (by decide) (fun c_3 => absurd c_3 (by decide)) (fun _ => ?_)
  refine lv_iconst (v := iI 0) hx hb dX8_run_42 rfl ?_
  exact z_iret hx hb hr hlocks hP hS dX8_run_43 rfl rfl (Nat.le_refl _) (Nat.le_refl _)
set_option maxHeartbeats 4000000 in
set_option maxRecDepth 100000 in
theorem c_X8_run_ok (l : Launch) (D : va_G) (k : Nat → ClassId) (a0 : Nat → Nat) (S0 : Nat → Nat → Int) (hB0 : zBf (S0 0)) (hB5 : zBf (S0 5)) (h12 : 0 ≤ S0 0 12 ∧ S0 0 12 ≤ 60) (hm : 0 ≤ sS0_0_X8_isText S0 18 ∧ sS0_0_X8_isText S0 18 ≤ 30) (hBt : zBf (sS0_7_X8_isText S0)) (ht : sp_X8_isText S0 = 1) (hch : 0 ≤ S0 0 5 ∧ S0 0 5 ≤ 8) (hB1 : zBf (S0 1)) (h5t : sS0_0_X8_isText S0 5 = S0 0 5) (hPk : ∀ n : Nat, (n : Int) ≤ sS0_0_X8_isText S0 18 → rOK (rPl (rB S0) n) ∧ (rPl (rB S0) n) 0 18 = sS0_0_X8_isText S0 18 ∧ (rPl (rB S0) n) 7 = sS0_7_X8_isText S0) (hV : ∀ n : Nat, 1 ≤ n → (n : Int) ≤ sS0_0_X8_isText S0 18 → (rPl (rB S0) n) 0 8 = 0) : zMi l yX8_run wsX8_run ({ frames := 7, cells := 0, slots := 0, locals := 158 } : Room) D k [.ref (a0 0)] (wRef k a0 S0) ((sS0_0_X8_keeps (up2 ((rPl (rB S0) (sS0_0_X8_isText S0 18).toNat)) 0 6 0) 1) 18) (wRef k a0 (upA (upA (up2 ((rPl (rB S0) (sS0_0_X8_isText S0 18).toNat)) 0 6 0) 0 (sS0_0_X8_keeps (up2 ((rPl (rB S0) (sS0_0_X8_isText S0 18).toNat)) 0 6 0) 1)) 2 (sS0_2_X8_keeps (up2 ((rPl (rB S0) (sS0_0_X8_isText S0 18).toNat)) 0 6 0) 1))) 0 0 := by
  refine zMi_of (cc := cX8_run) (maxL := 4) (ret := (some .int)) (by decide) rfl (Nat.le_of_ble_eq_true rfl) ?_
  intro p e s m args below meth c A ls hx hb hr hml hown hts hlocks hK hP hD hG hA hS hl
  have hown : s.vm.findClass RX8 = some m.cls := hown
  have hl : lv_has ls 4 [(0, .ref (a0 0))] := hl
  obtain ⟨H, hH⟩ : ∃ z, z = s.heap := ⟨_, rfl⟩
  obtain ⟨locs, hlc⟩ : ∃ z : List Loc, z = [] := ⟨_, rfl⟩
  rw [← hH] at hP
  have hS : va_S A s.heap H locs := by rw [hH, hlc]; exact hS
  rw [← hlc, ← hH]
  clear hlc hH
  refine lv_aload_n hx hb dX8_run_0 rfl (lv_at hl 0 rfl) ?_
  refine z_ai (va_runV (As := []) (rest := []) ⟨hx, hb, hml, hown, hts⟩ (c_X8_isText l D k a0 S0   hB0 hB5 (by omega) _) (cwV 0 hts gX8_run_X8_isText rfl rfl rfl (by decide +kernel) ⟨(Nat.le_of_ble_eq_true rfl), (Nat.le_of_ble_eq_true rfl)⟩) (z_preV hK hG hA hP hD hS [0, 1, 2, 3, 4, 5, 6, 7] rfl (by decide) 10 rfl rfl) rfl rfl hl.1 rfl (lv_room (Nat.le_of_ble_eq_true rfl)) dX8_run_1 ⟨(Nat.le_of_ble_eq_true rfl), (Nat.le_of_ble_eq_true rfl)⟩) hA hP hD hS [0, 1, 2, 3, 4, 5, 6, 7] rfl rfl (fun H locs hP hD hS => ?_)
  have hP : va_P D vwCl (wRef k a0 (upA (upA S0 0 (sS0_0_X8_isText S0)) 7 (sS0_7_X8_isText S0))) H := hP
  have hD : va_D A (wRef k a0 (upA (upA S0 0 (sS0_0_X8_isText S0)) 7 (sS0_7_X8_isText S0))) := hD
  refine lv_istore_n (lv' := [(1, .int (iI (sp_X8_isText S0))), (0, .ref (a0 0))]) hx hb dX8_run_4 rfl hl (by decide) rfl (fun ls hl => ?_)
  refine lv_aload_n hx hb dX8_run_5 rfl (lv_at hl 1 rfl) ?_
  refine lv_iload_n hx hb dX8_run_6 rfl (lv_at hl 0 rfl) ?_
  refine zi_if_eq (tgt := 14) hx hb dX8_run_7 (by decide) ⟨by omega, by omega⟩ (fun c_1 => absurd c_1 (by omega)) (fun _ => ?_)
  refine lv_iconst (v := iI (-1)) hx hb dX8_run_10 rfl ?_
  refine lv_goto (tgt := 18) hx hb dX8_run_11 (by decide) ?_
  refine va_put (D := D) (ci := 10) (v := .int (iI (-1))) (ty := .int) (C := RX8) (T := TX8) (N := 19) hx hb hts (fun w h => List.mem_cons_of_mem _ (List.mem_append_left _ (List.mem_append_right _ h))) tyX8 tyX8_ok nmX8 hown hK hP hD hS 0 rfl rfl 13 (by decide) (hts (.fieldLink RX8 25 "MondayFactoryModel" "error" "I") (List.mem_of_getElem? (i := 2) rfl)) (fun _ h9 => h9) rfl (by decide +kernel) rfl rfl (Nat.le_of_ble_eq_true rfl) dX8_run_18 (fun H locs hP hD hS => ?_)
  have hP : va_P D vwCl (wRef k a0 (up2 (upA (upA S0 0 (sS0_0_X8_isText S0)) 7 (sS0_7_X8_isText S0)) 0 13 (-1))) H := hP
  have hD : va_D A (wRef k a0 (up2 (upA (upA S0 0 (sS0_0_X8_isText S0)) 7 (sS0_7_X8_isText S0)) 0 13 (-1))) := hD
  refine lv_aload_n hx hb dX8_run_21 rfl (lv_at hl 1 rfl) ?_
  refine lv_iconst (v := iI 0) hx hb dX8_run_22 rfl ?_
  refine va_put (D := D) (ci := 10) (v := .int (iI 0)) (ty := .int) (C := RX8) (T := TX8) (N := 19) hx hb hts (fun w h => List.mem_cons_of_mem _ (List.mem_append_left _ (List.mem_append_right _ h))) tyX8 tyX8_ok nmX8 hown hK hP hD hS 0 rfl rfl 12 (by decide) (hts (.fieldLink RX8 177 "MondayFactoryModel" "length" "I") (List.mem_of_getElem? (i := 3) rfl)) (fun _ h9 => h9) rfl (by decide +kernel) rfl rfl (Nat.le_of_ble_eq_true rfl) dX8_run_23 (fun H locs hP hD hS => ?_)
  have hP : va_P D vwCl (wRef k a0 (up2 (up2 (upA (upA S0 0 (sS0_0_X8_isText S0)) 7 (sS0_7_X8_isText S0)) 0 13 (-1)) 0 12 0)) H := hP
  have hD : va_D A (wRef k a0 (up2 (up2 (upA (upA S0 0 (sS0_0_X8_isText S0)) 7 (sS0_7_X8_isText S0)) 0 13 (-1)) 0 12 0)) := hD
  refine lv_aload_n hx hb dX8_run_26 rfl (lv_at hl 1 rfl) ?_
  refine lv_iload_n hx hb dX8_run_27 rfl (lv_at hl 0 rfl) ?_
  refine zi_if_eq (tgt := 35) hx hb dX8_run_28 (by decide) ⟨by omega, by omega⟩ (fun c_2 => absurd c_2 (by omega)) (fun _ => ?_)
  refine lv_iconst (v := iI 0) hx hb dX8_run_31 rfl ?_
  refine lv_goto (tgt := 36) hx hb dX8_run_32 (by decide) ?_
  refine z_ai (va_runV (As := [.int (iI 0)]) (rest := []) ⟨hx, hb, hml, hown, hts⟩ (c_X8_fails l D k a0 (up2 (up2 (upA (upA S0 0 (sS0_0_X8_isText S0)) 7 (sS0_7_X8_isText S0)) 0 13 (-1)) 0 12 0)  0 (by omega) _) (cwV 1 hts gX8_run_X8_fails rfl rfl rfl (by decide +kernel) ⟨(Nat.le_of_ble_eq_true rfl), (Nat.le_of_ble_eq_true rfl)⟩) (z_preV hK hG hA hP hD hS [0, 1, 2, 3, 4, 5, 6, 7] rfl (by decide) 10 rfl rfl) rfl rfl hl.1 rfl (lv_room (Nat.le_of_ble_eq_true rfl)) dX8_run_36 ⟨(Nat.le_of_ble_eq_true rfl), (Nat.le_of_ble_eq_true rfl)⟩) hA hP hD hS [0, 1, 2, 3, 4, 5, 6, 7] rfl rfl (fun H locs hP hD hS => ?_)
  have hP : va_P D vwCl (wRef k a0 (upA (up2 (up2 (upA (upA S0 0 (sS0_0_X8_isText S0)) 7 (sS0_7_X8_isText S0)) 0 13 (-1)) 0 12 0) 0 (upZ (upZ ((upZ (upZ (sS0_0_X8_isText S0) 13 (-1)) 12 0)) 8 0) 7 0))) H := hP
  have hD : va_D A (wRef k a0 (upA (up2 (up2 (upA (upA S0 0 (sS0_0_X8_isText S0)) 7 (sS0_7_X8_isText S0)) 0 13 (-1)) 0 12 0) 0 (upZ (upZ ((upZ (upZ (sS0_0_X8_isText S0) 13 (-1)) 12 0)) 8 0) 7 0))) := hD
  refine z_eqi (z2 := zb (0 < 0)) rfl ?_
  refine zi_if_eqB (tgt := 44) hx hb dX8_run_39 (by decide) (fun _ => ?_) (fun c_3 => absurd c_3 (by decide))
  refine lv_aload_n hx hb dX8_run_44 rfl (lv_at hl 1 rfl) ?_
  refine va_get (D := D) (ci := 10) (v := .ref (a0 1)) (C := RX8) (T := TX8) (N := 19) hx hb hts (fun w h => List.mem_cons_of_mem _ (List.mem_append_left _ (List.mem_append_right _ h))) hown hK hP 0 rfl rfl 0 (by decide) (hts (.fieldLink RX8 7 "MondayFactoryModel" "g" "[I") (List.mem_of_getElem? (i := 4) rfl)) (fun _ h9 => h9) rfl dX8_run_45 ?_
  refine lv_iconst (v := iI 0) hx hb dX8_run_48 rfl ?_
  refine lv_aload_n hx hb dX8_run_49 rfl (lv_at hl 1 rfl) ?_
  refine va_get (D := D) (ci := 10) (v := .ref (a0 4)) (C := RX8) (T := TX8) (N := 19) hx hb hts (fun w h => List.mem_cons_of_mem _ (List.mem_append_left _ (List.mem_append_right _ h))) hown hK hP 0 rfl rfl 3 (by decide) (hts (.fieldLink RX8 19 "MondayFactoryModel" "before" "[I") (List.mem_of_getElem? (i := 5) rfl)) (fun _ h9 => h9) rfl dX8_run_50 ?_
  refine lv_iconst (v := iI 0) hx hb dX8_run_53 rfl ?_
  refine z_av (va_runS (As := [.ref (a0 1), .int (iI 0), .ref (a0 4), .int (iI 0)]) (rest := []) ⟨hx, hb, hml, hown, hts⟩ (c_X8_copies l D k (subA a0 1) (sub2 (upA (up2 (up2 (upA (upA S0 0 (sS0_0_X8_isText S0)) 7 (sS0_7_X8_isText S0)) 0 13 (-1)) 0 12 0) 0 (upZ (upZ ((upZ (upZ (sS0_0_X8_isText S0) 13 (-1)) 12 0)) 8 0) 7 0)) 1) (subA a0 4) (sub2 (upA (up2 (up2 (upA (upA S0 0 (sS0_0_X8_isText S0)) 7 (sS0_7_X8_isText S0)) 0 13 (-1)) 0 12 0) 0 (upZ (upZ ((upZ (upZ (sS0_0_X8_isText S0) 13 (-1)) 12 0)) 8 0) 7 0)) 4) 125 125 0 0 (by omega) (by omega) (by omega) _) (va_cwS 4 hts gX8_run_X8_copies rfl rfl rfl (by decide +kernel) ⟨(Nat.le_of_ble_eq_true rfl), (Nat.le_of_ble_eq_true rfl)⟩) (z_preS hK hG hA hP hD hS [1, 4] rfl (by decide)) rfl rfl hl.1 rfl (lv_room (Nat.le_of_ble_eq_true rfl)) dX8_run_54 ⟨(Nat.le_of_ble_eq_true rfl), (Nat.le_of_ble_eq_true rfl)⟩) hA hP hD hS [1, 4] rfl rfl (fun H locs hP hD hS => ?_)
  have hP : va_P D vwCl (wRef k a0 (upA (upA (up2 (up2 (upA (upA S0 0 (sS0_0_X8_isText S0)) 7 (sS0_7_X8_isText S0)) 0 13 (-1)) 0 12 0) 0 (upZ (upZ ((upZ (upZ (sS0_0_X8_isText S0) 13 (-1)) 12 0)) 8 0) 7 0)) 4 (cpyZ (S0 1) (S0 4) 0 0 125))) H := hP
  have hD : va_D A (wRef k a0 (upA (upA (up2 (up2 (upA (upA S0 0 (sS0_0_X8_isText S0)) 7 (sS0_7_X8_isText S0)) 0 13 (-1)) 0 12 0) 0 (upZ (upZ ((upZ (upZ (sS0_0_X8_isText S0) 13 (-1)) 12 0)) 8 0) 7 0)) 4 (cpyZ (S0 1) (S0 4) 0 0 125))) := hD
  refine lv_aload_n hx hb dX8_run_57 rfl (lv_at hl 1 rfl) ?_
  refine lv_iconst (v := iI 1) hx hb dX8_run_58 rfl ?_
  refine va_put (D := D) (ci := 10) (v := .int (iI 1)) (ty := .boolean) (C := RX8) (T := TX8) (N := 19) hx hb hts (fun w h => List.mem_cons_of_mem _ (List.mem_append_left _ (List.mem_append_right _ h))) tyX8 tyX8_ok nmX8 hown hK hP hD hS 0 rfl rfl 6 (by decide) (hts (.fieldLink RX8 53 "MondayFactoryModel" "isWithin" "Z") (List.mem_of_getElem? (i := 6) rfl)) (fun _ h9 => h9) rfl (by decide +kernel) rfl rfl (Nat.le_of_ble_eq_true rfl) dX8_run_59 (fun H locs hP hD hS => ?_)
  have hP : va_P D vwCl (wRef k a0 (up2 (upA (upA (up2 (up2 (upA (upA S0 0 (sS0_0_X8_isText S0)) 7 (sS0_7_X8_isText S0)) 0 13 (-1)) 0 12 0) 0 (upZ (upZ ((upZ (upZ (sS0_0_X8_isText S0) 13 (-1)) 12 0)) 8 0) 7 0)) 4 (cpyZ (S0 1) (S0 4) 0 0 125)) 0 6 1)) H := hP
  have hD : va_D A (wRef k a0 (up2 (upA (upA (up2 (up2 (upA (upA S0 0 (sS0_0_X8_isText S0)) 7 (sS0_7_X8_isText S0)) 0 13 (-1)) 0 12 0) 0 (upZ (upZ ((upZ (upZ (sS0_0_X8_isText S0) 13 (-1)) 12 0)) 8 0) 7 0)) 4 (cpyZ (S0 1) (S0 4) 0 0 125)) 0 6 1)) := hD
  have hP : va_P D vwCl (wRef k a0 ((rB S0))) H := hP
  have hD : va_D A (wRef k a0 ((rB S0))) := hD
  refine lv_iconst (v := iI 0) hx hb dX8_run_62 rfl ?_
  refine lv_istore_n (lv' := [(2, .int (iI 0)), (1, .int (iI (sp_X8_isText S0))), (0, .ref (a0 0))]) hx hb dX8_run_63 rfl hl (by decide) rfl (fun ls hl => ?_)
  refine lv_iconst (v := iI 0) hx hb dX8_run_64 rfl ?_
  refine lv_istore_n (lv' := [(3, .int (iI 0)), (2, .int (iI 0)), (1, .int (iI (sp_X8_isText S0))), (0, .ref (a0 0))]) hx hb dX8_run_65 rfl hl (by decide) rfl (fun ls hl => ?_)
  have lp66_0 : ∀ (n : Nat) (x2 : Int) (x3 : Int) (FP : Nat → Nat → Int), (31 - x2).toNat < n → (0 ≤ x2) → (x2 ≤ sS0_0_X8_isText S0 18) → (FP 0 8 = 0) → (FP = rPl (rB S0) x2.toNat) → ∀ (H : Heap) (locs : List Loc) (ls : Array Slot), va_P D vwCl (wRef k a0 FP) H → va_D A (wRef k a0 FP) → va_S A s.heap H locs → lv_has ls 4 [(3, .int (iI x3)), (2, .int (iI x2)), (1, .int (iI (sp_X8_isText S0))), (0, .ref (a0 0))] → W p l e ({ frames := 7, cells := 0, slots := 0, locals := 158 } : Room) s m args below meth c H locs 0 0 (MQ below (zQi D A ((sS0_0_X8_keeps (up2 ((rPl (rB S0) (sS0_0_X8_isText S0 18).toNat)) 0 6 0) 1) 18) (wRef k a0 (upA (upA (up2 ((rPl (rB S0) (sS0_0_X8_isText S0 18).toNat)) 0 6 0) 0 (sS0_0_X8_keeps (up2 ((rPl (rB S0) (sS0_0_X8_isText S0 18).toNat)) 0 6 0) 1)) 2 (sS0_2_X8_keeps (up2 ((rPl (rB S0) (sS0_0_X8_isText S0 18).toNat)) 0 6 0) 1)))) args s 0 0 A) (F0 m 66 ls []) := by
    intro n66
    induction n66 with
    | zero => intro x2 x3 FP hm; exact absurd hm (Nat.not_lt_zero _)
    | succ n66 ih66 =>
      intro x2 x3 FP hm66 i0 i1 i8 iP  H locs ls hP hD hS hl
      have oF : rOK FP := by rw [iP]; exact (hPk x2.toNat (by omega)).1
      have oT : zBt (FP 1) := oF.1.t (by decide)
      have oC := oF.2.2.1
      have oK := oF.2.2.2
      have o7 : zBf (FP 7) := by rw [iP, (hPk x2.toNat (by omega)).2.2]; exact hBt
      have o18 : FP 0 18 = sS0_0_X8_isText S0 18 := by rw [iP]; exact (hPk x2.toNat (by omega)).2.1
      refine lv_iload_n hx hb dX8_run_66 rfl (lv_at hl 1 rfl) ?_
      refine lv_aload_n hx hb dX8_run_67 rfl (lv_at hl 3 rfl) ?_
      have f_4 := oF.2.1 18
      refine va_get (D := D) (ci := 10) (v := .int (iI (FP 0 18))) (C := RX8) (T := TX8) (N := 19) hx hb hts (fun w h => List.mem_cons_of_mem _ (List.mem_append_left _ (List.mem_append_right _ h))) hown hK hP 0 rfl rfl 18 (by decide) (hts (.fieldLink RX8 186 "MondayFactoryModel" "toldMany" "I") (List.mem_of_getElem? (i := 7) rfl)) (fun _ h9 => h9) rfl dX8_run_68 ?_
      refine zi_icmp_ge (tgt := 102) hx hb dX8_run_71 (by decide) ⟨by omega, by omega⟩ ⟨by omega, by omega⟩ (fun c_5 => ?_) (fun c_5 => ?_)
      · have v_6 : FP = (rPl (rB S0) (sS0_0_X8_isText S0 18).toNat) := (by rw [iP, show x2 = sS0_0_X8_isText S0 18 by omega])
        rw [v_6] at hP hD
        have e9 : (sS0_0_X8_isText S0 18).toNat = x2.toNat := by omega
        have h8 : (rPl (rB S0) (sS0_0_X8_isText S0 18).toNat) 0 8 = 0 := by rw [e9, ← iP]; exact i8
        have oL := (hPk (sS0_0_X8_isText S0 18).toNat (by omega)).1.2.2.2
        refine lv_aload_n hx hb dX8_run_102 rfl (lv_at hl 3 rfl) ?_
        refine lv_iconst (v := iI 0) hx hb dX8_run_103 rfl ?_
        refine va_put (D := D) (ci := 10) (v := .int (iI 0)) (ty := .boolean) (C := RX8) (T := TX8) (N := 19) hx hb hts (fun w h => List.mem_cons_of_mem _ (List.mem_append_left _ (List.mem_append_right _ h))) tyX8 tyX8_ok nmX8 hown hK hP hD hS 0 rfl rfl 6 (by decide) (hts (.fieldLink RX8 53 "MondayFactoryModel" "isWithin" "Z") (List.mem_of_getElem? (i := 6) rfl)) (fun _ h9 => h9) rfl (by decide +kernel) rfl rfl (Nat.le_of_ble_eq_true rfl) dX8_run_104 (fun H locs hP hD hS => ?_)
        have hP : va_P D vwCl (wRef k a0 (up2 ((rPl (rB S0) (sS0_0_X8_isText S0 18).toNat)) 0 6 0)) H := hP
        have hD : va_D A (wRef k a0 (up2 ((rPl (rB S0) (sS0_0_X8_isText S0 18).toNat)) 0 6 0)) := hD
        refine lv_aload_n hx hb dX8_run_107 rfl (lv_at hl 3 rfl) ?_
        refine va_get (D := D) (ci := 10) (v := .int (iI ((((rPl (rB S0) (sS0_0_X8_isText S0 18).toNat)) 0) 8))) (C := RX8) (T := TX8) (N := 19) hx hb hts (fun w h => List.mem_cons_of_mem _ (List.mem_append_left _ (List.mem_append_right _ h))) hown hK hP 0 rfl rfl 8 (by decide) (hts (.fieldLink RX8 40 "MondayFactoryModel" "code" "I") (List.mem_of_getElem? (i := 8) rfl)) (fun _ h9 => h9) rfl dX8_run_108 ?_
        refine zi_if_le (tgt := 153) hx hb dX8_run_111 (by decide) ⟨by omega, by omega⟩ (fun _ => ?_) (fun c_7 => absurd c_7 (by omega))
        refine lv_aload_n hx hb dX8_run_153 rfl (lv_at hl 3 rfl) ?_
        refine lv_aload_n hx hb dX8_run_154 rfl (lv_at hl 3 rfl) ?_
        refine va_get (D := D) (ci := 10) (v := .ref (a0 4)) (C := RX8) (T := TX8) (N := 19) hx hb hts (fun w h => List.mem_cons_of_mem _ (List.mem_append_left _ (List.mem_append_right _ h))) hown hK hP 0 rfl rfl 3 (by decide) (hts (.fieldLink RX8 19 "MondayFactoryModel" "before" "[I") (List.mem_of_getElem? (i := 5) rfl)) (fun _ h9 => h9) rfl dX8_run_155 ?_
        refine z_av (va_runV (As := [.ref (a0 4)]) (rest := []) ⟨hx, hb, hml, hown, hts⟩ (c_X8_keeps l D k a0 (up2 ((rPl (rB S0) (sS0_0_X8_isText S0 18).toNat)) 0 6 0) 1  (by omega) (by have e0 : ((up2 ((rPl (rB S0) (sS0_0_X8_isText S0 18).toNat)) 0 6 0) 0 5) = (((rPl (rB S0) (sS0_0_X8_isText S0 18).toNat)) 0) 5 := (show (upZ (((rPl (rB S0) (sS0_0_X8_isText S0 18).toNat)) 0) 6 0) 5 = (((rPl (rB S0) (sS0_0_X8_isText S0 18).toNat)) 0) 5 from (Eq.trans (upZ_n (by omega)) rfl)); omega) (by have e0 : ((up2 ((rPl (rB S0) (sS0_0_X8_isText S0 18).toNat)) 0 6 0) 0 6) = 0 := (show (upZ (((rPl (rB S0) (sS0_0_X8_isText S0 18).toNat)) 0) 6 0) 6 = 0 from (Eq.trans upZ_s rfl)); omega) _) (cwV 1 hts gX8_run_X8_keeps rfl rfl rfl (by decide +kernel) ⟨(Nat.le_of_ble_eq_true rfl), (Nat.le_of_ble_eq_true rfl)⟩) (z_preV hK hG hA hP hD hS [0, 1, 2, 3, 4, 5, 6, 7] rfl (by decide) 10 rfl rfl) rfl rfl hl.1 rfl (lv_room (Nat.le_of_ble_eq_true rfl)) dX8_run_158 ⟨(Nat.le_of_ble_eq_true rfl), (Nat.le_of_ble_eq_true rfl)⟩) hA hP hD hS [0, 1, 2, 3, 4, 5, 6, 7] rfl rfl (fun H locs hP hD hS => ?_)
        have hP : va_P D vwCl (wRef k a0 (upA (upA (up2 ((rPl (rB S0) (sS0_0_X8_isText S0 18).toNat)) 0 6 0) 0 (sS0_0_X8_keeps (up2 ((rPl (rB S0) (sS0_0_X8_isText S0 18).toNat)) 0 6 0) 1)) 2 (sS0_2_X8_keeps (up2 ((rPl (rB S0) (sS0_0_X8_isText S0 18).toNat)) 0 6 0) 1))) H := hP
        have hD : va_D A (wRef k a0 (upA (upA (up2 ((rPl (rB S0) (sS0_0_X8_isText S0 18).toNat)) 0 6 0) 0 (sS0_0_X8_keeps (up2 ((rPl (rB S0) (sS0_0_X8_isText S0 18).toNat)) 0 6 0) 1)) 2 (sS0_2_X8_keeps (up2 ((rPl (rB S0) (sS0_0_X8_isText S0 18).toNat)) 0 6 0) 1))) := hD
        refine lv_aload_n hx hb dX8_run_161 rfl (lv_at hl 3 rfl) ?_
        refine va_get (D := D) (ci := 10) (v := .int (iI ((sS0_0_X8_keeps (up2 ((rPl (rB S0) (sS0_0_X8_isText S0 18).toNat)) 0 6 0) 1) 18))) (C := RX8) (T := TX8) (N := 19) hx hb hts (fun w h => List.mem_cons_of_mem _ (List.mem_append_left _ (List.mem_append_right _ h))) hown hK hP 0 rfl rfl 18 (by decide) (hts (.fieldLink RX8 186 "MondayFactoryModel" "toldMany" "I") (List.mem_of_getElem? (i := 7) rfl)) (fun _ h9 => h9) rfl dX8_run_162 ?_
        exact z_iret hx hb hr hlocks hP hS dX8_run_165 rfl rfl (Nat.le_refl _) (Nat.le_refl _)
      · refine lv_aload_n hx hb dX8_run_74 rfl (lv_at hl 3 rfl) ?_
        have f_8 := oF.2.1 8
        refine va_get (D := D) (ci := 10) (v := .int (iI (FP 0 8))) (C := RX8) (T := TX8) (N := 19) hx hb hts (fun w h => List.mem_cons_of_mem _ (List.mem_append_left _ (List.mem_append_right _ h))) hown hK hP 0 rfl rfl 8 (by decide) (hts (.fieldLink RX8 40 "MondayFactoryModel" "code" "I") (List.mem_of_getElem? (i := 8) rfl)) (fun _ h9 => h9) rfl dX8_run_75 ?_
        refine zi_if_ne (tgt := 102) hx hb dX8_run_78 (by decide) ⟨by omega, by omega⟩ (fun c_9 => absurd c_9 (by omega)) (fun _ => ?_)
        refine lv_aload_n hx hb dX8_run_81 rfl (lv_at hl 3 rfl) ?_
        refine lv_iconst (v := iI 4) hx hb dX8_run_82 rfl ?_
        refine lv_iload_n hx hb dX8_run_83 rfl (lv_at hl 1 rfl) ?_
        refine zi_mul hx hb dX8_run_84 ?_
        refine z_ai (va_runV (As := [.int (iI (4 * x2))]) (rest := []) ⟨hx, hb, hml, hown, hts⟩ (c_X8_carW l D k a0 FP  (4 * x2) (oF.1.f (by decide)) oT oF.2.1 oC (by omega) (by omega) (by omega) (by omega) o7 (by omega) _) (cwV 1 hts gX8_run_X8_carries rfl rfl rfl (by decide +kernel) ⟨(Nat.le_of_ble_eq_true rfl), (Nat.le_of_ble_eq_true rfl)⟩) (z_preV hK hG hA hP hD hS [0, 1, 2, 3, 4, 5, 6, 7] rfl (by decide) 10 rfl rfl) rfl rfl hl.1 rfl (lv_room (Nat.le_of_ble_eq_true rfl)) dX8_run_85 ⟨(Nat.le_of_ble_eq_true rfl), (Nat.le_of_ble_eq_true rfl)⟩) hA hP hD hS [0, 1, 2, 3, 4, 5, 6, 7] rfl rfl (fun H locs hP hD hS => ?_)
        have hP : va_P D vwCl (wRef k a0 ((rCrr FP (4 * x2)))) H := hP
        have hD : va_D A (wRef k a0 ((rCrr FP (4 * x2)))) := hD
        refine lv_istore_n (lv' := [(3, .int (iI (sp_X8_carries FP (4 * x2)))), (2, .int (iI x2)), (1, .int (iI (sp_X8_isText S0))), (0, .ref (a0 0))]) hx hb dX8_run_88 rfl hl (by decide) rfl (fun ls hl => ?_)
        have hv : (rCrr FP (4 * x2)) 0 8 = 0 := by rw [iP, rPl_s i0]; exact hV (x2 + 1).toNat (by omega) (by omega)
        refine lv_aload_n hx hb dX8_run_89 rfl (lv_at hl 3 rfl) ?_
        refine va_get (D := D) (ci := 10) (v := .int (iI ((((rCrr FP (4 * x2))) 0) 8))) (C := RX8) (T := TX8) (N := 19) hx hb hts (fun w h => List.mem_cons_of_mem _ (List.mem_append_left _ (List.mem_append_right _ h))) hown hK hP 0 rfl rfl 8 (by decide) (hts (.fieldLink RX8 40 "MondayFactoryModel" "code" "I") (List.mem_of_getElem? (i := 8) rfl)) (fun _ h9 => h9) rfl dX8_run_90 ?_
        refine zi_if_ne (tgt := 66) hx hb dX8_run_93 (by decide) ⟨by omega, by omega⟩ (fun c_10 => absurd c_10 (by omega)) (fun _ => ?_)
        refine lv_iinc (v := iI (x2 + 1)) (lv' := [(2, .int (iI (x2 + 1))), (3, .int (iI (sp_X8_carries FP (4 * x2)))), (1, .int (iI (sp_X8_isText S0))), (0, .ref (a0 0))]) hx hb dX8_run_96 hl (k := 1) rfl (iI_add _ _) (by decide) rfl (fun ls hl => ?_)
        refine lv_goto (tgt := 66) hx hb dX8_run_99 (by decide) ?_
        exact ih66 (x2 + 1) (sp_X8_carries FP (4 * x2)) ((rCrr FP (4 * x2))) (by omega) (by omega) (by omega) hv (by rw [iP]; exact rPl_s i0)  H locs ls hP hD hS (lv_sub hl [1, 0, 2, 3] rfl)
  exact lp66_0 32 0 0 ((rB S0)) (by omega) (by omega) (by omega) rfl rfl  H locs ls hP hD hS (lv_sub hl [0, 1, 2, 3] rfl)
set_option maxHeartbeats 4000000 in
set_option maxRecDepth 100000 in
theorem c_X8_run_f1 (l : Launch) (D : va_G) (k : Nat → ClassId) (a0 : Nat → Nat) (S0 : Nat → Nat → Int) (n0 : Nat) (hB0 : zBf (S0 0)) (hB5 : zBf (S0 5)) (h12 : 0 ≤ S0 0 12 ∧ S0 0 12 ≤ 60) (hm : 0 ≤ sS0_0_X8_isText S0 18 ∧ sS0_0_X8_isText S0 18 ≤ 30) (hBt : zBf (sS0_7_X8_isText S0)) (ht : sp_X8_isText S0 = 1) (hch : 0 ≤ S0 0 5 ∧ S0 0 5 ≤ 8) (hB1 : zBf (S0 1)) (h5t : sS0_0_X8_isText S0 5 = S0 0 5) (hPk : ∀ n : Nat, (n : Int) ≤ (n0 : Int) + 1 → rOK (rPl (rB S0) n) ∧ (rPl (rB S0) n) 0 18 = sS0_0_X8_isText S0 18 ∧ (rPl (rB S0) n) 7 = sS0_7_X8_isText S0) (hz : (n0 : Int) < sS0_0_X8_isText S0 18) (hV : ∀ n : Nat, 1 ≤ n → (n : Int) ≤ (n0 : Int) → (rPl (rB S0) n) 0 8 = 0) (hvn : 1 ≤ (rCrr (rPl (rB S0) n0) (4 * (n0 : Int))) 0 8 ∧ (rCrr (rPl (rB S0) n0) (4 * (n0 : Int))) 0 8 ≤ 3) (hrf : (rCrr (rPl (rB S0) n0) (4 * (n0 : Int))) 0 7 = 0) (hgr : -2147483648 ≤ sp_X8_carries (rPl (rB S0) n0) (4 * (n0 : Int)) ∧ sp_X8_carries (rPl (rB S0) n0) (4 * (n0 : Int)) < 2147483648) : zMi l yX8_run wsX8_run ({ frames := 7, cells := 0, slots := 0, locals := 158 } : Room) D k [.ref (a0 0)] (wRef k a0 S0) (min 0 (sp_X8_carries (rPl (rB S0) n0) (4 * (n0 : Int)))) (wRef k a0 (rEnd1 S0 n0)) 0 0 := by
  refine zMi_of (cc := cX8_run) (maxL := 4) (ret := (some .int)) (by decide) rfl (Nat.le_of_ble_eq_true rfl) ?_
  intro p e s m args below meth c A ls hx hb hr hml hown hts hlocks hK hP hD hG hA hS hl
  have hown : s.vm.findClass RX8 = some m.cls := hown
  have hl : lv_has ls 4 [(0, .ref (a0 0))] := hl
  obtain ⟨H, hH⟩ : ∃ z, z = s.heap := ⟨_, rfl⟩
  obtain ⟨locs, hlc⟩ : ∃ z : List Loc, z = [] := ⟨_, rfl⟩
  rw [← hH] at hP
  have hS : va_S A s.heap H locs := by rw [hH, hlc]; exact hS
  rw [← hlc, ← hH]
  clear hlc hH
  refine lv_aload_n hx hb dX8_run_0 rfl (lv_at hl 0 rfl) ?_
  refine z_ai (va_runV (As := []) (rest := []) ⟨hx, hb, hml, hown, hts⟩ (c_X8_isText l D k a0 S0   hB0 hB5 (by omega) _) (cwV 0 hts gX8_run_X8_isText rfl rfl rfl (by decide +kernel) ⟨(Nat.le_of_ble_eq_true rfl), (Nat.le_of_ble_eq_true rfl)⟩) (z_preV hK hG hA hP hD hS [0, 1, 2, 3, 4, 5, 6, 7] rfl (by decide) 10 rfl rfl) rfl rfl hl.1 rfl (lv_room (Nat.le_of_ble_eq_true rfl)) dX8_run_1 ⟨(Nat.le_of_ble_eq_true rfl), (Nat.le_of_ble_eq_true rfl)⟩) hA hP hD hS [0, 1, 2, 3, 4, 5, 6, 7] rfl rfl (fun H locs hP hD hS => ?_)
  have hP : va_P D vwCl (wRef k a0 (upA (upA S0 0 (sS0_0_X8_isText S0)) 7 (sS0_7_X8_isText S0))) H := hP
  have hD : va_D A (wRef k a0 (upA (upA S0 0 (sS0_0_X8_isText S0)) 7 (sS0_7_X8_isText S0))) := hD
  refine lv_istore_n (lv' := [(1, .int (iI (sp_X8_isText S0))), (0, .ref (a0 0))]) hx hb dX8_run_4 rfl hl (by decide) rfl (fun ls hl => ?_)
  refine lv_aload_n hx hb dX8_run_5 rfl (lv_at hl 1 rfl) ?_
  refine lv_iload_n hx hb dX8_run_6 rfl (lv_at hl 0 rfl) ?_
  refine zi_if_eq (tgt := 14) hx hb dX8_run_7 (by decide) ⟨by omega, by omega⟩ (fun c_1 => absurd c_1 (by omega)) (fun _ => ?_)
  refine lv_iconst (v := iI (-1)) hx hb dX8_run_10 rfl ?_
  refine lv_goto (tgt := 18) hx hb dX8_run_11 (by decide) ?_
  refine va_put (D := D) (ci := 10) (v := .int (iI (-1))) (ty := .int) (C := RX8) (T := TX8) (N := 19) hx hb hts (fun w h => List.mem_cons_of_mem _ (List.mem_append_left _ (List.mem_append_right _ h))) tyX8 tyX8_ok nmX8 hown hK hP hD hS 0 rfl rfl 13 (by decide) (hts (.fieldLink RX8 25 "MondayFactoryModel" "error" "I") (List.mem_of_getElem? (i := 2) rfl)) (fun _ h9 => h9) rfl (by decide +kernel) rfl rfl (Nat.le_of_ble_eq_true rfl) dX8_run_18 (fun H locs hP hD hS => ?_)
  have hP : va_P D vwCl (wRef k a0 (up2 (upA (upA S0 0 (sS0_0_X8_isText S0)) 7 (sS0_7_X8_isText S0)) 0 13 (-1))) H := hP
  have hD : va_D A (wRef k a0 (up2 (upA (upA S0 0 (sS0_0_X8_isText S0)) 7 (sS0_7_X8_isText S0)) 0 13 (-1))) := hD
  refine lv_aload_n hx hb dX8_run_21 rfl (lv_at hl 1 rfl) ?_
  refine lv_iconst (v := iI 0) hx hb dX8_run_22 rfl ?_
  refine va_put (D := D) (ci := 10) (v := .int (iI 0)) (ty := .int) (C := RX8) (T := TX8) (N := 19) hx hb hts (fun w h => List.mem_cons_of_mem _ (List.mem_append_left _ (List.mem_append_right _ h))) tyX8 tyX8_ok nmX8 hown hK hP hD hS 0 rfl rfl 12 (by decide) (hts (.fieldLink RX8 177 "MondayFactoryModel" "length" "I") (List.mem_of_getElem? (i := 3) rfl)) (fun _ h9 => h9) rfl (by decide +kernel) rfl rfl (Nat.le_of_ble_eq_true rfl) dX8_run_23 (fun H locs hP hD hS => ?_)
  have hP : va_P D vwCl (wRef k a0 (up2 (up2 (upA (upA S0 0 (sS0_0_X8_isText S0)) 7 (sS0_7_X8_isText S0)) 0 13 (-1)) 0 12 0)) H := hP
  have hD : va_D A (wRef k a0 (up2 (up2 (upA (upA S0 0 (sS0_0_X8_isText S0)) 7 (sS0_7_X8_isText S0)) 0 13 (-1)) 0 12 0)) := hD
  refine lv_aload_n hx hb dX8_run_26 rfl (lv_at hl 1 rfl) ?_
  refine lv_iload_n hx hb dX8_run_27 rfl (lv_at hl 0 rfl) ?_
  refine zi_if_eq (tgt := 35) hx hb dX8_run_28 (by decide) ⟨by omega, by omega⟩ (fun c_2 => absurd c_2 (by omega)) (fun _ => ?_)
  refine lv_iconst (v := iI 0) hx hb dX8_run_31 rfl ?_
  refine lv_goto (tgt := 36) hx hb dX8_run_32 (by decide) ?_
  refine z_ai (va_runV (As := [.int (iI 0)]) (rest := []) ⟨hx, hb, hml, hown, hts⟩ (c_X8_fails l D k a0 (up2 (up2 (upA (upA S0 0 (sS0_0_X8_isText S0)) 7 (sS0_7_X8_isText S0)) 0 13 (-1)) 0 12 0)  0 (by omega) _) (cwV 1 hts gX8_run_X8_fails rfl rfl rfl (by decide +kernel) ⟨(Nat.le_of_ble_eq_true rfl), (Nat.le_of_ble_eq_true rfl)⟩) (z_preV hK hG hA hP hD hS [0, 1, 2, 3, 4, 5, 6, 7] rfl (by decide) 10 rfl rfl) rfl rfl hl.1 rfl (lv_room (Nat.le_of_ble_eq_true rfl)) dX8_run_36 ⟨(Nat.le_of_ble_eq_true rfl), (Nat.le_of_ble_eq_true rfl)⟩) hA hP hD hS [0, 1, 2, 3, 4, 5, 6, 7] rfl rfl (fun H locs hP hD hS => ?_)
  have hP : va_P D vwCl (wRef k a0 (upA (up2 (up2 (upA (upA S0 0 (sS0_0_X8_isText S0)) 7 (sS0_7_X8_isText S0)) 0 13 (-1)) 0 12 0) 0 (upZ (upZ ((upZ (upZ (sS0_0_X8_isText S0) 13 (-1)) 12 0)) 8 0) 7 0))) H := hP
  have hD : va_D A (wRef k a0 (upA (up2 (up2 (upA (upA S0 0 (sS0_0_X8_isText S0)) 7 (sS0_7_X8_isText S0)) 0 13 (-1)) 0 12 0) 0 (upZ (upZ ((upZ (upZ (sS0_0_X8_isText S0) 13 (-1)) 12 0)) 8 0) 7 0))) := hD
  refine z_eqi (z2 := zb (0 < 0)) rfl ?_
  refine zi_if_eqB (tgt := 44) hx hb dX8_run_39 (by decide) (fun _ => ?_) (fun c_3 => absurd c_3 (by decide))
  refine lv_aload_n hx hb dX8_run_44 rfl (lv_at hl 1 rfl) ?_
  refine va_get (D := D) (ci := 10) (v := .ref (a0 1)) (C := RX8) (T := TX8) (N := 19) hx hb hts (fun w h => List.mem_cons_of_mem _ (List.mem_append_left _ (List.mem_append_right _ h))) hown hK hP 0 rfl rfl 0 (by decide) (hts (.fieldLink RX8 7 "MondayFactoryModel" "g" "[I") (List.mem_of_getElem? (i := 4) rfl)) (fun _ h9 => h9) rfl dX8_run_45 ?_
  refine lv_iconst (v := iI 0) hx hb dX8_run_48 rfl ?_
  refine lv_aload_n hx hb dX8_run_49 rfl (lv_at hl 1 rfl) ?_
  refine va_get (D := D) (ci := 10) (v := .ref (a0 4)) (C := RX8) (T := TX8) (N := 19) hx hb hts (fun w h => List.mem_cons_of_mem _ (List.mem_append_left _ (List.mem_append_right _ h))) hown hK hP 0 rfl rfl 3 (by decide) (hts (.fieldLink RX8 19 "MondayFactoryModel" "before" "[I") (List.mem_of_getElem? (i := 5) rfl)) (fun _ h9 => h9) rfl dX8_run_50 ?_
  refine lv_iconst (v := iI 0) hx hb dX8_run_53 rfl ?_
  refine z_av (va_runS (As := [.ref (a0 1), .int (iI 0), .ref (a0 4), .int (iI 0)]) (rest := []) ⟨hx, hb, hml, hown, hts⟩ (c_X8_copies l D k (subA a0 1) (sub2 (upA (up2 (up2 (upA (upA S0 0 (sS0_0_X8_isText S0)) 7 (sS0_7_X8_isText S0)) 0 13 (-1)) 0 12 0) 0 (upZ (upZ ((upZ (upZ (sS0_0_X8_isText S0) 13 (-1)) 12 0)) 8 0) 7 0)) 1) (subA a0 4) (sub2 (upA (up2 (up2 (upA (upA S0 0 (sS0_0_X8_isText S0)) 7 (sS0_7_X8_isText S0)) 0 13 (-1)) 0 12 0) 0 (upZ (upZ ((upZ (upZ (sS0_0_X8_isText S0) 13 (-1)) 12 0)) 8 0) 7 0)) 4) 125 125 0 0 (by omega) (by omega) (by omega) _) (va_cwS 4 hts gX8_run_X8_copies rfl rfl rfl (by decide +kernel) ⟨(Nat.le_of_ble_eq_true rfl), (Nat.le_of_ble_eq_true rfl)⟩) (z_preS hK hG hA hP hD hS [1, 4] rfl (by decide)) rfl rfl hl.1 rfl (lv_room (Nat.le_of_ble_eq_true rfl)) dX8_run_54 ⟨(Nat.le_of_ble_eq_true rfl), (Nat.le_of_ble_eq_true rfl)⟩) hA hP hD hS [1, 4] rfl rfl (fun H locs hP hD hS => ?_)
  have hP : va_P D vwCl (wRef k a0 (upA (upA (up2 (up2 (upA (upA S0 0 (sS0_0_X8_isText S0)) 7 (sS0_7_X8_isText S0)) 0 13 (-1)) 0 12 0) 0 (upZ (upZ ((upZ (upZ (sS0_0_X8_isText S0) 13 (-1)) 12 0)) 8 0) 7 0)) 4 (cpyZ (S0 1) (S0 4) 0 0 125))) H := hP
  have hD : va_D A (wRef k a0 (upA (upA (up2 (up2 (upA (upA S0 0 (sS0_0_X8_isText S0)) 7 (sS0_7_X8_isText S0)) 0 13 (-1)) 0 12 0) 0 (upZ (upZ ((upZ (upZ (sS0_0_X8_isText S0) 13 (-1)) 12 0)) 8 0) 7 0)) 4 (cpyZ (S0 1) (S0 4) 0 0 125))) := hD
  refine lv_aload_n hx hb dX8_run_57 rfl (lv_at hl 1 rfl) ?_
  refine lv_iconst (v := iI 1) hx hb dX8_run_58 rfl ?_
  refine va_put (D := D) (ci := 10) (v := .int (iI 1)) (ty := .boolean) (C := RX8) (T := TX8) (N := 19) hx hb hts (fun w h => List.mem_cons_of_mem _ (List.mem_append_left _ (List.mem_append_right _ h))) tyX8 tyX8_ok nmX8 hown hK hP hD hS 0 rfl rfl 6 (by decide) (hts (.fieldLink RX8 53 "MondayFactoryModel" "isWithin" "Z") (List.mem_of_getElem? (i := 6) rfl)) (fun _ h9 => h9) rfl (by decide +kernel) rfl rfl (Nat.le_of_ble_eq_true rfl) dX8_run_59 (fun H locs hP hD hS => ?_)
  have hP : va_P D vwCl (wRef k a0 (up2 (upA (upA (up2 (up2 (upA (upA S0 0 (sS0_0_X8_isText S0)) 7 (sS0_7_X8_isText S0)) 0 13 (-1)) 0 12 0) 0 (upZ (upZ ((upZ (upZ (sS0_0_X8_isText S0) 13 (-1)) 12 0)) 8 0) 7 0)) 4 (cpyZ (S0 1) (S0 4) 0 0 125)) 0 6 1)) H := hP
  have hD : va_D A (wRef k a0 (up2 (upA (upA (up2 (up2 (upA (upA S0 0 (sS0_0_X8_isText S0)) 7 (sS0_7_X8_isText S0)) 0 13 (-1)) 0 12 0) 0 (upZ (upZ ((upZ (upZ (sS0_0_X8_isText S0) 13 (-1)) 12 0)) 8 0) 7 0)) 4 (cpyZ (S0 1) (S0 4) 0 0 125)) 0 6 1)) := hD
  have hP : va_P D vwCl (wRef k a0 ((rB S0))) H := hP
  have hD : va_D A (wRef k a0 ((rB S0))) := hD
  refine lv_iconst (v := iI 0) hx hb dX8_run_62 rfl ?_
  refine lv_istore_n (lv' := [(2, .int (iI 0)), (1, .int (iI (sp_X8_isText S0))), (0, .ref (a0 0))]) hx hb dX8_run_63 rfl hl (by decide) rfl (fun ls hl => ?_)
  refine lv_iconst (v := iI 0) hx hb dX8_run_64 rfl ?_
  refine lv_istore_n (lv' := [(3, .int (iI 0)), (2, .int (iI 0)), (1, .int (iI (sp_X8_isText S0))), (0, .ref (a0 0))]) hx hb dX8_run_65 rfl hl (by decide) rfl (fun ls hl => ?_)
  have lp66_0 : ∀ (n : Nat) (x2 : Int) (x3 : Int) (FP : Nat → Nat → Int), (31 - x2).toNat < n → (0 ≤ x2) → (x2 ≤ (n0 : Int)) → (FP 0 8 = 0) → (FP = rPl (rB S0) x2.toNat) → ∀ (H : Heap) (locs : List Loc) (ls : Array Slot), va_P D vwCl (wRef k a0 FP) H → va_D A (wRef k a0 FP) → va_S A s.heap H locs → lv_has ls 4 [(3, .int (iI x3)), (2, .int (iI x2)), (1, .int (iI (sp_X8_isText S0))), (0, .ref (a0 0))] → W p l e ({ frames := 7, cells := 0, slots := 0, locals := 158 } : Room) s m args below meth c H locs 0 0 (MQ below (zQi D A (min 0 (sp_X8_carries (rPl (rB S0) n0) (4 * (n0 : Int)))) (wRef k a0 (rEnd1 S0 n0))) args s 0 0 A) (F0 m 66 ls []) := by
    intro n66
    induction n66 with
    | zero => intro x2 x3 FP hm; exact absurd hm (Nat.not_lt_zero _)
    | succ n66 ih66 =>
      intro x2 x3 FP hm66 i0 i1 i8 iP  H locs ls hP hD hS hl
      have oF : rOK FP := by rw [iP]; exact (hPk x2.toNat (by omega)).1
      have oT : zBt (FP 1) := oF.1.t (by decide)
      have oC := oF.2.2.1
      have oK := oF.2.2.2
      have o7 : zBf (FP 7) := by rw [iP, (hPk x2.toNat (by omega)).2.2]; exact hBt
      have o18 : FP 0 18 = sS0_0_X8_isText S0 18 := by rw [iP]; exact (hPk x2.toNat (by omega)).2.1
      refine lv_iload_n hx hb dX8_run_66 rfl (lv_at hl 1 rfl) ?_
      refine lv_aload_n hx hb dX8_run_67 rfl (lv_at hl 3 rfl) ?_
      have f_4 := oF.2.1 18
      refine va_get (D := D) (ci := 10) (v := .int (iI (FP 0 18))) (C := RX8) (T := TX8) (N := 19) hx hb hts (fun w h => List.mem_cons_of_mem _ (List.mem_append_left _ (List.mem_append_right _ h))) hown hK hP 0 rfl rfl 18 (by decide) (hts (.fieldLink RX8 186 "MondayFactoryModel" "toldMany" "I") (List.mem_of_getElem? (i := 7) rfl)) (fun _ h9 => h9) rfl dX8_run_68 ?_
      refine zi_icmp_ge (tgt := 102) hx hb dX8_run_71 (by decide) ⟨by omega, by omega⟩ ⟨by omega, by omega⟩ (fun c_5 => absurd c_5 (by omega)) (fun _ => ?_)
      refine lv_aload_n hx hb dX8_run_74 rfl (lv_at hl 3 rfl) ?_
      have f_6 := oF.2.1 8
      refine va_get (D := D) (ci := 10) (v := .int (iI (FP 0 8))) (C := RX8) (T := TX8) (N := 19) hx hb hts (fun w h => List.mem_cons_of_mem _ (List.mem_append_left _ (List.mem_append_right _ h))) hown hK hP 0 rfl rfl 8 (by decide) (hts (.fieldLink RX8 40 "MondayFactoryModel" "code" "I") (List.mem_of_getElem? (i := 8) rfl)) (fun _ h9 => h9) rfl dX8_run_75 ?_
      refine zi_if_ne (tgt := 102) hx hb dX8_run_78 (by decide) ⟨by omega, by omega⟩ (fun c_7 => absurd c_7 (by omega)) (fun _ => ?_)
      by_cases y_8 : x2 = (n0 : Int)
      · subst y_8
        have hFP : FP = rPl (rB S0) n0 := by rw [iP, Int.toNat_natCast]
        subst hFP
        have hv := hvn
        have hc18 : (rCrr (rPl (rB S0) n0) (4 * (n0 : Int))) 0 18 = sS0_0_X8_isText S0 18 := (hPk (n0 + 1) (by omega)).2.1
        refine lv_aload_n hx hb dX8_run_81 rfl (lv_at hl 3 rfl) ?_
        refine lv_iconst (v := iI 4) hx hb dX8_run_82 rfl ?_
        refine lv_iload_n hx hb dX8_run_83 rfl (lv_at hl 1 rfl) ?_
        refine zi_mul hx hb dX8_run_84 ?_
        refine z_ai (va_runV (As := [.int (iI (4 * ((n0 : Int))))]) (rest := []) ⟨hx, hb, hml, hown, hts⟩ (c_X8_carW l D k a0 ((rPl (rB S0) n0))  (4 * ((n0 : Int))) (oF.1.f (by decide)) oT oF.2.1 oC (by omega) (by omega) (by omega) (by omega) o7 (by omega) _) (cwV 1 hts gX8_run_X8_carries rfl rfl rfl (by decide +kernel) ⟨(Nat.le_of_ble_eq_true rfl), (Nat.le_of_ble_eq_true rfl)⟩) (z_preV hK hG hA hP hD hS [0, 1, 2, 3, 4, 5, 6, 7] rfl (by decide) 10 rfl rfl) rfl rfl hl.1 rfl (lv_room (Nat.le_of_ble_eq_true rfl)) dX8_run_85 ⟨(Nat.le_of_ble_eq_true rfl), (Nat.le_of_ble_eq_true rfl)⟩) hA hP hD hS [0, 1, 2, 3, 4, 5, 6, 7] rfl rfl (fun H locs hP hD hS => ?_)
        have hP : va_P D vwCl (wRef k a0 ((rCrr ((rPl (rB S0) n0)) (4 * ((n0 : Int)))))) H := hP
        have hD : va_D A (wRef k a0 ((rCrr ((rPl (rB S0) n0)) (4 * ((n0 : Int)))))) := hD
        refine lv_istore_n (lv' := [(3, .int (iI (sp_X8_carries ((rPl (rB S0) n0)) (4 * ((n0 : Int)))))), (2, .int (iI ((n0 : Int)))), (1, .int (iI (sp_X8_isText S0))), (0, .ref (a0 0))]) hx hb dX8_run_88 rfl hl (by decide) rfl (fun ls hl => ?_)
        refine lv_aload_n hx hb dX8_run_89 rfl (lv_at hl 3 rfl) ?_
        refine va_get (D := D) (ci := 10) (v := .int (iI ((((rCrr ((rPl (rB S0) n0)) (4 * ((n0 : Int))))) 0) 8))) (C := RX8) (T := TX8) (N := 19) hx hb hts (fun w h => List.mem_cons_of_mem _ (List.mem_append_left _ (List.mem_append_right _ h))) hown hK hP 0 rfl rfl 8 (by decide) (hts (.fieldLink RX8 40 "MondayFactoryModel" "code" "I") (List.mem_of_getElem? (i := 8) rfl)) (fun _ h9 => h9) rfl dX8_run_90 ?_
        refine zi_if_ne (tgt := 66) hx hb dX8_run_93 (by decide) ⟨by omega, by omega⟩ (fun _ => ?_) (fun c_9 => absurd c_9 (by omega))
        refine lv_iload_n hx hb dX8_run_66 rfl (lv_at hl 1 rfl) ?_
        refine lv_aload_n hx hb dX8_run_67 rfl (lv_at hl 3 rfl) ?_
        refine va_get (D := D) (ci := 10) (v := .int (iI ((((rCrr ((rPl (rB S0) n0)) (4 * ((n0 : Int))))) 0) 18))) (C := RX8) (T := TX8) (N := 19) hx hb hts (fun w h => List.mem_cons_of_mem _ (List.mem_append_left _ (List.mem_append_right _ h))) hown hK hP 0 rfl rfl 18 (by decide) (hts (.fieldLink RX8 186 "MondayFactoryModel" "toldMany" "I") (List.mem_of_getElem? (i := 7) rfl)) (fun _ h9 => h9) rfl dX8_run_68 ?_
        refine zi_icmp_ge (tgt := 102) hx hb dX8_run_71 (by decide) ⟨by omega, by omega⟩ ⟨by omega, by omega⟩ (fun c_10 => absurd c_10 (by omega)) (fun _ => ?_)
        refine lv_aload_n hx hb dX8_run_74 rfl (lv_at hl 3 rfl) ?_
        refine va_get (D := D) (ci := 10) (v := .int (iI ((((rCrr ((rPl (rB S0) n0)) (4 * ((n0 : Int))))) 0) 8))) (C := RX8) (T := TX8) (N := 19) hx hb hts (fun w h => List.mem_cons_of_mem _ (List.mem_append_left _ (List.mem_append_right _ h))) hown hK hP 0 rfl rfl 8 (by decide) (hts (.fieldLink RX8 40 "MondayFactoryModel" "code" "I") (List.mem_of_getElem? (i := 8) rfl)) (fun _ h9 => h9) rfl dX8_run_75 ?_
        refine zi_if_ne (tgt := 102) hx hb dX8_run_78 (by decide) ⟨by omega, by omega⟩ (fun _ => ?_) (fun c_11 => absurd c_11 (by omega))
        refine lv_aload_n hx hb dX8_run_102 rfl (lv_at hl 3 rfl) ?_
        refine lv_iconst (v := iI 0) hx hb dX8_run_103 rfl ?_
        refine va_put (D := D) (ci := 10) (v := .int (iI 0)) (ty := .boolean) (C := RX8) (T := TX8) (N := 19) hx hb hts (fun w h => List.mem_cons_of_mem _ (List.mem_append_left _ (List.mem_append_right _ h))) tyX8 tyX8_ok nmX8 hown hK hP hD hS 0 rfl rfl 6 (by decide) (hts (.fieldLink RX8 53 "MondayFactoryModel" "isWithin" "Z") (List.mem_of_getElem? (i := 6) rfl)) (fun _ h9 => h9) rfl (by decide +kernel) rfl rfl (Nat.le_of_ble_eq_true rfl) dX8_run_104 (fun H locs hP hD hS => ?_)
        have hP : va_P D vwCl (wRef k a0 (up2 ((rCrr ((rPl (rB S0) n0)) (4 * ((n0 : Int))))) 0 6 0)) H := hP
        have hD : va_D A (wRef k a0 (up2 ((rCrr ((rPl (rB S0) n0)) (4 * ((n0 : Int))))) 0 6 0)) := hD
        refine lv_aload_n hx hb dX8_run_107 rfl (lv_at hl 3 rfl) ?_
        refine va_get (D := D) (ci := 10) (v := .int (iI ((((rCrr ((rPl (rB S0) n0)) (4 * ((n0 : Int))))) 0) 8))) (C := RX8) (T := TX8) (N := 19) hx hb hts (fun w h => List.mem_cons_of_mem _ (List.mem_append_left _ (List.mem_append_right _ h))) hown hK hP 0 rfl rfl 8 (by decide) (hts (.fieldLink RX8 40 "MondayFactoryModel" "code" "I") (List.mem_of_getElem? (i := 8) rfl)) (fun _ h9 => h9) rfl dX8_run_108 ?_
        refine zi_if_le (tgt := 153) hx hb dX8_run_111 (by decide) ⟨by omega, by omega⟩ (fun c_12 => absurd c_12 (by omega)) (fun _ => ?_)
        refine lv_aload_n hx hb dX8_run_114 rfl (lv_at hl 3 rfl) ?_
        refine va_get (D := D) (ci := 10) (v := .ref (a0 4)) (C := RX8) (T := TX8) (N := 19) hx hb hts (fun w h => List.mem_cons_of_mem _ (List.mem_append_left _ (List.mem_append_right _ h))) hown hK hP 0 rfl rfl 3 (by decide) (hts (.fieldLink RX8 19 "MondayFactoryModel" "before" "[I") (List.mem_of_getElem? (i := 5) rfl)) (fun _ h9 => h9) rfl dX8_run_115 ?_
        refine lv_iconst (v := iI 0) hx hb dX8_run_118 rfl ?_
        refine lv_aload_n hx hb dX8_run_119 rfl (lv_at hl 3 rfl) ?_
        refine va_get (D := D) (ci := 10) (v := .ref (a0 1)) (C := RX8) (T := TX8) (N := 19) hx hb hts (fun w h => List.mem_cons_of_mem _ (List.mem_append_left _ (List.mem_append_right _ h))) hown hK hP 0 rfl rfl 0 (by decide) (hts (.fieldLink RX8 7 "MondayFactoryModel" "g" "[I") (List.mem_of_getElem? (i := 4) rfl)) (fun _ h9 => h9) rfl dX8_run_120 ?_
        refine lv_iconst (v := iI 0) hx hb dX8_run_123 rfl ?_
        refine z_av (va_runS (As := [.ref (a0 4), .int (iI 0), .ref (a0 1), .int (iI 0)]) (rest := []) ⟨hx, hb, hml, hown, hts⟩ (c_X8_copies l D k (subA a0 4) (sub2 (up2 ((rCrr ((rPl (rB S0) n0)) (4 * ((n0 : Int))))) 0 6 0) 4) (subA a0 1) (sub2 (up2 ((rCrr ((rPl (rB S0) n0)) (4 * ((n0 : Int))))) 0 6 0) 1) 125 125 0 0 (by omega) (by omega) (by omega) _) (va_cwS 4 hts gX8_run_X8_copies rfl rfl rfl (by decide +kernel) ⟨(Nat.le_of_ble_eq_true rfl), (Nat.le_of_ble_eq_true rfl)⟩) (z_preS hK hG hA hP hD hS [4, 1] rfl (by decide)) rfl rfl hl.1 rfl (lv_room (Nat.le_of_ble_eq_true rfl)) dX8_run_124 ⟨(Nat.le_of_ble_eq_true rfl), (Nat.le_of_ble_eq_true rfl)⟩) hA hP hD hS [4, 1] rfl rfl (fun H locs hP hD hS => ?_)
        have hP : va_P D vwCl (wRef k a0 (upA (up2 ((rCrr ((rPl (rB S0) n0)) (4 * ((n0 : Int))))) 0 6 0) 1 (cpyZ ((((rCrr ((rPl (rB S0) n0)) (4 * ((n0 : Int))))) 4)) ((((rCrr ((rPl (rB S0) n0)) (4 * ((n0 : Int))))) 1)) 0 0 125))) H := hP
        have hD : va_D A (wRef k a0 (upA (up2 ((rCrr ((rPl (rB S0) n0)) (4 * ((n0 : Int))))) 0 6 0) 1 (cpyZ ((((rCrr ((rPl (rB S0) n0)) (4 * ((n0 : Int))))) 4)) ((((rCrr ((rPl (rB S0) n0)) (4 * ((n0 : Int))))) 1)) 0 0 125))) := hD
        refine lv_aload_n hx hb dX8_run_127 rfl (lv_at hl 3 rfl) ?_
        refine lv_aload_n hx hb dX8_run_128 rfl (lv_at hl 3 rfl) ?_
        refine va_get (D := D) (ci := 10) (v := .int (iI ((((rCrr ((rPl (rB S0) n0)) (4 * ((n0 : Int))))) 0) 7))) (C := RX8) (T := TX8) (N := 19) hx hb hts (fun w h => List.mem_cons_of_mem _ (List.mem_append_left _ (List.mem_append_right _ h))) hown hK hP 0 rfl rfl 7 (by decide) (hts (.fieldLink RX8 43 "MondayFactoryModel" "isRefused" "Z") (List.mem_of_getElem? (i := 9) rfl)) (fun _ h9 => h9) rfl dX8_run_129 ?_
        refine zi_if_eq (tgt := 139) hx hb dX8_run_132 (by decide) ⟨by omega, by omega⟩ (fun _ => ?_) (fun c_13 => absurd c_13 (by omega))
        refine lv_iconst (v := iI 1) hx hb dX8_run_139 rfl ?_
        refine va_put (D := D) (ci := 10) (v := .int (iI 1)) (ty := .int) (C := RX8) (T := TX8) (N := 19) hx hb hts (fun w h => List.mem_cons_of_mem _ (List.mem_append_left _ (List.mem_append_right _ h))) tyX8 tyX8_ok nmX8 hown hK hP hD hS 0 rfl rfl 8 (by decide) (hts (.fieldLink RX8 40 "MondayFactoryModel" "code" "I") (List.mem_of_getElem? (i := 8) rfl)) (fun _ h9 => h9) rfl (by decide +kernel) rfl rfl (Nat.le_of_ble_eq_true rfl) dX8_run_140 (fun H locs hP hD hS => ?_)
        have hP : va_P D vwCl (wRef k a0 (up2 (upA (up2 ((rCrr ((rPl (rB S0) n0)) (4 * ((n0 : Int))))) 0 6 0) 1 (cpyZ ((((rCrr ((rPl (rB S0) n0)) (4 * ((n0 : Int))))) 4)) ((((rCrr ((rPl (rB S0) n0)) (4 * ((n0 : Int))))) 1)) 0 0 125)) 0 8 1)) H := hP
        have hD : va_D A (wRef k a0 (up2 (upA (up2 ((rCrr ((rPl (rB S0) n0)) (4 * ((n0 : Int))))) 0 6 0) 1 (cpyZ ((((rCrr ((rPl (rB S0) n0)) (4 * ((n0 : Int))))) 4)) ((((rCrr ((rPl (rB S0) n0)) (4 * ((n0 : Int))))) 1)) 0 0 125)) 0 8 1)) := hD
        refine lv_iload_n hx hb dX8_run_143 rfl (lv_at hl 0 rfl) ?_
        refine zi_if_le (tgt := 151) hx hb dX8_run_144 (by decide) ⟨by omega, by omega⟩ (fun c_14 => ?_) (fun c_14 => ?_)
        · refine lv_iload_n hx hb dX8_run_151 rfl (lv_at hl 0 rfl) ?_
          exact z_iret hx hb hr hlocks hP hS dX8_run_152 (by omega) rfl (Nat.le_refl _) (Nat.le_refl _)
        · refine lv_iconst (v := iI 0) hx hb dX8_run_147 rfl ?_
          refine lv_goto (tgt := 152) hx hb dX8_run_148 (by decide) ?_
          exact z_iret hx hb hr hlocks hP hS dX8_run_152 (by omega) rfl (Nat.le_refl _) (Nat.le_refl _)
      · have hv : (rCrr FP (4 * x2)) 0 8 = 0 := by rw [iP, rPl_s i0]; exact hV (x2 + 1).toNat (by omega) (by omega)
        refine lv_aload_n hx hb dX8_run_81 rfl (lv_at hl 3 rfl) ?_
        refine lv_iconst (v := iI 4) hx hb dX8_run_82 rfl ?_
        refine lv_iload_n hx hb dX8_run_83 rfl (lv_at hl 1 rfl) ?_
        refine zi_mul hx hb dX8_run_84 ?_
        refine z_ai (va_runV (As := [.int (iI (4 * x2))]) (rest := []) ⟨hx, hb, hml, hown, hts⟩ (c_X8_carW l D k a0 FP  (4 * x2) (oF.1.f (by decide)) oT oF.2.1 oC (by omega) (by omega) (by omega) (by omega) o7 (by omega) _) (cwV 1 hts gX8_run_X8_carries rfl rfl rfl (by decide +kernel) ⟨(Nat.le_of_ble_eq_true rfl), (Nat.le_of_ble_eq_true rfl)⟩) (z_preV hK hG hA hP hD hS [0, 1, 2, 3, 4, 5, 6, 7] rfl (by decide) 10 rfl rfl) rfl rfl hl.1 rfl (lv_room (Nat.le_of_ble_eq_true rfl)) dX8_run_85 ⟨(Nat.le_of_ble_eq_true rfl), (Nat.le_of_ble_eq_true rfl)⟩) hA hP hD hS [0, 1, 2, 3, 4, 5, 6, 7] rfl rfl (fun H locs hP hD hS => ?_)
        have hP : va_P D vwCl (wRef k a0 ((rCrr FP (4 * x2)))) H := hP
        have hD : va_D A (wRef k a0 ((rCrr FP (4 * x2)))) := hD
        refine lv_istore_n (lv' := [(3, .int (iI (sp_X8_carries FP (4 * x2)))), (2, .int (iI x2)), (1, .int (iI (sp_X8_isText S0))), (0, .ref (a0 0))]) hx hb dX8_run_88 rfl hl (by decide) rfl (fun ls hl => ?_)
        refine lv_aload_n hx hb dX8_run_89 rfl (lv_at hl 3 rfl) ?_
        refine va_get (D := D) (ci := 10) (v := .int (iI ((((rCrr FP (4 * x2))) 0) 8))) (C := RX8) (T := TX8) (N := 19) hx hb hts (fun w h => List.mem_cons_of_mem _ (List.mem_append_left _ (List.mem_append_right _ h))) hown hK hP 0 rfl rfl 8 (by decide) (hts (.fieldLink RX8 40 "MondayFactoryModel" "code" "I") (List.mem_of_getElem? (i := 8) rfl)) (fun _ h9 => h9) rfl dX8_run_90 ?_
        refine zi_if_ne (tgt := 66) hx hb dX8_run_93 (by decide) ⟨by omega, by omega⟩ (fun c_15 => absurd c_15 (by omega)) (fun _ => ?_)
        refine lv_iinc (v := iI (x2 + 1)) (lv' := [(2, .int (iI (x2 + 1))), (3, .int (iI (sp_X8_carries FP (4 * x2)))), (1, .int (iI (sp_X8_isText S0))), (0, .ref (a0 0))]) hx hb dX8_run_96 hl (k := 1) rfl (iI_add _ _) (by decide) rfl (fun ls hl => ?_)
        refine lv_goto (tgt := 66) hx hb dX8_run_99 (by decide) ?_
        exact ih66 (x2 + 1) (sp_X8_carries FP (4 * x2)) ((rCrr FP (4 * x2))) (by omega) (by omega) (by omega) hv (by rw [iP]; exact rPl_s i0)  H locs ls hP hD hS (lv_sub hl [1, 0, 2, 3] rfl)
  exact lp66_0 32 0 0 ((rB S0)) (by omega) (by omega) (by omega) rfl rfl  H locs ls hP hD hS (lv_sub hl [0, 1, 2, 3] rfl)
set_option maxHeartbeats 4000000 in
set_option maxRecDepth 100000 in
theorem c_X8_run_f2 (l : Launch) (D : va_G) (k : Nat → ClassId) (a0 : Nat → Nat) (S0 : Nat → Nat → Int) (n0 : Nat) (hB0 : zBf (S0 0)) (hB5 : zBf (S0 5)) (h12 : 0 ≤ S0 0 12 ∧ S0 0 12 ≤ 60) (hm : 0 ≤ sS0_0_X8_isText S0 18 ∧ sS0_0_X8_isText S0 18 ≤ 30) (hBt : zBf (sS0_7_X8_isText S0)) (ht : sp_X8_isText S0 = 1) (hch : 0 ≤ S0 0 5 ∧ S0 0 5 ≤ 8) (hB1 : zBf (S0 1)) (h5t : sS0_0_X8_isText S0 5 = S0 0 5) (hPk : ∀ n : Nat, (n : Int) ≤ (n0 : Int) + 1 → rOK (rPl (rB S0) n) ∧ (rPl (rB S0) n) 0 18 = sS0_0_X8_isText S0 18 ∧ (rPl (rB S0) n) 7 = sS0_7_X8_isText S0) (hz : (n0 : Int) < sS0_0_X8_isText S0 18) (hV : ∀ n : Nat, 1 ≤ n → (n : Int) ≤ (n0 : Int) → (rPl (rB S0) n) 0 8 = 0) (hvn : 1 ≤ (rCrr (rPl (rB S0) n0) (4 * (n0 : Int))) 0 8 ∧ (rCrr (rPl (rB S0) n0) (4 * (n0 : Int))) 0 8 ≤ 3) (hrf : (rCrr (rPl (rB S0) n0) (4 * (n0 : Int))) 0 7 = 1) (hgr : -2147483648 ≤ sp_X8_carries (rPl (rB S0) n0) (4 * (n0 : Int)) ∧ sp_X8_carries (rPl (rB S0) n0) (4 * (n0 : Int)) < 2147483648) : zMi l yX8_run wsX8_run ({ frames := 7, cells := 0, slots := 0, locals := 158 } : Room) D k [.ref (a0 0)] (wRef k a0 S0) (min 0 (sp_X8_carries (rPl (rB S0) n0) (4 * (n0 : Int)))) (wRef k a0 (rEnd2 S0 n0)) 0 0 := by
  refine zMi_of (cc := cX8_run) (maxL := 4) (ret := (some .int)) (by decide) rfl (Nat.le_of_ble_eq_true rfl) ?_
  intro p e s m args below meth c A ls hx hb hr hml hown hts hlocks hK hP hD hG hA hS hl
  have hown : s.vm.findClass RX8 = some m.cls := hown
  have hl : lv_has ls 4 [(0, .ref (a0 0))] := hl
  obtain ⟨H, hH⟩ : ∃ z, z = s.heap := ⟨_, rfl⟩
  obtain ⟨locs, hlc⟩ : ∃ z : List Loc, z = [] := ⟨_, rfl⟩
  rw [← hH] at hP
  have hS : va_S A s.heap H locs := by rw [hH, hlc]; exact hS
  rw [← hlc, ← hH]
  clear hlc hH
  refine lv_aload_n hx hb dX8_run_0 rfl (lv_at hl 0 rfl) ?_
  refine z_ai (va_runV (As := []) (rest := []) ⟨hx, hb, hml, hown, hts⟩ (c_X8_isText l D k a0 S0   hB0 hB5 (by omega) _) (cwV 0 hts gX8_run_X8_isText rfl rfl rfl (by decide +kernel) ⟨(Nat.le_of_ble_eq_true rfl), (Nat.le_of_ble_eq_true rfl)⟩) (z_preV hK hG hA hP hD hS [0, 1, 2, 3, 4, 5, 6, 7] rfl (by decide) 10 rfl rfl) rfl rfl hl.1 rfl (lv_room (Nat.le_of_ble_eq_true rfl)) dX8_run_1 ⟨(Nat.le_of_ble_eq_true rfl), (Nat.le_of_ble_eq_true rfl)⟩) hA hP hD hS [0, 1, 2, 3, 4, 5, 6, 7] rfl rfl (fun H locs hP hD hS => ?_)
  have hP : va_P D vwCl (wRef k a0 (upA (upA S0 0 (sS0_0_X8_isText S0)) 7 (sS0_7_X8_isText S0))) H := hP
  have hD : va_D A (wRef k a0 (upA (upA S0 0 (sS0_0_X8_isText S0)) 7 (sS0_7_X8_isText S0))) := hD
  refine lv_istore_n (lv' := [(1, .int (iI (sp_X8_isText S0))), (0, .ref (a0 0))]) hx hb dX8_run_4 rfl hl (by decide) rfl (fun ls hl => ?_)
  refine lv_aload_n hx hb dX8_run_5 rfl (lv_at hl 1 rfl) ?_
  refine lv_iload_n hx hb dX8_run_6 rfl (lv_at hl 0 rfl) ?_
  refine zi_if_eq (tgt := 14) hx hb dX8_run_7 (by decide) ⟨by omega, by omega⟩ (fun c_1 => absurd c_1 (by omega)) (fun _ => ?_)
  refine lv_iconst (v := iI (-1)) hx hb dX8_run_10 rfl ?_
  refine lv_goto (tgt := 18) hx hb dX8_run_11 (by decide) ?_
  refine va_put (D := D) (ci := 10) (v := .int (iI (-1))) (ty := .int) (C := RX8) (T := TX8) (N := 19) hx hb hts (fun w h => List.mem_cons_of_mem _ (List.mem_append_left _ (List.mem_append_right _ h))) tyX8 tyX8_ok nmX8 hown hK hP hD hS 0 rfl rfl 13 (by decide) (hts (.fieldLink RX8 25 "MondayFactoryModel" "error" "I") (List.mem_of_getElem? (i := 2) rfl)) (fun _ h9 => h9) rfl (by decide +kernel) rfl rfl (Nat.le_of_ble_eq_true rfl) dX8_run_18 (fun H locs hP hD hS => ?_)
  have hP : va_P D vwCl (wRef k a0 (up2 (upA (upA S0 0 (sS0_0_X8_isText S0)) 7 (sS0_7_X8_isText S0)) 0 13 (-1))) H := hP
  have hD : va_D A (wRef k a0 (up2 (upA (upA S0 0 (sS0_0_X8_isText S0)) 7 (sS0_7_X8_isText S0)) 0 13 (-1))) := hD
  refine lv_aload_n hx hb dX8_run_21 rfl (lv_at hl 1 rfl) ?_
  refine lv_iconst (v := iI 0) hx hb dX8_run_22 rfl ?_
  refine va_put (D := D) (ci := 10) (v := .int (iI 0)) (ty := .int) (C := RX8) (T := TX8) (N := 19) hx hb hts (fun w h => List.mem_cons_of_mem _ (List.mem_append_left _ (List.mem_append_right _ h))) tyX8 tyX8_ok nmX8 hown hK hP hD hS 0 rfl rfl 12 (by decide) (hts (.fieldLink RX8 177 "MondayFactoryModel" "length" "I") (List.mem_of_getElem? (i := 3) rfl)) (fun _ h9 => h9) rfl (by decide +kernel) rfl rfl (Nat.le_of_ble_eq_true rfl) dX8_run_23 (fun H locs hP hD hS => ?_)
  have hP : va_P D vwCl (wRef k a0 (up2 (up2 (upA (upA S0 0 (sS0_0_X8_isText S0)) 7 (sS0_7_X8_isText S0)) 0 13 (-1)) 0 12 0)) H := hP
  have hD : va_D A (wRef k a0 (up2 (up2 (upA (upA S0 0 (sS0_0_X8_isText S0)) 7 (sS0_7_X8_isText S0)) 0 13 (-1)) 0 12 0)) := hD
  refine lv_aload_n hx hb dX8_run_26 rfl (lv_at hl 1 rfl) ?_
  refine lv_iload_n hx hb dX8_run_27 rfl (lv_at hl 0 rfl) ?_
  refine zi_if_eq (tgt := 35) hx hb dX8_run_28 (by decide) ⟨by omega, by omega⟩ (fun c_2 => absurd c_2 (by omega)) (fun _ => ?_)
  refine lv_iconst (v := iI 0) hx hb dX8_run_31 rfl ?_
  refine lv_goto (tgt := 36) hx hb dX8_run_32 (by decide) ?_
  refine z_ai (va_runV (As := [.int (iI 0)]) (rest := []) ⟨hx, hb, hml, hown, hts⟩ (c_X8_fails l D k a0 (up2 (up2 (upA (upA S0 0 (sS0_0_X8_isText S0)) 7 (sS0_7_X8_isText S0)) 0 13 (-1)) 0 12 0)  0 (by omega) _) (cwV 1 hts gX8_run_X8_fails rfl rfl rfl (by decide +kernel) ⟨(Nat.le_of_ble_eq_true rfl), (Nat.le_of_ble_eq_true rfl)⟩) (z_preV hK hG hA hP hD hS [0, 1, 2, 3, 4, 5, 6, 7] rfl (by decide) 10 rfl rfl) rfl rfl hl.1 rfl (lv_room (Nat.le_of_ble_eq_true rfl)) dX8_run_36 ⟨(Nat.le_of_ble_eq_true rfl), (Nat.le_of_ble_eq_true rfl)⟩) hA hP hD hS [0, 1, 2, 3, 4, 5, 6, 7] rfl rfl (fun H locs hP hD hS => ?_)
  have hP : va_P D vwCl (wRef k a0 (upA (up2 (up2 (upA (upA S0 0 (sS0_0_X8_isText S0)) 7 (sS0_7_X8_isText S0)) 0 13 (-1)) 0 12 0) 0 (upZ (upZ ((upZ (upZ (sS0_0_X8_isText S0) 13 (-1)) 12 0)) 8 0) 7 0))) H := hP
  have hD : va_D A (wRef k a0 (upA (up2 (up2 (upA (upA S0 0 (sS0_0_X8_isText S0)) 7 (sS0_7_X8_isText S0)) 0 13 (-1)) 0 12 0) 0 (upZ (upZ ((upZ (upZ (sS0_0_X8_isText S0) 13 (-1)) 12 0)) 8 0) 7 0))) := hD
  refine z_eqi (z2 := zb (0 < 0)) rfl ?_
  refine zi_if_eqB (tgt := 44) hx hb dX8_run_39 (by decide) (fun _ => ?_) (fun c_3 => absurd c_3 (by decide))
  refine lv_aload_n hx hb dX8_run_44 rfl (lv_at hl 1 rfl) ?_
  refine va_get (D := D) (ci := 10) (v := .ref (a0 1)) (C := RX8) (T := TX8) (N := 19) hx hb hts (fun w h => List.mem_cons_of_mem _ (List.mem_append_left _ (List.mem_append_right _ h))) hown hK hP 0 rfl rfl 0 (by decide) (hts (.fieldLink RX8 7 "MondayFactoryModel" "g" "[I") (List.mem_of_getElem? (i := 4) rfl)) (fun _ h9 => h9) rfl dX8_run_45 ?_
  refine lv_iconst (v := iI 0) hx hb dX8_run_48 rfl ?_
  refine lv_aload_n hx hb dX8_run_49 rfl (lv_at hl 1 rfl) ?_
  refine va_get (D := D) (ci := 10) (v := .ref (a0 4)) (C := RX8) (T := TX8) (N := 19) hx hb hts (fun w h => List.mem_cons_of_mem _ (List.mem_append_left _ (List.mem_append_right _ h))) hown hK hP 0 rfl rfl 3 (by decide) (hts (.fieldLink RX8 19 "MondayFactoryModel" "before" "[I") (List.mem_of_getElem? (i := 5) rfl)) (fun _ h9 => h9) rfl dX8_run_50 ?_
  refine lv_iconst (v := iI 0) hx hb dX8_run_53 rfl ?_
  refine z_av (va_runS (As := [.ref (a0 1), .int (iI 0), .ref (a0 4), .int (iI 0)]) (rest := []) ⟨hx, hb, hml, hown, hts⟩ (c_X8_copies l D k (subA a0 1) (sub2 (upA (up2 (up2 (upA (upA S0 0 (sS0_0_X8_isText S0)) 7 (sS0_7_X8_isText S0)) 0 13 (-1)) 0 12 0) 0 (upZ (upZ ((upZ (upZ (sS0_0_X8_isText S0) 13 (-1)) 12 0)) 8 0) 7 0)) 1) (subA a0 4) (sub2 (upA (up2 (up2 (upA (upA S0 0 (sS0_0_X8_isText S0)) 7 (sS0_7_X8_isText S0)) 0 13 (-1)) 0 12 0) 0 (upZ (upZ ((upZ (upZ (sS0_0_X8_isText S0) 13 (-1)) 12 0)) 8 0) 7 0)) 4) 125 125 0 0 (by omega) (by omega) (by omega) _) (va_cwS 4 hts gX8_run_X8_copies rfl rfl rfl (by decide +kernel) ⟨(Nat.le_of_ble_eq_true rfl), (Nat.le_of_ble_eq_true rfl)⟩) (z_preS hK hG hA hP hD hS [1, 4] rfl (by decide)) rfl rfl hl.1 rfl (lv_room (Nat.le_of_ble_eq_true rfl)) dX8_run_54 ⟨(Nat.le_of_ble_eq_true rfl), (Nat.le_of_ble_eq_true rfl)⟩) hA hP hD hS [1, 4] rfl rfl (fun H locs hP hD hS => ?_)
  have hP : va_P D vwCl (wRef k a0 (upA (upA (up2 (up2 (upA (upA S0 0 (sS0_0_X8_isText S0)) 7 (sS0_7_X8_isText S0)) 0 13 (-1)) 0 12 0) 0 (upZ (upZ ((upZ (upZ (sS0_0_X8_isText S0) 13 (-1)) 12 0)) 8 0) 7 0)) 4 (cpyZ (S0 1) (S0 4) 0 0 125))) H := hP
  have hD : va_D A (wRef k a0 (upA (upA (up2 (up2 (upA (upA S0 0 (sS0_0_X8_isText S0)) 7 (sS0_7_X8_isText S0)) 0 13 (-1)) 0 12 0) 0 (upZ (upZ ((upZ (upZ (sS0_0_X8_isText S0) 13 (-1)) 12 0)) 8 0) 7 0)) 4 (cpyZ (S0 1) (S0 4) 0 0 125))) := hD
  refine lv_aload_n hx hb dX8_run_57 rfl (lv_at hl 1 rfl) ?_
  refine lv_iconst (v := iI 1) hx hb dX8_run_58 rfl ?_
  refine va_put (D := D) (ci := 10) (v := .int (iI 1)) (ty := .boolean) (C := RX8) (T := TX8) (N := 19) hx hb hts (fun w h => List.mem_cons_of_mem _ (List.mem_append_left _ (List.mem_append_right _ h))) tyX8 tyX8_ok nmX8 hown hK hP hD hS 0 rfl rfl 6 (by decide) (hts (.fieldLink RX8 53 "MondayFactoryModel" "isWithin" "Z") (List.mem_of_getElem? (i := 6) rfl)) (fun _ h9 => h9) rfl (by decide +kernel) rfl rfl (Nat.le_of_ble_eq_true rfl) dX8_run_59 (fun H locs hP hD hS => ?_)
  have hP : va_P D vwCl (wRef k a0 (up2 (upA (upA (up2 (up2 (upA (upA S0 0 (sS0_0_X8_isText S0)) 7 (sS0_7_X8_isText S0)) 0 13 (-1)) 0 12 0) 0 (upZ (upZ ((upZ (upZ (sS0_0_X8_isText S0) 13 (-1)) 12 0)) 8 0) 7 0)) 4 (cpyZ (S0 1) (S0 4) 0 0 125)) 0 6 1)) H := hP
  have hD : va_D A (wRef k a0 (up2 (upA (upA (up2 (up2 (upA (upA S0 0 (sS0_0_X8_isText S0)) 7 (sS0_7_X8_isText S0)) 0 13 (-1)) 0 12 0) 0 (upZ (upZ ((upZ (upZ (sS0_0_X8_isText S0) 13 (-1)) 12 0)) 8 0) 7 0)) 4 (cpyZ (S0 1) (S0 4) 0 0 125)) 0 6 1)) := hD
  have hP : va_P D vwCl (wRef k a0 ((rB S0))) H := hP
  have hD : va_D A (wRef k a0 ((rB S0))) := hD
  refine lv_iconst (v := iI 0) hx hb dX8_run_62 rfl ?_
  refine lv_istore_n (lv' := [(2, .int (iI 0)), (1, .int (iI (sp_X8_isText S0))), (0, .ref (a0 0))]) hx hb dX8_run_63 rfl hl (by decide) rfl (fun ls hl => ?_)
  refine lv_iconst (v := iI 0) hx hb dX8_run_64 rfl ?_
  refine lv_istore_n (lv' := [(3, .int (iI 0)), (2, .int (iI 0)), (1, .int (iI (sp_X8_isText S0))), (0, .ref (a0 0))]) hx hb dX8_run_65 rfl hl (by decide) rfl (fun ls hl => ?_)
  have lp66_0 : ∀ (n : Nat) (x2 : Int) (x3 : Int) (FP : Nat → Nat → Int), (31 - x2).toNat < n → (0 ≤ x2) → (x2 ≤ (n0 : Int)) → (FP 0 8 = 0) → (FP = rPl (rB S0) x2.toNat) → ∀ (H : Heap) (locs : List Loc) (ls : Array Slot), va_P D vwCl (wRef k a0 FP) H → va_D A (wRef k a0 FP) → va_S A s.heap H locs → lv_has ls 4 [(3, .int (iI x3)), (2, .int (iI x2)), (1, .int (iI (sp_X8_isText S0))), (0, .ref (a0 0))] → W p l e ({ frames := 7, cells := 0, slots := 0, locals := 158 } : Room) s m args below meth c H locs 0 0 (MQ below (zQi D A (min 0 (sp_X8_carries (rPl (rB S0) n0) (4 * (n0 : Int)))) (wRef k a0 (rEnd2 S0 n0))) args s 0 0 A) (F0 m 66 ls []) := by
    intro n66
    induction n66 with
    | zero => intro x2 x3 FP hm; exact absurd hm (Nat.not_lt_zero _)
    | succ n66 ih66 =>
      intro x2 x3 FP hm66 i0 i1 i8 iP  H locs ls hP hD hS hl
      have oF : rOK FP := by rw [iP]; exact (hPk x2.toNat (by omega)).1
      have oT : zBt (FP 1) := oF.1.t (by decide)
      have oC := oF.2.2.1
      have oK := oF.2.2.2
      have o7 : zBf (FP 7) := by rw [iP, (hPk x2.toNat (by omega)).2.2]; exact hBt
      have o18 : FP 0 18 = sS0_0_X8_isText S0 18 := by rw [iP]; exact (hPk x2.toNat (by omega)).2.1
      refine lv_iload_n hx hb dX8_run_66 rfl (lv_at hl 1 rfl) ?_
      refine lv_aload_n hx hb dX8_run_67 rfl (lv_at hl 3 rfl) ?_
      have f_4 := oF.2.1 18
      refine va_get (D := D) (ci := 10) (v := .int (iI (FP 0 18))) (C := RX8) (T := TX8) (N := 19) hx hb hts (fun w h => List.mem_cons_of_mem _ (List.mem_append_left _ (List.mem_append_right _ h))) hown hK hP 0 rfl rfl 18 (by decide) (hts (.fieldLink RX8 186 "MondayFactoryModel" "toldMany" "I") (List.mem_of_getElem? (i := 7) rfl)) (fun _ h9 => h9) rfl dX8_run_68 ?_
      refine zi_icmp_ge (tgt := 102) hx hb dX8_run_71 (by decide) ⟨by omega, by omega⟩ ⟨by omega, by omega⟩ (fun c_5 => absurd c_5 (by omega)) (fun _ => ?_)
      refine lv_aload_n hx hb dX8_run_74 rfl (lv_at hl 3 rfl) ?_
      have f_6 := oF.2.1 8
      refine va_get (D := D) (ci := 10) (v := .int (iI (FP 0 8))) (C := RX8) (T := TX8) (N := 19) hx hb hts (fun w h => List.mem_cons_of_mem _ (List.mem_append_left _ (List.mem_append_right _ h))) hown hK hP 0 rfl rfl 8 (by decide) (hts (.fieldLink RX8 40 "MondayFactoryModel" "code" "I") (List.mem_of_getElem? (i := 8) rfl)) (fun _ h9 => h9) rfl dX8_run_75 ?_
      refine zi_if_ne (tgt := 102) hx hb dX8_run_78 (by decide) ⟨by omega, by omega⟩ (fun c_7 => absurd c_7 (by omega)) (fun _ => ?_)
      by_cases y_8 : x2 = (n0 : Int)
      · subst y_8
        have hFP : FP = rPl (rB S0) n0 := by rw [iP, Int.toNat_natCast]
        subst hFP
        have hv := hvn
        have hc18 : (rCrr (rPl (rB S0) n0) (4 * (n0 : Int))) 0 18 = sS0_0_X8_isText S0 18 := (hPk (n0 + 1) (by omega)).2.1
        refine lv_aload_n hx hb dX8_run_81 rfl (lv_at hl 3 rfl) ?_
        refine lv_iconst (v := iI 4) hx hb dX8_run_82 rfl ?_
        refine lv_iload_n hx hb dX8_run_83 rfl (lv_at hl 1 rfl) ?_
        refine zi_mul hx hb dX8_run_84 ?_
        refine z_ai (va_runV (As := [.int (iI (4 * ((n0 : Int))))]) (rest := []) ⟨hx, hb, hml, hown, hts⟩ (c_X8_carW l D k a0 ((rPl (rB S0) n0))  (4 * ((n0 : Int))) (oF.1.f (by decide)) oT oF.2.1 oC (by omega) (by omega) (by omega) (by omega) o7 (by omega) _) (cwV 1 hts gX8_run_X8_carries rfl rfl rfl (by decide +kernel) ⟨(Nat.le_of_ble_eq_true rfl), (Nat.le_of_ble_eq_true rfl)⟩) (z_preV hK hG hA hP hD hS [0, 1, 2, 3, 4, 5, 6, 7] rfl (by decide) 10 rfl rfl) rfl rfl hl.1 rfl (lv_room (Nat.le_of_ble_eq_true rfl)) dX8_run_85 ⟨(Nat.le_of_ble_eq_true rfl), (Nat.le_of_ble_eq_true rfl)⟩) hA hP hD hS [0, 1, 2, 3, 4, 5, 6, 7] rfl rfl (fun H locs hP hD hS => ?_)
        have hP : va_P D vwCl (wRef k a0 ((rCrr ((rPl (rB S0) n0)) (4 * ((n0 : Int)))))) H := hP
        have hD : va_D A (wRef k a0 ((rCrr ((rPl (rB S0) n0)) (4 * ((n0 : Int)))))) := hD
        refine lv_istore_n (lv' := [(3, .int (iI (sp_X8_carries ((rPl (rB S0) n0)) (4 * ((n0 : Int)))))), (2, .int (iI ((n0 : Int)))), (1, .int (iI (sp_X8_isText S0))), (0, .ref (a0 0))]) hx hb dX8_run_88 rfl hl (by decide) rfl (fun ls hl => ?_)
        refine lv_aload_n hx hb dX8_run_89 rfl (lv_at hl 3 rfl) ?_
        refine va_get (D := D) (ci := 10) (v := .int (iI ((((rCrr ((rPl (rB S0) n0)) (4 * ((n0 : Int))))) 0) 8))) (C := RX8) (T := TX8) (N := 19) hx hb hts (fun w h => List.mem_cons_of_mem _ (List.mem_append_left _ (List.mem_append_right _ h))) hown hK hP 0 rfl rfl 8 (by decide) (hts (.fieldLink RX8 40 "MondayFactoryModel" "code" "I") (List.mem_of_getElem? (i := 8) rfl)) (fun _ h9 => h9) rfl dX8_run_90 ?_
        refine zi_if_ne (tgt := 66) hx hb dX8_run_93 (by decide) ⟨by omega, by omega⟩ (fun _ => ?_) (fun c_9 => absurd c_9 (by omega))
        refine lv_iload_n hx hb dX8_run_66 rfl (lv_at hl 1 rfl) ?_
        refine lv_aload_n hx hb dX8_run_67 rfl (lv_at hl 3 rfl) ?_
        refine va_get (D := D) (ci := 10) (v := .int (iI ((((rCrr ((rPl (rB S0) n0)) (4 * ((n0 : Int))))) 0) 18))) (C := RX8) (T := TX8) (N := 19) hx hb hts (fun w h => List.mem_cons_of_mem _ (List.mem_append_left _ (List.mem_append_right _ h))) hown hK hP 0 rfl rfl 18 (by decide) (hts (.fieldLink RX8 186 "MondayFactoryModel" "toldMany" "I") (List.mem_of_getElem? (i := 7) rfl)) (fun _ h9 => h9) rfl dX8_run_68 ?_
        refine zi_icmp_ge (tgt := 102) hx hb dX8_run_71 (by decide) ⟨by omega, by omega⟩ ⟨by omega, by omega⟩ (fun c_10 => absurd c_10 (by omega)) (fun _ => ?_)
        refine lv_aload_n hx hb dX8_run_74 rfl (lv_at hl 3 rfl) ?_
        refine va_get (D := D) (ci := 10) (v := .int (iI ((((rCrr ((rPl (rB S0) n0)) (4 * ((n0 : Int))))) 0) 8))) (C := RX8) (T := TX8) (N := 19) hx hb hts (fun w h => List.mem_cons_of_mem _ (List.mem_append_left _ (List.mem_append_right _ h))) hown hK hP 0 rfl rfl 8 (by decide) (hts (.fieldLink RX8 40 "MondayFactoryModel" "code" "I") (List.mem_of_getElem? (i := 8) rfl)) (fun _ h9 => h9) rfl dX8_run_75 ?_
        refine zi_if_ne (tgt := 102) hx hb dX8_run_78 (by decide) ⟨by omega, by omega⟩ (fun _ => ?_) (fun c_11 => absurd c_11 (by omega))
        refine lv_aload_n hx hb dX8_run_102 rfl (lv_at hl 3 rfl) ?_
        refine lv_iconst (v := iI 0) hx hb dX8_run_103 rfl ?_
        refine va_put (D := D) (ci := 10) (v := .int (iI 0)) (ty := .boolean) (C := RX8) (T := TX8) (N := 19) hx hb hts (fun w h => List.mem_cons_of_mem _ (List.mem_append_left _ (List.mem_append_right _ h))) tyX8 tyX8_ok nmX8 hown hK hP hD hS 0 rfl rfl 6 (by decide) (hts (.fieldLink RX8 53 "MondayFactoryModel" "isWithin" "Z") (List.mem_of_getElem? (i := 6) rfl)) (fun _ h9 => h9) rfl (by decide +kernel) rfl rfl (Nat.le_of_ble_eq_true rfl) dX8_run_104 (fun H locs hP hD hS => ?_)
        have hP : va_P D vwCl (wRef k a0 (up2 ((rCrr ((rPl (rB S0) n0)) (4 * ((n0 : Int))))) 0 6 0)) H := hP
        have hD : va_D A (wRef k a0 (up2 ((rCrr ((rPl (rB S0) n0)) (4 * ((n0 : Int))))) 0 6 0)) := hD
        refine lv_aload_n hx hb dX8_run_107 rfl (lv_at hl 3 rfl) ?_
        refine va_get (D := D) (ci := 10) (v := .int (iI ((((rCrr ((rPl (rB S0) n0)) (4 * ((n0 : Int))))) 0) 8))) (C := RX8) (T := TX8) (N := 19) hx hb hts (fun w h => List.mem_cons_of_mem _ (List.mem_append_left _ (List.mem_append_right _ h))) hown hK hP 0 rfl rfl 8 (by decide) (hts (.fieldLink RX8 40 "MondayFactoryModel" "code" "I") (List.mem_of_getElem? (i := 8) rfl)) (fun _ h9 => h9) rfl dX8_run_108 ?_
        refine zi_if_le (tgt := 153) hx hb dX8_run_111 (by decide) ⟨by omega, by omega⟩ (fun c_12 => absurd c_12 (by omega)) (fun _ => ?_)
        refine lv_aload_n hx hb dX8_run_114 rfl (lv_at hl 3 rfl) ?_
        refine va_get (D := D) (ci := 10) (v := .ref (a0 4)) (C := RX8) (T := TX8) (N := 19) hx hb hts (fun w h => List.mem_cons_of_mem _ (List.mem_append_left _ (List.mem_append_right _ h))) hown hK hP 0 rfl rfl 3 (by decide) (hts (.fieldLink RX8 19 "MondayFactoryModel" "before" "[I") (List.mem_of_getElem? (i := 5) rfl)) (fun _ h9 => h9) rfl dX8_run_115 ?_
        refine lv_iconst (v := iI 0) hx hb dX8_run_118 rfl ?_
        refine lv_aload_n hx hb dX8_run_119 rfl (lv_at hl 3 rfl) ?_
        refine va_get (D := D) (ci := 10) (v := .ref (a0 1)) (C := RX8) (T := TX8) (N := 19) hx hb hts (fun w h => List.mem_cons_of_mem _ (List.mem_append_left _ (List.mem_append_right _ h))) hown hK hP 0 rfl rfl 0 (by decide) (hts (.fieldLink RX8 7 "MondayFactoryModel" "g" "[I") (List.mem_of_getElem? (i := 4) rfl)) (fun _ h9 => h9) rfl dX8_run_120 ?_
        refine lv_iconst (v := iI 0) hx hb dX8_run_123 rfl ?_
        refine z_av (va_runS (As := [.ref (a0 4), .int (iI 0), .ref (a0 1), .int (iI 0)]) (rest := []) ⟨hx, hb, hml, hown, hts⟩ (c_X8_copies l D k (subA a0 4) (sub2 (up2 ((rCrr ((rPl (rB S0) n0)) (4 * ((n0 : Int))))) 0 6 0) 4) (subA a0 1) (sub2 (up2 ((rCrr ((rPl (rB S0) n0)) (4 * ((n0 : Int))))) 0 6 0) 1) 125 125 0 0 (by omega) (by omega) (by omega) _) (va_cwS 4 hts gX8_run_X8_copies rfl rfl rfl (by decide +kernel) ⟨(Nat.le_of_ble_eq_true rfl), (Nat.le_of_ble_eq_true rfl)⟩) (z_preS hK hG hA hP hD hS [4, 1] rfl (by decide)) rfl rfl hl.1 rfl (lv_room (Nat.le_of_ble_eq_true rfl)) dX8_run_124 ⟨(Nat.le_of_ble_eq_true rfl), (Nat.le_of_ble_eq_true rfl)⟩) hA hP hD hS [4, 1] rfl rfl (fun H locs hP hD hS => ?_)
        have hP : va_P D vwCl (wRef k a0 (upA (up2 ((rCrr ((rPl (rB S0) n0)) (4 * ((n0 : Int))))) 0 6 0) 1 (cpyZ ((((rCrr ((rPl (rB S0) n0)) (4 * ((n0 : Int))))) 4)) ((((rCrr ((rPl (rB S0) n0)) (4 * ((n0 : Int))))) 1)) 0 0 125))) H := hP
        have hD : va_D A (wRef k a0 (upA (up2 ((rCrr ((rPl (rB S0) n0)) (4 * ((n0 : Int))))) 0 6 0) 1 (cpyZ ((((rCrr ((rPl (rB S0) n0)) (4 * ((n0 : Int))))) 4)) ((((rCrr ((rPl (rB S0) n0)) (4 * ((n0 : Int))))) 1)) 0 0 125))) := hD
        refine lv_aload_n hx hb dX8_run_127 rfl (lv_at hl 3 rfl) ?_
        refine lv_aload_n hx hb dX8_run_128 rfl (lv_at hl 3 rfl) ?_
        refine va_get (D := D) (ci := 10) (v := .int (iI ((((rCrr ((rPl (rB S0) n0)) (4 * ((n0 : Int))))) 0) 7))) (C := RX8) (T := TX8) (N := 19) hx hb hts (fun w h => List.mem_cons_of_mem _ (List.mem_append_left _ (List.mem_append_right _ h))) hown hK hP 0 rfl rfl 7 (by decide) (hts (.fieldLink RX8 43 "MondayFactoryModel" "isRefused" "Z") (List.mem_of_getElem? (i := 9) rfl)) (fun _ h9 => h9) rfl dX8_run_129 ?_
        refine zi_if_eq (tgt := 139) hx hb dX8_run_132 (by decide) ⟨by omega, by omega⟩ (fun c_13 => absurd c_13 (by omega)) (fun _ => ?_)
        refine lv_iconst (v := iI 2) hx hb dX8_run_135 rfl ?_
        refine lv_goto (tgt := 140) hx hb dX8_run_136 (by decide) ?_
        refine va_put (D := D) (ci := 10) (v := .int (iI 2)) (ty := .int) (C := RX8) (T := TX8) (N := 19) hx hb hts (fun w h => List.mem_cons_of_mem _ (List.mem_append_left _ (List.mem_append_right _ h))) tyX8 tyX8_ok nmX8 hown hK hP hD hS 0 rfl rfl 8 (by decide) (hts (.fieldLink RX8 40 "MondayFactoryModel" "code" "I") (List.mem_of_getElem? (i := 8) rfl)) (fun _ h9 => h9) rfl (by decide +kernel) rfl rfl (Nat.le_of_ble_eq_true rfl) dX8_run_140 (fun H locs hP hD hS => ?_)
        have hP : va_P D vwCl (wRef k a0 (up2 (upA (up2 ((rCrr ((rPl (rB S0) n0)) (4 * ((n0 : Int))))) 0 6 0) 1 (cpyZ ((((rCrr ((rPl (rB S0) n0)) (4 * ((n0 : Int))))) 4)) ((((rCrr ((rPl (rB S0) n0)) (4 * ((n0 : Int))))) 1)) 0 0 125)) 0 8 2)) H := hP
        have hD : va_D A (wRef k a0 (up2 (upA (up2 ((rCrr ((rPl (rB S0) n0)) (4 * ((n0 : Int))))) 0 6 0) 1 (cpyZ ((((rCrr ((rPl (rB S0) n0)) (4 * ((n0 : Int))))) 4)) ((((rCrr ((rPl (rB S0) n0)) (4 * ((n0 : Int))))) 1)) 0 0 125)) 0 8 2)) := hD
        refine lv_iload_n hx hb dX8_run_143 rfl (lv_at hl 0 rfl) ?_
        refine zi_if_le (tgt := 151) hx hb dX8_run_144 (by decide) ⟨by omega, by omega⟩ (fun c_14 => ?_) (fun c_14 => ?_)
        · refine lv_iload_n hx hb dX8_run_151 rfl (lv_at hl 0 rfl) ?_
          exact z_iret hx hb hr hlocks hP hS dX8_run_152 (by omega) rfl (Nat.le_refl _) (Nat.le_refl _)
        · refine lv_iconst (v := iI 0) hx hb dX8_run_147 rfl ?_
          refine lv_goto (tgt := 152) hx hb dX8_run_148 (by decide) ?_
          exact z_iret hx hb hr hlocks hP hS dX8_run_152 (by omega) rfl (Nat.le_refl _) (Nat.le_refl _)
      · have hv : (rCrr FP (4 * x2)) 0 8 = 0 := by rw [iP, rPl_s i0]; exact hV (x2 + 1).toNat (by omega) (by omega)
        refine lv_aload_n hx hb dX8_run_81 rfl (lv_at hl 3 rfl) ?_
        refine lv_iconst (v := iI 4) hx hb dX8_run_82 rfl ?_
        refine lv_iload_n hx hb dX8_run_83 rfl (lv_at hl 1 rfl) ?_
        refine zi_mul hx hb dX8_run_84 ?_
        refine z_ai (va_runV (As := [.int (iI (4 * x2))]) (rest := []) ⟨hx, hb, hml, hown, hts⟩ (c_X8_carW l D k a0 FP  (4 * x2) (oF.1.f (by decide)) oT oF.2.1 oC (by omega) (by omega) (by omega) (by omega) o7 (by omega) _) (cwV 1 hts gX8_run_X8_carries rfl rfl rfl (by decide +kernel) ⟨(Nat.le_of_ble_eq_true rfl), (Nat.le_of_ble_eq_true rfl)⟩) (z_preV hK hG hA hP hD hS [0, 1, 2, 3, 4, 5, 6, 7] rfl (by decide) 10 rfl rfl) rfl rfl hl.1 rfl (lv_room (Nat.le_of_ble_eq_true rfl)) dX8_run_85 ⟨(Nat.le_of_ble_eq_true rfl), (Nat.le_of_ble_eq_true rfl)⟩) hA hP hD hS [0, 1, 2, 3, 4, 5, 6, 7] rfl rfl (fun H locs hP hD hS => ?_)
        have hP : va_P D vwCl (wRef k a0 ((rCrr FP (4 * x2)))) H := hP
        have hD : va_D A (wRef k a0 ((rCrr FP (4 * x2)))) := hD
        refine lv_istore_n (lv' := [(3, .int (iI (sp_X8_carries FP (4 * x2)))), (2, .int (iI x2)), (1, .int (iI (sp_X8_isText S0))), (0, .ref (a0 0))]) hx hb dX8_run_88 rfl hl (by decide) rfl (fun ls hl => ?_)
        refine lv_aload_n hx hb dX8_run_89 rfl (lv_at hl 3 rfl) ?_
        refine va_get (D := D) (ci := 10) (v := .int (iI ((((rCrr FP (4 * x2))) 0) 8))) (C := RX8) (T := TX8) (N := 19) hx hb hts (fun w h => List.mem_cons_of_mem _ (List.mem_append_left _ (List.mem_append_right _ h))) hown hK hP 0 rfl rfl 8 (by decide) (hts (.fieldLink RX8 40 "MondayFactoryModel" "code" "I") (List.mem_of_getElem? (i := 8) rfl)) (fun _ h9 => h9) rfl dX8_run_90 ?_
        refine zi_if_ne (tgt := 66) hx hb dX8_run_93 (by decide) ⟨by omega, by omega⟩ (fun c_15 => absurd c_15 (by omega)) (fun _ => ?_)
        refine lv_iinc (v := iI (x2 + 1)) (lv' := [(2, .int (iI (x2 + 1))), (3, .int (iI (sp_X8_carries FP (4 * x2)))), (1, .int (iI (sp_X8_isText S0))), (0, .ref (a0 0))]) hx hb dX8_run_96 hl (k := 1) rfl (iI_add _ _) (by decide) rfl (fun ls hl => ?_)
        refine lv_goto (tgt := 66) hx hb dX8_run_99 (by decide) ?_
        exact ih66 (x2 + 1) (sp_X8_carries FP (4 * x2)) ((rCrr FP (4 * x2))) (by omega) (by omega) (by omega) hv (by rw [iP]; exact rPl_s i0)  H locs ls hP hD hS (lv_sub hl [1, 0, 2, 3] rfl)
  exact lp66_0 32 0 0 ((rB S0)) (by omega) (by omega) (by omega) rfl rfl  H locs ls hP hD hS (lv_sub hl [0, 1, 2, 3] rfl)
