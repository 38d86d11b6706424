set_option maxHeartbeats 4000000 in
set_option maxRecDepth 100000 in
theorem c_X8_thrown (l : Launch) (D : va_G) (k : Nat → ClassId) (a0 : Nat → Nat) (S0 : Nat → Nat → Int) : zMi l yX8_thrown wsX8_thrown ({ frames := 0, cells := 0, slots := 0, locals := 0 } : Room) D k [.ref (a0 0)] (wRef k a0 S0) (S0 0 8) (wRef k a0 S0) 0 0 := by
  refine zMi_of (cc := cX8_thrown) (maxL := 1) (ret := (some .int)) (by decide) rfl (Nat.le_of_ble_eq_true rfl) ?_
  intro p e s m args below meth c A ls hx hb hr hml hown hts hlocks hK hP hD hG hA hS hl
  have hown : s.vm.findClass RX8 = some m.cls := hown
  have hl : lv_has ls 1 [(0, .ref (a0 0))] := hl
  obtain ⟨H, hH⟩ : ∃ z, z = s.heap := ⟨_, rfl⟩
  obtain ⟨locs, hlc⟩ : ∃ z : List Loc, z = [] := ⟨_, rfl⟩
  rw [← hH] at hP
  have hS : va_S A s.heap H locs := by rw [hH, hlc]; exact hS
  rw [← hlc, ← hH]
  clear hlc hH
  refine lv_aload_n hx hb dX8_thrown_0 rfl (lv_at hl 0 rfl) ?_
  refine va_get (D := D) (ci := 10) (v := .int (iI (S0 0 8))) (C := RX8) (T := TX8) (N := 19) hx hb hts (fun w h => List.mem_cons_of_mem _ (List.mem_append_right _ h)) hown hK hP 0 rfl rfl 8 (by decide) (hts (.fieldLink RX8 40 "MondayFactoryModel" "code" "I") (List.mem_of_getElem? (i := 1) rfl)) (fun _ h9 => h9) rfl dX8_thrown_1 ?_
  exact z_iret hx hb hr hlocks hP hS dX8_thrown_4 rfl rfl (Nat.le_refl _) (Nat.le_refl _)
set_option maxHeartbeats 4000000 in
set_option maxRecDepth 100000 in
theorem c_X8_fails (l : Launch) (D : va_G) (k : Nat → ClassId) (a0 : Nat → Nat) (S0 : Nat → Nat → Int) (p0 : Int) (h0 : -2147483648 ≤ p0 ∧ p0 < 2147483648) : zMi l yX8_fails wsX8_fails ({ frames := 0, cells := 0, slots := 0, locals := 0 } : Room) D k [.ref (a0 0), .int (iI p0)] (wRef k a0 S0) (zb (0 < p0)) (wRef k a0 (upA S0 0 (upZ (upZ (S0 0) 8 p0) 7 0))) 0 0 := by
  refine zMi_of (cc := cX8_fails) (maxL := 2) (ret := (some .boolean)) (by decide) rfl (Nat.le_of_ble_eq_true rfl) ?_
  intro p e s m args below meth c A ls hx hb hr hml hown hts hlocks hK hP hD hG hA hS hl
  have hown : s.vm.findClass RX8 = some m.cls := hown
  have hl : lv_has ls 2 [(0, .ref (a0 0)), (1, .int (iI p0))] := hl
  obtain ⟨H, hH⟩ : ∃ z, z = s.heap := ⟨_, rfl⟩
  obtain ⟨locs, hlc⟩ : ∃ z : List Loc, z = [] := ⟨_, rfl⟩
  rw [← hH] at hP
  have hS : va_S A s.heap H locs := by rw [hH, hlc]; exact hS
  rw [← hlc, ← hH]
  clear hlc hH
  refine lv_aload_n hx hb dX8_fails_0 rfl (lv_at hl 0 rfl) ?_
  refine lv_iload_n hx hb dX8_fails_1 rfl (lv_at hl 1 rfl) ?_
  refine va_put (D := D) (ci := 10) (v := .int (iI p0)) (ty := .int) (C := RX8) (T := TX8) (N := 19) hx hb hts (fun w h => List.mem_cons_of_mem _ (List.mem_append_right _ h)) tyX8 tyX8_ok nmX8 hown hK hP hD hS 0 rfl rfl 8 (by decide) (hts (.fieldLink RX8 40 "MondayFactoryModel" "code" "I") (List.mem_of_getElem? (i := 1) rfl)) (fun _ h9 => h9) rfl (by decide +kernel) rfl rfl (Nat.le_of_ble_eq_true rfl) dX8_fails_2 (fun H locs hP hD hS => ?_)
  have hP : va_P D vwCl (wRef k a0 (up2 S0 0 8 p0)) H := hP
  have hD : va_D A (wRef k a0 (up2 S0 0 8 p0)) := hD
  refine lv_aload_n hx hb dX8_fails_5 rfl (lv_at hl 0 rfl) ?_
  refine lv_iconst (v := iI 0) hx hb dX8_fails_6 rfl ?_
  refine va_put (D := D) (ci := 10) (v := .int (iI 0)) (ty := .boolean) (C := RX8) (T := TX8) (N := 19) hx hb hts (fun w h => List.mem_cons_of_mem _ (List.mem_append_right _ h)) tyX8 tyX8_ok nmX8 hown hK hP hD hS 0 rfl rfl 7 (by decide) (hts (.fieldLink RX8 43 "MondayFactoryModel" "isRefused" "Z") (List.mem_of_getElem? (i := 2) rfl)) (fun _ h9 => h9) rfl (by decide +kernel) rfl rfl (Nat.le_of_ble_eq_true rfl) dX8_fails_7 (fun H locs hP hD hS => ?_)
  have hP : va_P D vwCl (wRef k a0 (up2 (up2 S0 0 8 p0) 0 7 0)) H := hP
  have hD : va_D A (wRef k a0 (up2 (up2 S0 0 8 p0) 0 7 0)) := hD
  refine lv_iload_n hx hb dX8_fails_10 rfl (lv_at hl 1 rfl) ?_
  refine zi_if_le (tgt := 18) hx hb dX8_fails_11 (by decide) ⟨by omega, by omega⟩ (fun c_1 => ?_) (fun c_1 => ?_)
  · refine lv_iconst (v := iI 0) hx hb dX8_fails_18 rfl ?_
    exact z_zret hx hb hr hlocks rfl hP hS dX8_fails_19 (zb_neg (by omega)) (congrArg (fun z => wRef k a0 (upA S0 0 z)) (show upZ (upZ (S0 0) 8 p0) 7 0 = upZ (upZ (S0 0) 8 p0) 7 0 from rfl)) (Nat.le_refl _) (Nat.le_refl _)
  · refine lv_iconst (v := iI 1) hx hb dX8_fails_14 rfl ?_
    refine lv_goto (tgt := 19) hx hb dX8_fails_15 (by decide) ?_
    exact z_zret hx hb hr hlocks rfl hP hS dX8_fails_19 (zb_pos (by omega)) (congrArg (fun z => wRef k a0 (upA S0 0 z)) (show upZ (upZ (S0 0) 8 p0) 7 0 = upZ (upZ (S0 0) 8 p0) 7 0 from rfl)) (Nat.le_refl _) (Nat.le_refl _)
set_option maxHeartbeats 4000000 in
set_option maxRecDepth 100000 in
theorem c_X8_refuses (l : Launch) (D : va_G) (k : Nat → ClassId) (a0 : Nat → Nat) (S0 : Nat → Nat → Int) (p0 : Int) (p1 : Int) (p2 : Int) : zMi l yX8_refuses wsX8_refuses ({ frames := 0, cells := 0, slots := 0, locals := 0 } : Room) D k [.ref (a0 0), .int (iI p0), .int (iI p1), .int (iI p2)] (wRef k a0 S0) (0) (wRef k a0 (up2 (up2 (up2 (up2 S0 0 8 p0) 0 7 1) 0 9 p1) 0 10 p2)) 0 0 := by
  refine zMi_of (cc := cX8_refuses) (maxL := 4) (ret := (some .int)) (by decide) rfl (Nat.le_of_ble_eq_true rfl) ?_
  intro p e s m args below meth c A ls hx hb hr hml hown hts hlocks hK hP hD hG hA hS hl
  have hown : s.vm.findClass RX8 = some m.cls := hown
  have hl : lv_has ls 4 [(0, .ref (a0 0)), (1, .int (iI p0)), (2, .int (iI p1)), (3, .int (iI p2))] := hl
  obtain ⟨H, hH⟩ : ∃ z, z = s.heap := ⟨_, rfl⟩
  obtain ⟨locs, hlc⟩ : ∃ z : List Loc, z = [] := ⟨_, rfl⟩
  rw [← hH] at hP
  have hS : va_S A s.heap H locs := by rw [hH, hlc]; exact hS
  rw [← hlc, ← hH]
  clear hlc hH
  refine lv_aload_n hx hb dX8_refuses_0 rfl (lv_at hl 0 rfl) ?_
  refine lv_iload_n hx hb dX8_refuses_1 rfl (lv_at hl 1 rfl) ?_
  refine va_put (D := D) (ci := 10) (v := .int (iI p0)) (ty := .int) (C := RX8) (T := TX8) (N := 19) hx hb hts (fun w h => List.mem_cons_of_mem _ (List.mem_append_right _ h)) tyX8 tyX8_ok nmX8 hown hK hP hD hS 0 rfl rfl 8 (by decide) (hts (.fieldLink RX8 40 "MondayFactoryModel" "code" "I") (List.mem_of_getElem? (i := 1) rfl)) (fun _ h9 => h9) rfl (by decide +kernel) rfl rfl (Nat.le_of_ble_eq_true rfl) dX8_refuses_2 (fun H locs hP hD hS => ?_)
  have hP : va_P D vwCl (wRef k a0 (up2 S0 0 8 p0)) H := hP
  have hD : va_D A (wRef k a0 (up2 S0 0 8 p0)) := hD
  refine lv_aload_n hx hb dX8_refuses_5 rfl (lv_at hl 0 rfl) ?_
  refine lv_iconst (v := iI 1) hx hb dX8_refuses_6 rfl ?_
  refine va_put (D := D) (ci := 10) (v := .int (iI 1)) (ty := .boolean) (C := RX8) (T := TX8) (N := 19) hx hb hts (fun w h => List.mem_cons_of_mem _ (List.mem_append_right _ h)) tyX8 tyX8_ok nmX8 hown hK hP hD hS 0 rfl rfl 7 (by decide) (hts (.fieldLink RX8 43 "MondayFactoryModel" "isRefused" "Z") (List.mem_of_getElem? (i := 2) rfl)) (fun _ h9 => h9) rfl (by decide +kernel) rfl rfl (Nat.le_of_ble_eq_true rfl) dX8_refuses_7 (fun H locs hP hD hS => ?_)
  have hP : va_P D vwCl (wRef k a0 (up2 (up2 S0 0 8 p0) 0 7 1)) H := hP
  have hD : va_D A (wRef k a0 (up2 (up2 S0 0 8 p0) 0 7 1)) := hD
  refine lv_aload_n hx hb dX8_refuses_10 rfl (lv_at hl 0 rfl) ?_
  refine lv_iload_n hx hb dX8_refuses_11 rfl (lv_at hl 2 rfl) ?_
  refine va_put (D := D) (ci := 10) (v := .int (iI p1)) (ty := .int) (C := RX8) (T := TX8) (N := 19) hx hb hts (fun w h => List.mem_cons_of_mem _ (List.mem_append_right _ h)) tyX8 tyX8_ok nmX8 hown hK hP hD hS 0 rfl rfl 9 (by decide) (hts (.fieldLink RX8 47 "MondayFactoryModel" "why" "I") (List.mem_of_getElem? (i := 3) rfl)) (fun _ h9 => h9) rfl (by decide +kernel) rfl rfl (Nat.le_of_ble_eq_true rfl) dX8_refuses_12 (fun H locs hP hD hS => ?_)
  have hP : va_P D vwCl (wRef k a0 (up2 (up2 (up2 S0 0 8 p0) 0 7 1) 0 9 p1)) H := hP
  have hD : va_D A (wRef k a0 (up2 (up2 (up2 S0 0 8 p0) 0 7 1) 0 9 p1)) := hD
  refine lv_aload_n hx hb dX8_refuses_15 rfl (lv_at hl 0 rfl) ?_
  refine lv_iload_n hx hb dX8_refuses_16 rfl (lv_at hl 3 rfl) ?_
  refine va_put (D := D) (ci := 10) (v := .int (iI p2)) (ty := .int) (C := RX8) (T := TX8) (N := 19) hx hb hts (fun w h => List.mem_cons_of_mem _ (List.mem_append_right _ h)) tyX8 tyX8_ok nmX8 hown hK hP hD hS 0 rfl rfl 10 (by decide) (hts (.fieldLink RX8 50 "MondayFactoryModel" "detail" "I") (List.mem_of_getElem? (i := 4) rfl)) (fun _ h9 => h9) rfl (by decide +kernel) rfl rfl (Nat.le_of_ble_eq_true rfl) dX8_refuses_17 (fun H locs hP hD hS => ?_)
  have hP : va_P D vwCl (wRef k a0 (up2 (up2 (up2 (up2 S0 0 8 p0) 0 7 1) 0 9 p1) 0 10 p2)) H := hP
  have hD : va_D A (wRef k a0 (up2 (up2 (up2 (up2 S0 0 8 p0) 0 7 1) 0 9 p1) 0 10 p2)) := hD
  refine lv_iconst (v := iI 0) hx hb dX8_refuses_20 rfl ?_
  exact z_iret hx hb hr hlocks hP hS dX8_refuses_21 rfl rfl (Nat.le_refl _) (Nat.le_refl _)
set_option maxHeartbeats 4000000 in
set_option maxRecDepth 100000 in
theorem c_X8_in (l : Launch) (D : va_G) (k : Nat → ClassId)  (p0 : Int) (p1 : Int) (p2 : Int) (h0 : -2147483648 ≤ p0 ∧ p0 < 2147483648) (h1 : -2147483648 ≤ p1 ∧ p1 < 2147483648) (h2 : -2147483648 ≤ p2 ∧ p2 < 2147483648) : zMi l yX8_in wsX8_in ({ frames := 0, cells := 0, slots := 0, locals := 0 } : Room) D k [.int (iI p0), .int (iI p1), .int (iI p2)] (([] : va_W)) (zb (p1 ≤ p0 ∧ p0 ≤ p2)) (([] : va_W)) 0 0 := by
  refine zMi_of (cc := cX8_in) (maxL := 3) (ret := (some .boolean)) (by decide) rfl (Nat.le_of_ble_eq_true rfl) ?_
  intro p e s m args below meth c A ls hx hb hr hml hown hts hlocks hK hP hD hG hA hS hl
  have hown : s.vm.findClass RX8 = some m.cls := hown
  have hl : lv_has ls 3 [(0, .int (iI p0)), (1, .int (iI p1)), (2, .int (iI p2))] := hl
  obtain ⟨H, hH⟩ : ∃ z, z = s.heap := ⟨_, rfl⟩
  obtain ⟨locs, hlc⟩ : ∃ z : List Loc, z = [] := ⟨_, rfl⟩
  rw [← hH] at hP
  have hS : va_S A s.heap H locs := by rw [hH, hlc]; exact hS
  rw [← hlc, ← hH]
  clear hlc hH
  refine lv_iload_n hx hb dX8_in_0 rfl (lv_at hl 0 rfl) ?_
  refine lv_iload_n hx hb dX8_in_1 rfl (lv_at hl 1 rfl) ?_
  refine zi_icmp_lt (tgt := 14) hx hb dX8_in_2 (by decide) ⟨by omega, by omega⟩ ⟨by omega, by omega⟩ (fun c_1 => ?_) (fun c_1 => ?_)
  · refine lv_iconst (v := iI 0) hx hb dX8_in_14 rfl ?_
    exact z_zret hx hb hr hlocks rfl hP hS dX8_in_15 (zb_neg (by omega)) rfl (Nat.le_refl _) (Nat.le_refl _)
  · refine lv_iload_n hx hb dX8_in_5 rfl (lv_at hl 0 rfl) ?_
    refine lv_iload_n hx hb dX8_in_6 rfl (lv_at hl 2 rfl) ?_
    refine zi_icmp_gt (tgt := 14) hx hb dX8_in_7 (by decide) ⟨by omega, by omega⟩ ⟨by omega, by omega⟩ (fun c_2 => ?_) (fun c_2 => ?_)
    · refine lv_iconst (v := iI 0) hx hb dX8_in_14 rfl ?_
      exact z_zret hx hb hr hlocks rfl hP hS dX8_in_15 (zb_neg (by omega)) rfl (Nat.le_refl _) (Nat.le_refl _)
    · refine lv_iconst (v := iI 1) hx hb dX8_in_10 rfl ?_
      refine lv_goto (tgt := 15) hx hb dX8_in_11 (by decide) ?_
      exact z_zret hx hb hr hlocks rfl hP hS dX8_in_15 (zb_pos (by omega)) rfl (Nat.le_refl _) (Nat.le_refl _)
set_option maxHeartbeats 4000000 in
set_option maxRecDepth 100000 in
theorem c_X8_within (l : Launch) (D : va_G) (k : Nat → ClassId)  (p0 : Int) (p1 : Int) (p2 : Int) (h0 : -2147483648 ≤ p0 ∧ p0 < 2147483648) (h1 : -2147483648 ≤ p1 ∧ p1 < 2147483648) (h2 : -2147483648 ≤ p2 ∧ p2 < 2147483648) (h3 : p1 ≤ p2) : zMi l yX8_within wsX8_within ({ frames := 0, cells := 0, slots := 0, locals := 0 } : Room) D k [.int (iI p0), .int (iI p1), .int (iI p2)] (([] : va_W)) (max p1 (min p0 p2)) (([] : va_W)) 0 0 := by
  refine zMi_of (cc := cX8_within) (maxL := 3) (ret := (some .int)) (by decide) rfl (Nat.le_of_ble_eq_true rfl) ?_
  intro p e s m args below meth c A ls hx hb hr hml hown hts hlocks hK hP hD hG hA hS hl
  have hown : s.vm.findClass RX8 = some m.cls := hown
  have hl : lv_has ls 3 [(0, .int (iI p0)), (1, .int (iI p1)), (2, .int (iI p2))] := hl
  obtain ⟨H, hH⟩ : ∃ z, z = s.heap := ⟨_, rfl⟩
  obtain ⟨locs, hlc⟩ : ∃ z : List Loc, z = [] := ⟨_, rfl⟩
  rw [← hH] at hP
  have hS : va_S A s.heap H locs := by rw [hH, hlc]; exact hS
  rw [← hlc, ← hH]
  clear hlc hH
  refine lv_iload_n hx hb dX8_within_0 rfl (lv_at hl 0 rfl) ?_
  refine lv_iload_n hx hb dX8_within_1 rfl (lv_at hl 1 rfl) ?_
  refine zi_icmp_ge (tgt := 9) hx hb dX8_within_2 (by decide) ⟨by omega, by omega⟩ ⟨by omega, by omega⟩ (fun c_1 => ?_) (fun c_1 => ?_)
  · refine lv_iload_n hx hb dX8_within_9 rfl (lv_at hl 0 rfl) ?_
    refine lv_iload_n hx hb dX8_within_10 rfl (lv_at hl 2 rfl) ?_
    refine zi_icmp_le (tgt := 18) hx hb dX8_within_11 (by decide) ⟨by omega, by omega⟩ ⟨by omega, by omega⟩ (fun c_2 => ?_) (fun c_2 => ?_)
    · refine lv_iload_n hx hb dX8_within_18 rfl (lv_at hl 0 rfl) ?_
      exact z_iret hx hb hr hlocks hP hS dX8_within_19 (by omega) rfl (Nat.le_refl _) (Nat.le_refl _)
    · refine lv_iload_n hx hb dX8_within_14 rfl (lv_at hl 2 rfl) ?_
      refine lv_goto (tgt := 19) hx hb dX8_within_15 (by decide) ?_
      exact z_iret hx hb hr hlocks hP hS dX8_within_19 (by omega) rfl (Nat.le_refl _) (Nat.le_refl _)
  · refine lv_iload_n hx hb dX8_within_5 rfl (lv_at hl 1 rfl) ?_
    refine lv_goto (tgt := 19) hx hb dX8_within_6 (by decide) ?_
    exact z_iret hx hb hr hlocks hP hS dX8_within_19 (by omega) rfl (Nat.le_refl _) (Nat.le_refl _)
set_option maxHeartbeats 4000000 in
set_option maxRecDepth 100000 in
theorem c_X8_of (l : Launch) (D : va_G) (k : Nat → ClassId) (a0 : Nat → Nat) (S0 : Nat → Nat → Int) (p0 : Int) (p1 : Int) (h0 : 0 ≤ 15 + 26 * p0 + p1) (h1 : 15 + 26 * p0 + p1 < 125) : zMi l yX8_of wsX8_of ({ frames := 0, cells := 0, slots := 0, locals := 0 } : Room) D k [.ref (a0 0), .int (iI p0), .int (iI p1)] (wRef k a0 S0) (S0 1 (((15 + (26 * p0)) + p1).toNat)) (wRef k a0 S0) 0 0 := by
  refine zMi_of (cc := cX8_of) (maxL := 3) (ret := (some .int)) (by decide) rfl (Nat.le_of_ble_eq_true rfl) ?_
  intro p e s m args below meth c A ls hx hb hr hml hown hts hlocks hK hP hD hG hA hS hl
  have hown : s.vm.findClass RX8 = some m.cls := hown
  have hl : lv_has ls 3 [(0, .ref (a0 0)), (1, .int (iI p0)), (2, .int (iI p1))] := hl
  obtain ⟨H, hH⟩ : ∃ z, z = s.heap := ⟨_, rfl⟩
  obtain ⟨locs, hlc⟩ : ∃ z : List Loc, z = [] := ⟨_, rfl⟩
  rw [← hH] at hP
  have hS : va_S A s.heap H locs := by rw [hH, hlc]; exact hS
  rw [← hlc, ← hH]
  clear hlc hH
  refine lv_aload_n hx hb dX8_of_0 rfl (lv_at hl 0 rfl) ?_
  refine va_get (D := D) (ci := 10) (v := .ref (a0 1)) (C := RX8) (T := TX8) (N := 19) hx hb hts (fun w h => List.mem_cons_of_mem _ (List.mem_append_left _ (List.mem_append_right _ h))) hown hK hP 0 rfl rfl 0 (by decide) (hts (.fieldLink RX8 7 "MondayFactoryModel" "g" "[I") (List.mem_of_getElem? (i := 1) rfl)) (fun _ h9 => h9) rfl dX8_of_1 ?_
  refine lv_bipush (v := iI 15) hx hb dX8_of_4 (by decide) ?_
  refine lv_bipush (v := iI 26) hx hb dX8_of_6 (by decide) ?_
  refine lv_iload_n hx hb dX8_of_8 rfl (lv_at hl 1 rfl) ?_
  refine zi_mul hx hb dX8_of_9 ?_
  refine zi_add hx hb dX8_of_10 ?_
  refine lv_iload_n hx hb dX8_of_11 rfl (lv_at hl 2 rfl) ?_
  refine zi_add hx hb dX8_of_12 ?_
  refine z_iald hx hb hK hP 1 0 (f := S0 1) rfl rfl (i := (15 + (26 * p0)) + p1) (by omega) (by omega) (by decide) (((15 + (26 * p0)) + p1).toNat) rfl dX8_of_13 ?_
  exact z_iret hx hb hr hlocks hP hS dX8_of_14 rfl rfl (Nat.le_refl _) (Nat.le_refl _)
set_option maxHeartbeats 4000000 in
set_option maxRecDepth 100000 in
theorem c_X8_lays (l : Launch) (D : va_G) (k : Nat → ClassId) (a0 : Nat → Nat) (S0 : Nat → Nat → Int) (p0 : Int) (p1 : Int) (p2 : Int) (h0 : 0 ≤ 15 + 26 * p0 + p1) (h1 : 15 + 26 * p0 + p1 < 125) : zMv l yX8_lays wsX8_lays ({ frames := 0, cells := 0, slots := 0, locals := 0 } : Room) D k [.ref (a0 0), .int (iI p0), .int (iI p1), .int (iI p2)] (wRef k a0 S0) (wRef k a0 (up2 S0 1 (((15 + (26 * p0)) + p1).toNat) p2)) 0 0 := by
  refine zMv_of (cc := cX8_lays) (maxL := 4) (ret := none) (by decide) rfl (Nat.le_of_ble_eq_true rfl) ?_
  intro p e s m args below meth c A ls hx hb hr hml hown hts hlocks hK hP hD hG hA hS hl
  have hown : s.vm.findClass RX8 = some m.cls := hown
  have hl : lv_has ls 4 [(0, .ref (a0 0)), (1, .int (iI p0)), (2, .int (iI p1)), (3, .int (iI p2))] := hl
  obtain ⟨H, hH⟩ : ∃ z, z = s.heap := ⟨_, rfl⟩
  obtain ⟨locs, hlc⟩ : ∃ z : List Loc, z = [] := ⟨_, rfl⟩
  rw [← hH] at hP
  have hS : va_S A s.heap H locs := by rw [hH, hlc]; exact hS
  rw [← hlc, ← hH]
  clear hlc hH
  refine lv_aload_n hx hb dX8_lays_0 rfl (lv_at hl 0 rfl) ?_
  refine va_get (D := D) (ci := 10) (v := .ref (a0 1)) (C := RX8) (T := TX8) (N := 19) hx hb hts (fun w h => List.mem_cons_of_mem _ (List.mem_append_left _ (List.mem_append_right _ h))) hown hK hP 0 rfl rfl 0 (by decide) (hts (.fieldLink RX8 7 "MondayFactoryModel" "g" "[I") (List.mem_of_getElem? (i := 1) rfl)) (fun _ h9 => h9) rfl dX8_lays_1 ?_
  refine lv_bipush (v := iI 15) hx hb dX8_lays_4 (by decide) ?_
  refine lv_bipush (v := iI 26) hx hb dX8_lays_6 (by decide) ?_
  refine lv_iload_n hx hb dX8_lays_8 rfl (lv_at hl 1 rfl) ?_
  refine zi_mul hx hb dX8_lays_9 ?_
  refine zi_add hx hb dX8_lays_10 ?_
  refine lv_iload_n hx hb dX8_lays_11 rfl (lv_at hl 2 rfl) ?_
  refine zi_add hx hb dX8_lays_12 ?_
  refine lv_iload_n hx hb dX8_lays_13 rfl (lv_at hl 3 rfl) ?_
  refine z_iast hx hb hK hP hD hS 1 0 (f := S0 1) rfl rfl (i := (15 + (26 * p0)) + p1) (by omega) (by omega) (by decide) (((15 + (26 * p0)) + p1).toNat) rfl dX8_lays_14 (fun H locs hP hD hS => ?_)
  have hP : va_P D vwCl (wRef k a0 (up2 S0 1 (((15 + (26 * p0)) + p1).toNat) p2)) H := hP
  have hD : va_D A (wRef k a0 (up2 S0 1 (((15 + (26 * p0)) + p1).toNat) p2)) := hD
  exact z_vret hx hb hr hlocks hP hS dX8_lays_15 rfl (Nat.le_refl _) (Nat.le_refl _)
set_option maxHeartbeats 4000000 in
set_option maxRecDepth 100000 in
theorem c_X8_on (l : Launch) (D : va_G) (k : Nat → ClassId) (a0 : Nat → Nat) (S0 : Nat → Nat → Int) (p0 : Int) (p1 : Int) (p2 : Int) (h0 : 0 ≤ 15 + 26 * p0 + (6 + 4 * p1 + p2)) (h1 : 15 + 26 * p0 + (6 + 4 * p1 + p2) < 125) : zMi l yX8_on wsX8_on ({ frames := 1, cells := 0, slots := 0, locals := 22 } : Room) D k [.ref (a0 0), .int (iI p0), .int (iI p1), .int (iI p2)] (wRef k a0 S0) (S0 1 (((15 + (26 * p0)) + ((6 + (4 * p1)) + p2)).toNat)) (wRef k a0 S0) 0 0 := by
  refine zMi_of (cc := cX8_on) (maxL := 4) (ret := (some .int)) (by decide) rfl (Nat.le_of_ble_eq_true rfl) ?_
  intro p e s m args below meth c A ls hx hb hr hml hown hts hlocks hK hP hD hG hA hS hl
  have hown : s.vm.findClass RX8 = some m.cls := hown
  have hl : lv_has ls 4 [(0, .ref (a0 0)), (1, .int (iI p0)), (2, .int (iI p1)), (3, .int (iI p2))] := hl
  obtain ⟨H, hH⟩ : ∃ z, z = s.heap := ⟨_, rfl⟩
  obtain ⟨locs, hlc⟩ : ∃ z : List Loc, z = [] := ⟨_, rfl⟩
  rw [← hH] at hP
  have hS : va_S A s.heap H locs := by rw [hH, hlc]; exact hS
  rw [← hlc, ← hH]
  clear hlc hH
  refine lv_aload_n hx hb dX8_on_0 rfl (lv_at hl 0 rfl) ?_
  refine lv_iload_n hx hb dX8_on_1 rfl (lv_at hl 1 rfl) ?_
  refine lv_bipush (v := iI 6) hx hb dX8_on_2 (by decide) ?_
  refine lv_iconst (v := iI 4) hx hb dX8_on_4 rfl ?_
  refine lv_iload_n hx hb dX8_on_5 rfl (lv_at hl 2 rfl) ?_
  refine zi_mul hx hb dX8_on_6 ?_
  refine zi_add hx hb dX8_on_7 ?_
  refine lv_iload_n hx hb dX8_on_8 rfl (lv_at hl 3 rfl) ?_
  refine zi_add hx hb dX8_on_9 ?_
  refine z_ai0 (va_runV (As := [.int (iI p0), .int (iI ((6 + (4 * p1)) + p2))]) (rest := []) ⟨hx, hb, hml, hown, hts⟩ (c_X8_of l D k a0 S0  p0 ((6 + (4 * p1)) + p2) (by omega) (by omega) _) (cwV 2 hts gX8_on_X8_of rfl rfl rfl (by decide +kernel) ⟨(Nat.le_of_ble_eq_true rfl), (Nat.le_of_ble_eq_true rfl)⟩) (z_preV hK hG hA hP hD hS [0, 1, 2, 3, 4, 5, 6, 7] rfl (by decide) 10 rfl rfl) rfl rfl hl.1 rfl (lv_room (Nat.le_of_ble_eq_true rfl)) dX8_on_10 ⟨(Nat.le_of_ble_eq_true rfl), (Nat.le_of_ble_eq_true rfl)⟩) hA hP hD hS [0, 1, 2, 3, 4, 5, 6, 7] rfl (fun H locs hP hS => ?_)
  exact z_iret hx hb hr hlocks hP hS dX8_on_13 rfl rfl (Nat.le_refl _) (Nat.le_refl _)
set_option maxHeartbeats 4000000 in
set_option maxRecDepth 100000 in
theorem c_X8_isBlank (l : Launch) (D : va_G) (k : Nat → ClassId) (a0 : Nat → Nat) (S0 : Nat → Nat → Int) (p0 : Int) (p1 : Int) (hB : zBf (S0 1)) (h0 : 0 ≤ p0 ∧ p0 < 3) (h1 : 0 ≤ p1 ∧ p1 < 5) : zMi l yX8_isBlank wsX8_isBlank ({ frames := 2, cells := 0, slots := 0, locals := 45 } : Room) D k [.ref (a0 0), .int (iI p0), .int (iI p1)] (wRef k a0 S0) (zb (S0 1 (15 + 26 * p0 + (6 + 4 * p1 + 0)).toNat = 1)) (wRef k a0 S0) 0 0 := by
  refine zMi_of (cc := cX8_isBlank) (maxL := 3) (ret := (some .boolean)) (by decide) rfl (Nat.le_of_ble_eq_true rfl) ?_
  intro p e s m args below meth c A ls hx hb hr hml hown hts hlocks hK hP hD hG hA hS hl
  have hown : s.vm.findClass RX8 = some m.cls := hown
  have hl : lv_has ls 3 [(0, .ref (a0 0)), (1, .int (iI p0)), (2, .int (iI p1))] := hl
  obtain ⟨H, hH⟩ : ∃ z, z = s.heap := ⟨_, rfl⟩
  obtain ⟨locs, hlc⟩ : ∃ z : List Loc, z = [] := ⟨_, rfl⟩
  rw [← hH] at hP
  have hS : va_S A s.heap H locs := by rw [hH, hlc]; exact hS
  rw [← hlc, ← hH]
  clear hlc hH
  refine lv_aload_n hx hb dX8_isBlank_0 rfl (lv_at hl 0 rfl) ?_
  refine lv_iload_n hx hb dX8_isBlank_1 rfl (lv_at hl 1 rfl) ?_
  refine lv_iload_n hx hb dX8_isBlank_2 rfl (lv_at hl 2 rfl) ?_
  refine lv_iconst (v := iI 0) hx hb dX8_isBlank_3 rfl ?_
  refine z_ai0 (va_runV (As := [.int (iI p0), .int (iI p1), .int (iI 0)]) (rest := []) ⟨hx, hb, hml, hown, hts⟩ (c_X8_on l D k a0 S0  p0 p1 0 (by omega) (by omega) _) (cwV 3 hts gX8_isBlank_X8_on rfl rfl rfl (by decide +kernel) ⟨(Nat.le_of_ble_eq_true rfl), (Nat.le_of_ble_eq_true rfl)⟩) (z_preV hK hG hA hP hD hS [0, 1, 2, 3, 4, 5, 6, 7] rfl (by decide) 10 rfl rfl) rfl rfl hl.1 rfl (lv_room (Nat.le_of_ble_eq_true rfl)) dX8_isBlank_4 ⟨(Nat.le_of_ble_eq_true rfl), (Nat.le_of_ble_eq_true rfl)⟩) hA hP hD hS [0, 1, 2, 3, 4, 5, 6, 7] rfl (fun H locs hP hS => ?_)
  have f_1 := hB ((((15 + (26 * p0)) + ((6 + (4 * p1)) + 0)).toNat))
  refine lv_iconst (v := iI 1) hx hb dX8_isBlank_7 rfl ?_
  refine zi_icmp_ne (tgt := 15) hx hb dX8_isBlank_8 (by decide) ⟨by omega, by omega⟩ ⟨by omega, by omega⟩ (fun c_2 => ?_) (fun c_2 => ?_)
  · refine lv_iconst (v := iI 0) hx hb dX8_isBlank_15 rfl ?_
    exact z_zret hx hb hr hlocks rfl hP hS dX8_isBlank_16 (zb_neg (by omega)) rfl (Nat.le_refl _) (Nat.le_refl _)
  · refine lv_iconst (v := iI 1) hx hb dX8_isBlank_11 rfl ?_
    refine lv_goto (tgt := 16) hx hb dX8_isBlank_12 (by decide) ?_
    exact z_zret hx hb hr hlocks rfl hP hS dX8_isBlank_16 (zb_pos (by omega)) rfl (Nat.le_refl _) (Nat.le_refl _)
set_option maxHeartbeats 4000000 in
set_option maxRecDepth 100000 in
theorem c_X8_isBelt (l : Launch) (D : va_G) (k : Nat → ClassId)  (p0 : Int) (h0 : -2147483648 ≤ p0 ∧ p0 < 2147483648) : zMi l yX8_isBelt wsX8_isBelt ({ frames := 1, cells := 0, slots := 0, locals := 22 } : Room) D k [.int (iI p0)] (([] : va_W)) (zb (0 ≤ p0 ∧ p0 ≤ 2)) (([] : va_W)) 0 0 := by
  refine zMi_of (cc := cX8_isBelt) (maxL := 1) (ret := (some .boolean)) (by decide) rfl (Nat.le_of_ble_eq_true rfl) ?_
  intro p e s m args below meth c A ls hx hb hr hml hown hts hlocks hK hP hD hG hA hS hl
  have hown : s.vm.findClass RX8 = some m.cls := hown
  have hl : lv_has ls 1 [(0, .int (iI p0))] := hl
  obtain ⟨H, hH⟩ : ∃ z, z = s.heap := ⟨_, rfl⟩
  obtain ⟨locs, hlc⟩ : ∃ z : List Loc, z = [] := ⟨_, rfl⟩
  rw [← hH] at hP
  have hS : va_S A s.heap H locs := by rw [hH, hlc]; exact hS
  rw [← hlc, ← hH]
  clear hlc hH
  refine lv_iload_n hx hb dX8_isBelt_0 rfl (lv_at hl 0 rfl) ?_
  refine lv_iconst (v := iI 0) hx hb dX8_isBelt_1 rfl ?_
  refine lv_iconst (v := iI 2) hx hb dX8_isBelt_2 rfl ?_
  refine z_ai0 (va_runS (As := [.int (iI p0), .int (iI 0), .int (iI 2)]) (rest := []) ⟨hx, hb, hml, hown, hts⟩ (c_X8_in l D k   p0 0 2 (by omega) (by omega) (by omega) _) (va_cwS 3 hts gX8_isBelt_X8_in rfl rfl rfl (by decide +kernel) ⟨(Nat.le_of_ble_eq_true rfl), (Nat.le_of_ble_eq_true rfl)⟩) (z_preS hK hG hA hP hD hS [] rfl (by decide)) rfl rfl hl.1 rfl (lv_room (Nat.le_of_ble_eq_true rfl)) dX8_isBelt_3 ⟨(Nat.le_of_ble_eq_true rfl), (Nat.le_of_ble_eq_true rfl)⟩) hA hP hD hS [] rfl (fun H locs hP hS => ?_)
  exact z_zret hx hb hr hlocks (zb_nar _) hP hS dX8_isBelt_6 rfl rfl (Nat.le_refl _) (Nat.le_refl _)
noncomputable def sp_X8_nextOne_L4 (S0 : Nat → Nat → Int) : Nat → Int → Int → Int
  | 0, _, _ => 0
  | n + 1, x1, x2 => zif ((S0 1 9) ≤ x2)
    (x1)
    (zif (x1 < 0)
      (sp_X8_nextOne_L4 S0 n x2 (x2 + 1))
      (zif ((S0 1 ((11 + x1).toNat)) ≤ (S0 1 ((11 + x2).toNat)))
        (sp_X8_nextOne_L4 S0 n x1 (x2 + 1))
        (sp_X8_nextOne_L4 S0 n x2 (x2 + 1))))
noncomputable def sp_X8_nextOne (S0 : Nat → Nat → Int) : Int := sp_X8_nextOne_L4 S0 5 (-1) 0
set_option maxHeartbeats 4000000 in
set_option maxRecDepth 100000 in
theorem c_X8_nextOne (l : Launch) (D : va_G) (k : Nat → ClassId) (a0 : Nat → Nat) (S0 : Nat → Nat → Int) (hB : zBf (S0 1)) (h0 : 0 ≤ S0 1 9 ∧ S0 1 9 ≤ 4) : zMi l yX8_nextOne wsX8_nextOne ({ frames := 0, cells := 0, slots := 0, locals := 0 } : Room) D k [.ref (a0 0)] (wRef k a0 S0) (sp_X8_nextOne S0) (wRef k a0 S0) 0 0 := by
  refine zMi_of (cc := cX8_nextOne) (maxL := 3) (ret := (some .int)) (by decide) rfl (Nat.le_of_ble_eq_true rfl) ?_
  intro p e s m args below meth c A ls hx hb hr hml hown hts hlocks hK hP hD hG hA hS hl
  have hown : s.vm.findClass RX8 = some m.cls := hown
  have hl : lv_has ls 3 [(0, .ref (a0 0))] := hl
  obtain ⟨H, hH⟩ : ∃ z, z = s.heap := ⟨_, rfl⟩
  obtain ⟨locs, hlc⟩ : ∃ z : List Loc, z = [] := ⟨_, rfl⟩
  rw [← hH] at hP
  have hS : va_S A s.heap H locs := by rw [hH, hlc]; exact hS
  rw [← hlc, ← hH]
  clear hlc hH
  refine lv_iconst (v := iI (-1)) hx hb dX8_nextOne_0 rfl ?_
  refine lv_istore_n (lv' := [(1, .int (iI (-1))), (0, .ref (a0 0))]) hx hb dX8_nextOne_1 rfl hl (by decide) rfl (fun ls hl => ?_)
  refine lv_iconst (v := iI 0) hx hb dX8_nextOne_2 rfl ?_
  refine lv_istore_n (lv' := [(2, .int (iI 0)), (1, .int (iI (-1))), (0, .ref (a0 0))]) hx hb dX8_nextOne_3 rfl hl (by decide) rfl (fun ls hl => ?_)
  have lp4_0 : ∀ (n : Nat) (x1 : Int) (x2 : Int), (S0 1 9 - x2).toNat < n → (0 ≤ x2) → (x2 ≤ S0 1 9) → (-1 ≤ x1 ∧ x1 < 4) → sp_X8_nextOne S0 = sp_X8_nextOne_L4 S0 n x1 x2 → ∀ (H : Heap) (locs : List Loc) (ls : Array Slot), va_P D vwCl (wRef k a0 S0) H → va_D A (wRef k a0 S0) → va_S A s.heap H locs → lv_has ls 3 [(2, .int (iI x2)), (1, .int (iI x1)), (0, .ref (a0 0))] → W p l e ({ frames := 0, cells := 0, slots := 0, locals := 0 } : Room) s m args below meth c H locs 0 0 (MQ below (zQi D A (sp_X8_nextOne S0) (wRef k a0 S0)) args s 0 0 A) (F0 m 4 ls []) := by
    intro n4
    induction n4 with
    | zero => intro x1 x2 hm; exact absurd hm (Nat.not_lt_zero _)
    | succ n4 ih4 =>
      intro x1 x2 hm4 i0 i1 i2 E4_0_r H locs ls hP hD hS hl
      refine lv_iload_n hx hb dX8_nextOne_4 rfl (lv_at hl 0 rfl) ?_
      refine lv_aload_n hx hb dX8_nextOne_5 rfl (lv_at hl 2 rfl) ?_
      refine va_get (D := D) (ci := 10) (v := .ref (a0 1)) (C := RX8) (T := TX8) (N := 19) hx hb hts (fun w h => List.mem_cons_of_mem _ (List.mem_append_left _ (List.mem_append_right _ h))) hown hK hP 0 rfl rfl 0 (by decide) (hts (.fieldLink RX8 7 "MondayFactoryModel" "g" "[I") (List.mem_of_getElem? (i := 1) rfl)) (fun _ h9 => h9) rfl dX8_nextOne_6 ?_
      refine lv_bipush (v := iI 9) hx hb dX8_nextOne_9 (by decide) ?_
      refine z_iald hx hb hK hP 1 0 (f := S0 1) rfl rfl (i := 9) (by omega) (by omega) (by decide) 9 rfl dX8_nextOne_11 ?_
      have f_1 := hB 9
      refine zi_icmp_ge (tgt := 48) hx hb dX8_nextOne_12 (by decide) ⟨by omega, by omega⟩ ⟨by omega, by omega⟩ (fun c_2 => ?_) (fun c_2 => ?_)
      · refine lv_iload_n hx hb dX8_nextOne_48 rfl (lv_at hl 1 rfl) ?_
        exact z_iret hx hb hr hlocks hP hS dX8_nextOne_49 (Eq.trans E4_0_r (Eq.trans (zif_pos c_2) rfl)) rfl (Nat.le_refl _) (Nat.le_refl _)
      · refine lv_iload_n hx hb dX8_nextOne_15 rfl (lv_at hl 1 rfl) ?_
        refine zi_if_lt (tgt := 40) hx hb dX8_nextOne_16 (by decide) ⟨by omega, by omega⟩ (fun c_3 => ?_) (fun c_3 => ?_)
        · refine lv_iload_n hx hb dX8_nextOne_40 rfl (lv_at hl 0 rfl) ?_
          refine lv_istore_n (lv' := [(1, .int (iI x2)), (2, .int (iI x2)), (0, .ref (a0 0))]) hx hb dX8_nextOne_41 rfl hl (by decide) rfl (fun ls hl => ?_)
          refine lv_iinc (v := iI (x2 + 1)) (lv' := [(2, .int (iI (x2 + 1))), (1, .int (iI x2)), (0, .ref (a0 0))]) hx hb dX8_nextOne_42 hl (k := 1) rfl (iI_add _ _) (by decide) rfl (fun ls hl => ?_)
          refine lv_goto (tgt := 4) hx hb dX8_nextOne_45 (by decide) ?_
          exact ih4 x2 (x2 + 1) (by omega) (by omega) (by omega) (by omega) (Eq.trans E4_0_r (Eq.trans (zif_neg c_2) (Eq.trans (zif_pos c_3) rfl))) H locs ls hP hD hS (lv_sub hl [0, 1, 2] rfl)
        · refine lv_aload_n hx hb dX8_nextOne_19 rfl (lv_at hl 2 rfl) ?_
          refine va_get (D := D) (ci := 10) (v := .ref (a0 1)) (C := RX8) (T := TX8) (N := 19) hx hb hts (fun w h => List.mem_cons_of_mem _ (List.mem_append_left _ (List.mem_append_right _ h))) hown hK hP 0 rfl rfl 0 (by decide) (hts (.fieldLink RX8 7 "MondayFactoryModel" "g" "[I") (List.mem_of_getElem? (i := 1) rfl)) (fun _ h9 => h9) rfl dX8_nextOne_20 ?_
          refine lv_bipush (v := iI 11) hx hb dX8_nextOne_23 (by decide) ?_
          refine lv_iload_n hx hb dX8_nextOne_25 rfl (lv_at hl 0 rfl) ?_
          refine zi_add hx hb dX8_nextOne_26 ?_
          refine z_iald hx hb hK hP 1 0 (f := S0 1) rfl rfl (i := 11 + x2) (by omega) (by omega) (by decide) ((11 + x2).toNat) rfl dX8_nextOne_27 ?_
          have f_4 := hB ((11 + x2).toNat)
          refine lv_aload_n hx hb dX8_nextOne_28 rfl (lv_at hl 2 rfl) ?_
          refine va_get (D := D) (ci := 10) (v := .ref (a0 1)) (C := RX8) (T := TX8) (N := 19) hx hb hts (fun w h => List.mem_cons_of_mem _ (List.mem_append_left _ (List.mem_append_right _ h))) hown hK hP 0 rfl rfl 0 (by decide) (hts (.fieldLink RX8 7 "MondayFactoryModel" "g" "[I") (List.mem_of_getElem? (i := 1) rfl)) (fun _ h9 => h9) rfl dX8_nextOne_29 ?_
          refine lv_bipush (v := iI 11) hx hb dX8_nextOne_32 (by decide) ?_
          refine lv_iload_n hx hb dX8_nextOne_34 rfl (lv_at hl 1 rfl) ?_
          refine zi_add hx hb dX8_nextOne_35 ?_
          refine z_iald hx hb hK hP 1 0 (f := S0 1) rfl rfl (i := 11 + x1) (by omega) (by omega) (by decide) ((11 + x1).toNat) rfl dX8_nextOne_36 ?_
          have f_5 := hB ((11 + x1).toNat)
          refine zi_icmp_ge (tgt := 42) hx hb dX8_nextOne_37 (by decide) ⟨by omega, by omega⟩ ⟨by omega, by omega⟩ (fun c_6 => ?_) (fun c_6 => ?_)
          · refine lv_iinc (v := iI (x2 + 1)) (lv' := [(2, .int (iI (x2 + 1))), (1, .int (iI x1)), (0, .ref (a0 0))]) hx hb dX8_nextOne_42 hl (k := 0) rfl (iI_add _ _) (by decide) rfl (fun ls hl => ?_)
            refine lv_goto (tgt := 4) hx hb dX8_nextOne_45 (by decide) ?_
            exact ih4 x1 (x2 + 1) (by omega) (by omega) (by omega) (by omega) (Eq.trans E4_0_r (Eq.trans (zif_neg c_2) (Eq.trans (zif_neg c_3) (Eq.trans (zif_pos c_6) rfl)))) H locs ls hP hD hS (lv_sub hl [0, 1, 2] rfl)
          · refine lv_iload_n hx hb dX8_nextOne_40 rfl (lv_at hl 0 rfl) ?_
            refine lv_istore_n (lv' := [(1, .int (iI x2)), (2, .int (iI x2)), (0, .ref (a0 0))]) hx hb dX8_nextOne_41 rfl hl (by decide) rfl (fun ls hl => ?_)
            refine lv_iinc (v := iI (x2 + 1)) (lv' := [(2, .int (iI (x2 + 1))), (1, .int (iI x2)), (0, .ref (a0 0))]) hx hb dX8_nextOne_42 hl (k := 1) rfl (iI_add _ _) (by decide) rfl (fun ls hl => ?_)
            refine lv_goto (tgt := 4) hx hb dX8_nextOne_45 (by decide) ?_
            exact ih4 x2 (x2 + 1) (by omega) (by omega) (by omega) (by omega) (Eq.trans E4_0_r (Eq.trans (zif_neg c_2) (Eq.trans (zif_neg c_3) (Eq.trans (zif_neg c_6) rfl)))) H locs ls hP hD hS (lv_sub hl [0, 1, 2] rfl)
  exact lp4_0 5 (-1) 0 (by omega) (by omega) (by omega) (by omega) rfl H locs ls hP hD hS (lv_sub hl [0, 1, 2] rfl)
