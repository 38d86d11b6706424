set_option maxHeartbeats 4000000 in
set_option maxRecDepth 100000 in
theorem c_X8_thrown (l : Launch) (D : va_G) (k : Nat → ClassId) (a0 : Nat → Nat) (S0 : Nat → Nat → Int) : zMi l yX8_thrown wsX8_thrown ({ frames := 0, cells := 0, slots := 0, locals := 0 } : Room) D k [.ref (a0 0)] (wRef k a0 S0) (S0 0 8) (wRef k a0 S0) 0 0 := by
  refine zMi_of (cc := cX8_thrown) (maxL := 1) (ret := (some .int)) (by decide) rfl (Nat.le_of_ble_eq_true rfl) ?_
  intro p e s m args below meth c A ls hx hb hr hml hown hts hlocks hK hP hD hG hA hS hl
  have hown : s.vm.findClass RX8 = some m.cls := hown
  have hl : lv_has ls 1 [(0, .ref (a0 0))] := hl
  obtain ⟨H, hH⟩ : ∃ z, z = s.heap := ⟨_, rfl⟩
  obtain ⟨locs, hlc⟩ : ∃ z : List Loc, z = [] := ⟨_, rfl⟩
  rw [← hH] at hP
  have hS : va_S A s.heap H locs := by rw [hH, hlc]; exact hS
  rw [← hlc, ← hH]
  clear hlc hH
  refine lv_aload_n hx hb dX8_thrown_0 rfl (lv_at hl 0 rfl) ?_
  refine va_get (D := D) (ci := 10) (v := .int (iI (S0 0 8))) (C := RX8) (T := TX8) (N := 19) hx hb hts (fun w h => List.mem_cons_of_mem _ (List.mem_append_right _ h)) hown hK hP 0 rfl rfl 8 (by decide) (hts (.fieldLink RX8 40 "MondayFactoryModel" "code" "I") (List.mem_of_getElem? (i := 1) rfl)) (fun _ h9 => h9) rfl dX8_thrown_1 ?_
  exact z_iret hx hb hr hlocks hP hS dX8_thrown_4 rfl rfl (Nat.le_refl _) (Nat.le_refl _)
set_option maxHeartbeats 4000000 in
set_option maxRecDepth 100000 in
theorem c_X8_fails (l : Launch) (D : va_G) (k : Nat → ClassId) (a0 : Nat → Nat) (S0 : Nat → Nat → Int) (p0 : Int) (h0 : -2147483648 ≤ p0 ∧ p0 < 2147483648) : zMi l yX8_fails wsX8_fails ({ frames := 0, cells := 0, slots := 0, locals := 0 } : Room) D k [.ref (a0 0), .int (iI p0)] (wRef k a0 S0) (zb (0 < p0)) (wRef k a0 (upA S0 0 (upZ (upZ (S0 0) 8 p0) 7 0))) 0 0 := by
  refine zMi_of (cc := cX8_fails) (maxL := 2) (ret := (some .boolean)) (by decide) rfl (Nat.le_of_ble_eq_true rfl) ?_
  intro p e s m args below meth c A ls hx hb hr hml hown hts hlocks hK hP hD hG hA hS hl
  have hown : s.vm.findClass RX8 = some m.cls := hown
  have hl : lv_has ls 2 [(0, .ref (a0 0)), (1, .int (iI p0))] := hl
  obtain ⟨H, hH⟩ : ∃ z, z = s.heap := ⟨_, rfl⟩
  obtain ⟨locs, hlc⟩ : ∃ z : List Loc, z = [] := ⟨_, rfl⟩
  rw [← hH] at hP
  have hS : va_S A s.heap H locs := by rw [hH, hlc]; exact hS
  rw [← hlc, ← hH]
  clear hlc hH
  refine lv_aload_n hx hb dX8_fails_0 rfl (lv_at hl 0 rfl) ?_
  refine lv_iload_n hx hb dX8_fails_1 rfl (lv_at hl 1 rfl) ?_
  refine va_put (D := D) (ci := 10) (v := .int (iI p0)) (ty := .int) (C := RX8) (T := TX8) (N := 19) hx hb hts (fun w h => List.mem_cons_of_mem _ (List.mem_append_right _ h)) tyX8 tyX8_ok nmX8 hown hK hP hD hS 0 rfl rfl 8 (by decide) (hts (.fieldLink RX8 40 "MondayFactoryModel" "code" "I") (List.mem_of_getElem? (i := 1) rfl)) (fun _ h9 => h9) rfl (by decide +kernel) rfl rfl (Nat.le_of_ble_eq_true rfl) dX8_fails_2 (fun H locs hP hD hS => ?_)
  have hP : va_P D vwCl (wRef k a0 (up2 S0 0 8 p0)) H := hP
  have hD : va_D A (wRef k a0 (up2 S0 0 8 p0)) := hD
  refine lv_aload_n hx hb dX8_fails_5 rfl (lv_at hl 0 rfl) ?_
  refine lv_iconst (v := iI 0) hx hb dX8_fails_6 rfl ?_
  refine va_put (D := D) (ci := 10) (v := .int (iI 0)) (ty := .boolean) (C := RX8) (T := TX8) (N := 19) hx hb hts (fun w h => List.mem_cons_of_mem _ (List.mem_append_right _ h)) tyX8 tyX8_ok nmX8 hown hK hP hD hS 0 rfl rfl 7 (by decide) (hts (.fieldLink RX8 43 "MondayFactoryModel" "isRefused" "Z") (List.mem_of_getElem? (i := 2) rfl)) (fun _ h9 => h9) rfl (by decide +kernel) rfl rfl (Nat.le_of_ble_eq_true rfl) dX8_fails_7 (fun H locs hP hD hS => ?_)
  have hP : va_P D vwCl (wRef k a0 (up2 (up2 S0 0 8 p0) 0 7 0)) H := hP
  have hD : va_D A (wRef k a0 (up2 (up2 S0 0 8 p0) 0 7 0)) := hD
  refine lv_iload_n hx hb dX8_fails_10 rfl (lv_at hl 1 rfl) ?_
  refine zi_if_le (tgt := 18) hx hb dX8_fails_11 (by decide) ⟨by omega, by omega⟩ (fun c_1 => ?_) (fun c_1 => ?_)
  · refine lv_iconst (v := iI 0) hx hb dX8_fails_18 rfl ?_
    exact z_zret hx hb hr hlocks rfl hP hS dX8_fails_19 (zb_neg (by omega)) (congrArg (fun z => wRef k a0 (upA S0 0 z)) (show upZ (upZ (S0 0) 8 p0) 7 0 = upZ (upZ (S0 0) 8 p0) 7 0 from rfl)) (Nat.le_refl _) (Nat.le_refl _)
  · refine lv_iconst (v := iI 1) hx hb dX8_fails_14 rfl ?_
    refine lv_goto (tgt := 19) hx hb dX8_fails_15 (by decide) ?_
    exact z_zret hx hb hr hlocks rfl hP hS dX8_fails_19 (zb_pos (by omega)) (congrArg (fun z => wRef k a0 (upA S0 0 z)) (show upZ (upZ (S0 0) 8 p0) 7 0 = upZ (upZ (S0 0) 8 p0) 7 0 from rfl)) (Nat.le_refl _) (Nat.le_refl _)
set_option maxHeartbeats 4000000 in
set_option maxRecDepth 100000 in
theorem c_X8_refuses (l : Launch) (D : va_G) (k : Nat → ClassId) (a0 : Nat → Nat) (S0 : Nat → Nat → Int) (p0 : Int) (p1 : Int) (p2 : Int) : zMi l yX8_refuses wsX8_refuses ({ frames := 0, cells := 0, slots := 0, locals := 0 } : Room) D k [.ref (a0 0), .int (iI p0), .int (iI p1), .int (iI p2)] (wRef k a0 S0) (0) (wRef k a0 (up2 (up2 (up2 (up2 S0 0 8 p0) 0 7 1) 0 9 p1) 0 10 p2)) 0 0 := by
  refine zMi_of (cc := cX8_refuses) (maxL := 4) (ret := (some .int)) (by decide) rfl (Nat.le_of_ble_eq_true rfl) ?_
  intro p e s m args below meth c A ls hx hb hr hml hown hts hlocks hK hP hD hG hA hS hl
  have hown : s.vm.findClass RX8 = some m.cls := hown
  have hl : lv_has ls 4 [(0, .ref (a0 0)), (1, .int (iI p0)), (2, .int (iI p1)), (3, .int (iI p2))] := hl
  obtain ⟨H, hH⟩ : ∃ z, z = s.heap := ⟨_, rfl⟩
  obtain ⟨locs, hlc⟩ : ∃ z : List Loc, z = [] := ⟨_, rfl⟩
  rw [← hH] at hP
  have hS : va_S A s.heap H locs := by rw [hH, hlc]; exact hS
  rw [← hlc, ← hH]
  clear hlc hH
  refine lv_aload_n hx hb dX8_refuses_0 rfl (lv_at hl 0 rfl) ?_
  refine lv_iload_n hx hb dX8_refuses_1 rfl (lv_at hl 1 rfl) ?_
  refine va_put (D := D) (ci := 10) (v := .int (iI p0)) (ty := .int) (C := RX8) (T := TX8) (N := 19) hx hb hts (fun w h => List.mem_cons_of_mem _ (List.mem_append_right _ h)) tyX8 tyX8_ok nmX8 hown hK hP hD hS 0 rfl rfl 8 (by decide) (hts (.fieldLink RX8 40 "MondayFactoryModel" "code" "I") (List.mem_of_getElem? (i := 1) rfl)) (fun _ h9 => h9) rfl (by decide +kernel) rfl rfl (Nat.le_of_ble_eq_true rfl) dX8_refuses_2 (fun H locs hP hD hS => ?_)
  have hP : va_P D vwCl (wRef k a0 (up2 S0 0 8 p0)) H := hP
  have hD : va_D A (wRef k a0 (up2 S0 0 8 p0)) := hD
  refine lv_aload_n hx hb dX8_refuses_5 rfl (lv_at hl 0 rfl) ?_
  refine lv_iconst (v := iI 1) hx hb dX8_refuses_6 rfl ?_
  refine va_put (D := D) (ci := 10) (v := .int (iI 1)) (ty := .boolean) (C := RX8) (T := TX8) (N := 19) hx hb hts (fun w h => List.mem_cons_of_mem _ (List.mem_append_right _ h)) tyX8 tyX8_ok nmX8 hown hK hP hD hS 0 rfl rfl 7 (by decide) (hts (.fieldLink RX8 43 "MondayFactoryModel" "isRefused" "Z") (List.mem_of_getElem? (i := 2) rfl)) (fun _ h9 => h9) rfl (by decide +kernel) rfl rfl (Nat.le_of_ble_eq_true rfl) dX8_refuses_7 (fun H locs hP hD hS => ?_)
  have hP : va_P D vwCl (wRef k a0 (up2 (up2 S0 0 8 p0) 0 7 1)) H := hP
  have hD : va_D A (wRef k a0 (up2 (up2 S0 0 8 p0) 0 7 1)) := hD
  refine lv_aload_n hx hb dX8_refuses_10 rfl (lv_at hl 0 rfl) ?_
  refine lv_iload_n hx hb dX8_refuses_11 rfl (lv_at hl 2 rfl) ?_
  refine va_put (D := D) (ci := 10) (v := .int (iI p1)) (ty := .int) (C := RX8) (T := TX8) (N := 19) hx hb hts (fun w h => List.mem_cons_of_mem _ (List.mem_append_right _ h)) tyX8 tyX8_ok nmX8 hown hK hP hD hS 0 rfl rfl 9 (by decide) (hts (.fieldLink RX8 47 "MondayFactoryModel" "why" "I") (List.mem_of_getElem? (i := 3) rfl)) (fun _ h9 => h9) rfl (by decide +kernel) rfl rfl (Nat.le_of_ble_eq_true rfl) dX8_refuses_12 (fun H locs hP hD hS => ?_)
  have hP : va_P D vwCl (wRef k a0 (up2 (up2 (up2 S0 0 8 p0) 0 7 1) 0 9 p1)) H := hP
  have hD : va_D A (wRef k a0 (up2 (up2 (up2 S0 0 8 p0) 0 7 1) 0 9 p1)) := hD
  refine lv_aload_n hx hb dX8_refuses_15 rfl (lv_at hl 0 rfl) ?_
  refine lv_iload_n hx hb dX8_refuses_16 rfl (lv_at hl 3 rfl) ?_
  refine va_put (D := D) (ci := 10) (v := .int (iI p2)) (ty := .int) (C := RX8) (T := TX8) (N := 19) hx hb hts (fun w h => List.mem_cons_of_mem _ (List.mem_append_right _ h)) tyX8 tyX8_ok nmX8 hown hK hP hD hS 0 rfl rfl 10 (by decide) (hts (.fieldLink RX8 50 "MondayFactoryModel" "detail" "I") (List.mem_of_getElem? (i := 4) rfl)) (fun _ h9 => h9) rfl (by decide +kernel) rfl rfl (Nat.le_of_ble_eq_true rfl) dX8_refuses_17 (fun H locs hP hD hS => ?_)
  have hP : va_P D vwCl (wRef k a0 (up2 (up2 (up2 (up2 S0 0 8 p0) 0 7 1) 0 9 p1) 0 10 p2)) H := hP
  have hD : va_D A (wRef k a0 (up2 (up2 (up2 (up2 S0 0 8 p0) 0 7 1) 0 9 p1) 0 10 p2)) := hD
  refine lv_iconst (v := iI 0) hx hb dX8_refuses_20 rfl ?_
  exact z_iret hx hb hr hlocks hP hS dX8_refuses_21 rfl rfl (Nat.le_refl _) (Nat.le_refl _)
set_option maxHeartbeats 4000000 in
set_option maxRecDepth 100000 in
theorem c_X8_in (l : Launch) (D : va_G) (k : Nat → ClassId)  (p0 : Int) (p1 : Int) (p2 : Int) (h0 : -2147483648 ≤ p0 ∧ p0 < 2147483648) (h1 : -2147483648 ≤ p1 ∧ p1 < 2147483648) (h2 : -2147483648 ≤ p2 ∧ p2 < 2147483648) : zMi l yX8_in wsX8_in ({ frames := 0, cells := 0, slots := 0, locals := 0 } : Room) D k [.int (iI p0), .int (iI p1), .int (iI p2)] (([] : va_W)) (zb (p1 ≤ p0 ∧ p0 ≤ p2)) (([] : va_W)) 0 0 := by
  refine zMi_of (cc := cX8_in) (maxL := 3) (ret := (some .boolean)) (by decide) rfl (Nat.le_of_ble_eq_true rfl) ?_
  intro p e s m args below meth c A ls hx hb hr hml hown hts hlocks hK hP hD hG hA hS hl
  have hown : s.vm.findClass RX8 = some m.cls := hown
  have hl : lv_has ls 3 [(0, .int (iI p0)), (1, .int (iI p1)), (2, .int (iI p2))] := hl
  obtain ⟨H, hH⟩ : ∃ z, z = s.heap := ⟨_, rfl⟩
  obtain ⟨locs, hlc⟩ : ∃ z : List Loc, z = [] := ⟨_, rfl⟩
  rw [← hH] at hP
  have hS : va_S A s.heap H locs := by rw [hH, hlc]; exact hS
  rw [← hlc, ← hH]
  clear hlc hH
  refine lv_iload_n hx hb dX8_in_0 rfl (lv_at hl 0 rfl) ?_
  refine lv_iload_n hx hb dX8_in_1 rfl (lv_at hl 1 rfl) ?_
  refine zi_icmp_lt (tgt := 14) hx hb dX8_in_2 (by decide) ⟨by omega, by omega⟩ ⟨by omega, by omega⟩ (fun c_1 => ?_) (fun c_1 => ?_)
  · refine lv_iconst (v := iI 0) hx hb dX8_in_14 rfl ?_
    exact z_zret hx hb hr hlocks rfl hP hS dX8_in_15 (zb_neg (by omega)) rfl (Nat.le_refl _) (Nat.le_refl _)
  · refine lv_iload_n hx hb dX8_in_5 rfl (lv_at hl 0 rfl) ?_
    refine lv_iload_n hx hb dX8_in_6 rfl (lv_at hl 2 rfl) ?_
    refine zi_icmp_gt (tgt := 14) hx hb dX8_in_7 (by decide) ⟨by omega, by omega⟩ ⟨by omega, by omega⟩ (fun c_2 => ?_) (fun c_2 => ?_)
    · refine lv_iconst (v := iI 0) hx hb dX8_in_14 rfl ?_
      exact z_zret hx hb hr hlocks rfl hP hS dX8_in_15 (zb_neg (by omega)) rfl (Nat.le_refl _) (Nat.le_refl _)
    · refine lv_iconst (v := iI 1) hx hb dX8_in_10 rfl ?_
      refine lv_goto (tgt := 15) hx hb dX8_in_11 (by decide) ?_
      exact z_zret hx hb hr hlocks rfl hP hS dX8_in_15 (zb_pos (by omega)) rfl (Nat.le_refl _) (Nat.le_refl _)
set_option maxHeartbeats 4000000 in
set_option maxRecDepth 100000 in
theorem c_X8_within (l : Launch) (D : va_G) (k : Nat → ClassId)  (p0 : Int) (p1 : Int) (p2 : Int) (h0 : -2147483648 ≤ p0 ∧ p0 < 2147483648) (h1 : -2147483648 ≤ p1 ∧ p1 < 2147483648) (h2 : -2147483648 ≤ p2 ∧ p2 < 2147483648) (h3 : p1 ≤ p2) : zMi l yX8_within wsX8_within ({ frames := 0, cells := 0, slots := 0, locals := 0 } : Room) D k [.int (iI p0), .int (iI p1), .int (iI p2)] (([] : va_W)) (max p1 (min p0 p2)) (([] : va_W)) 0 0 := by
  refine zMi_of (cc := cX8_within) (maxL := 3) (ret := (some .int)) (by decide) rfl (Nat.le_of_ble_eq_true rfl) ?_
  intro p e s m args below meth c A ls hx hb hr hml hown hts hlocks hK hP hD hG hA hS hl
  have hown : s.vm.findClass RX8 = some m.cls := hown
  have hl : lv_has ls 3 [(0, .int (iI p0)), (1, .int (iI p1)), (2, .int (iI p2))] := hl
  obtain ⟨H, hH⟩ : ∃ z, z = s.heap := ⟨_, rfl⟩
  obtain ⟨locs, hlc⟩ : ∃ z : List Loc, z = [] := ⟨_, rfl⟩
  rw [← hH] at hP
  have hS : va_S A s.heap H locs := by rw [hH, hlc]; exact hS
  rw [← hlc, ← hH]
  clear hlc hH
  refine lv_iload_n hx hb dX8_within_0 rfl (lv_at hl 0 rfl) ?_
  refine lv_iload_n hx hb dX8_within_1 rfl (lv_at hl 1 rfl) ?_
  refine zi_icmp_ge (tgt := 9) hx hb dX8_within_2 (by decide) ⟨by omega, by omega⟩ ⟨by omega, by omega⟩ (fun c_1 => ?_) (fun c_1 => ?_)
  · refine lv_iload_n hx hb dX8_within_9 rfl (lv_at hl 0 rfl) ?_
    refine lv_iload_n hx hb dX8_within_10 rfl (lv_at hl 2 rfl) ?_
    refine zi_icmp_le (tgt := 18) hx hb dX8_within_11 (by decide) ⟨by omega, by omega⟩ ⟨by omega, by omega⟩ (fun c_2 => ?_) (fun c_2 => ?_)
    · refine lv_iload_n hx hb dX8_within_18 rfl (lv_at hl 0 rfl) ?_
      exact z_iret hx hb hr hlocks hP hS dX8_within_19 (by omega) rfl (Nat.le_refl _) (Nat.le_refl _)
    · refine lv_iload_n hx hb dX8_within_14 rfl (lv_at hl 2 rfl) ?_
      refine lv_goto (tgt := 19) hx hb dX8_within_15 (by decide) ?_
      exact z_iret hx hb hr hlocks hP hS dX8_within_19 (by omega) rfl (Nat.le_refl _) (Nat.le_refl _)
  · refine lv_iload_n hx hb dX8_within_5 rfl (lv_at hl 1 rfl) ?_
    refine lv_goto (tgt := 19) hx hb dX8_within_6 (by decide) ?_
    exact z_iret hx hb hr hlocks hP hS dX8_within_19 (by omega) rfl (Nat.le_refl _) (Nat.le_refl _)
set_option maxHeartbeats 4000000 in
set_option maxRecDepth 100000 in
theorem c_X8_of (l : Launch) (D : va_G) (k : Nat → ClassId) (a0 : Nat → Nat) (S0 : Nat → Nat → Int) (p0 : Int) (p1 : Int) (h0 : 0 ≤ 15 + 26 * p0 + p1) (h1 : 15 + 26 * p0 + p1 < 125) : zMi l yX8_of wsX8_of ({ frames := 0, cells := 0, slots := 0, locals := 0 } : Room) D k [.ref (a0 0), .int (iI p0), .int (iI p1)] (wRef k a0 S0) (S0 1 (((15 + (26 * p0)) + p1).toNat)) (wRef k a0 S0) 0 0 := by
  refine zMi_of (cc := cX8_of) (maxL := 3) (ret := (some .int)) (by decide) rfl (Nat.le_of_ble_eq_true rfl) ?_
  intro p e s m args below meth c A ls hx hb hr hml hown hts hlocks hK hP hD hG hA hS hl
  have hown : s.vm.findClass RX8 = some m.cls := hown
  have hl : lv_has ls 3 [(0, .ref (a0 0)), (1, .int (iI p0)), (2, .int (iI p1))] := hl
  obtain ⟨H, hH⟩ : ∃ z, z = s.heap := ⟨_, rfl⟩
  obtain ⟨locs, hlc⟩ : ∃ z : List Loc, z = [] := ⟨_, rfl⟩
  rw [← hH] at hP
  have hS : va_S A s.heap H locs := by rw [hH, hlc]; exact hS
  rw [← hlc, ← hH]
  clear hlc hH
  refine lv_aload_n hx hb dX8_of_0 rfl (lv_at hl 0 rfl) ?_
  refine va_get (D := D) (ci := 10) (v := .ref (a0 1)) (C := RX8) (T := TX8) (N := 19) hx hb hts (fun w h => List.mem_cons_of_mem _ (List.mem_append_left _ (List.mem_append_right _ h))) hown hK hP 0 rfl rfl 0 (by decide) (hts (.fieldLink RX8 7 "MondayFactoryModel" "g" "[I") (List.mem_of_getElem? (i := 1) rfl)) (fun _ h9 => h9) rfl dX8_of_1 ?_
  refine lv_bipush (v := iI 15) hx hb dX8_of_4 (by decide) ?_
  refine lv_bipush (v := iI 26) hx hb dX8_of_6 (by decide) ?_
  refine lv_iload_n hx hb dX8_of_8 rfl (lv_at hl 1 rfl) ?_
  refine zi_mul hx hb dX8_of_9 ?_
  refine zi_add hx hb dX8_of_10 ?_
  refine lv_iload_n hx hb dX8_of_11 rfl (lv_at hl 2 rfl) ?_
  refine zi_add hx hb dX8_of_12 ?_
  refine z_iald hx hb hK hP 1 0 (f := S0 1) rfl rfl (i := (15 + (26 * p0)) + p1) (by omega) (by omega) (by decide) (((15 + (26 * p0)) + p1).toNat) rfl dX8_of_13 ?_
  exact z_iret hx hb hr hlocks hP hS dX8_of_14 rfl rfl (Nat.le_refl _) (Nat.le_refl _)
set_option maxHeartbeats 4000000 in
set_option maxRecDepth 100000 in
theorem c_X8_lays (l : Launch) (D : va_G) (k : Nat → ClassId) (a0 : Nat → Nat) (S0 : Nat → Nat → Int) (p0 : Int) (p1 : Int) (p2 : Int) (h0 : 0 ≤ 15 + 26 * p0 + p1) (h1 : 15 + 26 * p0 + p1 < 125) : zMv l yX8_lays wsX8_lays ({ frames := 0, cells := 0, slots := 0, locals := 0 } : Room) D k [.ref (a0 0), .int (iI p0), .int (iI p1), .int (iI p2)] (wRef k a0 S0) (wRef k a0 (up2 S0 1 (((15 + (26 * p0)) + p1).toNat) p2)) 0 0 := by
  refine zMv_of (cc := cX8_lays) (maxL := 4) (ret := none) (by decide) rfl (Nat.le_of_ble_eq_true rfl) ?_
  intro p e s m args below meth c A ls hx hb hr hml hown hts hlocks hK hP hD hG hA hS hl
  have hown : s.vm.findClass RX8 = some m.cls := hown
  have hl : lv_has ls 4 [(0, .ref (a0 0)), (1, .int (iI p0)), (2, .int (iI p1)), (3, .int (iI p2))] := hl
  obtain ⟨H, hH⟩ : ∃ z, z = s.heap := ⟨_, rfl⟩
  obtain ⟨locs, hlc⟩ : ∃ z : List Loc, z = [] := ⟨_, rfl⟩
  rw [← hH] at hP
  have hS : va_S A s.heap H locs := by rw [hH, hlc]; exact hS
  rw [← hlc, ← hH]
  clear hlc hH
  refine lv_aload_n hx hb dX8_lays_0 rfl (lv_at hl 0 rfl) ?_
  refine va_get (D := D) (ci := 10) (v := .ref (a0 1)) (C := RX8) (T := TX8) (N := 19) hx hb hts (fun w h => List.mem_cons_of_mem _ (List.mem_append_left _ (List.mem_append_right _ h))) hown hK hP 0 rfl rfl 0 (by decide) (hts (.fieldLink RX8 7 "MondayFactoryModel" "g" "[I") (List.mem_of_getElem? (i := 1) rfl)) (fun _ h9 => h9) rfl dX8_lays_1 ?_
  refine lv_bipush (v := iI 15) hx hb dX8_lays_4 (by decide) ?_
  refine lv_bipush (v := iI 26) hx hb dX8_lays_6 (by decide) ?_
  refine lv_iload_n hx hb dX8_lays_8 rfl (lv_at hl 1 rfl) ?_
  refine zi_mul hx hb dX8_lays_9 ?_
  refine zi_add hx hb dX8_lays_10 ?_
  refine lv_iload_n hx hb dX8_lays_11 rfl (lv_at hl 2 rfl) ?_
  refine zi_add hx hb dX8_lays_12 ?_
  refine lv_iload_n hx hb dX8_lays_13 rfl (lv_at hl 3 rfl) ?_
  refine z_iast hx hb hK hP hD hS 1 0 (f := S0 1) rfl rfl (i := (15 + (26 * p0)) + p1) (by omega) (by omega) (by decide) (((15 + (26 * p0)) + p1).toNat) rfl dX8_lays_14 (fun H locs hP hD hS => ?_)
  have hP : va_P D vwCl (wRef k a0 (up2 S0 1 (((15 + (26 * p0)) + p1).toNat) p2)) H := hP
  have hD : va_D A (wRef k a0 (up2 S0 1 (((15 + (26 * p0)) + p1).toNat) p2)) := hD
  exact z_vret hx hb hr hlocks hP hS dX8_lays_15 rfl (Nat.le_refl _) (Nat.le_refl _)
set_option maxHeartbeats 4000000 in
set_option maxRecDepth 100000 in
theorem c_X8_on (l : Launch) (D : va_G) (k : Nat → ClassId) (a0 : Nat → Nat) (S0 : Nat → Nat → Int) (p0 : Int) (p1 : Int) (p2 : Int) (h0 : 0 ≤ 15 + 26 * p0 + (6 + 4 * p1 + p2)) (h1 : 15 + 26 * p0 + (6 + 4 * p1 + p2) < 125) : zMi l yX8_on wsX8_on ({ frames := 1, cells := 0, slots := 0, locals := 22 } : Room) D k [.ref (a0 0), .int (iI p0), .int (iI p1), .int (iI p2)] (wRef k a0 S0) (S0 1 (((15 + (26 * p0)) + ((6 + (4 * p1)) + p2)).toNat)) (wRef k a0 S0) 0 0 := by
  refine zMi_of (cc := cX8_on) (maxL := 4) (ret := (some .int)) (by decide) rfl (Nat.le_of_ble_eq_true rfl) ?_
  intro p e s m args below meth c A ls hx hb hr hml hown hts hlocks hK hP hD hG hA hS hl
  have hown : s.vm.findClass RX8 = some m.cls := hown
  have hl : lv_has ls 4 [(0, .ref (a0 0)), (1, .int (iI p0)), (2, .int (iI p1)), (3, .int (iI p2))] := hl
  obtain ⟨H, hH⟩ : ∃ z, z = s.heap := ⟨_, rfl⟩
  obtain ⟨locs, hlc⟩ : ∃ z : List Loc, z = [] := ⟨_, rfl⟩
  rw [← hH] at hP
  have hS : va_S A s.heap H locs := by rw [hH, hlc]; exact hS
  rw [← hlc, ← hH]
  clear hlc hH
  refine lv_aload_n hx hb dX8_on_0 rfl (lv_at hl 0 rfl) ?_
  refine lv_iload_n hx hb dX8_on_1 rfl (lv_at hl 1 rfl) ?_
  refine lv_bipush (v := iI 6) hx hb dX8_on_2 (by decide) ?_
  refine lv_iconst (v := iI 4) hx hb dX8_on_4 rfl ?_
  refine lv_iload_n hx hb dX8_on_5 rfl (lv_at hl 2 rfl) ?_
  refine zi_mul hx hb dX8_on_6 ?_
  refine zi_add hx hb dX8_on_7 ?_
  refine lv_iload_n hx hb dX8_on_8 rfl (lv_at hl 3 rfl) ?_
  refine zi_add hx hb dX8_on_9 ?_
  refine z_ai0 (va_runV (As := [.int (iI p0), .int (iI ((6 + (4 * p1)) + p2))]) (rest := []) ⟨hx, hb, hml, hown, hts⟩ (c_X8_of l D k a0 S0  p0 ((6 + (4 * p1)) + p2) (by omega) (by omega) _) (cwV 2 hts gX8_on_X8_of rfl rfl rfl (by decide +kernel) ⟨(Nat.le_of_ble_eq_true rfl), (Nat.le_of_ble_eq_true rfl)⟩) (z_preV hK hG hA hP hD hS [0, 1, 2, 3, 4, 5, 6, 7] rfl (by decide) 10 rfl rfl) rfl rfl hl.1 rfl (lv_room (Nat.le_of_ble_eq_true rfl)) dX8_on_10 ⟨(Nat.le_of_ble_eq_true rfl), (Nat.le_of_ble_eq_true rfl)⟩) hA hP hD hS [0, 1, 2, 3, 4, 5, 6, 7] rfl (fun H locs hP hS => ?_)
  exact z_iret hx hb hr hlocks hP hS dX8_on_13 rfl rfl (Nat.le_refl _) (Nat.le_refl _)
set_option maxHeartbeats 4000000 in
set_option maxRecDepth 100000 in
theorem c_X8_isBlank (l : Launch) (D : va_G) (k : Nat → ClassId) (a0 : Nat → Nat) (S0 : Nat → Nat → Int) (p0 : Int) (p1 : Int) (hB : zBf (S0 1)) (h0 : 0 ≤ p0 ∧ p0 < 3) (h1 : 0 ≤ p1 ∧ p1 < 5) : zMi l yX8_isBlank wsX8_isBlank ({ frames := 2, cells := 0, slots := 0, locals := 45 } : Room) D k [.ref (a0 0), .int (iI p0), .int (iI p1)] (wRef k a0 S0) (zb (S0 1 (15 + 26 * p0 + (6 + 4 * p1 + 0)).toNat = 1)) (wRef k a0 S0) 0 0 := by
  refine zMi_of (cc := cX8_isBlank) (maxL := 3) (ret := (some .boolean)) (by decide) rfl (Nat.le_of_ble_eq_true rfl) ?_
  intro p e s m args below meth c A ls hx hb hr hml hown hts hlocks hK hP hD hG hA hS hl
  have hown : s.vm.findClass RX8 = some m.cls := hown
  have hl : lv_has ls 3 [(0, .ref (a0 0)), (1, .int (iI p0)), (2, .int (iI p1))] := hl
  obtain ⟨H, hH⟩ : ∃ z, z = s.heap := ⟨_, rfl⟩
  obtain ⟨locs, hlc⟩ : ∃ z : List Loc, z = [] := ⟨_, rfl⟩
  rw [← hH] at hP
  have hS : va_S A s.heap H locs := by rw [hH, hlc]; exact hS
  rw [← hlc, ← hH]
  clear hlc hH
  refine lv_aload_n hx hb dX8_isBlank_0 rfl (lv_at hl 0 rfl) ?_
  refine lv_iload_n hx hb dX8_isBlank_1 rfl (lv_at hl 1 rfl) ?_
  refine lv_iload_n hx hb dX8_isBlank_2 rfl (lv_at hl 2 rfl) ?_
  refine lv_iconst (v := iI 0) hx hb dX8_isBlank_3 rfl ?_
  refine z_ai0 (va_runV (As := [.int (iI p0), .int (iI p1), .int (iI 0)]) (rest := []) ⟨hx, hb, hml, hown, hts⟩ (c_X8_on l D k a0 S0  p0 p1 0 (by omega) (by omega) _) (cwV 3 hts gX8_isBlank_X8_on rfl rfl rfl (by decide +kernel) ⟨(Nat.le_of_ble_eq_true rfl), (Nat.le_of_ble_eq_true rfl)⟩) (z_preV hK hG hA hP hD hS [0, 1, 2, 3, 4, 5, 6, 7] rfl (by decide) 10 rfl rfl) rfl rfl hl.1 rfl (lv_room (Nat.le_of_ble_eq_true rfl)) dX8_isBlank_4 ⟨(Nat.le_of_ble_eq_true rfl), (Nat.le_of_ble_eq_true rfl)⟩) hA hP hD hS [0, 1, 2, 3, 4, 5, 6, 7] rfl (fun H locs hP hS => ?_)
  have f_1 := hB (((15 + (26 * p0)) + ((6 + (4 * p1)) + 0)).toNat)
  refine lv_iconst (v := iI 1) hx hb dX8_isBlank_7 rfl ?_
  refine zi_icmp_ne (tgt := 15) hx hb dX8_isBlank_8 (by decide) ⟨by omega, by omega⟩ ⟨by omega, by omega⟩ (fun c_2 => ?_) (fun c_2 => ?_)
  · refine lv_iconst (v := iI 0) hx hb dX8_isBlank_15 rfl ?_
    exact z_zret hx hb hr hlocks rfl hP hS dX8_isBlank_16 (zb_neg (by omega)) rfl (Nat.le_refl _) (Nat.le_refl _)
  · refine lv_iconst (v := iI 1) hx hb dX8_isBlank_11 rfl ?_
    refine lv_goto (tgt := 16) hx hb dX8_isBlank_12 (by decide) ?_
    exact z_zret hx hb hr hlocks rfl hP hS dX8_isBlank_16 (zb_pos (by omega)) rfl (Nat.le_refl _) (Nat.le_refl _)
set_option maxHeartbeats 4000000 in
set_option maxRecDepth 100000 in
theorem c_X8_isBelt (l : Launch) (D : va_G) (k : Nat → ClassId)  (p0 : Int) (h0 : -2147483648 ≤ p0 ∧ p0 < 2147483648) : zMi l yX8_isBelt wsX8_isBelt ({ frames := 1, cells := 0, slots := 0, locals := 22 } : Room) D k [.int (iI p0)] (([] : va_W)) (zb (0 ≤ p0 ∧ p0 ≤ 2)) (([] : va_W)) 0 0 := by
  refine zMi_of (cc := cX8_isBelt) (maxL := 1) (ret := (some .boolean)) (by decide) rfl (Nat.le_of_ble_eq_true rfl) ?_
  intro p e s m args below meth c A ls hx hb hr hml hown hts hlocks hK hP hD hG hA hS hl
  have hown : s.vm.findClass RX8 = some m.cls := hown
  have hl : lv_has ls 1 [(0, .int (iI p0))] := hl
  obtain ⟨H, hH⟩ : ∃ z, z = s.heap := ⟨_, rfl⟩
  obtain ⟨locs, hlc⟩ : ∃ z : List Loc, z = [] := ⟨_, rfl⟩
  rw [← hH] at hP
  have hS : va_S A s.heap H locs := by rw [hH, hlc]; exact hS
  rw [← hlc, ← hH]
  clear hlc hH
  refine lv_iload_n hx hb dX8_isBelt_0 rfl (lv_at hl 0 rfl) ?_
  refine lv_iconst (v := iI 0) hx hb dX8_isBelt_1 rfl ?_
  refine lv_iconst (v := iI 2) hx hb dX8_isBelt_2 rfl ?_
  refine z_ai0 (va_runS (As := [.int (iI p0), .int (iI 0), .int (iI 2)]) (rest := []) ⟨hx, hb, hml, hown, hts⟩ (c_X8_in l D k   p0 0 2 (by omega) (by omega) (by omega) _) (va_cwS 3 hts gX8_isBelt_X8_in rfl rfl rfl (by decide +kernel) ⟨(Nat.le_of_ble_eq_true rfl), (Nat.le_of_ble_eq_true rfl)⟩) (z_preS hK hG hA hP hD hS [] rfl (by decide)) rfl rfl hl.1 rfl (lv_room (Nat.le_of_ble_eq_true rfl)) dX8_isBelt_3 ⟨(Nat.le_of_ble_eq_true rfl), (Nat.le_of_ble_eq_true rfl)⟩) hA hP hD hS [] rfl (fun H locs hP hS => ?_)
  exact z_zret hx hb hr hlocks (zb_nar _) hP hS dX8_isBelt_6 rfl rfl (Nat.le_refl _) (Nat.le_refl _)
noncomputable def sp_X8_nextOne_L4 (S0 : Nat → Nat → Int) : Nat → Int → Int → Int
  | 0, _, _ => 0
  | n + 1, x1, x2 => zif ((S0 1 9) ≤ x2)
    (x1)
    (zif (x1 < 0)
      (sp_X8_nextOne_L4 S0 n x2 (x2 + 1))
      (zif ((S0 1 ((11 + x1).toNat)) ≤ (S0 1 ((11 + x2).toNat)))
        (sp_X8_nextOne_L4 S0 n x1 (x2 + 1))
        (sp_X8_nextOne_L4 S0 n x2 (x2 + 1))))
noncomputable def sp_X8_nextOne (S0 : Nat → Nat → Int) : Int := sp_X8_nextOne_L4 S0 5 (-1) 0
set_option maxHeartbeats 4000000 in
set_option maxRecDepth 100000 in
theorem c_X8_nextOne (l : Launch) (D : va_G) (k : Nat → ClassId) (a0 : Nat → Nat) (S0 : Nat → Nat → Int) (hB : zBf (S0 1)) (h0 : 0 ≤ S0 1 9 ∧ S0 1 9 ≤ 4) : zMi l yX8_nextOne wsX8_nextOne ({ frames := 0, cells := 0, slots := 0, locals := 0 } : Room) D k [.ref (a0 0)] (wRef k a0 S0) (sp_X8_nextOne S0) (wRef k a0 S0) 0 0 := by
  refine zMi_of (cc := cX8_nextOne) (maxL := 3) (ret := (some .int)) (by decide) rfl (Nat.le_of_ble_eq_true rfl) ?_
  intro p e s m args below meth c A ls hx hb hr hml hown hts hlocks hK hP hD hG hA hS hl
  have hown : s.vm.findClass RX8 = some m.cls := hown
  have hl : lv_has ls 3 [(0, .ref (a0 0))] := hl
  obtain ⟨H, hH⟩ : ∃ z, z = s.heap := ⟨_, rfl⟩
  obtain ⟨locs, hlc⟩ : ∃ z : List Loc, z = [] := ⟨_, rfl⟩
  rw [← hH] at hP
  have hS : va_S A s.heap H locs := by rw [hH, hlc]; exact hS
  rw [← hlc, ← hH]
  clear hlc hH
  refine lv_iconst (v := iI (-1)) hx hb dX8_nextOne_0 rfl ?_
  refine lv_istore_n (lv' := [(1, .int (iI (-1))), (0, .ref (a0 0))]) hx hb dX8_nextOne_1 rfl hl (by decide) rfl (fun ls hl => ?_)
  refine lv_iconst (v := iI 0) hx hb dX8_nextOne_2 rfl ?_
  refine lv_istore_n (lv' := [(2, .int (iI 0)), (1, .int (iI (-1))), (0, .ref (a0 0))]) hx hb dX8_nextOne_3 rfl hl (by decide) rfl (fun ls hl => ?_)
  have lp4_0 : ∀ (n : Nat) (x1 : Int) (x2 : Int), (S0 1 9 - x2).toNat < n → (0 ≤ x2) → (x2 ≤ S0 1 9) → (-1 ≤ x1 ∧ x1 < 4) → sp_X8_nextOne S0 = sp_X8_nextOne_L4 S0 n x1 x2 → ∀ (H : Heap) (locs : List Loc) (ls : Array Slot), va_P D vwCl (wRef k a0 S0) H → va_D A (wRef k a0 S0) → va_S A s.heap H locs → lv_has ls 3 [(2, .int (iI x2)), (1, .int (iI x1)), (0, .ref (a0 0))] → W p l e ({ frames := 0, cells := 0, slots := 0, locals := 0 } : Room) s m args below meth c H locs 0 0 (MQ below (zQi D A (sp_X8_nextOne S0) (wRef k a0 S0)) args s 0 0 A) (F0 m 4 ls []) := by
    intro n4
    induction n4 with
    | zero => intro x1 x2 hm; exact absurd hm (Nat.not_lt_zero _)
    | succ n4 ih4 =>
      intro x1 x2 hm4 i0 i1 i2 E4_0_r H locs ls hP hD hS hl
      refine lv_iload_n hx hb dX8_nextOne_4 rfl (lv_at hl 0 rfl) ?_
      refine lv_aload_n hx hb dX8_nextOne_5 rfl (lv_at hl 2 rfl) ?_
      refine va_get (D := D) (ci := 10) (v := .ref (a0 1)) (C := RX8) (T := TX8) (N := 19) hx hb hts (fun w h => List.mem_cons_of_mem _ (List.mem_append_left _ (List.mem_append_right _ h))) hown hK hP 0 rfl rfl 0 (by decide) (hts (.fieldLink RX8 7 "MondayFactoryModel" "g" "[I") (List.mem_of_getElem? (i := 1) rfl)) (fun _ h9 => h9) rfl dX8_nextOne_6 ?_
      refine lv_bipush (v := iI 9) hx hb dX8_nextOne_9 (by decide) ?_
      refine z_iald hx hb hK hP 1 0 (f := S0 1) rfl rfl (i := 9) (by omega) (by omega) (by decide) 9 rfl dX8_nextOne_11 ?_
      have f_1 := hB 9
      refine zi_icmp_ge (tgt := 48) hx hb dX8_nextOne_12 (by decide) ⟨by omega, by omega⟩ ⟨by omega, by omega⟩ (fun c_2 => ?_) (fun c_2 => ?_)
      · refine lv_iload_n hx hb dX8_nextOne_48 rfl (lv_at hl 1 rfl) ?_
        exact z_iret hx hb hr hlocks hP hS dX8_nextOne_49 (Eq.trans E4_0_r (Eq.trans (zif_pos c_2) rfl)) rfl (Nat.le_refl _) (Nat.le_refl _)
      · refine lv_iload_n hx hb dX8_nextOne_15 rfl (lv_at hl 1 rfl) ?_
        refine zi_if_lt (tgt := 40) hx hb dX8_nextOne_16 (by decide) ⟨by omega, by omega⟩ (fun c_3 => ?_) (fun c_3 => ?_)
        · refine lv_iload_n hx hb dX8_nextOne_40 rfl (lv_at hl 0 rfl) ?_
          refine lv_istore_n (lv' := [(1, .int (iI x2)), (2, .int (iI x2)), (0, .ref (a0 0))]) hx hb dX8_nextOne_41 rfl hl (by decide) rfl (fun ls hl => ?_)
          refine lv_iinc (v := iI (x2 + 1)) (lv' := [(2, .int (iI (x2 + 1))), (1, .int (iI x2)), (0, .ref (a0 0))]) hx hb dX8_nextOne_42 hl (k := 1) rfl (iI_add _ _) (by decide) rfl (fun ls hl => ?_)
          refine lv_goto (tgt := 4) hx hb dX8_nextOne_45 (by decide) ?_
          exact ih4 x2 (x2 + 1) (by omega) (by omega) (by omega) (by omega) (Eq.trans E4_0_r (Eq.trans (zif_neg c_2) (Eq.trans (zif_pos c_3) rfl))) H locs ls hP hD hS (lv_sub hl [0, 1, 2] rfl)
        · refine lv_aload_n hx hb dX8_nextOne_19 rfl (lv_at hl 2 rfl) ?_
          refine va_get (D := D) (ci := 10) (v := .ref (a0 1)) (C := RX8) (T := TX8) (N := 19) hx hb hts (fun w h => List.mem_cons_of_mem _ (List.mem_append_left _ (List.mem_append_right _ h))) hown hK hP 0 rfl rfl 0 (by decide) (hts (.fieldLink RX8 7 "MondayFactoryModel" "g" "[I") (List.mem_of_getElem? (i := 1) rfl)) (fun _ h9 => h9) rfl dX8_nextOne_20 ?_
          refine lv_bipush (v := iI 11) hx hb dX8_nextOne_23 (by decide) ?_
          refine lv_iload_n hx hb dX8_nextOne_25 rfl (lv_at hl 0 rfl) ?_
          refine zi_add hx hb dX8_nextOne_26 ?_
          refine z_iald hx hb hK hP 1 0 (f := S0 1) rfl rfl (i := 11 + x2) (by omega) (by omega) (by decide) ((11 + x2).toNat) rfl dX8_nextOne_27 ?_
          have f_4 := hB ((11 + x2).toNat)
          refine lv_aload_n hx hb dX8_nextOne_28 rfl (lv_at hl 2 rfl) ?_
          refine va_get (D := D) (ci := 10) (v := .ref (a0 1)) (C := RX8) (T := TX8) (N := 19) hx hb hts (fun w h => List.mem_cons_of_mem _ (List.mem_append_left _ (List.mem_append_right _ h))) hown hK hP 0 rfl rfl 0 (by decide) (hts (.fieldLink RX8 7 "MondayFactoryModel" "g" "[I") (List.mem_of_getElem? (i := 1) rfl)) (fun _ h9 => h9) rfl dX8_nextOne_29 ?_
          refine lv_bipush (v := iI 11) hx hb dX8_nextOne_32 (by decide) ?_
          refine lv_iload_n hx hb dX8_nextOne_34 rfl (lv_at hl 1 rfl) ?_
          refine zi_add hx hb dX8_nextOne_35 ?_
          refine z_iald hx hb hK hP 1 0 (f := S0 1) rfl rfl (i := 11 + x1) (by omega) (by omega) (by decide) ((11 + x1).toNat) rfl dX8_nextOne_36 ?_
          have f_5 := hB ((11 + x1).toNat)
          refine zi_icmp_ge (tgt := 42) hx hb dX8_nextOne_37 (by decide) ⟨by omega, by omega⟩ ⟨by omega, by omega⟩ (fun c_6 => ?_) (fun c_6 => ?_)
          · refine lv_iinc (v := iI (x2 + 1)) (lv' := [(2, .int (iI (x2 + 1))), (1, .int (iI x1)), (0, .ref (a0 0))]) hx hb dX8_nextOne_42 hl (k := 0) rfl (iI_add _ _) (by decide) rfl (fun ls hl => ?_)
            refine lv_goto (tgt := 4) hx hb dX8_nextOne_45 (by decide) ?_
            exact ih4 x1 (x2 + 1) (by omega) (by omega) (by omega) (by omega) (Eq.trans E4_0_r (Eq.trans (zif_neg c_2) (Eq.trans (zif_neg c_3) (Eq.trans (zif_pos c_6) rfl)))) H locs ls hP hD hS (lv_sub hl [0, 1, 2] rfl)
          · refine lv_iload_n hx hb dX8_nextOne_40 rfl (lv_at hl 0 rfl) ?_
            refine lv_istore_n (lv' := [(1, .int (iI x2)), (2, .int (iI x2)), (0, .ref (a0 0))]) hx hb dX8_nextOne_41 rfl hl (by decide) rfl (fun ls hl => ?_)
            refine lv_iinc (v := iI (x2 + 1)) (lv' := [(2, .int (iI (x2 + 1))), (1, .int (iI x2)), (0, .ref (a0 0))]) hx hb dX8_nextOne_42 hl (k := 1) rfl (iI_add _ _) (by decide) rfl (fun ls hl => ?_)
            refine lv_goto (tgt := 4) hx hb dX8_nextOne_45 (by decide) ?_
            exact ih4 x2 (x2 + 1) (by omega) (by omega) (by omega) (by omega) (Eq.trans E4_0_r (Eq.trans (zif_neg c_2) (Eq.trans (zif_neg c_3) (Eq.trans (zif_neg c_6) rfl)))) H locs ls hP hD hS (lv_sub hl [0, 1, 2] rfl)
  exact lp4_0 5 (-1) 0 (by omega) (by omega) (by omega) (by omega) rfl H locs ls hP hD hS (lv_sub hl [0, 1, 2] rfl)
theorem nextOneL_rng (S0 : Nat → Nat → Int) (h0 : 1 ≤ S0 1 9 ∧ S0 1 9 ≤ 4) : ∀ (n : Nat) (x1 x2 : Int), (S0 1 9 - x2).toNat < n → 0 ≤ x2 → x2 ≤ S0 1 9 → x1 < S0 1 9 → (0 ≤ x1 ∨ x1 = -1 ∧ x2 < S0 1 9) → 0 ≤ sp_X8_nextOne_L4 S0 n x1 x2 ∧ sp_X8_nextOne_L4 S0 n x1 x2 < S0 1 9 := by
  intro n
  induction n with
  | zero => intro x1 x2 h; exact absurd h (Nat.not_lt_zero _)
  | succ n ih =>
    intro x1 x2 hm h2 h3 h4 h5
    unfold sp_X8_nextOne_L4
    rcases Classical.em (S0 1 9 ≤ x2) with c | c
    · rw [zif_pos c]; omega
    · rw [zif_neg c]
      rcases Classical.em (x1 < 0) with d | d
      · rw [zif_pos d]; exact ih x2 (x2 + 1) (by omega) (by omega) (by omega) (by omega) (by omega)
      · rw [zif_neg d]
        rcases Classical.em (S0 1 ((11 + x1).toNat) ≤ S0 1 ((11 + x2).toNat)) with f | f
        · rw [zif_pos f]; exact ih x1 (x2 + 1) (by omega) (by omega) (by omega) (by omega) (by omega)
        · rw [zif_neg f]; exact ih x2 (x2 + 1) (by omega) (by omega) (by omega) (by omega) (by omega)
theorem nextOne_rng (S0 : Nat → Nat → Int) (h0 : 1 ≤ S0 1 9 ∧ S0 1 9 ≤ 4) : 0 ≤ sp_X8_nextOne S0 ∧ sp_X8_nextOne S0 < S0 1 9 :=
  nextOneL_rng S0 h0 5 (-1) 0 (by omega) (by omega) (by omega) (by omega) (by omega)

noncomputable def sp_X8_tests (p0 : Int) : Int := zif (p0 = 9)
  (1)
  (zif (p0 ≤ 5)
    (3)
    (2))
set_option maxHeartbeats 4000000 in
set_option maxRecDepth 100000 in
theorem c_X8_tests (l : Launch) (D : va_G) (k : Nat → ClassId)  (p0 : Int) (h0 : -2147483648 ≤ p0 ∧ p0 < 2147483648) : zMi l yX8_tests wsX8_tests ({ frames := 0, cells := 0, slots := 0, locals := 0 } : Room) D k [.int (iI p0)] (([] : va_W)) (sp_X8_tests p0) (([] : va_W)) 0 0 := by
  refine zMi_of (cc := cX8_tests) (maxL := 1) (ret := (some .int)) (by decide) rfl (Nat.le_of_ble_eq_true rfl) ?_
  intro p e s m args below meth c A ls hx hb hr hml hown hts hlocks hK hP hD hG hA hS hl
  have hown : s.vm.findClass RX8 = some m.cls := hown
  have hl : lv_has ls 1 [(0, .int (iI p0))] := hl
  obtain ⟨H, hH⟩ : ∃ z, z = s.heap := ⟨_, rfl⟩
  obtain ⟨locs, hlc⟩ : ∃ z : List Loc, z = [] := ⟨_, rfl⟩
  rw [← hH] at hP
  have hS : va_S A s.heap H locs := by rw [hH, hlc]; exact hS
  rw [← hlc, ← hH]
  clear hlc hH
  refine lv_iload_n hx hb dX8_tests_0 rfl (lv_at hl 0 rfl) ?_
  refine lv_bipush (v := iI 9) hx hb dX8_tests_1 (by decide) ?_
  refine zi_icmp_ne (tgt := 10) hx hb dX8_tests_3 (by decide) ⟨by omega, by omega⟩ ⟨by omega, by omega⟩ (fun c_1 => ?_) (fun c_1 => ?_)
  · refine lv_iload_n hx hb dX8_tests_10 rfl (lv_at hl 0 rfl) ?_
    refine lv_iconst (v := iI 5) hx hb dX8_tests_11 rfl ?_
    refine zi_icmp_le (tgt := 19) hx hb dX8_tests_12 (by decide) ⟨by omega, by omega⟩ ⟨by omega, by omega⟩ (fun c_2 => ?_) (fun c_2 => ?_)
    · refine lv_iconst (v := iI 3) hx hb dX8_tests_19 rfl ?_
      exact z_iret hx hb hr hlocks hP hS dX8_tests_20 (Eq.trans (zif_neg c_1) (Eq.trans (zif_pos c_2) rfl)) rfl (Nat.le_refl _) (Nat.le_refl _)
    · refine lv_iconst (v := iI 2) hx hb dX8_tests_15 rfl ?_
      refine lv_goto (tgt := 20) hx hb dX8_tests_16 (by decide) ?_
      exact z_iret hx hb hr hlocks hP hS dX8_tests_20 (Eq.trans (zif_neg c_1) (Eq.trans (zif_neg c_2) rfl)) rfl (Nat.le_refl _) (Nat.le_refl _)
  · refine lv_iconst (v := iI 1) hx hb dX8_tests_6 rfl ?_
    refine lv_goto (tgt := 20) hx hb dX8_tests_7 (by decide) ?_
    exact z_iret hx hb hr hlocks hP hS dX8_tests_20 (Eq.trans (zif_pos c_1) rfl) rfl (Nat.le_refl _) (Nat.le_refl _)
theorem tests_rng (p0 : Int) : 1 ≤ sp_X8_tests p0 ∧ sp_X8_tests p0 ≤ 3 := by
  unfold sp_X8_tests
  by_cases h : p0 = 9
  · rw [zif_pos h]; decide
  · rw [zif_neg h]
    by_cases h2 : 5 < p0
    · first | (rw [zif_pos h2]; decide) | (rw [zif_neg (by omega)]; decide)
    · first | (rw [zif_neg h2]; decide) | (rw [zif_pos (by omega)]; decide)

set_option maxHeartbeats 4000000 in
set_option maxRecDepth 100000 in
theorem c_X8_isPassed (l : Launch) (D : va_G) (k : Nat → ClassId) (a0 : Nat → Nat) (S0 : Nat → Nat → Int) (p0 : Int) (p1 : Int) (p2 : Int) (p3 : Int) (hB : zBf (S0 1)) (h0 : 0 ≤ p0 ∧ p0 ≤ 2) (h1 : -2147483648 ≤ p1 ∧ p1 < 2147483648) (h2 : -2147483648 ≤ p2 ∧ p2 < 2147483648) (h3 : -2147483648 ≤ p3 ∧ p3 < 2147483648) : zMi l yX8_isPassed wsX8_isPassed ({ frames := 1, cells := 0, slots := 0, locals := 22 } : Room) D k [.ref (a0 0), .int (iI p0), .int (iI p1), .int (iI p2), .int (iI p3)] (wRef k a0 S0) (zb ((p3 = 1 ∧ S0 1 (15 + 26 * p0 + 1).toNat ≤ p1) ∨ (¬ p3 = 1 ∧ p3 = 2 ∧ p2 ≤ S0 1 (15 + 26 * p0 + 2).toNat) ∨ (¬ p3 = 1 ∧ ¬ p3 = 2 ∧ ¬ p1 = S0 1 (15 + 26 * p0 + 3).toNat))) (wRef k a0 S0) 0 0 := by
  refine zMi_of (cc := cX8_isPassed) (maxL := 5) (ret := (some .boolean)) (by decide) rfl (Nat.le_of_ble_eq_true rfl) ?_
  intro p e s m args below meth c A ls hx hb hr hml hown hts hlocks hK hP hD hG hA hS hl
  have hown : s.vm.findClass RX8 = some m.cls := hown
  have hl : lv_has ls 5 [(0, .ref (a0 0)), (1, .int (iI p0)), (2, .int (iI p1)), (3, .int (iI p2)), (4, .int (iI p3))] := hl
  obtain ⟨H, hH⟩ : ∃ z, z = s.heap := ⟨_, rfl⟩
  obtain ⟨locs, hlc⟩ : ∃ z : List Loc, z = [] := ⟨_, rfl⟩
  rw [← hH] at hP
  have hS : va_S A s.heap H locs := by rw [hH, hlc]; exact hS
  rw [← hlc, ← hH]
  clear hlc hH
  refine lv_iload hx hb dX8_isPassed_0 (lv_at hl 4 rfl) ?_
  refine lv_iconst (v := iI 1) hx hb dX8_isPassed_2 rfl ?_
  refine zi_icmp_ne (tgt := 24) hx hb dX8_isPassed_3 (by decide) ⟨by omega, by omega⟩ ⟨by omega, by omega⟩ (fun c_1 => ?_) (fun c_1 => ?_)
  · refine lv_iload hx hb dX8_isPassed_24 (lv_at hl 4 rfl) ?_
    refine lv_iconst (v := iI 2) hx hb dX8_isPassed_26 rfl ?_
    refine zi_icmp_ne (tgt := 48) hx hb dX8_isPassed_27 (by decide) ⟨by omega, by omega⟩ ⟨by omega, by omega⟩ (fun c_2 => ?_) (fun c_2 => ?_)
    · refine lv_iload_n hx hb dX8_isPassed_48 rfl (lv_at hl 2 rfl) ?_
      refine lv_aload_n hx hb dX8_isPassed_49 rfl (lv_at hl 0 rfl) ?_
      refine lv_iload_n hx hb dX8_isPassed_50 rfl (lv_at hl 1 rfl) ?_
      refine lv_iconst (v := iI 3) hx hb dX8_isPassed_51 rfl ?_
      refine z_ai0 (va_runV (As := [.int (iI p0), .int (iI 3)]) (rest := [.int (iI p1)]) ⟨hx, hb, hml, hown, hts⟩ (c_X8_of l D k a0 S0  p0 3 (by omega) (by omega) _) (cwV 2 hts gX8_isPassed_X8_of rfl rfl rfl (by decide +kernel) ⟨(Nat.le_of_ble_eq_true rfl), (Nat.le_of_ble_eq_true rfl)⟩) (z_preV hK hG hA hP hD hS [0, 1, 2, 3, 4, 5, 6, 7] rfl (by decide) 10 rfl rfl) rfl rfl hl.1 rfl (lv_room (Nat.le_of_ble_eq_true rfl)) dX8_isPassed_52 ⟨(Nat.le_of_ble_eq_true rfl), (Nat.le_of_ble_eq_true rfl)⟩) hA hP hD hS [0, 1, 2, 3, 4, 5, 6, 7] rfl (fun H locs hP hS => ?_)
      have f_3 := hB (((15 + (26 * p0)) + 3).toNat)
      refine zi_icmp_eq (tgt := 62) hx hb dX8_isPassed_55 (by decide) ⟨by omega, by omega⟩ ⟨by omega, by omega⟩ (fun c_4 => ?_) (fun c_4 => ?_)
      · refine lv_iconst (v := iI 0) hx hb dX8_isPassed_62 rfl ?_
        exact z_zret hx hb hr hlocks rfl hP hS dX8_isPassed_63 (zb_neg (by omega)) rfl (Nat.le_refl _) (Nat.le_refl _)
      · refine lv_iconst (v := iI 1) hx hb dX8_isPassed_58 rfl ?_
        refine lv_goto (tgt := 63) hx hb dX8_isPassed_59 (by decide) ?_
        exact z_zret hx hb hr hlocks rfl hP hS dX8_isPassed_63 (zb_pos (by omega)) rfl (Nat.le_refl _) (Nat.le_refl _)
    · refine lv_iload_n hx hb dX8_isPassed_30 rfl (lv_at hl 3 rfl) ?_
      refine lv_aload_n hx hb dX8_isPassed_31 rfl (lv_at hl 0 rfl) ?_
      refine lv_iload_n hx hb dX8_isPassed_32 rfl (lv_at hl 1 rfl) ?_
      refine lv_iconst (v := iI 2) hx hb dX8_isPassed_33 rfl ?_
      refine z_ai0 (va_runV (As := [.int (iI p0), .int (iI 2)]) (rest := [.int (iI p2)]) ⟨hx, hb, hml, hown, hts⟩ (c_X8_of l D k a0 S0  p0 2 (by omega) (by omega) _) (cwV 2 hts gX8_isPassed_X8_of rfl rfl rfl (by decide +kernel) ⟨(Nat.le_of_ble_eq_true rfl), (Nat.le_of_ble_eq_true rfl)⟩) (z_preV hK hG hA hP hD hS [0, 1, 2, 3, 4, 5, 6, 7] rfl (by decide) 10 rfl rfl) rfl rfl hl.1 rfl (lv_room (Nat.le_of_ble_eq_true rfl)) dX8_isPassed_34 ⟨(Nat.le_of_ble_eq_true rfl), (Nat.le_of_ble_eq_true rfl)⟩) hA hP hD hS [0, 1, 2, 3, 4, 5, 6, 7] rfl (fun H locs hP hS => ?_)
      have f_5 := hB (((15 + (26 * p0)) + 2).toNat)
      refine zi_icmp_gt (tgt := 44) hx hb dX8_isPassed_37 (by decide) ⟨by omega, by omega⟩ ⟨by omega, by omega⟩ (fun c_6 => ?_) (fun c_6 => ?_)
      · refine lv_iconst (v := iI 0) hx hb dX8_isPassed_44 rfl ?_
        refine lv_goto (tgt := 63) hx hb dX8_isPassed_45 (by decide) ?_
        exact z_zret hx hb hr hlocks rfl hP hS dX8_isPassed_63 (zb_neg (by omega)) rfl (Nat.le_refl _) (Nat.le_refl _)
      · refine lv_iconst (v := iI 1) hx hb dX8_isPassed_40 rfl ?_
        refine lv_goto (tgt := 63) hx hb dX8_isPassed_41 (by decide) ?_
        exact z_zret hx hb hr hlocks rfl hP hS dX8_isPassed_63 (zb_pos (by omega)) rfl (Nat.le_refl _) (Nat.le_refl _)
  · refine lv_iload_n hx hb dX8_isPassed_6 rfl (lv_at hl 2 rfl) ?_
    refine lv_aload_n hx hb dX8_isPassed_7 rfl (lv_at hl 0 rfl) ?_
    refine lv_iload_n hx hb dX8_isPassed_8 rfl (lv_at hl 1 rfl) ?_
    refine lv_iconst (v := iI 1) hx hb dX8_isPassed_9 rfl ?_
    refine z_ai0 (va_runV (As := [.int (iI p0), .int (iI 1)]) (rest := [.int (iI p1)]) ⟨hx, hb, hml, hown, hts⟩ (c_X8_of l D k a0 S0  p0 1 (by omega) (by omega) _) (cwV 2 hts gX8_isPassed_X8_of rfl rfl rfl (by decide +kernel) ⟨(Nat.le_of_ble_eq_true rfl), (Nat.le_of_ble_eq_true rfl)⟩) (z_preV hK hG hA hP hD hS [0, 1, 2, 3, 4, 5, 6, 7] rfl (by decide) 10 rfl rfl) rfl rfl hl.1 rfl (lv_room (Nat.le_of_ble_eq_true rfl)) dX8_isPassed_10 ⟨(Nat.le_of_ble_eq_true rfl), (Nat.le_of_ble_eq_true rfl)⟩) hA hP hD hS [0, 1, 2, 3, 4, 5, 6, 7] rfl (fun H locs hP hS => ?_)
    have f_7 := hB (((15 + (26 * p0)) + 1).toNat)
    refine zi_icmp_lt (tgt := 20) hx hb dX8_isPassed_13 (by decide) ⟨by omega, by omega⟩ ⟨by omega, by omega⟩ (fun c_8 => ?_) (fun c_8 => ?_)
    · refine lv_iconst (v := iI 0) hx hb dX8_isPassed_20 rfl ?_
      refine lv_goto (tgt := 63) hx hb dX8_isPassed_21 (by decide) ?_
      exact z_zret hx hb hr hlocks rfl hP hS dX8_isPassed_63 (zb_neg (by omega)) rfl (Nat.le_refl _) (Nat.le_refl _)
    · refine lv_iconst (v := iI 1) hx hb dX8_isPassed_16 rfl ?_
      refine lv_goto (tgt := 63) hx hb dX8_isPassed_17 (by decide) ?_
      exact z_zret hx hb hr hlocks rfl hP hS dX8_isPassed_63 (zb_pos (by omega)) rfl (Nat.le_refl _) (Nat.le_refl _)
noncomputable def sp_X8_failed_L14 (S0 : Nat → Nat → Int) (p0 : Int) (p1 : Int) (p2 : Int) : Nat → Int → Int
  | 0, _ => 0
  | n + 1, x4 => zif ((sp_X8_tests p2) < x4)
    (0)
    (zif ((x4 = 1 ∧ S0 1 (15 + 26 * p0 + 1).toNat ≤ (S0 1 (((15 + (26 * p0)) + ((6 + (4 * p1)) + 1)).toNat))) ∨ (¬ x4 = 1 ∧ x4 = 2 ∧ (S0 1 (((15 + (26 * p0)) + ((6 + (4 * p1)) + 2)).toNat)) ≤ S0 1 (15 + 26 * p0 + 2).toNat) ∨ (¬ x4 = 1 ∧ ¬ x4 = 2 ∧ ¬ (S0 1 (((15 + (26 * p0)) + ((6 + (4 * p1)) + 1)).toNat)) = S0 1 (15 + 26 * p0 + 3).toNat))
      (sp_X8_failed_L14 S0 p0 p1 p2 n (x4 + 1))
      (x4))
noncomputable def sp_X8_failed (S0 : Nat → Nat → Int) (p0 : Int) (p1 : Int) (p2 : Int) : Int := zif (S0 1 (15 + 26 * p0 + (6 + 4 * p1 + 0)).toNat = 1)
  (0)
  (sp_X8_failed_L14 S0 p0 p1 p2 4 1)
set_option maxHeartbeats 4000000 in
set_option maxRecDepth 100000 in
theorem c_X8_failed (l : Launch) (D : va_G) (k : Nat → ClassId) (a0 : Nat → Nat) (S0 : Nat → Nat → Int) (p0 : Int) (p1 : Int) (p2 : Int) (hB : zBf (S0 1)) (h0 : 0 ≤ p0 ∧ p0 ≤ 2) (h1 : 0 ≤ p1 ∧ p1 < 5) (h2 : -2147483648 ≤ p2 ∧ p2 < 2147483648) : zMi l yX8_failed wsX8_failed ({ frames := 3, cells := 0, slots := 0, locals := 67 } : Room) D k [.ref (a0 0), .int (iI p0), .int (iI p1), .int (iI p2)] (wRef k a0 S0) (sp_X8_failed S0 p0 p1 p2) (wRef k a0 S0) 0 0 := by
  refine zMi_of (cc := cX8_failed) (maxL := 5) (ret := (some .int)) (by decide) rfl (Nat.le_of_ble_eq_true rfl) ?_
  intro p e s m args below meth c A ls hx hb hr hml hown hts hlocks hK hP hD hG hA hS hl
  have hown : s.vm.findClass RX8 = some m.cls := hown
  have hl : lv_has ls 5 [(0, .ref (a0 0)), (1, .int (iI p0)), (2, .int (iI p1)), (3, .int (iI p2))] := hl
  obtain ⟨H, hH⟩ : ∃ z, z = s.heap := ⟨_, rfl⟩
  obtain ⟨locs, hlc⟩ : ∃ z : List Loc, z = [] := ⟨_, rfl⟩
  rw [← hH] at hP
  have hS : va_S A s.heap H locs := by rw [hH, hlc]; exact hS
  rw [← hlc, ← hH]
  clear hlc hH
  refine lv_aload_n hx hb dX8_failed_0 rfl (lv_at hl 0 rfl) ?_
  refine lv_iload_n hx hb dX8_failed_1 rfl (lv_at hl 1 rfl) ?_
  refine lv_iload_n hx hb dX8_failed_2 rfl (lv_at hl 2 rfl) ?_
  refine z_ai0 (va_runV (As := [.int (iI p0), .int (iI p1)]) (rest := []) ⟨hx, hb, hml, hown, hts⟩ (c_X8_isBlank l D k a0 S0  p0 p1 hB (by omega) (by omega) _) (cwV 2 hts gX8_failed_X8_isBlank rfl rfl rfl (by decide +kernel) ⟨(Nat.le_of_ble_eq_true rfl), (Nat.le_of_ble_eq_true rfl)⟩) (z_preV hK hG hA hP hD hS [0, 1, 2, 3, 4, 5, 6, 7] rfl (by decide) 10 rfl rfl) rfl rfl hl.1 rfl (lv_room (Nat.le_of_ble_eq_true rfl)) dX8_failed_3 ⟨(Nat.le_of_ble_eq_true rfl), (Nat.le_of_ble_eq_true rfl)⟩) hA hP hD hS [0, 1, 2, 3, 4, 5, 6, 7] rfl (fun H locs hP hS => ?_)
  refine zi_if_eqB (tgt := 11) hx hb dX8_failed_6 (by decide) (fun c_1 => ?_) (fun c_1 => ?_)
  · refine lv_iconst (v := iI 1) hx hb dX8_failed_11 rfl ?_
    refine lv_istore (lv' := [(4, .int (iI 1)), (0, .ref (a0 0)), (1, .int (iI p0)), (2, .int (iI p1)), (3, .int (iI p2))]) hx hb dX8_failed_12 hl (by decide) rfl (fun ls hl => ?_)
    have lp14_0 : ∀ (n : Nat) (x4 : Int), (4 - x4).toNat < n → (1 ≤ x4) → (x4 ≤ 4) → sp_X8_failed S0 p0 p1 p2 = sp_X8_failed_L14 S0 p0 p1 p2 n x4 → ∀ (H : Heap) (locs : List Loc) (ls : Array Slot), va_P D vwCl (wRef k a0 S0) H → va_D A (wRef k a0 S0) → va_S A s.heap H locs → lv_has ls 5 [(4, .int (iI x4)), (0, .ref (a0 0)), (1, .int (iI p0)), (2, .int (iI p1)), (3, .int (iI p2))] → W p l e ({ frames := 3, cells := 0, slots := 0, locals := 67 } : Room) s m args below meth c H locs 0 0 (MQ below (zQi D A (sp_X8_failed S0 p0 p1 p2) (wRef k a0 S0)) args s 0 0 A) (F0 m 14 ls []) := by
      intro n14
      induction n14 with
      | zero => intro x4 hm; exact absurd hm (Nat.not_lt_zero _)
      | succ n14 ih14 =>
        intro x4 hm14 i0 i1 E14_0_r H locs ls hP hD hS hl
        refine lv_iload hx hb dX8_failed_14 (lv_at hl 0 rfl) ?_
        refine lv_iload_n hx hb dX8_failed_16 rfl (lv_at hl 4 rfl) ?_
        refine z_ai0 (va_runS (As := [.int (iI p2)]) (rest := [.int (iI x4)]) ⟨hx, hb, hml, hown, hts⟩ (c_X8_tests l D k   p2 (by omega) _) (va_cwS 1 hts gX8_failed_X8_tests rfl rfl rfl (by decide +kernel) ⟨(Nat.le_of_ble_eq_true rfl), (Nat.le_of_ble_eq_true rfl)⟩) (z_preS hK hG hA hP hD hS [] rfl (by decide)) rfl rfl hl.1 rfl (lv_room (Nat.le_of_ble_eq_true rfl)) dX8_failed_17 ⟨(Nat.le_of_ble_eq_true rfl), (Nat.le_of_ble_eq_true rfl)⟩) hA hP hD hS [] rfl (fun H locs hP hS => ?_)
        have q_2 := tests_rng p2
        refine zi_icmp_gt (tgt := 56) hx hb dX8_failed_20 (by decide) ⟨by omega, by omega⟩ ⟨by omega, by omega⟩ (fun c_3 => ?_) (fun c_3 => ?_)
        · refine lv_iconst (v := iI 0) hx hb dX8_failed_56 rfl ?_
          exact z_iret hx hb hr hlocks hP hS dX8_failed_57 (Eq.trans E14_0_r (Eq.trans (zif_pos c_3) rfl)) rfl (Nat.le_refl _) (Nat.le_refl _)
        · refine lv_aload_n hx hb dX8_failed_23 rfl (lv_at hl 1 rfl) ?_
          refine lv_iload_n hx hb dX8_failed_24 rfl (lv_at hl 2 rfl) ?_
          refine lv_aload_n hx hb dX8_failed_25 rfl (lv_at hl 1 rfl) ?_
          refine lv_iload_n hx hb dX8_failed_26 rfl (lv_at hl 2 rfl) ?_
          refine lv_iload_n hx hb dX8_failed_27 rfl (lv_at hl 3 rfl) ?_
          refine lv_iconst (v := iI 1) hx hb dX8_failed_28 rfl ?_
          refine z_ai0 (va_runV (As := [.int (iI p0), .int (iI p1), .int (iI 1)]) (rest := [.int (iI p0), .ref (a0 0)]) ⟨hx, hb, hml, hown, hts⟩ (c_X8_on l D k a0 S0  p0 p1 1 (by omega) (by omega) _) (cwV 3 hts gX8_failed_X8_on rfl rfl rfl (by decide +kernel) ⟨(Nat.le_of_ble_eq_true rfl), (Nat.le_of_ble_eq_true rfl)⟩) (z_preV hK hG hA hP hD hS [0, 1, 2, 3, 4, 5, 6, 7] rfl (by decide) 10 rfl rfl) rfl rfl hl.1 rfl (lv_room (Nat.le_of_ble_eq_true rfl)) dX8_failed_29 ⟨(Nat.le_of_ble_eq_true rfl), (Nat.le_of_ble_eq_true rfl)⟩) hA hP hD hS [0, 1, 2, 3, 4, 5, 6, 7] rfl (fun H locs hP hS => ?_)
          have f_4 := hB (((15 + (26 * p0)) + ((6 + (4 * p1)) + 1)).toNat)
          refine lv_aload_n hx hb dX8_failed_32 rfl (lv_at hl 1 rfl) ?_
          refine lv_iload_n hx hb dX8_failed_33 rfl (lv_at hl 2 rfl) ?_
          refine lv_iload_n hx hb dX8_failed_34 rfl (lv_at hl 3 rfl) ?_
          refine lv_iconst (v := iI 2) hx hb dX8_failed_35 rfl ?_
          refine z_ai0 (va_runV (As := [.int (iI p0), .int (iI p1), .int (iI 2)]) (rest := [.int (iI (S0 1 (((15 + (26 * p0)) + ((6 + (4 * p1)) + 1)).toNat))), .int (iI p0), .ref (a0 0)]) ⟨hx, hb, hml, hown, hts⟩ (c_X8_on l D k a0 S0  p0 p1 2 (by omega) (by omega) _) (cwV 3 hts gX8_failed_X8_on rfl rfl rfl (by decide +kernel) ⟨(Nat.le_of_ble_eq_true rfl), (Nat.le_of_ble_eq_true rfl)⟩) (z_preV hK hG hA hP hD hS [0, 1, 2, 3, 4, 5, 6, 7] rfl (by decide) 10 rfl rfl) rfl rfl hl.1 rfl (lv_room (Nat.le_of_ble_eq_true rfl)) dX8_failed_36 ⟨(Nat.le_of_ble_eq_true rfl), (Nat.le_of_ble_eq_true rfl)⟩) hA hP hD hS [0, 1, 2, 3, 4, 5, 6, 7] rfl (fun H locs hP hS => ?_)
          have f_5 := hB (((15 + (26 * p0)) + ((6 + (4 * p1)) + 2)).toNat)
          refine lv_iload hx hb dX8_failed_39 (lv_at hl 0 rfl) ?_
          refine z_ai0 (va_runV (As := [.int (iI p0), .int (iI (S0 1 (((15 + (26 * p0)) + ((6 + (4 * p1)) + 1)).toNat))), .int (iI (S0 1 (((15 + (26 * p0)) + ((6 + (4 * p1)) + 2)).toNat))), .int (iI x4)]) (rest := []) ⟨hx, hb, hml, hown, hts⟩ (c_X8_isPassed l D k a0 S0  p0 (S0 1 (((15 + (26 * p0)) + ((6 + (4 * p1)) + 1)).toNat)) (S0 1 (((15 + (26 * p0)) + ((6 + (4 * p1)) + 2)).toNat)) x4 hB (by omega) (by omega) (by omega) (by omega) _) (cwV 4 hts gX8_failed_X8_isPassed rfl rfl rfl (by decide +kernel) ⟨(Nat.le_of_ble_eq_true rfl), (Nat.le_of_ble_eq_true rfl)⟩) (z_preV hK hG hA hP hD hS [0, 1, 2, 3, 4, 5, 6, 7] rfl (by decide) 10 rfl rfl) rfl rfl hl.1 rfl (lv_room (Nat.le_of_ble_eq_true rfl)) dX8_failed_41 ⟨(Nat.le_of_ble_eq_true rfl), (Nat.le_of_ble_eq_true rfl)⟩) hA hP hD hS [0, 1, 2, 3, 4, 5, 6, 7] rfl (fun H locs hP hS => ?_)
          refine zi_if_neB (tgt := 50) hx hb dX8_failed_44 (by decide) (fun c_6 => ?_) (fun c_6 => ?_)
          · refine lv_iinc (v := iI (x4 + 1)) (lv' := [(4, .int (iI (x4 + 1))), (0, .ref (a0 0)), (1, .int (iI p0)), (2, .int (iI p1)), (3, .int (iI p2))]) hx hb dX8_failed_50 hl (k := 0) rfl (iI_add _ _) (by decide) rfl (fun ls hl => ?_)
            refine lv_goto (tgt := 14) hx hb dX8_failed_53 (by decide) ?_
            exact ih14 (x4 + 1) (by omega) (by omega) (by omega) (Eq.trans E14_0_r (Eq.trans (zif_neg c_3) (Eq.trans (zif_pos c_6) rfl))) H locs ls hP hD hS (lv_sub hl [0, 1, 2, 3, 4] rfl)
          · refine lv_iload hx hb dX8_failed_47 (lv_at hl 0 rfl) ?_
            exact z_iret hx hb hr hlocks hP hS dX8_failed_49 (Eq.trans E14_0_r (Eq.trans (zif_neg c_3) (Eq.trans (zif_neg c_6) rfl))) rfl (Nat.le_refl _) (Nat.le_refl _)
    exact lp14_0 4 1 (by omega) (by omega) (by omega) (Eq.trans (zif_neg c_1) rfl) H locs ls hP hD hS (lv_sub hl [0, 1, 2, 3, 4] rfl)
  · refine lv_iconst (v := iI 0) hx hb dX8_failed_9 rfl ?_
    exact z_iret hx hb hr hlocks hP hS dX8_failed_10 (Eq.trans (zif_pos c_1) rfl) rfl (Nat.le_refl _) (Nat.le_refl _)
theorem failedL_rng (S0 : Nat → Nat → Int) (p0 p1 p2 : Int) : ∀ (n : Nat) (x : Int), 1 ≤ x → 0 ≤ sp_X8_failed_L14 S0 p0 p1 p2 n x ∧ sp_X8_failed_L14 S0 p0 p1 p2 n x ≤ 3 := by
  intro n
  induction n with
  | zero => intro x _; exact ⟨Int.le_refl 0, show (0 : Int) ≤ 3 by decide⟩
  | succ n ih =>
    intro x hx
    have h3 := tests_rng p2
    unfold sp_X8_failed_L14
    by_cases c1 : sp_X8_tests p2 < x
    · rw [zif_pos c1]; decide
    · rw [zif_neg c1]
      refine (fun P (h : (0 ≤ x ∧ x ≤ 3)) (h2 : 0 ≤ sp_X8_failed_L14 S0 p0 p1 p2 n (x + 1) ∧ sp_X8_failed_L14 S0 p0 p1 p2 n (x + 1) ≤ 3) => (?_ : 0 ≤ zif P (sp_X8_failed_L14 S0 p0 p1 p2 n (x + 1)) x ∧ zif P (sp_X8_failed_L14 S0 p0 p1 p2 n (x + 1)) x ≤ 3)) _ ⟨by omega, by omega⟩ (ih (x + 1) (by omega))
      by_cases hP : P
      · rw [zif_pos hP]; exact h2
      · rw [zif_neg hP]; exact h
theorem failed_rng (S0 : Nat → Nat → Int) (p0 p1 p2 : Int) : 0 ≤ sp_X8_failed S0 p0 p1 p2 ∧ sp_X8_failed S0 p0 p1 p2 ≤ 3 := by
  unfold sp_X8_failed
  refine (fun P (h2 : 0 ≤ sp_X8_failed_L14 S0 p0 p1 p2 4 1 ∧ sp_X8_failed_L14 S0 p0 p1 p2 4 1 ≤ 3) => (?_ : 0 ≤ zif P 0 (sp_X8_failed_L14 S0 p0 p1 p2 4 1) ∧ zif P 0 (sp_X8_failed_L14 S0 p0 p1 p2 4 1) ≤ 3)) _ (failedL_rng S0 p0 p1 p2 4 1 (by decide))
  by_cases hP : P
  · rw [zif_pos hP]; decide
  · rw [zif_neg hP]; exact h2

set_option maxHeartbeats 4000000 in
set_option maxRecDepth 100000 in
theorem c_X8_tires (l : Launch) (D : va_G) (k : Nat → ClassId) (a0 : Nat → Nat) (S0 : Nat → Nat → Int) (p0 : Int) (p1 : Int) (hB : zBf (S0 1)) (h0 : 0 ≤ p0 ∧ p0 < 4) (h1 : -10 ≤ p1 ∧ p1 ≤ 10) : zMv l yX8_tires wsX8_tires ({ frames := 1, cells := 0, slots := 0, locals := 22 } : Room) D k [.ref (a0 0), .int (iI p0), .int (iI p1)] (wRef k a0 S0) (wRef k a0 (up2 S0 1 ((11 + p0).toNat) (max 0 (min ((S0 1 ((11 + p0).toNat)) + p1) 9)))) 0 0 := by
  refine zMv_of (cc := cX8_tires) (maxL := 3) (ret := none) (by decide) rfl (Nat.le_of_ble_eq_true rfl) ?_
  intro p e s m args below meth c A ls hx hb hr hml hown hts hlocks hK hP hD hG hA hS hl
  have hown : s.vm.findClass RX8 = some m.cls := hown
  have hl : lv_has ls 3 [(0, .ref (a0 0)), (1, .int (iI p0)), (2, .int (iI p1))] := hl
  obtain ⟨H, hH⟩ : ∃ z, z = s.heap := ⟨_, rfl⟩
  obtain ⟨locs, hlc⟩ : ∃ z : List Loc, z = [] := ⟨_, rfl⟩
  rw [← hH] at hP
  have hS : va_S A s.heap H locs := by rw [hH, hlc]; exact hS
  rw [← hlc, ← hH]
  clear hlc hH
  refine lv_aload_n hx hb dX8_tires_0 rfl (lv_at hl 0 rfl) ?_
  refine va_get (D := D) (ci := 10) (v := .ref (a0 1)) (C := RX8) (T := TX8) (N := 19) hx hb hts (fun w h => List.mem_cons_of_mem _ (List.mem_append_left _ (List.mem_append_right _ h))) hown hK hP 0 rfl rfl 0 (by decide) (hts (.fieldLink RX8 7 "MondayFactoryModel" "g" "[I") (List.mem_of_getElem? (i := 1) rfl)) (fun _ h9 => h9) rfl dX8_tires_1 ?_
  refine lv_bipush (v := iI 11) hx hb dX8_tires_4 (by decide) ?_
  refine lv_iload_n hx hb dX8_tires_6 rfl (lv_at hl 1 rfl) ?_
  refine zi_add hx hb dX8_tires_7 ?_
  refine lv_aload_n hx hb dX8_tires_8 rfl (lv_at hl 0 rfl) ?_
  refine va_get (D := D) (ci := 10) (v := .ref (a0 1)) (C := RX8) (T := TX8) (N := 19) hx hb hts (fun w h => List.mem_cons_of_mem _ (List.mem_append_left _ (List.mem_append_right _ h))) hown hK hP 0 rfl rfl 0 (by decide) (hts (.fieldLink RX8 7 "MondayFactoryModel" "g" "[I") (List.mem_of_getElem? (i := 1) rfl)) (fun _ h9 => h9) rfl dX8_tires_9 ?_
  refine lv_bipush (v := iI 11) hx hb dX8_tires_12 (by decide) ?_
  refine lv_iload_n hx hb dX8_tires_14 rfl (lv_at hl 1 rfl) ?_
  refine zi_add hx hb dX8_tires_15 ?_
  refine z_iald hx hb hK hP 1 0 (f := S0 1) rfl rfl (i := 11 + p0) (by omega) (by omega) (by decide) ((11 + p0).toNat) rfl dX8_tires_16 ?_
  have f_1 := hB ((11 + p0).toNat)
  refine lv_iload_n hx hb dX8_tires_17 rfl (lv_at hl 2 rfl) ?_
  refine zi_add hx hb dX8_tires_18 ?_
  refine lv_iconst (v := iI 0) hx hb dX8_tires_19 rfl ?_
  refine lv_bipush (v := iI 9) hx hb dX8_tires_20 (by decide) ?_
  refine z_ai0 (va_runS (As := [.int (iI ((S0 1 ((11 + p0).toNat)) + p1)), .int (iI 0), .int (iI 9)]) (rest := [.int (iI (11 + p0)), .ref (a0 1)]) ⟨hx, hb, hml, hown, hts⟩ (c_X8_within l D k   ((S0 1 ((11 + p0).toNat)) + p1) 0 9 (by omega) (by omega) (by omega) (by omega) _) (va_cwS 3 hts gX8_tires_X8_within rfl rfl rfl (by decide +kernel) ⟨(Nat.le_of_ble_eq_true rfl), (Nat.le_of_ble_eq_true rfl)⟩) (z_preS hK hG hA hP hD hS [] rfl (by decide)) rfl rfl hl.1 rfl (lv_room (Nat.le_of_ble_eq_true rfl)) dX8_tires_22 ⟨(Nat.le_of_ble_eq_true rfl), (Nat.le_of_ble_eq_true rfl)⟩) hA hP hD hS [] rfl (fun H locs hP hS => ?_)
  have f_2 := hB (((11 + p0).toNat))
  refine z_iast hx hb hK hP hD hS 1 0 (f := S0 1) rfl rfl (i := 11 + p0) (by omega) (by omega) (by decide) ((11 + p0).toNat) rfl dX8_tires_25 (fun H locs hP hD hS => ?_)
  have hP : va_P D vwCl (wRef k a0 (up2 S0 1 ((11 + p0).toNat) (max 0 (min ((S0 1 ((11 + p0).toNat)) + p1) 9)))) H := hP
  have hD : va_D A (wRef k a0 (up2 S0 1 ((11 + p0).toNat) (max 0 (min ((S0 1 ((11 + p0).toNat)) + p1) 9)))) := hD
  exact z_vret hx hb hr hlocks hP hS dX8_tires_26 rfl (Nat.le_refl _) (Nat.le_refl _)
noncomputable def sS0_1_X8_rejects (S0 : Nat → Nat → Int) (p0 : Int) (p1 : Int) : (Nat → Int) := zif ((S0 1 10) = 8)
  (upZ (upZ (S0 1) 4 ((S0 1 4) + 1)) 5 ((S0 1 5) + 1))
  (upZ (upZ (upZ (upZ (upZ (upZ (S0 1) 4 ((S0 1 4) + 1)) (((93 + (4 * (S0 1 10))) + 0).toNat) (S0 1 (((15 + (26 * p0)) + ((6 + (4 * 0)) + 1)).toNat))) (((93 + (4 * (S0 1 10))) + 1).toNat) (S0 1 (((15 + (26 * p0)) + ((6 + (4 * 0)) + 2)).toNat))) (((93 + (4 * (S0 1 10))) + 2).toNat) (S0 1 (((15 + (26 * p0)) + ((6 + (4 * 0)) + 3)).toNat))) (((93 + (4 * (S0 1 10))) + 3).toNat) p1) 10 ((S0 1 10) + 1))
set_option maxHeartbeats 4000000 in
set_option maxRecDepth 100000 in
theorem c_X8_rejects (l : Launch) (D : va_G) (k : Nat → ClassId) (a0 : Nat → Nat) (S0 : Nat → Nat → Int) (p0 : Int) (p1 : Int) (hB : zBf (S0 1)) (h0 : 0 ≤ p0 ∧ p0 ≤ 2) (h1 : 0 ≤ S0 1 10 ∧ S0 1 10 ≤ 8) : zMv l yX8_rejects wsX8_rejects ({ frames := 2, cells := 0, slots := 0, locals := 45 } : Room) D k [.ref (a0 0), .int (iI p0), .int (iI p1)] (wRef k a0 S0) (wRef k a0 (upA S0 1 (sS0_1_X8_rejects S0 p0 p1))) 0 0 := by
  refine zMv_of (cc := cX8_rejects) (maxL := 4) (ret := none) (by decide) rfl (Nat.le_of_ble_eq_true rfl) ?_
  intro p e s m args below meth c A ls hx hb hr hml hown hts hlocks hK hP hD hG hA hS hl
  have hown : s.vm.findClass RX8 = some m.cls := hown
  have hl : lv_has ls 4 [(0, .ref (a0 0)), (1, .int (iI p0)), (2, .int (iI p1))] := hl
  obtain ⟨H, hH⟩ : ∃ z, z = s.heap := ⟨_, rfl⟩
  obtain ⟨locs, hlc⟩ : ∃ z : List Loc, z = [] := ⟨_, rfl⟩
  rw [← hH] at hP
  have hS : va_S A s.heap H locs := by rw [hH, hlc]; exact hS
  rw [← hlc, ← hH]
  clear hlc hH
  refine lv_aload_n hx hb dX8_rejects_0 rfl (lv_at hl 0 rfl) ?_
  refine va_get (D := D) (ci := 10) (v := .ref (a0 1)) (C := RX8) (T := TX8) (N := 19) hx hb hts (fun w h => List.mem_cons_of_mem _ (List.mem_append_left _ (List.mem_append_right _ h))) hown hK hP 0 rfl rfl 0 (by decide) (hts (.fieldLink RX8 7 "MondayFactoryModel" "g" "[I") (List.mem_of_getElem? (i := 1) rfl)) (fun _ h9 => h9) rfl dX8_rejects_1 ?_
  refine lv_iconst (v := iI 4) hx hb dX8_rejects_4 rfl ?_
  refine lv_dup2_11 hx hb dX8_rejects_5 rfl rfl ?_
  refine z_iald hx hb hK hP 1 0 (f := S0 1) rfl rfl (i := 4) (by omega) (by omega) (by decide) 4 rfl dX8_rejects_6 ?_
  have f_1 := hB 4
  refine lv_iconst (v := iI 1) hx hb dX8_rejects_7 rfl ?_
  refine zi_add hx hb dX8_rejects_8 ?_
  refine z_iast hx hb hK hP hD hS 1 0 (f := S0 1) rfl rfl (i := 4) (by omega) (by omega) (by decide) 4 rfl dX8_rejects_9 (fun H locs hP hD hS => ?_)
  have hP : va_P D vwCl (wRef k a0 (up2 S0 1 4 ((S0 1 4) + 1))) H := hP
  have hD : va_D A (wRef k a0 (up2 S0 1 4 ((S0 1 4) + 1))) := hD
  refine lv_aload_n hx hb dX8_rejects_10 rfl (lv_at hl 0 rfl) ?_
  refine va_get (D := D) (ci := 10) (v := .ref (a0 1)) (C := RX8) (T := TX8) (N := 19) hx hb hts (fun w h => List.mem_cons_of_mem _ (List.mem_append_left _ (List.mem_append_right _ h))) hown hK hP 0 rfl rfl 0 (by decide) (hts (.fieldLink RX8 7 "MondayFactoryModel" "g" "[I") (List.mem_of_getElem? (i := 1) rfl)) (fun _ h9 => h9) rfl dX8_rejects_11 ?_
  refine lv_bipush (v := iI 10) hx hb dX8_rejects_14 (by decide) ?_
  refine z_iald hx hb hK hP 1 0 (f := upZ (S0 1) 4 ((S0 1 4) + 1)) rfl rfl (i := 10) (by omega) (by omega) (by decide) 10 rfl dX8_rejects_16 ?_
  refine z_eqi (z2 := S0 1 10) (show (upZ (S0 1) 4 ((S0 1 4) + 1)) 10 = S0 1 10 from (Eq.trans (upZ_n (by omega)) rfl)) ?_
  have f_2 := hB 10
  refine lv_bipush (v := iI 8) hx hb dX8_rejects_17 (by decide) ?_
  refine zi_icmp_ne (tgt := 33) hx hb dX8_rejects_19 (by decide) ⟨by omega, by omega⟩ ⟨by omega, by omega⟩ (fun c_3 => ?_) (fun c_3 => ?_)
  · refine lv_bipush (v := iI 93) hx hb dX8_rejects_33 (by decide) ?_
    refine lv_iconst (v := iI 4) hx hb dX8_rejects_35 rfl ?_
    refine lv_aload_n hx hb dX8_rejects_36 rfl (lv_at hl 0 rfl) ?_
    refine va_get (D := D) (ci := 10) (v := .ref (a0 1)) (C := RX8) (T := TX8) (N := 19) hx hb hts (fun w h => List.mem_cons_of_mem _ (List.mem_append_left _ (List.mem_append_right _ h))) hown hK hP 0 rfl rfl 0 (by decide) (hts (.fieldLink RX8 7 "MondayFactoryModel" "g" "[I") (List.mem_of_getElem? (i := 1) rfl)) (fun _ h9 => h9) rfl dX8_rejects_37 ?_
    refine lv_bipush (v := iI 10) hx hb dX8_rejects_40 (by decide) ?_
    refine z_iald hx hb hK hP 1 0 (f := upZ (S0 1) 4 ((S0 1 4) + 1)) rfl rfl (i := 10) (by omega) (by omega) (by decide) 10 rfl dX8_rejects_42 ?_
    refine z_eqi (z2 := S0 1 10) (show (upZ (S0 1) 4 ((S0 1 4) + 1)) 10 = S0 1 10 from (Eq.trans (upZ_n (by omega)) rfl)) ?_
    refine zi_mul hx hb dX8_rejects_43 ?_
    refine zi_add hx hb dX8_rejects_44 ?_
    refine lv_istore_n (lv' := [(3, .int (iI (93 + (4 * (S0 1 10))))), (0, .ref (a0 0)), (1, .int (iI p0)), (2, .int (iI p1))]) hx hb dX8_rejects_45 rfl hl (by decide) rfl (fun ls hl => ?_)
    refine lv_aload_n hx hb dX8_rejects_46 rfl (lv_at hl 1 rfl) ?_
    refine va_get (D := D) (ci := 10) (v := .ref (a0 1)) (C := RX8) (T := TX8) (N := 19) hx hb hts (fun w h => List.mem_cons_of_mem _ (List.mem_append_left _ (List.mem_append_right _ h))) hown hK hP 0 rfl rfl 0 (by decide) (hts (.fieldLink RX8 7 "MondayFactoryModel" "g" "[I") (List.mem_of_getElem? (i := 1) rfl)) (fun _ h9 => h9) rfl dX8_rejects_47 ?_
    refine lv_iload_n hx hb dX8_rejects_50 rfl (lv_at hl 0 rfl) ?_
    refine lv_iconst (v := iI 0) hx hb dX8_rejects_51 rfl ?_
    refine zi_add hx hb dX8_rejects_52 ?_
    refine lv_aload_n hx hb dX8_rejects_53 rfl (lv_at hl 1 rfl) ?_
    refine lv_iload_n hx hb dX8_rejects_54 rfl (lv_at hl 2 rfl) ?_
    refine lv_iconst (v := iI 0) hx hb dX8_rejects_55 rfl ?_
    refine lv_iconst (v := iI 1) hx hb dX8_rejects_56 rfl ?_
    refine z_ai0 (va_runV (As := [.int (iI p0), .int (iI 0), .int (iI 1)]) (rest := [.int (iI ((93 + (4 * (S0 1 10))) + 0)), .ref (a0 1)]) ⟨hx, hb, hml, hown, hts⟩ (c_X8_on l D k a0 (up2 S0 1 4 ((S0 1 4) + 1))  p0 0 1 (by omega) (by omega) _) (cwV 3 hts gX8_rejects_X8_on rfl rfl rfl (by decide +kernel) ⟨(Nat.le_of_ble_eq_true rfl), (Nat.le_of_ble_eq_true rfl)⟩) (z_preV hK hG hA hP hD hS [0, 1, 2, 3, 4, 5, 6, 7] rfl (by decide) 10 rfl rfl) rfl rfl hl.1 rfl (lv_room (Nat.le_of_ble_eq_true rfl)) dX8_rejects_57 ⟨(Nat.le_of_ble_eq_true rfl), (Nat.le_of_ble_eq_true rfl)⟩) hA hP hD hS [0, 1, 2, 3, 4, 5, 6, 7] rfl (fun H locs hP hS => ?_)
    refine z_eqi (z2 := S0 1 (((15 + (26 * p0)) + ((6 + (4 * 0)) + 1)).toNat)) (show (upZ (S0 1) 4 ((S0 1 4) + 1)) (((15 + (26 * p0)) + ((6 + (4 * 0)) + 1)).toNat) = S0 1 (((15 + (26 * p0)) + ((6 + (4 * 0)) + 1)).toNat) from (Eq.trans (upZ_n (by omega)) rfl)) ?_
    have f_4 := hB (((15 + (26 * p0)) + ((6 + (4 * 0)) + 1)).toNat)
    refine z_iast hx hb hK hP hD hS 1 0 (f := upZ (S0 1) 4 ((S0 1 4) + 1)) rfl rfl (i := (93 + (4 * (S0 1 10))) + 0) (by omega) (by omega) (by decide) (((93 + (4 * (S0 1 10))) + 0).toNat) rfl dX8_rejects_60 (fun H locs hP hD hS => ?_)
    have hP : va_P D vwCl (wRef k a0 (up2 (up2 S0 1 4 ((S0 1 4) + 1)) 1 (((93 + (4 * (S0 1 10))) + 0).toNat) (S0 1 (((15 + (26 * p0)) + ((6 + (4 * 0)) + 1)).toNat)))) H := hP
    have hD : va_D A (wRef k a0 (up2 (up2 S0 1 4 ((S0 1 4) + 1)) 1 (((93 + (4 * (S0 1 10))) + 0).toNat) (S0 1 (((15 + (26 * p0)) + ((6 + (4 * 0)) + 1)).toNat)))) := hD
    refine lv_aload_n hx hb dX8_rejects_61 rfl (lv_at hl 1 rfl) ?_
    refine va_get (D := D) (ci := 10) (v := .ref (a0 1)) (C := RX8) (T := TX8) (N := 19) hx hb hts (fun w h => List.mem_cons_of_mem _ (List.mem_append_left _ (List.mem_append_right _ h))) hown hK hP 0 rfl rfl 0 (by decide) (hts (.fieldLink RX8 7 "MondayFactoryModel" "g" "[I") (List.mem_of_getElem? (i := 1) rfl)) (fun _ h9 => h9) rfl dX8_rejects_62 ?_
    refine lv_iload_n hx hb dX8_rejects_65 rfl (lv_at hl 0 rfl) ?_
    refine lv_iconst (v := iI 1) hx hb dX8_rejects_66 rfl ?_
    refine zi_add hx hb dX8_rejects_67 ?_
    refine lv_aload_n hx hb dX8_rejects_68 rfl (lv_at hl 1 rfl) ?_
    refine lv_iload_n hx hb dX8_rejects_69 rfl (lv_at hl 2 rfl) ?_
    refine lv_iconst (v := iI 0) hx hb dX8_rejects_70 rfl ?_
    refine lv_iconst (v := iI 2) hx hb dX8_rejects_71 rfl ?_
    refine z_ai0 (va_runV (As := [.int (iI p0), .int (iI 0), .int (iI 2)]) (rest := [.int (iI ((93 + (4 * (S0 1 10))) + 1)), .ref (a0 1)]) ⟨hx, hb, hml, hown, hts⟩ (c_X8_on l D k a0 (up2 (up2 S0 1 4 ((S0 1 4) + 1)) 1 (((93 + (4 * (S0 1 10))) + 0).toNat) (S0 1 (((15 + (26 * p0)) + ((6 + (4 * 0)) + 1)).toNat)))  p0 0 2 (by omega) (by omega) _) (cwV 3 hts gX8_rejects_X8_on rfl rfl rfl (by decide +kernel) ⟨(Nat.le_of_ble_eq_true rfl), (Nat.le_of_ble_eq_true rfl)⟩) (z_preV hK hG hA hP hD hS [0, 1, 2, 3, 4, 5, 6, 7] rfl (by decide) 10 rfl rfl) rfl rfl hl.1 rfl (lv_room (Nat.le_of_ble_eq_true rfl)) dX8_rejects_72 ⟨(Nat.le_of_ble_eq_true rfl), (Nat.le_of_ble_eq_true rfl)⟩) hA hP hD hS [0, 1, 2, 3, 4, 5, 6, 7] rfl (fun H locs hP hS => ?_)
    refine z_eqi (z2 := S0 1 (((15 + (26 * p0)) + ((6 + (4 * 0)) + 2)).toNat)) (show (upZ (upZ (S0 1) 4 ((S0 1 4) + 1)) (((93 + (4 * (S0 1 10))) + 0).toNat) (S0 1 (((15 + (26 * p0)) + ((6 + (4 * 0)) + 1)).toNat))) (((15 + (26 * p0)) + ((6 + (4 * 0)) + 2)).toNat) = S0 1 (((15 + (26 * p0)) + ((6 + (4 * 0)) + 2)).toNat) from (Eq.trans (upZ_n (by omega)) (Eq.trans (upZ_n (by omega)) rfl))) ?_
    have f_5 := hB (((15 + (26 * p0)) + ((6 + (4 * 0)) + 2)).toNat)
    refine z_iast hx hb hK hP hD hS 1 0 (f := upZ (upZ (S0 1) 4 ((S0 1 4) + 1)) (((93 + (4 * (S0 1 10))) + 0).toNat) (S0 1 (((15 + (26 * p0)) + ((6 + (4 * 0)) + 1)).toNat))) rfl rfl (i := (93 + (4 * (S0 1 10))) + 1) (by omega) (by omega) (by decide) (((93 + (4 * (S0 1 10))) + 1).toNat) rfl dX8_rejects_75 (fun H locs hP hD hS => ?_)
    have hP : va_P D vwCl (wRef k a0 (up2 (up2 (up2 S0 1 4 ((S0 1 4) + 1)) 1 (((93 + (4 * (S0 1 10))) + 0).toNat) (S0 1 (((15 + (26 * p0)) + ((6 + (4 * 0)) + 1)).toNat))) 1 (((93 + (4 * (S0 1 10))) + 1).toNat) (S0 1 (((15 + (26 * p0)) + ((6 + (4 * 0)) + 2)).toNat)))) H := hP
    have hD : va_D A (wRef k a0 (up2 (up2 (up2 S0 1 4 ((S0 1 4) + 1)) 1 (((93 + (4 * (S0 1 10))) + 0).toNat) (S0 1 (((15 + (26 * p0)) + ((6 + (4 * 0)) + 1)).toNat))) 1 (((93 + (4 * (S0 1 10))) + 1).toNat) (S0 1 (((15 + (26 * p0)) + ((6 + (4 * 0)) + 2)).toNat)))) := hD
    refine lv_aload_n hx hb dX8_rejects_76 rfl (lv_at hl 1 rfl) ?_
    refine va_get (D := D) (ci := 10) (v := .ref (a0 1)) (C := RX8) (T := TX8) (N := 19) hx hb hts (fun w h => List.mem_cons_of_mem _ (List.mem_append_left _ (List.mem_append_right _ h))) hown hK hP 0 rfl rfl 0 (by decide) (hts (.fieldLink RX8 7 "MondayFactoryModel" "g" "[I") (List.mem_of_getElem? (i := 1) rfl)) (fun _ h9 => h9) rfl dX8_rejects_77 ?_
    refine lv_iload_n hx hb dX8_rejects_80 rfl (lv_at hl 0 rfl) ?_
    refine lv_iconst (v := iI 2) hx hb dX8_rejects_81 rfl ?_
    refine zi_add hx hb dX8_rejects_82 ?_
    refine lv_aload_n hx hb dX8_rejects_83 rfl (lv_at hl 1 rfl) ?_
    refine lv_iload_n hx hb dX8_rejects_84 rfl (lv_at hl 2 rfl) ?_
    refine lv_iconst (v := iI 0) hx hb dX8_rejects_85 rfl ?_
    refine lv_iconst (v := iI 3) hx hb dX8_rejects_86 rfl ?_
    refine z_ai0 (va_runV (As := [.int (iI p0), .int (iI 0), .int (iI 3)]) (rest := [.int (iI ((93 + (4 * (S0 1 10))) + 2)), .ref (a0 1)]) ⟨hx, hb, hml, hown, hts⟩ (c_X8_on l D k a0 (up2 (up2 (up2 S0 1 4 ((S0 1 4) + 1)) 1 (((93 + (4 * (S0 1 10))) + 0).toNat) (S0 1 (((15 + (26 * p0)) + ((6 + (4 * 0)) + 1)).toNat))) 1 (((93 + (4 * (S0 1 10))) + 1).toNat) (S0 1 (((15 + (26 * p0)) + ((6 + (4 * 0)) + 2)).toNat)))  p0 0 3 (by omega) (by omega) _) (cwV 3 hts gX8_rejects_X8_on rfl rfl rfl (by decide +kernel) ⟨(Nat.le_of_ble_eq_true rfl), (Nat.le_of_ble_eq_true rfl)⟩) (z_preV hK hG hA hP hD hS [0, 1, 2, 3, 4, 5, 6, 7] rfl (by decide) 10 rfl rfl) rfl rfl hl.1 rfl (lv_room (Nat.le_of_ble_eq_true rfl)) dX8_rejects_87 ⟨(Nat.le_of_ble_eq_true rfl), (Nat.le_of_ble_eq_true rfl)⟩) hA hP hD hS [0, 1, 2, 3, 4, 5, 6, 7] rfl (fun H locs hP hS => ?_)
    refine z_eqi (z2 := S0 1 (((15 + (26 * p0)) + ((6 + (4 * 0)) + 3)).toNat)) (show (upZ (upZ (upZ (S0 1) 4 ((S0 1 4) + 1)) (((93 + (4 * (S0 1 10))) + 0).toNat) (S0 1 (((15 + (26 * p0)) + ((6 + (4 * 0)) + 1)).toNat))) (((93 + (4 * (S0 1 10))) + 1).toNat) (S0 1 (((15 + (26 * p0)) + ((6 + (4 * 0)) + 2)).toNat))) (((15 + (26 * p0)) + ((6 + (4 * 0)) + 3)).toNat) = S0 1 (((15 + (26 * p0)) + ((6 + (4 * 0)) + 3)).toNat) from (Eq.trans (upZ_n (by omega)) (Eq.trans (upZ_n (by omega)) (Eq.trans (upZ_n (by omega)) rfl)))) ?_
    have f_6 := hB (((15 + (26 * p0)) + ((6 + (4 * 0)) + 3)).toNat)
    refine z_iast hx hb hK hP hD hS 1 0 (f := upZ (upZ (upZ (S0 1) 4 ((S0 1 4) + 1)) (((93 + (4 * (S0 1 10))) + 0).toNat) (S0 1 (((15 + (26 * p0)) + ((6 + (4 * 0)) + 1)).toNat))) (((93 + (4 * (S0 1 10))) + 1).toNat) (S0 1 (((15 + (26 * p0)) + ((6 + (4 * 0)) + 2)).toNat))) rfl rfl (i := (93 + (4 * (S0 1 10))) + 2) (by omega) (by omega) (by decide) (((93 + (4 * (S0 1 10))) + 2).toNat) rfl dX8_rejects_90 (fun H locs hP hD hS => ?_)
    have hP : va_P D vwCl (wRef k a0 (up2 (up2 (up2 (up2 S0 1 4 ((S0 1 4) + 1)) 1 (((93 + (4 * (S0 1 10))) + 0).toNat) (S0 1 (((15 + (26 * p0)) + ((6 + (4 * 0)) + 1)).toNat))) 1 (((93 + (4 * (S0 1 10))) + 1).toNat) (S0 1 (((15 + (26 * p0)) + ((6 + (4 * 0)) + 2)).toNat))) 1 (((93 + (4 * (S0 1 10))) + 2).toNat) (S0 1 (((15 + (26 * p0)) + ((6 + (4 * 0)) + 3)).toNat)))) H := hP
    have hD : va_D A (wRef k a0 (up2 (up2 (up2 (up2 S0 1 4 ((S0 1 4) + 1)) 1 (((93 + (4 * (S0 1 10))) + 0).toNat) (S0 1 (((15 + (26 * p0)) + ((6 + (4 * 0)) + 1)).toNat))) 1 (((93 + (4 * (S0 1 10))) + 1).toNat) (S0 1 (((15 + (26 * p0)) + ((6 + (4 * 0)) + 2)).toNat))) 1 (((93 + (4 * (S0 1 10))) + 2).toNat) (S0 1 (((15 + (26 * p0)) + ((6 + (4 * 0)) + 3)).toNat)))) := hD
    refine lv_aload_n hx hb dX8_rejects_91 rfl (lv_at hl 1 rfl) ?_
    refine va_get (D := D) (ci := 10) (v := .ref (a0 1)) (C := RX8) (T := TX8) (N := 19) hx hb hts (fun w h => List.mem_cons_of_mem _ (List.mem_append_left _ (List.mem_append_right _ h))) hown hK hP 0 rfl rfl 0 (by decide) (hts (.fieldLink RX8 7 "MondayFactoryModel" "g" "[I") (List.mem_of_getElem? (i := 1) rfl)) (fun _ h9 => h9) rfl dX8_rejects_92 ?_
    refine lv_iload_n hx hb dX8_rejects_95 rfl (lv_at hl 0 rfl) ?_
    refine lv_iconst (v := iI 3) hx hb dX8_rejects_96 rfl ?_
    refine zi_add hx hb dX8_rejects_97 ?_
    refine lv_iload_n hx hb dX8_rejects_98 rfl (lv_at hl 3 rfl) ?_
    refine z_iast hx hb hK hP hD hS 1 0 (f := upZ (upZ (upZ (upZ (S0 1) 4 ((S0 1 4) + 1)) (((93 + (4 * (S0 1 10))) + 0).toNat) (S0 1 (((15 + (26 * p0)) + ((6 + (4 * 0)) + 1)).toNat))) (((93 + (4 * (S0 1 10))) + 1).toNat) (S0 1 (((15 + (26 * p0)) + ((6 + (4 * 0)) + 2)).toNat))) (((93 + (4 * (S0 1 10))) + 2).toNat) (S0 1 (((15 + (26 * p0)) + ((6 + (4 * 0)) + 3)).toNat))) rfl rfl (i := (93 + (4 * (S0 1 10))) + 3) (by omega) (by omega) (by decide) (((93 + (4 * (S0 1 10))) + 3).toNat) rfl dX8_rejects_99 (fun H locs hP hD hS => ?_)
    have hP : va_P D vwCl (wRef k a0 (up2 (up2 (up2 (up2 (up2 S0 1 4 ((S0 1 4) + 1)) 1 (((93 + (4 * (S0 1 10))) + 0).toNat) (S0 1 (((15 + (26 * p0)) + ((6 + (4 * 0)) + 1)).toNat))) 1 (((93 + (4 * (S0 1 10))) + 1).toNat) (S0 1 (((15 + (26 * p0)) + ((6 + (4 * 0)) + 2)).toNat))) 1 (((93 + (4 * (S0 1 10))) + 2).toNat) (S0 1 (((15 + (26 * p0)) + ((6 + (4 * 0)) + 3)).toNat))) 1 (((93 + (4 * (S0 1 10))) + 3).toNat) p1)) H := hP
    have hD : va_D A (wRef k a0 (up2 (up2 (up2 (up2 (up2 S0 1 4 ((S0 1 4) + 1)) 1 (((93 + (4 * (S0 1 10))) + 0).toNat) (S0 1 (((15 + (26 * p0)) + ((6 + (4 * 0)) + 1)).toNat))) 1 (((93 + (4 * (S0 1 10))) + 1).toNat) (S0 1 (((15 + (26 * p0)) + ((6 + (4 * 0)) + 2)).toNat))) 1 (((93 + (4 * (S0 1 10))) + 2).toNat) (S0 1 (((15 + (26 * p0)) + ((6 + (4 * 0)) + 3)).toNat))) 1 (((93 + (4 * (S0 1 10))) + 3).toNat) p1)) := hD
    refine lv_aload_n hx hb dX8_rejects_100 rfl (lv_at hl 1 rfl) ?_
    refine va_get (D := D) (ci := 10) (v := .ref (a0 1)) (C := RX8) (T := TX8) (N := 19) hx hb hts (fun w h => List.mem_cons_of_mem _ (List.mem_append_left _ (List.mem_append_right _ h))) hown hK hP 0 rfl rfl 0 (by decide) (hts (.fieldLink RX8 7 "MondayFactoryModel" "g" "[I") (List.mem_of_getElem? (i := 1) rfl)) (fun _ h9 => h9) rfl dX8_rejects_101 ?_
    refine lv_bipush (v := iI 10) hx hb dX8_rejects_104 (by decide) ?_
    refine lv_dup2_11 hx hb dX8_rejects_106 rfl rfl ?_
    refine z_iald hx hb hK hP 1 0 (f := upZ (upZ (upZ (upZ (upZ (S0 1) 4 ((S0 1 4) + 1)) (((93 + (4 * (S0 1 10))) + 0).toNat) (S0 1 (((15 + (26 * p0)) + ((6 + (4 * 0)) + 1)).toNat))) (((93 + (4 * (S0 1 10))) + 1).toNat) (S0 1 (((15 + (26 * p0)) + ((6 + (4 * 0)) + 2)).toNat))) (((93 + (4 * (S0 1 10))) + 2).toNat) (S0 1 (((15 + (26 * p0)) + ((6 + (4 * 0)) + 3)).toNat))) (((93 + (4 * (S0 1 10))) + 3).toNat) p1) rfl rfl (i := 10) (by omega) (by omega) (by decide) 10 rfl dX8_rejects_107 ?_
    refine z_eqi (z2 := S0 1 10) (show (upZ (upZ (upZ (upZ (upZ (S0 1) 4 ((S0 1 4) + 1)) (((93 + (4 * (S0 1 10))) + 0).toNat) (S0 1 (((15 + (26 * p0)) + ((6 + (4 * 0)) + 1)).toNat))) (((93 + (4 * (S0 1 10))) + 1).toNat) (S0 1 (((15 + (26 * p0)) + ((6 + (4 * 0)) + 2)).toNat))) (((93 + (4 * (S0 1 10))) + 2).toNat) (S0 1 (((15 + (26 * p0)) + ((6 + (4 * 0)) + 3)).toNat))) (((93 + (4 * (S0 1 10))) + 3).toNat) p1) 10 = S0 1 10 from (Eq.trans (upZ_n (by omega)) (Eq.trans (upZ_n (by omega)) (Eq.trans (upZ_n (by omega)) (Eq.trans (upZ_n (by omega)) (Eq.trans (upZ_n (by omega)) rfl)))))) ?_
    refine lv_iconst (v := iI 1) hx hb dX8_rejects_108 rfl ?_
    refine zi_add hx hb dX8_rejects_109 ?_
    refine z_iast hx hb hK hP hD hS 1 0 (f := upZ (upZ (upZ (upZ (upZ (S0 1) 4 ((S0 1 4) + 1)) (((93 + (4 * (S0 1 10))) + 0).toNat) (S0 1 (((15 + (26 * p0)) + ((6 + (4 * 0)) + 1)).toNat))) (((93 + (4 * (S0 1 10))) + 1).toNat) (S0 1 (((15 + (26 * p0)) + ((6 + (4 * 0)) + 2)).toNat))) (((93 + (4 * (S0 1 10))) + 2).toNat) (S0 1 (((15 + (26 * p0)) + ((6 + (4 * 0)) + 3)).toNat))) (((93 + (4 * (S0 1 10))) + 3).toNat) p1) rfl rfl (i := 10) (by omega) (by omega) (by decide) 10 rfl dX8_rejects_110 (fun H locs hP hD hS => ?_)
    have hP : va_P D vwCl (wRef k a0 (up2 (up2 (up2 (up2 (up2 (up2 S0 1 4 ((S0 1 4) + 1)) 1 (((93 + (4 * (S0 1 10))) + 0).toNat) (S0 1 (((15 + (26 * p0)) + ((6 + (4 * 0)) + 1)).toNat))) 1 (((93 + (4 * (S0 1 10))) + 1).toNat) (S0 1 (((15 + (26 * p0)) + ((6 + (4 * 0)) + 2)).toNat))) 1 (((93 + (4 * (S0 1 10))) + 2).toNat) (S0 1 (((15 + (26 * p0)) + ((6 + (4 * 0)) + 3)).toNat))) 1 (((93 + (4 * (S0 1 10))) + 3).toNat) p1) 1 10 ((S0 1 10) + 1))) H := hP
    have hD : va_D A (wRef k a0 (up2 (up2 (up2 (up2 (up2 (up2 S0 1 4 ((S0 1 4) + 1)) 1 (((93 + (4 * (S0 1 10))) + 0).toNat) (S0 1 (((15 + (26 * p0)) + ((6 + (4 * 0)) + 1)).toNat))) 1 (((93 + (4 * (S0 1 10))) + 1).toNat) (S0 1 (((15 + (26 * p0)) + ((6 + (4 * 0)) + 2)).toNat))) 1 (((93 + (4 * (S0 1 10))) + 2).toNat) (S0 1 (((15 + (26 * p0)) + ((6 + (4 * 0)) + 3)).toNat))) 1 (((93 + (4 * (S0 1 10))) + 3).toNat) p1) 1 10 ((S0 1 10) + 1))) := hD
    exact z_vret hx hb hr hlocks hP hS dX8_rejects_111 (congrArg (fun z => wRef k a0 (upA S0 1 z)) (show sS0_1_X8_rejects S0 p0 p1 = upZ (upZ (upZ (upZ (upZ (upZ (S0 1) 4 ((S0 1 4) + 1)) (((93 + (4 * (S0 1 10))) + 0).toNat) (S0 1 (((15 + (26 * p0)) + ((6 + (4 * 0)) + 1)).toNat))) (((93 + (4 * (S0 1 10))) + 1).toNat) (S0 1 (((15 + (26 * p0)) + ((6 + (4 * 0)) + 2)).toNat))) (((93 + (4 * (S0 1 10))) + 2).toNat) (S0 1 (((15 + (26 * p0)) + ((6 + (4 * 0)) + 3)).toNat))) (((93 + (4 * (S0 1 10))) + 3).toNat) p1) 10 ((S0 1 10) + 1) from (Eq.trans (zif_neg c_3) rfl))) (Nat.le_refl _) (Nat.le_refl _)
  · refine lv_aload_n hx hb dX8_rejects_22 rfl (lv_at hl 0 rfl) ?_
    refine va_get (D := D) (ci := 10) (v := .ref (a0 1)) (C := RX8) (T := TX8) (N := 19) hx hb hts (fun w h => List.mem_cons_of_mem _ (List.mem_append_left _ (List.mem_append_right _ h))) hown hK hP 0 rfl rfl 0 (by decide) (hts (.fieldLink RX8 7 "MondayFactoryModel" "g" "[I") (List.mem_of_getElem? (i := 1) rfl)) (fun _ h9 => h9) rfl dX8_rejects_23 ?_
    refine lv_iconst (v := iI 5) hx hb dX8_rejects_26 rfl ?_
    refine lv_dup2_11 hx hb dX8_rejects_27 rfl rfl ?_
    refine z_iald hx hb hK hP 1 0 (f := upZ (S0 1) 4 ((S0 1 4) + 1)) rfl rfl (i := 5) (by omega) (by omega) (by decide) 5 rfl dX8_rejects_28 ?_
    refine z_eqi (z2 := S0 1 5) (show (upZ (S0 1) 4 ((S0 1 4) + 1)) 5 = S0 1 5 from (Eq.trans (upZ_n (by omega)) rfl)) ?_
    have f_7 := hB 5
    refine lv_iconst (v := iI 1) hx hb dX8_rejects_29 rfl ?_
    refine zi_add hx hb dX8_rejects_30 ?_
    refine z_iast hx hb hK hP hD hS 1 0 (f := upZ (S0 1) 4 ((S0 1 4) + 1)) rfl rfl (i := 5) (by omega) (by omega) (by decide) 5 rfl dX8_rejects_31 (fun H locs hP hD hS => ?_)
    have hP : va_P D vwCl (wRef k a0 (up2 (up2 S0 1 4 ((S0 1 4) + 1)) 1 5 ((S0 1 5) + 1))) H := hP
    have hD : va_D A (wRef k a0 (up2 (up2 S0 1 4 ((S0 1 4) + 1)) 1 5 ((S0 1 5) + 1))) := hD
    exact z_vret hx hb hr hlocks hP hS dX8_rejects_32 (congrArg (fun z => wRef k a0 (upA S0 1 z)) (show sS0_1_X8_rejects S0 p0 p1 = upZ (upZ (S0 1) 4 ((S0 1 4) + 1)) 5 ((S0 1 5) + 1) from (Eq.trans (zif_pos c_3) rfl))) (Nat.le_refl _) (Nat.le_refl _)
theorem zBf.rejects {S0 : Nat → Nat → Int} (h0 : zBt (S0 1)) {p0 p1 : Int} (hp : 0 ≤ p1 ∧ p1 ≤ 3) (hS : 0 ≤ S0 1 10 ∧ S0 1 10 ≤ 8) : zBf (sS0_1_X8_rejects S0 p0 p1) := by
  have h := h0.f
  have a4 := h0 4
  have a5 := h0 5
  unfold sS0_1_X8_rejects
  exact zBf.zif ((h.up (by omega)).up (by omega)) ((((((h.up (by omega)).up (h _)).up (h _)).up (h _)).up (by omega)).up (by omega))
theorem rejects_at {S0 : Nat → Nat → Int} {p0 p1 : Int} {j : Nat} (hj : j ≠ 4) (h5 : j ≠ 5) (h10 : j ≠ 10) (hj2 : j < 93) (hS : 0 ≤ S0 1 10) : sS0_1_X8_rejects S0 p0 p1 j = S0 1 j := by
  unfold sS0_1_X8_rejects
  rcases Classical.em (S0 1 10 = 8) with c | c
  · rw [zif_pos c, upZ_n (by omega), upZ_n (by omega)]
  · rw [zif_neg c, upZ_n (by omega), upZ_n (by omega), upZ_n (by omega), upZ_n (by omega), upZ_n (by omega), upZ_n (by omega)]

