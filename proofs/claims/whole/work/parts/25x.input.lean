/-- the sign at a place of the input, 0 where there is none -/
noncomputable def iSign (I : Nat → Int) (x : Int) : Int := zif (0 ≤ x ∧ x < 60) (I x.toNat) 0
theorem iSign_rng {I : Nat → Int} (h : ∀ j : Nat, 0 ≤ I j ∧ I j < 65536) {x : Int} : 0 ≤ iSign I x ∧ iSign I x < 65536 := by
  unfold iSign
  exact el1 (Q := fun z => 0 ≤ z ∧ z < 65536) (fun _ => h _) (fun _ => by omega)
noncomputable def iNumb (I : Nat → Int) (x : Int) : Int := zif (48 ≤ iSign I x ∧ iSign I x ≤ 57) (iSign I x - 48) 0
theorem iNumb_rng {I : Nat → Int} {x : Int} : 0 ≤ iNumb I x ∧ iNumb I x ≤ 9 := by
  unfold iNumb
  exact el1 (Q := fun z => 0 ≤ z ∧ z ≤ 9) (fun h => by omega) (fun _ => by omega)
/-- how many numbers an order's letter wants -/
noncomputable def iNums (c : Int) : Int := zif (c = 109 ∨ c = 116) 3 (zif (c = 98 ∨ c = 105 ∨ c = 111 ∨ c = 115 ∨ c = 114) 1 (zif (c = 104 ∨ c = 119) 0 (-2)))
theorem iNums_rng {c : Int} : iNums c = -2 ∨ (0 ≤ iNums c ∧ iNums c ≤ 3) := by
  unfold iNums
  exact el1 (Q := fun z => z = -2 ∨ (0 ≤ z ∧ z ≤ 3)) (fun _ => by omega) (fun _ => el1 (Q := fun z => z = -2 ∨ (0 ≤ z ∧ z ≤ 3)) (fun _ => by omega) (fun _ => el1 (Q := fun z => z = -2 ∨ (0 ≤ z ∧ z ≤ 3)) (fun _ => by omega) (fun _ => by omega)))
noncomputable def iDue (d c : Int) : Int := zif (d = -1) (iNums c) (zif (d = 0) (zif (c = 59) (-1) (-2)) (zif (48 ≤ c ∧ c ≤ 57) (d - 1) (-2)))
theorem iDue_rng {d c : Int} (h : -1 ≤ d ∧ d ≤ 3) : -2 ≤ iDue d c ∧ iDue d c ≤ 3 := by
  have n := iNums_rng (c := c)
  unfold iDue
  exact el1 (Q := fun z => -2 ≤ z ∧ z ≤ 3) (fun _ => by omega) (fun h1 => el1 (Q := fun z => -2 ≤ z ∧ z ≤ 3) (fun _ => el1 (Q := fun z => -2 ≤ z ∧ z ≤ 3) (fun _ => by omega) (fun _ => by omega)) (fun h2 => el1 (Q := fun z => -2 ≤ z ∧ z ≤ 3) (fun _ => by omega) (fun _ => by omega)))
noncomputable def iCount (I : Nat → Int) (n : Int) : Int := sumI (fun k => zif (iNums (iSign I k) = -2) 0 1) n
set_option maxHeartbeats 4000000 in
set_option maxRecDepth 100000 in
theorem c_X3_add (l : Launch) (D : va_G) (k : Nat → ClassId) (a0 : Nat → Nat) (S0 : Nat → Nat → Int) (p0 : Int) (hc0 : 0 ≤ S0 0 1 ∧ S0 0 1 < 60) (h0 : 0 ≤ p0 ∧ p0 < 65536) : zMv l yX3_add wsX3_add ({ frames := 0, cells := 0, slots := 0, locals := 0 } : Room) D k [.ref (a0 0), .int (iI p0)] (wInput k a0 S0) (wInput k a0 (up2 (up2 S0 1 ((S0 0 1).toNat) p0) 0 1 ((S0 0 1) + 1))) 0 0 := by
  refine zMv_of (cc := cX3_add) (maxL := 2) (ret := none) (by decide) rfl (Nat.le_of_ble_eq_true rfl) ?_
  intro p e s m args below meth c A ls hx hb hr hml hown hts hlocks hK hP hD hG hA hS hl
  have hown : s.vm.findClass RX3 = some m.cls := hown
  have hl : lv_has ls 2 [(0, .ref (a0 0)), (1, .int (iI p0))] := hl
  obtain ⟨H, hH⟩ : ∃ z, z = s.heap := ⟨_, rfl⟩
  obtain ⟨locs, hlc⟩ : ∃ z : List Loc, z = [] := ⟨_, rfl⟩
  rw [← hH] at hP
  have hS : va_S A s.heap H locs := by rw [hH, hlc]; exact hS
  rw [← hlc, ← hH]
  clear hlc hH
  refine lv_aload_n hx hb dX3_add_0 rfl (lv_at hl 0 rfl) ?_
  refine va_get (D := D) (ci := 5) (v := .int (iI (S0 0 1))) (C := RX3) (T := TX3) (N := 2) hx hb hts (fun w h => List.mem_cons_of_mem _ (List.mem_append_left _ (List.mem_append_right _ h))) hown hK hP 0 rfl rfl 1 (by decide) (hts (.fieldLink RX3 15 "MondayFactory$Input" "length" "I") (List.mem_of_getElem? (i := 1) rfl)) (fun _ h9 => h9) rfl dX3_add_1 ?_
  refine lv_bipush (v := iI 60) hx hb dX3_add_4 (by decide) ?_
  refine zi_icmp_ge (tgt := 29) hx hb dX3_add_6 (by decide) ⟨by omega, by omega⟩ ⟨by omega, by omega⟩ (fun c_1 => absurd c_1 (by omega)) (fun _ => ?_)
  refine lv_aload_n hx hb dX3_add_9 rfl (lv_at hl 0 rfl) ?_
  refine va_get (D := D) (ci := 5) (v := .ref (a0 1)) (C := RX3) (T := TX3) (N := 2) hx hb hts (fun w h => List.mem_cons_of_mem _ (List.mem_append_left _ (List.mem_append_right _ h))) hown hK hP 0 rfl rfl 0 (by decide) (hts (.fieldLink RX3 9 "MondayFactory$Input" "signs" "[C") (List.mem_of_getElem? (i := 2) rfl)) (fun _ h9 => h9) rfl dX3_add_10 ?_
  refine lv_aload_n hx hb dX3_add_13 rfl (lv_at hl 0 rfl) ?_
  refine va_get (D := D) (ci := 5) (v := .int (iI (S0 0 1))) (C := RX3) (T := TX3) (N := 2) hx hb hts (fun w h => List.mem_cons_of_mem _ (List.mem_append_left _ (List.mem_append_right _ h))) hown hK hP 0 rfl rfl 1 (by decide) (hts (.fieldLink RX3 15 "MondayFactory$Input" "length" "I") (List.mem_of_getElem? (i := 1) rfl)) (fun _ h9 => h9) rfl dX3_add_14 ?_
  refine lv_iload_n hx hb dX3_add_17 rfl (lv_at hl 1 rfl) ?_
  refine z_cast hx hb hK hP hD hS 1 1 (f := S0 1) rfl rfl (i := S0 0 1) (by omega) (by omega) (by decide) (by omega) (by omega) ((S0 0 1).toNat) rfl dX3_add_18 (fun H locs hP hD hS => ?_)
  have hP : va_P D vwCl (wInput k a0 (up2 S0 1 ((S0 0 1).toNat) p0)) H := hP
  have hD : va_D A (wInput k a0 (up2 S0 1 ((S0 0 1).toNat) p0)) := hD
  refine lv_aload_n hx hb dX3_add_19 rfl (lv_at hl 0 rfl) ?_
  refine lv_dup hx hb dX3_add_20 rfl ?_
  refine va_get (D := D) (ci := 5) (v := .int (iI (S0 0 1))) (C := RX3) (T := TX3) (N := 2) hx hb hts (fun w h => List.mem_cons_of_mem _ (List.mem_append_left _ (List.mem_append_right _ h))) hown hK hP 0 rfl rfl 1 (by decide) (hts (.fieldLink RX3 15 "MondayFactory$Input" "length" "I") (List.mem_of_getElem? (i := 1) rfl)) (fun _ h9 => h9) rfl dX3_add_21 ?_
  refine lv_iconst (v := iI 1) hx hb dX3_add_24 rfl ?_
  refine zi_add hx hb dX3_add_25 ?_
  refine va_put (D := D) (ci := 5) (v := .int (iI ((S0 0 1) + 1))) (ty := .int) (C := RX3) (T := TX3) (N := 2) hx hb hts (fun w h => List.mem_cons_of_mem _ (List.mem_append_left _ (List.mem_append_right _ h))) tyX3 tyX3_ok nmX3 hown hK hP hD hS 0 rfl rfl 1 (by decide) (hts (.fieldLink RX3 15 "MondayFactory$Input" "length" "I") (List.mem_of_getElem? (i := 1) rfl)) (fun _ h9 => h9) rfl (by decide +kernel) rfl rfl (Nat.le_of_ble_eq_true rfl) dX3_add_26 (fun H locs hP hD hS => ?_)
  have hP : va_P D vwCl (wInput k a0 (up2 (up2 S0 1 ((S0 0 1).toNat) p0) 0 1 ((S0 0 1) + 1))) H := hP
  have hD : va_D A (wInput k a0 (up2 (up2 S0 1 ((S0 0 1).toNat) p0) 0 1 ((S0 0 1) + 1))) := hD
  exact z_vret hx hb hr hlocks hP hS dX3_add_29 rfl (Nat.le_refl _) (Nat.le_refl _)
set_option maxHeartbeats 4000000 in
set_option maxRecDepth 100000 in
theorem c_X3_signAt (l : Launch) (D : va_G) (k : Nat → ClassId) (a0 : Nat → Nat) (S0 : Nat → Nat → Int) (p0 : Int) (hS1 : ∀ j : Nat, 0 ≤ S0 1 j ∧ S0 1 j < 65536) (h0 : -2147483648 ≤ p0 ∧ p0 < 2147483648) : zMi l yX3_signAt wsX3_signAt ({ frames := 0, cells := 0, slots := 0, locals := 0 } : Room) D k [.ref (a0 0), .int (iI p0)] (wInput k a0 S0) (iSign (S0 1) p0) (wInput k a0 S0) 0 0 := by
  refine zMi_of (cc := cX3_signAt) (maxL := 2) (ret := (some .char)) (by decide) rfl (Nat.le_of_ble_eq_true rfl) ?_
  intro p e s m args below meth c A ls hx hb hr hml hown hts hlocks hK hP hD hG hA hS hl
  have hown : s.vm.findClass RX3 = some m.cls := hown
  have hl : lv_has ls 2 [(0, .ref (a0 0)), (1, .int (iI p0))] := hl
  obtain ⟨H, hH⟩ : ∃ z, z = s.heap := ⟨_, rfl⟩
  obtain ⟨locs, hlc⟩ : ∃ z : List Loc, z = [] := ⟨_, rfl⟩
  rw [← hH] at hP
  have hS : va_S A s.heap H locs := by rw [hH, hlc]; exact hS
  rw [← hlc, ← hH]
  clear hlc hH
  refine lv_iload_n hx hb dX3_signAt_0 rfl (lv_at hl 1 rfl) ?_
  refine zi_if_lt (tgt := 19) hx hb dX3_signAt_1 (by decide) ⟨by omega, by omega⟩ (fun c_1 => ?_) (fun c_1 => ?_)
  · refine lv_iconst (v := iI 0) hx hb dX3_signAt_19 rfl ?_
    exact z_zret hx hb hr hlocks (iI_narC (by omega) (by omega)) hP hS dX3_signAt_20 (by unfold iSign; first | exact zif_pos (by omega) | exact zif_neg (by omega)) rfl (Nat.le_refl _) (Nat.le_refl _)
  · refine lv_iload_n hx hb dX3_signAt_4 rfl (lv_at hl 1 rfl) ?_
    refine lv_bipush (v := iI 60) hx hb dX3_signAt_5 (by decide) ?_
    refine zi_icmp_ge (tgt := 19) hx hb dX3_signAt_7 (by decide) ⟨by omega, by omega⟩ ⟨by omega, by omega⟩ (fun c_2 => ?_) (fun c_2 => ?_)
    · refine lv_iconst (v := iI 0) hx hb dX3_signAt_19 rfl ?_
      exact z_zret hx hb hr hlocks (iI_narC (by omega) (by omega)) hP hS dX3_signAt_20 (by unfold iSign; first | exact zif_pos (by omega) | exact zif_neg (by omega)) rfl (Nat.le_refl _) (Nat.le_refl _)
    · refine lv_aload_n hx hb dX3_signAt_10 rfl (lv_at hl 0 rfl) ?_
      refine va_get (D := D) (ci := 5) (v := .ref (a0 1)) (C := RX3) (T := TX3) (N := 2) hx hb hts (fun w h => List.mem_cons_of_mem _ (List.mem_append_left _ (List.mem_append_right _ h))) hown hK hP 0 rfl rfl 0 (by decide) (hts (.fieldLink RX3 9 "MondayFactory$Input" "signs" "[C") (List.mem_of_getElem? (i := 1) rfl)) (fun _ h9 => h9) rfl dX3_signAt_11 ?_
      have qs := hS1 p0.toNat
      refine lv_iload_n hx hb dX3_signAt_14 rfl (lv_at hl 1 rfl) ?_
      refine z_cald hx hb hK hP 1 1 (f := S0 1) rfl rfl (i := p0) (by omega) (by omega) (by decide) p0.toNat rfl dX3_signAt_15 ?_
      refine lv_goto (tgt := 20) hx hb dX3_signAt_16 (by decide) ?_
      exact z_zret hx hb hr hlocks (iI_narC (by omega) (by omega)) hP hS dX3_signAt_20 (by unfold iSign; first | exact zif_pos (by omega) | exact zif_neg (by omega)) rfl (Nat.le_refl _) (Nat.le_refl _)
set_option maxHeartbeats 4000000 in
set_option maxRecDepth 100000 in
theorem c_X3_isDigit (l : Launch) (D : va_G) (k : Nat → ClassId)  (p0 : Int) (h0 : 0 ≤ p0 ∧ p0 < 65536) : zMi l yX3_isDigit wsX3_isDigit ({ frames := 0, cells := 0, slots := 0, locals := 0 } : Room) D k [.int (iI p0)] (([] : va_W)) (zb (48 ≤ p0 ∧ p0 ≤ 57)) (([] : va_W)) 0 0 := by
  refine zMi_of (cc := cX3_isDigit) (maxL := 1) (ret := (some .boolean)) (by decide) rfl (Nat.le_of_ble_eq_true rfl) ?_
  intro p e s m args below meth c A ls hx hb hr hml hown hts hlocks hK hP hD hG hA hS hl
  have hown : s.vm.findClass RX3 = some m.cls := hown
  have hl : lv_has ls 1 [(0, .int (iI p0))] := hl
  obtain ⟨H, hH⟩ : ∃ z, z = s.heap := ⟨_, rfl⟩
  obtain ⟨locs, hlc⟩ : ∃ z : List Loc, z = [] := ⟨_, rfl⟩
  rw [← hH] at hP
  have hS : va_S A s.heap H locs := by rw [hH, hlc]; exact hS
  rw [← hlc, ← hH]
  clear hlc hH
  refine lv_iload_n hx hb dX3_isDigit_0 rfl (lv_at hl 0 rfl) ?_
  refine lv_bipush (v := iI 48) hx hb dX3_isDigit_1 (by decide) ?_
  refine zi_icmp_lt (tgt := 16) hx hb dX3_isDigit_3 (by decide) ⟨by omega, by omega⟩ ⟨by omega, by omega⟩ (fun c_1 => ?_) (fun c_1 => ?_)
  · refine lv_iconst (v := iI 0) hx hb dX3_isDigit_16 rfl ?_
    exact z_zret hx hb hr hlocks rfl hP hS dX3_isDigit_17 (zb_neg (by omega)) rfl (Nat.le_refl _) (Nat.le_refl _)
  · refine lv_iload_n hx hb dX3_isDigit_6 rfl (lv_at hl 0 rfl) ?_
    refine lv_bipush (v := iI 57) hx hb dX3_isDigit_7 (by decide) ?_
    refine zi_icmp_gt (tgt := 16) hx hb dX3_isDigit_9 (by decide) ⟨by omega, by omega⟩ ⟨by omega, by omega⟩ (fun c_2 => ?_) (fun c_2 => ?_)
    · refine lv_iconst (v := iI 0) hx hb dX3_isDigit_16 rfl ?_
      exact z_zret hx hb hr hlocks rfl hP hS dX3_isDigit_17 (zb_neg (by omega)) rfl (Nat.le_refl _) (Nat.le_refl _)
    · refine lv_iconst (v := iI 1) hx hb dX3_isDigit_12 rfl ?_
      refine lv_goto (tgt := 17) hx hb dX3_isDigit_13 (by decide) ?_
      exact z_zret hx hb hr hlocks rfl hP hS dX3_isDigit_17 (zb_pos (by omega)) rfl (Nat.le_refl _) (Nat.le_refl _)
set_option maxHeartbeats 4000000 in
set_option maxRecDepth 100000 in
theorem c_X3_numberAt (l : Launch) (D : va_G) (k : Nat → ClassId) (a0 : Nat → Nat) (S0 : Nat → Nat → Int) (p0 : Int) (hS1 : ∀ j : Nat, 0 ≤ S0 1 j ∧ S0 1 j < 65536) (h0 : -2147483648 ≤ p0 ∧ p0 < 2147483648) : zMi l yX3_numberAt wsX3_numberAt ({ frames := 1, cells := 0, slots := 0, locals := 21 } : Room) D k [.ref (a0 0), .int (iI p0)] (wInput k a0 S0) (iNumb (S0 1) p0) (wInput k a0 S0) 0 0 := by
  refine zMi_of (cc := cX3_numberAt) (maxL := 3) (ret := (some .int)) (by decide) rfl (Nat.le_of_ble_eq_true rfl) ?_
  intro p e s m args below meth c A ls hx hb hr hml hown hts hlocks hK hP hD hG hA hS hl
  have hown : s.vm.findClass RX3 = some m.cls := hown
  have hl : lv_has ls 3 [(0, .ref (a0 0)), (1, .int (iI p0))] := hl
  obtain ⟨H, hH⟩ : ∃ z, z = s.heap := ⟨_, rfl⟩
  obtain ⟨locs, hlc⟩ : ∃ z : List Loc, z = [] := ⟨_, rfl⟩
  rw [← hH] at hP
  have hS : va_S A s.heap H locs := by rw [hH, hlc]; exact hS
  rw [← hlc, ← hH]
  clear hlc hH
  refine lv_aload_n hx hb dX3_numberAt_0 rfl (lv_at hl 0 rfl) ?_
  refine lv_iload_n hx hb dX3_numberAt_1 rfl (lv_at hl 1 rfl) ?_
  refine z_ai0 (va_runV (As := [.int (iI p0)]) (rest := []) ⟨hx, hb, hml, hown, hts⟩ (c_X3_signAt l D k a0 S0  p0 hS1 (by omega) _) (cwV 1 hts gX3_numberAt_X3_signAt rfl rfl rfl (by decide +kernel) ⟨(Nat.le_of_ble_eq_true rfl), (Nat.le_of_ble_eq_true rfl)⟩) (z_preV hK hG hA hP hD hS [0, 1] rfl (by decide) 5 rfl rfl) rfl rfl hl.1 rfl (lv_room (Nat.le_of_ble_eq_true rfl)) dX3_numberAt_2 ⟨(Nat.le_of_ble_eq_true rfl), (Nat.le_of_ble_eq_true rfl)⟩) hA hP hD hS [0, 1] rfl (fun H locs hP hS => ?_)
  have q_1 : 0 ≤ iSign (S0 1) p0 ∧ iSign (S0 1) p0 < 65536 := iSign_rng hS1
  refine lv_istore_n (lv' := [(2, .int (iI (iSign (S0 1) p0))), (0, .ref (a0 0)), (1, .int (iI p0))]) hx hb dX3_numberAt_5 rfl hl (by decide) rfl (fun ls hl => ?_)
  refine lv_iload_n hx hb dX3_numberAt_6 rfl (lv_at hl 0 rfl) ?_
  refine z_ai0 (va_runS (As := [.int (iI (iSign (S0 1) p0))]) (rest := []) ⟨hx, hb, hml, hown, hts⟩ (c_X3_isDigit l D k   (iSign (S0 1) p0) (by omega) _) (va_cwS 1 hts gX3_numberAt_X3_isDigit rfl rfl rfl (by decide +kernel) ⟨(Nat.le_of_ble_eq_true rfl), (Nat.le_of_ble_eq_true rfl)⟩) (z_preS hK hG hA hP hD hS [] rfl (by decide)) rfl rfl hl.1 rfl (lv_room (Nat.le_of_ble_eq_true rfl)) dX3_numberAt_7 ⟨(Nat.le_of_ble_eq_true rfl), (Nat.le_of_ble_eq_true rfl)⟩) hA hP hD hS [] rfl (fun H locs hP hS => ?_)
  refine zi_if_eqB (tgt := 20) hx hb dX3_numberAt_10 (by decide) (fun c_2 => ?_) (fun c_2 => ?_)
  · refine lv_iconst (v := iI 0) hx hb dX3_numberAt_20 rfl ?_
    exact z_iret hx hb hr hlocks hP hS dX3_numberAt_21 (by unfold iNumb; first | exact zif_pos (by assumption) | exact zif_neg (by assumption)) rfl (Nat.le_refl _) (Nat.le_refl _)
  · refine lv_iload_n hx hb dX3_numberAt_13 rfl (lv_at hl 0 rfl) ?_
    refine lv_bipush (v := iI 48) hx hb dX3_numberAt_14 (by decide) ?_
    refine zi_sub hx hb dX3_numberAt_16 ?_
    refine lv_goto (tgt := 21) hx hb dX3_numberAt_17 (by decide) ?_
    exact z_iret hx hb hr hlocks hP hS dX3_numberAt_21 (by unfold iNumb; first | exact zif_pos (by assumption) | exact zif_neg (by assumption)) rfl (Nat.le_refl _) (Nat.le_refl _)
set_option maxHeartbeats 4000000 in
set_option maxRecDepth 100000 in
theorem c_X3_numbersOf (l : Launch) (D : va_G) (k : Nat → ClassId)  (p0 : Int) (h0 : 0 ≤ p0 ∧ p0 < 65536) : zMi l yX3_numbersOf wsX3_numbersOf ({ frames := 0, cells := 0, slots := 0, locals := 0 } : Room) D k [.int (iI p0)] (([] : va_W)) (iNums p0) (([] : va_W)) 0 0 := by
  refine zMi_of (cc := cX3_numbersOf) (maxL := 1) (ret := (some .int)) (by decide) rfl (Nat.le_of_ble_eq_true rfl) ?_
  intro p e s m args below meth c A ls hx hb hr hml hown hts hlocks hK hP hD hG hA hS hl
  have hown : s.vm.findClass RX3 = some m.cls := hown
  have hl : lv_has ls 1 [(0, .int (iI p0))] := hl
  obtain ⟨H, hH⟩ : ∃ z, z = s.heap := ⟨_, rfl⟩
  obtain ⟨locs, hlc⟩ : ∃ z : List Loc, z = [] := ⟨_, rfl⟩
  rw [← hH] at hP
  have hS : va_S A s.heap H locs := by rw [hH, hlc]; exact hS
  rw [← hlc, ← hH]
  clear hlc hH
  refine lv_iload_n hx hb dX3_numbersOf_0 rfl (lv_at hl 0 rfl) ?_
  by_cases w_1 : p0 = 98
  · refine z_tabI hx hb dX3_numbersOf_1 (x := p0) ⟨by omega, by omega⟩ (v := 98) w_1 (by decide) (by decide) (off := 105) (by decide) (tgt := 106) (by decide) ?_
    refine lv_iconst (v := iI 1) hx hb dX3_numbersOf_106 rfl ?_
    exact z_iret hx hb hr hlocks hP hS dX3_numbersOf_107 (by unfold iNums; first | (rw [zif_pos (by omega)]) | (rw [zif_neg (by omega), zif_pos (by omega)]) | (rw [zif_neg (by omega), zif_neg (by omega), zif_pos (by omega)]) | (rw [zif_neg (by omega), zif_neg (by omega), zif_neg (by omega)])) rfl (Nat.le_refl _) (Nat.le_refl _)
  · by_cases w_2 : p0 = 104
    · refine z_tabI hx hb dX3_numbersOf_1 (x := p0) ⟨by omega, by omega⟩ (v := 104) w_2 (by decide) (by decide) (off := 107) (by decide) (tgt := 108) (by decide) ?_
      refine lv_iconst (v := iI 0) hx hb dX3_numbersOf_108 rfl ?_
      exact z_iret hx hb hr hlocks hP hS dX3_numbersOf_109 (by unfold iNums; first | (rw [zif_pos (by omega)]) | (rw [zif_neg (by omega), zif_pos (by omega)]) | (rw [zif_neg (by omega), zif_neg (by omega), zif_pos (by omega)]) | (rw [zif_neg (by omega), zif_neg (by omega), zif_neg (by omega)])) rfl (Nat.le_refl _) (Nat.le_refl _)
    · by_cases w_3 : p0 = 105
      · refine z_tabI hx hb dX3_numbersOf_1 (x := p0) ⟨by omega, by omega⟩ (v := 105) w_3 (by decide) (by decide) (off := 105) (by decide) (tgt := 106) (by decide) ?_
        refine lv_iconst (v := iI 1) hx hb dX3_numbersOf_106 rfl ?_
        exact z_iret hx hb hr hlocks hP hS dX3_numbersOf_107 (by unfold iNums; first | (rw [zif_pos (by omega)]) | (rw [zif_neg (by omega), zif_pos (by omega)]) | (rw [zif_neg (by omega), zif_neg (by omega), zif_pos (by omega)]) | (rw [zif_neg (by omega), zif_neg (by omega), zif_neg (by omega)])) rfl (Nat.le_refl _) (Nat.le_refl _)
      · by_cases w_4 : p0 = 109
        · refine z_tabI hx hb dX3_numbersOf_1 (x := p0) ⟨by omega, by omega⟩ (v := 109) w_4 (by decide) (by decide) (off := 103) (by decide) (tgt := 104) (by decide) ?_
          refine lv_iconst (v := iI 3) hx hb dX3_numbersOf_104 rfl ?_
          exact z_iret hx hb hr hlocks hP hS dX3_numbersOf_105 (by unfold iNums; first | (rw [zif_pos (by omega)]) | (rw [zif_neg (by omega), zif_pos (by omega)]) | (rw [zif_neg (by omega), zif_neg (by omega), zif_pos (by omega)]) | (rw [zif_neg (by omega), zif_neg (by omega), zif_neg (by omega)])) rfl (Nat.le_refl _) (Nat.le_refl _)
        · by_cases w_5 : p0 = 111
          · refine z_tabI hx hb dX3_numbersOf_1 (x := p0) ⟨by omega, by omega⟩ (v := 111) w_5 (by decide) (by decide) (off := 105) (by decide) (tgt := 106) (by decide) ?_
            refine lv_iconst (v := iI 1) hx hb dX3_numbersOf_106 rfl ?_
            exact z_iret hx hb hr hlocks hP hS dX3_numbersOf_107 (by unfold iNums; first | (rw [zif_pos (by omega)]) | (rw [zif_neg (by omega), zif_pos (by omega)]) | (rw [zif_neg (by omega), zif_neg (by omega), zif_pos (by omega)]) | (rw [zif_neg (by omega), zif_neg (by omega), zif_neg (by omega)])) rfl (Nat.le_refl _) (Nat.le_refl _)
          · by_cases w_6 : p0 = 114
            · refine z_tabI hx hb dX3_numbersOf_1 (x := p0) ⟨by omega, by omega⟩ (v := 114) w_6 (by decide) (by decide) (off := 105) (by decide) (tgt := 106) (by decide) ?_
              refine lv_iconst (v := iI 1) hx hb dX3_numbersOf_106 rfl ?_
              exact z_iret hx hb hr hlocks hP hS dX3_numbersOf_107 (by unfold iNums; first | (rw [zif_pos (by omega)]) | (rw [zif_neg (by omega), zif_pos (by omega)]) | (rw [zif_neg (by omega), zif_neg (by omega), zif_pos (by omega)]) | (rw [zif_neg (by omega), zif_neg (by omega), zif_neg (by omega)])) rfl (Nat.le_refl _) (Nat.le_refl _)
            · by_cases w_7 : p0 = 115
              · refine z_tabI hx hb dX3_numbersOf_1 (x := p0) ⟨by omega, by omega⟩ (v := 115) w_7 (by decide) (by decide) (off := 105) (by decide) (tgt := 106) (by decide) ?_
                refine lv_iconst (v := iI 1) hx hb dX3_numbersOf_106 rfl ?_
                exact z_iret hx hb hr hlocks hP hS dX3_numbersOf_107 (by unfold iNums; first | (rw [zif_pos (by omega)]) | (rw [zif_neg (by omega), zif_pos (by omega)]) | (rw [zif_neg (by omega), zif_neg (by omega), zif_pos (by omega)]) | (rw [zif_neg (by omega), zif_neg (by omega), zif_neg (by omega)])) rfl (Nat.le_refl _) (Nat.le_refl _)
              · by_cases w_8 : p0 = 116
                · refine z_tabI hx hb dX3_numbersOf_1 (x := p0) ⟨by omega, by omega⟩ (v := 116) w_8 (by decide) (by decide) (off := 103) (by decide) (tgt := 104) (by decide) ?_
                  refine lv_iconst (v := iI 3) hx hb dX3_numbersOf_104 rfl ?_
                  exact z_iret hx hb hr hlocks hP hS dX3_numbersOf_105 (by unfold iNums; first | (rw [zif_pos (by omega)]) | (rw [zif_neg (by omega), zif_pos (by omega)]) | (rw [zif_neg (by omega), zif_neg (by omega), zif_pos (by omega)]) | (rw [zif_neg (by omega), zif_neg (by omega), zif_neg (by omega)])) rfl (Nat.le_refl _) (Nat.le_refl _)
                · by_cases w_9 : p0 = 119
                  · refine z_tabI hx hb dX3_numbersOf_1 (x := p0) ⟨by omega, by omega⟩ (v := 119) w_9 (by decide) (by decide) (off := 107) (by decide) (tgt := 108) (by decide) ?_
                    refine lv_iconst (v := iI 0) hx hb dX3_numbersOf_108 rfl ?_
                    exact z_iret hx hb hr hlocks hP hS dX3_numbersOf_109 (by unfold iNums; first | (rw [zif_pos (by omega)]) | (rw [zif_neg (by omega), zif_pos (by omega)]) | (rw [zif_neg (by omega), zif_neg (by omega), zif_pos (by omega)]) | (rw [zif_neg (by omega), zif_neg (by omega), zif_neg (by omega)])) rfl (Nat.le_refl _) (Nat.le_refl _)
                  · refine z_tabD hx hb dX3_numbersOf_1 (x := p0) ⟨by omega, by omega⟩ (tgt := 110) (by decide) (by rcases Classical.em (p0 < 98 ∨ 119 < p0) with h9 | h9; (left; exact h9); (right; exact ⟨109, (Or.resolve_left (Or.resolve_left (Or.resolve_left (Or.resolve_left (Or.resolve_left (Or.resolve_left (Or.resolve_left (Or.resolve_left (Or.resolve_left ((show ∀ n : Nat, n < 22 → (n = 0 ∨ n = 6 ∨ n = 7 ∨ n = 11 ∨ n = 13 ∨ n = 16 ∨ n = 17 ∨ n = 18 ∨ n = 21 ∨ (#[105, 109, 109, 109, 109, 109, 107, 105, 109, 109, 109, 103, 109, 105, 109, 109, 105, 105, 103, 109, 109, 107] : Array Int)[n]? = some 109) by decide +kernel) (p0 - 98).toNat (by omega)) (by omega)) (by omega)) (by omega)) (by omega)) (by omega)) (by omega)) (by omega)) (by omega)) (by omega)), rfl, by omega, by omega⟩)) ?_
                    refine lv_bipush (v := iI (-2)) hx hb dX3_numbersOf_110 (by decide) ?_
                    exact z_iret hx hb hr hlocks hP hS dX3_numbersOf_112 (by unfold iNums; first | (rw [zif_pos (by omega)]) | (rw [zif_neg (by omega), zif_pos (by omega)]) | (rw [zif_neg (by omega), zif_neg (by omega), zif_pos (by omega)]) | (rw [zif_neg (by omega), zif_neg (by omega), zif_neg (by omega)])) rfl (Nat.le_refl _) (Nat.le_refl _)
