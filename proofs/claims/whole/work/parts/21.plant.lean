noncomputable def wPrice (N : Nat → Int) (c p : Int) : Int := 12 - wNum N c p 0 + zif (wNum N c p 3 = 2) 4 0
theorem wPrice_bd {N : Nat → Int} (h : zBf N) {c p : Int} : -1000000100 ≤ wPrice N c p ∧ wPrice N c p ≤ 1000000100 := by
  have a := wNum_bd h (c := c) (p := p) (q := 0)
  unfold wPrice
  exact el1 (Q := fun z => -1000000100 ≤ 12 - wNum N c p 0 + z ∧ 12 - wNum N c p 0 + z ≤ 1000000100) (fun _ => by omega) (fun _ => by omega)
/-- the price of one, so many having been sold in the week -/
noncomputable def wWorth (N : Nat → Int) (c p d : Int) : Int := max 1 (wPrice N c p - d)
theorem wWorth_bd {N : Nat → Int} (h : zBf N) {c p d : Int} (hd : -1000000000 ≤ d ∧ d ≤ 1000000000) : 1 ≤ wWorth N c p d ∧ wWorth N c p d ≤ 2000000100 := by
  have a := wPrice_bd h (c := c) (p := p)
  unfold wWorth
  omega
noncomputable def wBestF (N : Nat → Int) (c d : Int) : Int → Int → Int := fun k a => zif (wWorth N c k d ≤ wWorth N c a d) a k
noncomputable def wBest (N : Nat → Int) (c d : Int) : Int := foldI (wBestF N c d) 0 (max 1 c)
theorem wBest_0 (N : Nat → Int) (c d : Int) : (0 : Int) = foldI (wBestF N c d) 0 1 := by
  show (0 : Int) = zif (wWorth N c 0 d ≤ wWorth N c 0 d) 0 0
  rw [zif_same]
set_option maxHeartbeats 4000000 in
set_option maxRecDepth 100000 in
theorem c_X5_copyFrom (l : Launch) (D : va_G) (k : Nat → ClassId) (a0 : Nat → Nat) (S0 : Nat → Nat → Int) (a1 : Nat → Nat) (S1 : Nat → Nat → Int) (hk13 : 0 ≤ S1 3 1 ∧ S1 3 1 ≤ 8) (hk16 : 0 ≤ S1 6 1 ∧ S1 6 1 ≤ 8) (hk19 : 0 ≤ S1 9 1 ∧ S1 9 1 ≤ 8) (hk111 : 0 ≤ S1 11 1 ∧ S1 11 1 ≤ 8) : zMv l yX5_copyFrom wsX5_copyFrom ({ frames := 3, cells := 0, slots := 0, locals := 82 } : Room) D k [.ref (a0 0), .ref (a1 0)] (wPlant k a0 S0 ++ wPlant k a1 S1) (wPlant k a0 (up2 (up2 (up2 (up2 (up2 (up2 (up2 (up2 (upA (up2 (upA (up2 (up2 (up2 (up2 (up2 (up2 (upA (up2 (up2 (up2 (up2 (up2 (up2 (upA (up2 (up2 (up2 (up2 (up2 (up2 (upA (up2 S0 3 1 (S1 3 1)) 4 (cpyZ (S1 4) (S0 4) 0 0 (((S1 3 1) * 4).toNat))) 2 1 (S1 2 1)) 2 2 (S1 2 2)) 2 3 (S1 2 3)) 2 4 (S1 2 4)) 2 5 (S1 2 5)) 6 1 (S1 6 1)) 7 (cpyZ (S1 7) (S0 7) 0 0 (((S1 6 1) * 4).toNat))) 5 1 (S1 5 1)) 5 2 (S1 5 2)) 5 3 (S1 5 3)) 5 4 (S1 5 4)) 5 5 (S1 5 5)) 9 1 (S1 9 1)) 10 (cpyZ (S1 10) (S0 10) 0 0 (((S1 9 1) * 4).toNat))) 8 1 (S1 8 1)) 8 2 (S1 8 2)) 8 3 (S1 8 3)) 8 4 (S1 8 4)) 8 5 (S1 8 5)) 11 1 (S1 11 1)) 12 (cpyZ (S1 12) (S0 12) 0 0 (((S1 11 1) * 4).toNat))) 13 1 (S1 13 1)) 14 (cpyZ (S1 14) (S0 14) 0 0 4)) 0 3 (S1 0 3)) 0 4 (S1 0 4)) 0 5 (S1 0 5)) 0 6 (S1 0 6)) 0 7 (S1 0 7)) 0 8 (S1 0 8)) 0 9 (S1 0 9)) 0 10 (S1 0 10)) ++ wPlant k a1 S1) 0 0 := by
  refine zMv_of (cc := cX5_copyFrom) (maxL := 3) (ret := none) (by decide) rfl (Nat.le_of_ble_eq_true rfl) ?_
  intro p e s m args below meth c A ls hx hb hr hml hown hts hlocks hK hP hD hG hA hS hl
  have hown : s.vm.findClass RX5 = some m.cls := hown
  have hl : lv_has ls 3 [(0, .ref (a0 0)), (1, .ref (a1 0))] := hl
  obtain ⟨H, hH⟩ : ∃ z, z = s.heap := ⟨_, rfl⟩
  obtain ⟨locs, hlc⟩ : ∃ z : List Loc, z = [] := ⟨_, rfl⟩
  rw [← hH] at hP
  have hS : va_S A s.heap H locs := by rw [hH, hlc]; exact hS
  rw [← hlc, ← hH]
  clear hlc hH
  refine lv_iconst (v := iI 0) hx hb dX5_copyFrom_0 rfl ?_
  refine lv_istore_n (lv' := [(2, .int (iI 0)), (0, .ref (a0 0)), (1, .ref (a1 0))]) hx hb dX5_copyFrom_1 rfl hl (by decide) rfl (fun ls hl => ?_)
  refine lv_iload_n hx hb dX5_copyFrom_2 rfl (lv_at hl 0 rfl) ?_
  refine lv_iconst (v := iI 3) hx hb dX5_copyFrom_3 rfl ?_
  refine zi_icmp_ge (tgt := 28) hx hb dX5_copyFrom_4 (by decide) ⟨by omega, by omega⟩ ⟨by omega, by omega⟩ (fun c_1 => absurd c_1 (by omega)) (fun _ => ?_)
  refine lv_aload_n hx hb dX5_copyFrom_7 rfl (lv_at hl 1 rfl) ?_
  refine va_get (D := D) (ci := 7) (v := .ref (a0 1)) (C := RX5) (T := TX5) (N := 11) hx hb hts (fun w h => List.mem_cons_of_mem _ (List.mem_append_left _ (List.mem_append_left _ (List.mem_append_left _ (List.mem_append_right _ h))))) hown hK hP 0 rfl rfl 0 (by decide) (hts (.fieldLink RX5 12 "MondayFactory$Plant" "belts" "[LMondayFactory$Belt;") (List.mem_of_getElem? (i := 1) rfl)) (fun _ h9 => h9) rfl dX5_copyFrom_8 ?_
  refine lv_iload_n hx hb dX5_copyFrom_11 rfl (lv_at hl 0 rfl) ?_
  refine z_aald hx hb hK hP 1 2 (f := fun j => some (a0 (2 + 3 * j))) (q := a0 2) rfl rfl (i := 0) (by omega) (by omega) (by decide) rfl dX5_copyFrom_12 ?_
  refine lv_aload_n hx hb dX5_copyFrom_13 rfl (lv_at hl 2 rfl) ?_
  refine va_get (D := D) (ci := 7) (v := .ref (a1 1)) (C := RX5) (T := TX5) (N := 11) hx hb hts (fun w h => List.mem_cons_of_mem _ (List.mem_append_left _ (List.mem_append_left _ (List.mem_append_left _ (List.mem_append_right _ h))))) hown hK hP 15 rfl rfl 0 (by decide) (hts (.fieldLink RX5 12 "MondayFactory$Plant" "belts" "[LMondayFactory$Belt;") (List.mem_of_getElem? (i := 1) rfl)) (fun _ h9 => h9) rfl dX5_copyFrom_14 ?_
  refine lv_iload_n hx hb dX5_copyFrom_17 rfl (lv_at hl 0 rfl) ?_
  refine z_aald hx hb hK hP 16 2 (f := fun j => some (a1 (2 + 3 * j))) (q := a1 2) rfl rfl (i := 0) (by omega) (by omega) (by decide) rfl dX5_copyFrom_18 ?_
  refine z_av (va_runV (As := [.ref (a1 2)]) (rest := []) ⟨hx, hb, hml, hown, hts⟩ (c_X0_copyFrom l D k (subA a0 2) (sub2 S0 2) (subA a1 2) (sub2 S1 2)   (by have e0 : ((sub2 S1 2) 1 1) = S1 3 1 := rfl; omega) _) (cwV 1 hts gX5_copyFrom_X0_copyFrom rfl rfl rfl (by decide +kernel) ⟨(Nat.le_of_ble_eq_true rfl), (Nat.le_of_ble_eq_true rfl)⟩) (z_preV hK hG hA hP hD hS [2, 3, 4, 17, 18, 19] rfl (by decide) 2 rfl rfl) rfl rfl hl.1 rfl (lv_room (Nat.le_of_ble_eq_true rfl)) dX5_copyFrom_19 ⟨(Nat.le_of_ble_eq_true rfl), (Nat.le_of_ble_eq_true rfl)⟩) hA hP hD hS [2, 3, 4, 17, 18, 19] rfl rfl (fun H locs hP hD hS => ?_)
  have hP : va_P D vwCl (wPlant k a0 (up2 (up2 (up2 (up2 (up2 (upA (up2 S0 3 1 (S1 3 1)) 4 (cpyZ (S1 4) (S0 4) 0 0 (((S1 3 1) * 4).toNat))) 2 1 (S1 2 1)) 2 2 (S1 2 2)) 2 3 (S1 2 3)) 2 4 (S1 2 4)) 2 5 (S1 2 5)) ++ wPlant k a1 S1) H := hP
  have hD : va_D A (wPlant k a0 (up2 (up2 (up2 (up2 (up2 (upA (up2 S0 3 1 (S1 3 1)) 4 (cpyZ (S1 4) (S0 4) 0 0 (((S1 3 1) * 4).toNat))) 2 1 (S1 2 1)) 2 2 (S1 2 2)) 2 3 (S1 2 3)) 2 4 (S1 2 4)) 2 5 (S1 2 5)) ++ wPlant k a1 S1) := hD
  refine lv_iinc (v := iI (1)) (lv' := [(2, .int (iI 1)), (0, .ref (a0 0)), (1, .ref (a1 0))]) hx hb dX5_copyFrom_22 hl (k := 0) rfl (iI_add 0 1) (by decide) rfl (fun ls hl => ?_)
  refine lv_goto (tgt := 2) hx hb dX5_copyFrom_25 (by decide) ?_
  refine lv_iload_n hx hb dX5_copyFrom_2 rfl (lv_at hl 0 rfl) ?_
  refine lv_iconst (v := iI 3) hx hb dX5_copyFrom_3 rfl ?_
  refine zi_icmp_ge (tgt := 28) hx hb dX5_copyFrom_4 (by decide) ⟨by omega, by omega⟩ ⟨by omega, by omega⟩ (fun c_2 => absurd c_2 (by omega)) (fun _ => ?_)
  refine lv_aload_n hx hb dX5_copyFrom_7 rfl (lv_at hl 1 rfl) ?_
  refine va_get (D := D) (ci := 7) (v := .ref (a0 1)) (C := RX5) (T := TX5) (N := 11) hx hb hts (fun w h => List.mem_cons_of_mem _ (List.mem_append_left _ (List.mem_append_left _ (List.mem_append_left _ (List.mem_append_right _ h))))) hown hK hP 0 rfl rfl 0 (by decide) (hts (.fieldLink RX5 12 "MondayFactory$Plant" "belts" "[LMondayFactory$Belt;") (List.mem_of_getElem? (i := 1) rfl)) (fun _ h9 => h9) rfl dX5_copyFrom_8 ?_
  refine lv_iload_n hx hb dX5_copyFrom_11 rfl (lv_at hl 0 rfl) ?_
  refine z_aald hx hb hK hP 1 2 (f := fun j => some (a0 (2 + 3 * j))) (q := a0 5) rfl rfl (i := 1) (by omega) (by omega) (by decide) rfl dX5_copyFrom_12 ?_
  refine lv_aload_n hx hb dX5_copyFrom_13 rfl (lv_at hl 2 rfl) ?_
  refine va_get (D := D) (ci := 7) (v := .ref (a1 1)) (C := RX5) (T := TX5) (N := 11) hx hb hts (fun w h => List.mem_cons_of_mem _ (List.mem_append_left _ (List.mem_append_left _ (List.mem_append_left _ (List.mem_append_right _ h))))) hown hK hP 15 rfl rfl 0 (by decide) (hts (.fieldLink RX5 12 "MondayFactory$Plant" "belts" "[LMondayFactory$Belt;") (List.mem_of_getElem? (i := 1) rfl)) (fun _ h9 => h9) rfl dX5_copyFrom_14 ?_
  refine lv_iload_n hx hb dX5_copyFrom_17 rfl (lv_at hl 0 rfl) ?_
  refine z_aald hx hb hK hP 16 2 (f := fun j => some (a1 (2 + 3 * j))) (q := a1 5) rfl rfl (i := 1) (by omega) (by omega) (by decide) rfl dX5_copyFrom_18 ?_
  refine z_av (va_runV (As := [.ref (a1 5)]) (rest := []) ⟨hx, hb, hml, hown, hts⟩ (c_X0_copyFrom l D k (subA a0 5) (sub2 (up2 (up2 (up2 (up2 (up2 (upA (up2 S0 3 1 (S1 3 1)) 4 (cpyZ (S1 4) (S0 4) 0 0 (((S1 3 1) * 4).toNat))) 2 1 (S1 2 1)) 2 2 (S1 2 2)) 2 3 (S1 2 3)) 2 4 (S1 2 4)) 2 5 (S1 2 5)) 5) (subA a1 5) (sub2 S1 5)   (by have e0 : ((sub2 S1 5) 1 1) = S1 6 1 := rfl; omega) _) (cwV 1 hts gX5_copyFrom_X0_copyFrom rfl rfl rfl (by decide +kernel) ⟨(Nat.le_of_ble_eq_true rfl), (Nat.le_of_ble_eq_true rfl)⟩) (z_preV hK hG hA hP hD hS [5, 6, 7, 20, 21, 22] rfl (by decide) 2 rfl rfl) rfl rfl hl.1 rfl (lv_room (Nat.le_of_ble_eq_true rfl)) dX5_copyFrom_19 ⟨(Nat.le_of_ble_eq_true rfl), (Nat.le_of_ble_eq_true rfl)⟩) hA hP hD hS [5, 6, 7, 20, 21, 22] rfl rfl (fun H locs hP hD hS => ?_)
  have hP : va_P D vwCl (wPlant k a0 (up2 (up2 (up2 (up2 (up2 (upA (up2 (up2 (up2 (up2 (up2 (up2 (upA (up2 S0 3 1 (S1 3 1)) 4 (cpyZ (S1 4) (S0 4) 0 0 (((S1 3 1) * 4).toNat))) 2 1 (S1 2 1)) 2 2 (S1 2 2)) 2 3 (S1 2 3)) 2 4 (S1 2 4)) 2 5 (S1 2 5)) 6 1 (S1 6 1)) 7 (cpyZ (S1 7) (S0 7) 0 0 (((S1 6 1) * 4).toNat))) 5 1 (S1 5 1)) 5 2 (S1 5 2)) 5 3 (S1 5 3)) 5 4 (S1 5 4)) 5 5 (S1 5 5)) ++ wPlant k a1 S1) H := hP
  have hD : va_D A (wPlant k a0 (up2 (up2 (up2 (up2 (up2 (upA (up2 (up2 (up2 (up2 (up2 (up2 (upA (up2 S0 3 1 (S1 3 1)) 4 (cpyZ (S1 4) (S0 4) 0 0 (((S1 3 1) * 4).toNat))) 2 1 (S1 2 1)) 2 2 (S1 2 2)) 2 3 (S1 2 3)) 2 4 (S1 2 4)) 2 5 (S1 2 5)) 6 1 (S1 6 1)) 7 (cpyZ (S1 7) (S0 7) 0 0 (((S1 6 1) * 4).toNat))) 5 1 (S1 5 1)) 5 2 (S1 5 2)) 5 3 (S1 5 3)) 5 4 (S1 5 4)) 5 5 (S1 5 5)) ++ wPlant k a1 S1) := hD
  refine lv_iinc (v := iI (2)) (lv' := [(2, .int (iI 2)), (0, .ref (a0 0)), (1, .ref (a1 0))]) hx hb dX5_copyFrom_22 hl (k := 0) rfl (iI_add 1 1) (by decide) rfl (fun ls hl => ?_)
  refine lv_goto (tgt := 2) hx hb dX5_copyFrom_25 (by decide) ?_
  refine lv_iload_n hx hb dX5_copyFrom_2 rfl (lv_at hl 0 rfl) ?_
  refine lv_iconst (v := iI 3) hx hb dX5_copyFrom_3 rfl ?_
  refine zi_icmp_ge (tgt := 28) hx hb dX5_copyFrom_4 (by decide) ⟨by omega, by omega⟩ ⟨by omega, by omega⟩ (fun c_3 => absurd c_3 (by omega)) (fun _ => ?_)
  refine lv_aload_n hx hb dX5_copyFrom_7 rfl (lv_at hl 1 rfl) ?_
  refine va_get (D := D) (ci := 7) (v := .ref (a0 1)) (C := RX5) (T := TX5) (N := 11) hx hb hts (fun w h => List.mem_cons_of_mem _ (List.mem_append_left _ (List.mem_append_left _ (List.mem_append_left _ (List.mem_append_right _ h))))) hown hK hP 0 rfl rfl 0 (by decide) (hts (.fieldLink RX5 12 "MondayFactory$Plant" "belts" "[LMondayFactory$Belt;") (List.mem_of_getElem? (i := 1) rfl)) (fun _ h9 => h9) rfl dX5_copyFrom_8 ?_
  refine lv_iload_n hx hb dX5_copyFrom_11 rfl (lv_at hl 0 rfl) ?_
  refine z_aald hx hb hK hP 1 2 (f := fun j => some (a0 (2 + 3 * j))) (q := a0 8) rfl rfl (i := 2) (by omega) (by omega) (by decide) rfl dX5_copyFrom_12 ?_
  refine lv_aload_n hx hb dX5_copyFrom_13 rfl (lv_at hl 2 rfl) ?_
  refine va_get (D := D) (ci := 7) (v := .ref (a1 1)) (C := RX5) (T := TX5) (N := 11) hx hb hts (fun w h => List.mem_cons_of_mem _ (List.mem_append_left _ (List.mem_append_left _ (List.mem_append_left _ (List.mem_append_right _ h))))) hown hK hP 15 rfl rfl 0 (by decide) (hts (.fieldLink RX5 12 "MondayFactory$Plant" "belts" "[LMondayFactory$Belt;") (List.mem_of_getElem? (i := 1) rfl)) (fun _ h9 => h9) rfl dX5_copyFrom_14 ?_
  refine lv_iload_n hx hb dX5_copyFrom_17 rfl (lv_at hl 0 rfl) ?_
  refine z_aald hx hb hK hP 16 2 (f := fun j => some (a1 (2 + 3 * j))) (q := a1 8) rfl rfl (i := 2) (by omega) (by omega) (by decide) rfl dX5_copyFrom_18 ?_
  refine z_av (va_runV (As := [.ref (a1 8)]) (rest := []) ⟨hx, hb, hml, hown, hts⟩ (c_X0_copyFrom l D k (subA a0 8) (sub2 (up2 (up2 (up2 (up2 (up2 (upA (up2 (up2 (up2 (up2 (up2 (up2 (upA (up2 S0 3 1 (S1 3 1)) 4 (cpyZ (S1 4) (S0 4) 0 0 (((S1 3 1) * 4).toNat))) 2 1 (S1 2 1)) 2 2 (S1 2 2)) 2 3 (S1 2 3)) 2 4 (S1 2 4)) 2 5 (S1 2 5)) 6 1 (S1 6 1)) 7 (cpyZ (S1 7) (S0 7) 0 0 (((S1 6 1) * 4).toNat))) 5 1 (S1 5 1)) 5 2 (S1 5 2)) 5 3 (S1 5 3)) 5 4 (S1 5 4)) 5 5 (S1 5 5)) 8) (subA a1 8) (sub2 S1 8)   (by have e0 : ((sub2 S1 8) 1 1) = S1 9 1 := rfl; omega) _) (cwV 1 hts gX5_copyFrom_X0_copyFrom rfl rfl rfl (by decide +kernel) ⟨(Nat.le_of_ble_eq_true rfl), (Nat.le_of_ble_eq_true rfl)⟩) (z_preV hK hG hA hP hD hS [8, 9, 10, 23, 24, 25] rfl (by decide) 2 rfl rfl) rfl rfl hl.1 rfl (lv_room (Nat.le_of_ble_eq_true rfl)) dX5_copyFrom_19 ⟨(Nat.le_of_ble_eq_true rfl), (Nat.le_of_ble_eq_true rfl)⟩) hA hP hD hS [8, 9, 10, 23, 24, 25] rfl rfl (fun H locs hP hD hS => ?_)
  have hP : va_P D vwCl (wPlant k a0 (up2 (up2 (up2 (up2 (up2 (upA (up2 (up2 (up2 (up2 (up2 (up2 (upA (up2 (up2 (up2 (up2 (up2 (up2 (upA (up2 S0 3 1 (S1 3 1)) 4 (cpyZ (S1 4) (S0 4) 0 0 (((S1 3 1) * 4).toNat))) 2 1 (S1 2 1)) 2 2 (S1 2 2)) 2 3 (S1 2 3)) 2 4 (S1 2 4)) 2 5 (S1 2 5)) 6 1 (S1 6 1)) 7 (cpyZ (S1 7) (S0 7) 0 0 (((S1 6 1) * 4).toNat))) 5 1 (S1 5 1)) 5 2 (S1 5 2)) 5 3 (S1 5 3)) 5 4 (S1 5 4)) 5 5 (S1 5 5)) 9 1 (S1 9 1)) 10 (cpyZ (S1 10) (S0 10) 0 0 (((S1 9 1) * 4).toNat))) 8 1 (S1 8 1)) 8 2 (S1 8 2)) 8 3 (S1 8 3)) 8 4 (S1 8 4)) 8 5 (S1 8 5)) ++ wPlant k a1 S1) H := hP
  have hD : va_D A (wPlant k a0 (up2 (up2 (up2 (up2 (up2 (upA (up2 (up2 (up2 (up2 (up2 (up2 (upA (up2 (up2 (up2 (up2 (up2 (up2 (upA (up2 S0 3 1 (S1 3 1)) 4 (cpyZ (S1 4) (S0 4) 0 0 (((S1 3 1) * 4).toNat))) 2 1 (S1 2 1)) 2 2 (S1 2 2)) 2 3 (S1 2 3)) 2 4 (S1 2 4)) 2 5 (S1 2 5)) 6 1 (S1 6 1)) 7 (cpyZ (S1 7) (S0 7) 0 0 (((S1 6 1) * 4).toNat))) 5 1 (S1 5 1)) 5 2 (S1 5 2)) 5 3 (S1 5 3)) 5 4 (S1 5 4)) 5 5 (S1 5 5)) 9 1 (S1 9 1)) 10 (cpyZ (S1 10) (S0 10) 0 0 (((S1 9 1) * 4).toNat))) 8 1 (S1 8 1)) 8 2 (S1 8 2)) 8 3 (S1 8 3)) 8 4 (S1 8 4)) 8 5 (S1 8 5)) ++ wPlant k a1 S1) := hD
  refine lv_iinc (v := iI (3)) (lv' := [(2, .int (iI 3)), (0, .ref (a0 0)), (1, .ref (a1 0))]) hx hb dX5_copyFrom_22 hl (k := 0) rfl (iI_add 2 1) (by decide) rfl (fun ls hl => ?_)
  refine lv_goto (tgt := 2) hx hb dX5_copyFrom_25 (by decide) ?_
  refine lv_iload_n hx hb dX5_copyFrom_2 rfl (lv_at hl 0 rfl) ?_
  refine lv_iconst (v := iI 3) hx hb dX5_copyFrom_3 rfl ?_
  refine zi_icmp_ge (tgt := 28) hx hb dX5_copyFrom_4 (by decide) ⟨by omega, by omega⟩ ⟨by omega, by omega⟩ (fun _ => ?_) (fun c_4 => absurd c_4 (by omega))
  refine lv_aload_n hx hb dX5_copyFrom_28 rfl (lv_at hl 1 rfl) ?_
  refine va_get (D := D) (ci := 7) (v := .ref (a0 11)) (C := RX5) (T := TX5) (N := 11) hx hb hts (fun w h => List.mem_cons_of_mem _ (List.mem_append_left _ (List.mem_append_left _ (List.mem_append_left _ (List.mem_append_right _ h))))) hown hK hP 0 rfl rfl 1 (by decide) (hts (.fieldLink RX5 21 "MondayFactory$Plant" "shelf" "LMondayFactory$Row;") (List.mem_of_getElem? (i := 2) rfl)) (fun _ h9 => h9) rfl dX5_copyFrom_29 ?_
  refine lv_aload_n hx hb dX5_copyFrom_32 rfl (lv_at hl 2 rfl) ?_
  refine va_get (D := D) (ci := 7) (v := .ref (a1 11)) (C := RX5) (T := TX5) (N := 11) hx hb hts (fun w h => List.mem_cons_of_mem _ (List.mem_append_left _ (List.mem_append_left _ (List.mem_append_left _ (List.mem_append_right _ h))))) hown hK hP 15 rfl rfl 1 (by decide) (hts (.fieldLink RX5 21 "MondayFactory$Plant" "shelf" "LMondayFactory$Row;") (List.mem_of_getElem? (i := 2) rfl)) (fun _ h9 => h9) rfl dX5_copyFrom_33 ?_
  refine z_av (va_runV (As := [.ref (a1 11)]) (rest := []) ⟨hx, hb, hml, hown, hts⟩ (c_X6_copyFrom l D k (subA a0 11) (sub2 (up2 (up2 (up2 (up2 (up2 (upA (up2 (up2 (up2 (up2 (up2 (up2 (upA (up2 (up2 (up2 (up2 (up2 (up2 (upA (up2 S0 3 1 (S1 3 1)) 4 (cpyZ (S1 4) (S0 4) 0 0 (((S1 3 1) * 4).toNat))) 2 1 (S1 2 1)) 2 2 (S1 2 2)) 2 3 (S1 2 3)) 2 4 (S1 2 4)) 2 5 (S1 2 5)) 6 1 (S1 6 1)) 7 (cpyZ (S1 7) (S0 7) 0 0 (((S1 6 1) * 4).toNat))) 5 1 (S1 5 1)) 5 2 (S1 5 2)) 5 3 (S1 5 3)) 5 4 (S1 5 4)) 5 5 (S1 5 5)) 9 1 (S1 9 1)) 10 (cpyZ (S1 10) (S0 10) 0 0 (((S1 9 1) * 4).toNat))) 8 1 (S1 8 1)) 8 2 (S1 8 2)) 8 3 (S1 8 3)) 8 4 (S1 8 4)) 8 5 (S1 8 5)) 11) (subA a1 11) (sub2 S1 11)   (by have e0 : ((sub2 S1 11) 0 1) = S1 11 1 := rfl; omega) _) (cwV 1 hts gX5_copyFrom_X6_copyFrom rfl rfl rfl (by decide +kernel) ⟨(Nat.le_of_ble_eq_true rfl), (Nat.le_of_ble_eq_true rfl)⟩) (z_preV hK hG hA hP hD hS [11, 12, 26, 27] rfl (by decide) 8 rfl rfl) rfl rfl hl.1 rfl (lv_room (Nat.le_of_ble_eq_true rfl)) dX5_copyFrom_36 ⟨(Nat.le_of_ble_eq_true rfl), (Nat.le_of_ble_eq_true rfl)⟩) hA hP hD hS [11, 12, 26, 27] rfl rfl (fun H locs hP hD hS => ?_)
  have hP : va_P D vwCl (wPlant k a0 (upA (up2 (up2 (up2 (up2 (up2 (up2 (upA (up2 (up2 (up2 (up2 (up2 (up2 (upA (up2 (up2 (up2 (up2 (up2 (up2 (upA (up2 S0 3 1 (S1 3 1)) 4 (cpyZ (S1 4) (S0 4) 0 0 (((S1 3 1) * 4).toNat))) 2 1 (S1 2 1)) 2 2 (S1 2 2)) 2 3 (S1 2 3)) 2 4 (S1 2 4)) 2 5 (S1 2 5)) 6 1 (S1 6 1)) 7 (cpyZ (S1 7) (S0 7) 0 0 (((S1 6 1) * 4).toNat))) 5 1 (S1 5 1)) 5 2 (S1 5 2)) 5 3 (S1 5 3)) 5 4 (S1 5 4)) 5 5 (S1 5 5)) 9 1 (S1 9 1)) 10 (cpyZ (S1 10) (S0 10) 0 0 (((S1 9 1) * 4).toNat))) 8 1 (S1 8 1)) 8 2 (S1 8 2)) 8 3 (S1 8 3)) 8 4 (S1 8 4)) 8 5 (S1 8 5)) 11 1 (S1 11 1)) 12 (cpyZ (S1 12) (S0 12) 0 0 (((S1 11 1) * 4).toNat))) ++ wPlant k a1 S1) H := hP
  have hD : va_D A (wPlant k a0 (upA (up2 (up2 (up2 (up2 (up2 (up2 (upA (up2 (up2 (up2 (up2 (up2 (up2 (upA (up2 (up2 (up2 (up2 (up2 (up2 (upA (up2 S0 3 1 (S1 3 1)) 4 (cpyZ (S1 4) (S0 4) 0 0 (((S1 3 1) * 4).toNat))) 2 1 (S1 2 1)) 2 2 (S1 2 2)) 2 3 (S1 2 3)) 2 4 (S1 2 4)) 2 5 (S1 2 5)) 6 1 (S1 6 1)) 7 (cpyZ (S1 7) (S0 7) 0 0 (((S1 6 1) * 4).toNat))) 5 1 (S1 5 1)) 5 2 (S1 5 2)) 5 3 (S1 5 3)) 5 4 (S1 5 4)) 5 5 (S1 5 5)) 9 1 (S1 9 1)) 10 (cpyZ (S1 10) (S0 10) 0 0 (((S1 9 1) * 4).toNat))) 8 1 (S1 8 1)) 8 2 (S1 8 2)) 8 3 (S1 8 3)) 8 4 (S1 8 4)) 8 5 (S1 8 5)) 11 1 (S1 11 1)) 12 (cpyZ (S1 12) (S0 12) 0 0 (((S1 11 1) * 4).toNat))) ++ wPlant k a1 S1) := hD
  refine lv_aload_n hx hb dX5_copyFrom_39 rfl (lv_at hl 1 rfl) ?_
  refine va_get (D := D) (ci := 7) (v := .ref (a0 13)) (C := RX5) (T := TX5) (N := 11) hx hb hts (fun w h => List.mem_cons_of_mem _ (List.mem_append_left _ (List.mem_append_left _ (List.mem_append_left _ (List.mem_append_right _ h))))) hown hK hP 0 rfl rfl 2 (by decide) (hts (.fieldLink RX5 28 "MondayFactory$Plant" "crew" "LMondayFactory$Crew;") (List.mem_of_getElem? (i := 3) rfl)) (fun _ h9 => h9) rfl dX5_copyFrom_40 ?_
  refine lv_aload_n hx hb dX5_copyFrom_43 rfl (lv_at hl 2 rfl) ?_
  refine va_get (D := D) (ci := 7) (v := .ref (a1 13)) (C := RX5) (T := TX5) (N := 11) hx hb hts (fun w h => List.mem_cons_of_mem _ (List.mem_append_left _ (List.mem_append_left _ (List.mem_append_left _ (List.mem_append_right _ h))))) hown hK hP 15 rfl rfl 2 (by decide) (hts (.fieldLink RX5 28 "MondayFactory$Plant" "crew" "LMondayFactory$Crew;") (List.mem_of_getElem? (i := 3) rfl)) (fun _ h9 => h9) rfl dX5_copyFrom_44 ?_
  refine z_av (va_runV (As := [.ref (a1 13)]) (rest := []) ⟨hx, hb, hml, hown, hts⟩ (c_X1_copyFrom l D k (subA a0 13) (sub2 (upA (up2 (up2 (up2 (up2 (up2 (up2 (upA (up2 (up2 (up2 (up2 (up2 (up2 (upA (up2 (up2 (up2 (up2 (up2 (up2 (upA (up2 S0 3 1 (S1 3 1)) 4 (cpyZ (S1 4) (S0 4) 0 0 (((S1 3 1) * 4).toNat))) 2 1 (S1 2 1)) 2 2 (S1 2 2)) 2 3 (S1 2 3)) 2 4 (S1 2 4)) 2 5 (S1 2 5)) 6 1 (S1 6 1)) 7 (cpyZ (S1 7) (S0 7) 0 0 (((S1 6 1) * 4).toNat))) 5 1 (S1 5 1)) 5 2 (S1 5 2)) 5 3 (S1 5 3)) 5 4 (S1 5 4)) 5 5 (S1 5 5)) 9 1 (S1 9 1)) 10 (cpyZ (S1 10) (S0 10) 0 0 (((S1 9 1) * 4).toNat))) 8 1 (S1 8 1)) 8 2 (S1 8 2)) 8 3 (S1 8 3)) 8 4 (S1 8 4)) 8 5 (S1 8 5)) 11 1 (S1 11 1)) 12 (cpyZ (S1 12) (S0 12) 0 0 (((S1 11 1) * 4).toNat))) 13) (subA a1 13) (sub2 S1 13)    _) (cwV 1 hts gX5_copyFrom_X1_copyFrom rfl rfl rfl (by decide +kernel) ⟨(Nat.le_of_ble_eq_true rfl), (Nat.le_of_ble_eq_true rfl)⟩) (z_preV hK hG hA hP hD hS [13, 14, 28, 29] rfl (by decide) 3 rfl rfl) rfl rfl hl.1 rfl (lv_room (Nat.le_of_ble_eq_true rfl)) dX5_copyFrom_47 ⟨(Nat.le_of_ble_eq_true rfl), (Nat.le_of_ble_eq_true rfl)⟩) hA hP hD hS [13, 14, 28, 29] rfl rfl (fun H locs hP hD hS => ?_)
  have hP : va_P D vwCl (wPlant k a0 (upA (up2 (upA (up2 (up2 (up2 (up2 (up2 (up2 (upA (up2 (up2 (up2 (up2 (up2 (up2 (upA (up2 (up2 (up2 (up2 (up2 (up2 (upA (up2 S0 3 1 (S1 3 1)) 4 (cpyZ (S1 4) (S0 4) 0 0 (((S1 3 1) * 4).toNat))) 2 1 (S1 2 1)) 2 2 (S1 2 2)) 2 3 (S1 2 3)) 2 4 (S1 2 4)) 2 5 (S1 2 5)) 6 1 (S1 6 1)) 7 (cpyZ (S1 7) (S0 7) 0 0 (((S1 6 1) * 4).toNat))) 5 1 (S1 5 1)) 5 2 (S1 5 2)) 5 3 (S1 5 3)) 5 4 (S1 5 4)) 5 5 (S1 5 5)) 9 1 (S1 9 1)) 10 (cpyZ (S1 10) (S0 10) 0 0 (((S1 9 1) * 4).toNat))) 8 1 (S1 8 1)) 8 2 (S1 8 2)) 8 3 (S1 8 3)) 8 4 (S1 8 4)) 8 5 (S1 8 5)) 11 1 (S1 11 1)) 12 (cpyZ (S1 12) (S0 12) 0 0 (((S1 11 1) * 4).toNat))) 13 1 (S1 13 1)) 14 (cpyZ (S1 14) (S0 14) 0 0 4)) ++ wPlant k a1 S1) H := hP
  have hD : va_D A (wPlant k a0 (upA (up2 (upA (up2 (up2 (up2 (up2 (up2 (up2 (upA (up2 (up2 (up2 (up2 (up2 (up2 (upA (up2 (up2 (up2 (up2 (up2 (up2 (upA (up2 S0 3 1 (S1 3 1)) 4 (cpyZ (S1 4) (S0 4) 0 0 (((S1 3 1) * 4).toNat))) 2 1 (S1 2 1)) 2 2 (S1 2 2)) 2 3 (S1 2 3)) 2 4 (S1 2 4)) 2 5 (S1 2 5)) 6 1 (S1 6 1)) 7 (cpyZ (S1 7) (S0 7) 0 0 (((S1 6 1) * 4).toNat))) 5 1 (S1 5 1)) 5 2 (S1 5 2)) 5 3 (S1 5 3)) 5 4 (S1 5 4)) 5 5 (S1 5 5)) 9 1 (S1 9 1)) 10 (cpyZ (S1 10) (S0 10) 0 0 (((S1 9 1) * 4).toNat))) 8 1 (S1 8 1)) 8 2 (S1 8 2)) 8 3 (S1 8 3)) 8 4 (S1 8 4)) 8 5 (S1 8 5)) 11 1 (S1 11 1)) 12 (cpyZ (S1 12) (S0 12) 0 0 (((S1 11 1) * 4).toNat))) 13 1 (S1 13 1)) 14 (cpyZ (S1 14) (S0 14) 0 0 4)) ++ wPlant k a1 S1) := hD
  refine lv_aload_n hx hb dX5_copyFrom_50 rfl (lv_at hl 1 rfl) ?_
  refine lv_aload_n hx hb dX5_copyFrom_51 rfl (lv_at hl 2 rfl) ?_
  refine va_get (D := D) (ci := 7) (v := .int (iI (S1 0 3))) (C := RX5) (T := TX5) (N := 11) hx hb hts (fun w h => List.mem_cons_of_mem _ (List.mem_append_left _ (List.mem_append_left _ (List.mem_append_left _ (List.mem_append_right _ h))))) hown hK hP 15 rfl rfl 3 (by decide) (hts (.fieldLink RX5 32 "MondayFactory$Plant" "coins" "I") (List.mem_of_getElem? (i := 4) rfl)) (fun _ h9 => h9) rfl dX5_copyFrom_52 ?_
  refine va_put (D := D) (ci := 7) (v := .int (iI (S1 0 3))) (ty := .int) (C := RX5) (T := TX5) (N := 11) hx hb hts (fun w h => List.mem_cons_of_mem _ (List.mem_append_left _ (List.mem_append_left _ (List.mem_append_left _ (List.mem_append_right _ h))))) tyX5 tyX5_ok nmX5 hown hK hP hD hS 0 rfl rfl 3 (by decide) (hts (.fieldLink RX5 32 "MondayFactory$Plant" "coins" "I") (List.mem_of_getElem? (i := 4) rfl)) (fun _ h9 => h9) rfl (by decide +kernel) rfl rfl (Nat.le_of_ble_eq_true rfl) dX5_copyFrom_55 (fun H locs hP hD hS => ?_)
  have hP : va_P D vwCl (wPlant k a0 (up2 (upA (up2 (upA (up2 (up2 (up2 (up2 (up2 (up2 (upA (up2 (up2 (up2 (up2 (up2 (up2 (upA (up2 (up2 (up2 (up2 (up2 (up2 (upA (up2 S0 3 1 (S1 3 1)) 4 (cpyZ (S1 4) (S0 4) 0 0 (((S1 3 1) * 4).toNat))) 2 1 (S1 2 1)) 2 2 (S1 2 2)) 2 3 (S1 2 3)) 2 4 (S1 2 4)) 2 5 (S1 2 5)) 6 1 (S1 6 1)) 7 (cpyZ (S1 7) (S0 7) 0 0 (((S1 6 1) * 4).toNat))) 5 1 (S1 5 1)) 5 2 (S1 5 2)) 5 3 (S1 5 3)) 5 4 (S1 5 4)) 5 5 (S1 5 5)) 9 1 (S1 9 1)) 10 (cpyZ (S1 10) (S0 10) 0 0 (((S1 9 1) * 4).toNat))) 8 1 (S1 8 1)) 8 2 (S1 8 2)) 8 3 (S1 8 3)) 8 4 (S1 8 4)) 8 5 (S1 8 5)) 11 1 (S1 11 1)) 12 (cpyZ (S1 12) (S0 12) 0 0 (((S1 11 1) * 4).toNat))) 13 1 (S1 13 1)) 14 (cpyZ (S1 14) (S0 14) 0 0 4)) 0 3 (S1 0 3)) ++ wPlant k a1 S1) H := hP
  have hD : va_D A (wPlant k a0 (up2 (upA (up2 (upA (up2 (up2 (up2 (up2 (up2 (up2 (upA (up2 (up2 (up2 (up2 (up2 (up2 (upA (up2 (up2 (up2 (up2 (up2 (up2 (upA (up2 S0 3 1 (S1 3 1)) 4 (cpyZ (S1 4) (S0 4) 0 0 (((S1 3 1) * 4).toNat))) 2 1 (S1 2 1)) 2 2 (S1 2 2)) 2 3 (S1 2 3)) 2 4 (S1 2 4)) 2 5 (S1 2 5)) 6 1 (S1 6 1)) 7 (cpyZ (S1 7) (S0 7) 0 0 (((S1 6 1) * 4).toNat))) 5 1 (S1 5 1)) 5 2 (S1 5 2)) 5 3 (S1 5 3)) 5 4 (S1 5 4)) 5 5 (S1 5 5)) 9 1 (S1 9 1)) 10 (cpyZ (S1 10) (S0 10) 0 0 (((S1 9 1) * 4).toNat))) 8 1 (S1 8 1)) 8 2 (S1 8 2)) 8 3 (S1 8 3)) 8 4 (S1 8 4)) 8 5 (S1 8 5)) 11 1 (S1 11 1)) 12 (cpyZ (S1 12) (S0 12) 0 0 (((S1 11 1) * 4).toNat))) 13 1 (S1 13 1)) 14 (cpyZ (S1 14) (S0 14) 0 0 4)) 0 3 (S1 0 3)) ++ wPlant k a1 S1) := hD
  refine lv_aload_n hx hb dX5_copyFrom_58 rfl (lv_at hl 1 rfl) ?_
  refine lv_aload_n hx hb dX5_copyFrom_59 rfl (lv_at hl 2 rfl) ?_
  refine va_get (D := D) (ci := 7) (v := .int (iI (S1 0 4))) (C := RX5) (T := TX5) (N := 11) hx hb hts (fun w h => List.mem_cons_of_mem _ (List.mem_append_left _ (List.mem_append_left _ (List.mem_append_left _ (List.mem_append_right _ h))))) hown hK hP 15 rfl rfl 4 (by decide) (hts (.fieldLink RX5 36 "MondayFactory$Plant" "week" "I") (List.mem_of_getElem? (i := 5) rfl)) (fun _ h9 => h9) rfl dX5_copyFrom_60 ?_
  refine va_put (D := D) (ci := 7) (v := .int (iI (S1 0 4))) (ty := .int) (C := RX5) (T := TX5) (N := 11) hx hb hts (fun w h => List.mem_cons_of_mem _ (List.mem_append_left _ (List.mem_append_left _ (List.mem_append_left _ (List.mem_append_right _ h))))) tyX5 tyX5_ok nmX5 hown hK hP hD hS 0 rfl rfl 4 (by decide) (hts (.fieldLink RX5 36 "MondayFactory$Plant" "week" "I") (List.mem_of_getElem? (i := 5) rfl)) (fun _ h9 => h9) rfl (by decide +kernel) rfl rfl (Nat.le_of_ble_eq_true rfl) dX5_copyFrom_63 (fun H locs hP hD hS => ?_)
  have hP : va_P D vwCl (wPlant k a0 (up2 (up2 (upA (up2 (upA (up2 (up2 (up2 (up2 (up2 (up2 (upA (up2 (up2 (up2 (up2 (up2 (up2 (upA (up2 (up2 (up2 (up2 (up2 (up2 (upA (up2 S0 3 1 (S1 3 1)) 4 (cpyZ (S1 4) (S0 4) 0 0 (((S1 3 1) * 4).toNat))) 2 1 (S1 2 1)) 2 2 (S1 2 2)) 2 3 (S1 2 3)) 2 4 (S1 2 4)) 2 5 (S1 2 5)) 6 1 (S1 6 1)) 7 (cpyZ (S1 7) (S0 7) 0 0 (((S1 6 1) * 4).toNat))) 5 1 (S1 5 1)) 5 2 (S1 5 2)) 5 3 (S1 5 3)) 5 4 (S1 5 4)) 5 5 (S1 5 5)) 9 1 (S1 9 1)) 10 (cpyZ (S1 10) (S0 10) 0 0 (((S1 9 1) * 4).toNat))) 8 1 (S1 8 1)) 8 2 (S1 8 2)) 8 3 (S1 8 3)) 8 4 (S1 8 4)) 8 5 (S1 8 5)) 11 1 (S1 11 1)) 12 (cpyZ (S1 12) (S0 12) 0 0 (((S1 11 1) * 4).toNat))) 13 1 (S1 13 1)) 14 (cpyZ (S1 14) (S0 14) 0 0 4)) 0 3 (S1 0 3)) 0 4 (S1 0 4)) ++ wPlant k a1 S1) H := hP
  have hD : va_D A (wPlant k a0 (up2 (up2 (upA (up2 (upA (up2 (up2 (up2 (up2 (up2 (up2 (upA (up2 (up2 (up2 (up2 (up2 (up2 (upA (up2 (up2 (up2 (up2 (up2 (up2 (upA (up2 S0 3 1 (S1 3 1)) 4 (cpyZ (S1 4) (S0 4) 0 0 (((S1 3 1) * 4).toNat))) 2 1 (S1 2 1)) 2 2 (S1 2 2)) 2 3 (S1 2 3)) 2 4 (S1 2 4)) 2 5 (S1 2 5)) 6 1 (S1 6 1)) 7 (cpyZ (S1 7) (S0 7) 0 0 (((S1 6 1) * 4).toNat))) 5 1 (S1 5 1)) 5 2 (S1 5 2)) 5 3 (S1 5 3)) 5 4 (S1 5 4)) 5 5 (S1 5 5)) 9 1 (S1 9 1)) 10 (cpyZ (S1 10) (S0 10) 0 0 (((S1 9 1) * 4).toNat))) 8 1 (S1 8 1)) 8 2 (S1 8 2)) 8 3 (S1 8 3)) 8 4 (S1 8 4)) 8 5 (S1 8 5)) 11 1 (S1 11 1)) 12 (cpyZ (S1 12) (S0 12) 0 0 (((S1 11 1) * 4).toNat))) 13 1 (S1 13 1)) 14 (cpyZ (S1 14) (S0 14) 0 0 4)) 0 3 (S1 0 3)) 0 4 (S1 0 4)) ++ wPlant k a1 S1) := hD
  refine lv_aload_n hx hb dX5_copyFrom_66 rfl (lv_at hl 1 rfl) ?_
  refine lv_aload_n hx hb dX5_copyFrom_67 rfl (lv_at hl 2 rfl) ?_
  refine va_get (D := D) (ci := 7) (v := .int (iI (S1 0 5))) (C := RX5) (T := TX5) (N := 11) hx hb hts (fun w h => List.mem_cons_of_mem _ (List.mem_append_left _ (List.mem_append_left _ (List.mem_append_left _ (List.mem_append_right _ h))))) hown hK hP 15 rfl rfl 5 (by decide) (hts (.fieldLink RX5 39 "MondayFactory$Plant" "made" "I") (List.mem_of_getElem? (i := 6) rfl)) (fun _ h9 => h9) rfl dX5_copyFrom_68 ?_
  refine va_put (D := D) (ci := 7) (v := .int (iI (S1 0 5))) (ty := .int) (C := RX5) (T := TX5) (N := 11) hx hb hts (fun w h => List.mem_cons_of_mem _ (List.mem_append_left _ (List.mem_append_left _ (List.mem_append_left _ (List.mem_append_right _ h))))) tyX5 tyX5_ok nmX5 hown hK hP hD hS 0 rfl rfl 5 (by decide) (hts (.fieldLink RX5 39 "MondayFactory$Plant" "made" "I") (List.mem_of_getElem? (i := 6) rfl)) (fun _ h9 => h9) rfl (by decide +kernel) rfl rfl (Nat.le_of_ble_eq_true rfl) dX5_copyFrom_71 (fun H locs hP hD hS => ?_)
  have hP : va_P D vwCl (wPlant k a0 (up2 (up2 (up2 (upA (up2 (upA (up2 (up2 (up2 (up2 (up2 (up2 (upA (up2 (up2 (up2 (up2 (up2 (up2 (upA (up2 (up2 (up2 (up2 (up2 (up2 (upA (up2 S0 3 1 (S1 3 1)) 4 (cpyZ (S1 4) (S0 4) 0 0 (((S1 3 1) * 4).toNat))) 2 1 (S1 2 1)) 2 2 (S1 2 2)) 2 3 (S1 2 3)) 2 4 (S1 2 4)) 2 5 (S1 2 5)) 6 1 (S1 6 1)) 7 (cpyZ (S1 7) (S0 7) 0 0 (((S1 6 1) * 4).toNat))) 5 1 (S1 5 1)) 5 2 (S1 5 2)) 5 3 (S1 5 3)) 5 4 (S1 5 4)) 5 5 (S1 5 5)) 9 1 (S1 9 1)) 10 (cpyZ (S1 10) (S0 10) 0 0 (((S1 9 1) * 4).toNat))) 8 1 (S1 8 1)) 8 2 (S1 8 2)) 8 3 (S1 8 3)) 8 4 (S1 8 4)) 8 5 (S1 8 5)) 11 1 (S1 11 1)) 12 (cpyZ (S1 12) (S0 12) 0 0 (((S1 11 1) * 4).toNat))) 13 1 (S1 13 1)) 14 (cpyZ (S1 14) (S0 14) 0 0 4)) 0 3 (S1 0 3)) 0 4 (S1 0 4)) 0 5 (S1 0 5)) ++ wPlant k a1 S1) H := hP
  have hD : va_D A (wPlant k a0 (up2 (up2 (up2 (upA (up2 (upA (up2 (up2 (up2 (up2 (up2 (up2 (upA (up2 (up2 (up2 (up2 (up2 (up2 (upA (up2 (up2 (up2 (up2 (up2 (up2 (upA (up2 S0 3 1 (S1 3 1)) 4 (cpyZ (S1 4) (S0 4) 0 0 (((S1 3 1) * 4).toNat))) 2 1 (S1 2 1)) 2 2 (S1 2 2)) 2 3 (S1 2 3)) 2 4 (S1 2 4)) 2 5 (S1 2 5)) 6 1 (S1 6 1)) 7 (cpyZ (S1 7) (S0 7) 0 0 (((S1 6 1) * 4).toNat))) 5 1 (S1 5 1)) 5 2 (S1 5 2)) 5 3 (S1 5 3)) 5 4 (S1 5 4)) 5 5 (S1 5 5)) 9 1 (S1 9 1)) 10 (cpyZ (S1 10) (S0 10) 0 0 (((S1 9 1) * 4).toNat))) 8 1 (S1 8 1)) 8 2 (S1 8 2)) 8 3 (S1 8 3)) 8 4 (S1 8 4)) 8 5 (S1 8 5)) 11 1 (S1 11 1)) 12 (cpyZ (S1 12) (S0 12) 0 0 (((S1 11 1) * 4).toNat))) 13 1 (S1 13 1)) 14 (cpyZ (S1 14) (S0 14) 0 0 4)) 0 3 (S1 0 3)) 0 4 (S1 0 4)) 0 5 (S1 0 5)) ++ wPlant k a1 S1) := hD
  refine lv_aload_n hx hb dX5_copyFrom_74 rfl (lv_at hl 1 rfl) ?_
  refine lv_aload_n hx hb dX5_copyFrom_75 rfl (lv_at hl 2 rfl) ?_
  refine va_get (D := D) (ci := 7) (v := .int (iI (S1 0 6))) (C := RX5) (T := TX5) (N := 11) hx hb hts (fun w h => List.mem_cons_of_mem _ (List.mem_append_left _ (List.mem_append_left _ (List.mem_append_left _ (List.mem_append_right _ h))))) hown hK hP 15 rfl rfl 6 (by decide) (hts (.fieldLink RX5 42 "MondayFactory$Plant" "rejected" "I") (List.mem_of_getElem? (i := 7) rfl)) (fun _ h9 => h9) rfl dX5_copyFrom_76 ?_
  refine va_put (D := D) (ci := 7) (v := .int (iI (S1 0 6))) (ty := .int) (C := RX5) (T := TX5) (N := 11) hx hb hts (fun w h => List.mem_cons_of_mem _ (List.mem_append_left _ (List.mem_append_left _ (List.mem_append_left _ (List.mem_append_right _ h))))) tyX5 tyX5_ok nmX5 hown hK hP hD hS 0 rfl rfl 6 (by decide) (hts (.fieldLink RX5 42 "MondayFactory$Plant" "rejected" "I") (List.mem_of_getElem? (i := 7) rfl)) (fun _ h9 => h9) rfl (by decide +kernel) rfl rfl (Nat.le_of_ble_eq_true rfl) dX5_copyFrom_79 (fun H locs hP hD hS => ?_)
  have hP : va_P D vwCl (wPlant k a0 (up2 (up2 (up2 (up2 (upA (up2 (upA (up2 (up2 (up2 (up2 (up2 (up2 (upA (up2 (up2 (up2 (up2 (up2 (up2 (upA (up2 (up2 (up2 (up2 (up2 (up2 (upA (up2 S0 3 1 (S1 3 1)) 4 (cpyZ (S1 4) (S0 4) 0 0 (((S1 3 1) * 4).toNat))) 2 1 (S1 2 1)) 2 2 (S1 2 2)) 2 3 (S1 2 3)) 2 4 (S1 2 4)) 2 5 (S1 2 5)) 6 1 (S1 6 1)) 7 (cpyZ (S1 7) (S0 7) 0 0 (((S1 6 1) * 4).toNat))) 5 1 (S1 5 1)) 5 2 (S1 5 2)) 5 3 (S1 5 3)) 5 4 (S1 5 4)) 5 5 (S1 5 5)) 9 1 (S1 9 1)) 10 (cpyZ (S1 10) (S0 10) 0 0 (((S1 9 1) * 4).toNat))) 8 1 (S1 8 1)) 8 2 (S1 8 2)) 8 3 (S1 8 3)) 8 4 (S1 8 4)) 8 5 (S1 8 5)) 11 1 (S1 11 1)) 12 (cpyZ (S1 12) (S0 12) 0 0 (((S1 11 1) * 4).toNat))) 13 1 (S1 13 1)) 14 (cpyZ (S1 14) (S0 14) 0 0 4)) 0 3 (S1 0 3)) 0 4 (S1 0 4)) 0 5 (S1 0 5)) 0 6 (S1 0 6)) ++ wPlant k a1 S1) H := hP
  have hD : va_D A (wPlant k a0 (up2 (up2 (up2 (up2 (upA (up2 (upA (up2 (up2 (up2 (up2 (up2 (up2 (upA (up2 (up2 (up2 (up2 (up2 (up2 (upA (up2 (up2 (up2 (up2 (up2 (up2 (upA (up2 S0 3 1 (S1 3 1)) 4 (cpyZ (S1 4) (S0 4) 0 0 (((S1 3 1) * 4).toNat))) 2 1 (S1 2 1)) 2 2 (S1 2 2)) 2 3 (S1 2 3)) 2 4 (S1 2 4)) 2 5 (S1 2 5)) 6 1 (S1 6 1)) 7 (cpyZ (S1 7) (S0 7) 0 0 (((S1 6 1) * 4).toNat))) 5 1 (S1 5 1)) 5 2 (S1 5 2)) 5 3 (S1 5 3)) 5 4 (S1 5 4)) 5 5 (S1 5 5)) 9 1 (S1 9 1)) 10 (cpyZ (S1 10) (S0 10) 0 0 (((S1 9 1) * 4).toNat))) 8 1 (S1 8 1)) 8 2 (S1 8 2)) 8 3 (S1 8 3)) 8 4 (S1 8 4)) 8 5 (S1 8 5)) 11 1 (S1 11 1)) 12 (cpyZ (S1 12) (S0 12) 0 0 (((S1 11 1) * 4).toNat))) 13 1 (S1 13 1)) 14 (cpyZ (S1 14) (S0 14) 0 0 4)) 0 3 (S1 0 3)) 0 4 (S1 0 4)) 0 5 (S1 0 5)) 0 6 (S1 0 6)) ++ wPlant k a1 S1) := hD
  refine lv_aload_n hx hb dX5_copyFrom_82 rfl (lv_at hl 1 rfl) ?_
  refine lv_aload_n hx hb dX5_copyFrom_83 rfl (lv_at hl 2 rfl) ?_
  refine va_get (D := D) (ci := 7) (v := .int (iI (S1 0 7))) (C := RX5) (T := TX5) (N := 11) hx hb hts (fun w h => List.mem_cons_of_mem _ (List.mem_append_left _ (List.mem_append_left _ (List.mem_append_left _ (List.mem_append_right _ h))))) hown hK hP 15 rfl rfl 7 (by decide) (hts (.fieldLink RX5 45 "MondayFactory$Plant" "scrap" "I") (List.mem_of_getElem? (i := 8) rfl)) (fun _ h9 => h9) rfl dX5_copyFrom_84 ?_
  refine va_put (D := D) (ci := 7) (v := .int (iI (S1 0 7))) (ty := .int) (C := RX5) (T := TX5) (N := 11) hx hb hts (fun w h => List.mem_cons_of_mem _ (List.mem_append_left _ (List.mem_append_left _ (List.mem_append_left _ (List.mem_append_right _ h))))) tyX5 tyX5_ok nmX5 hown hK hP hD hS 0 rfl rfl 7 (by decide) (hts (.fieldLink RX5 45 "MondayFactory$Plant" "scrap" "I") (List.mem_of_getElem? (i := 8) rfl)) (fun _ h9 => h9) rfl (by decide +kernel) rfl rfl (Nat.le_of_ble_eq_true rfl) dX5_copyFrom_87 (fun H locs hP hD hS => ?_)
  have hP : va_P D vwCl (wPlant k a0 (up2 (up2 (up2 (up2 (up2 (upA (up2 (upA (up2 (up2 (up2 (up2 (up2 (up2 (upA (up2 (up2 (up2 (up2 (up2 (up2 (upA (up2 (up2 (up2 (up2 (up2 (up2 (upA (up2 S0 3 1 (S1 3 1)) 4 (cpyZ (S1 4) (S0 4) 0 0 (((S1 3 1) * 4).toNat))) 2 1 (S1 2 1)) 2 2 (S1 2 2)) 2 3 (S1 2 3)) 2 4 (S1 2 4)) 2 5 (S1 2 5)) 6 1 (S1 6 1)) 7 (cpyZ (S1 7) (S0 7) 0 0 (((S1 6 1) * 4).toNat))) 5 1 (S1 5 1)) 5 2 (S1 5 2)) 5 3 (S1 5 3)) 5 4 (S1 5 4)) 5 5 (S1 5 5)) 9 1 (S1 9 1)) 10 (cpyZ (S1 10) (S0 10) 0 0 (((S1 9 1) * 4).toNat))) 8 1 (S1 8 1)) 8 2 (S1 8 2)) 8 3 (S1 8 3)) 8 4 (S1 8 4)) 8 5 (S1 8 5)) 11 1 (S1 11 1)) 12 (cpyZ (S1 12) (S0 12) 0 0 (((S1 11 1) * 4).toNat))) 13 1 (S1 13 1)) 14 (cpyZ (S1 14) (S0 14) 0 0 4)) 0 3 (S1 0 3)) 0 4 (S1 0 4)) 0 5 (S1 0 5)) 0 6 (S1 0 6)) 0 7 (S1 0 7)) ++ wPlant k a1 S1) H := hP
  have hD : va_D A (wPlant k a0 (up2 (up2 (up2 (up2 (up2 (upA (up2 (upA (up2 (up2 (up2 (up2 (up2 (up2 (upA (up2 (up2 (up2 (up2 (up2 (up2 (upA (up2 (up2 (up2 (up2 (up2 (up2 (upA (up2 S0 3 1 (S1 3 1)) 4 (cpyZ (S1 4) (S0 4) 0 0 (((S1 3 1) * 4).toNat))) 2 1 (S1 2 1)) 2 2 (S1 2 2)) 2 3 (S1 2 3)) 2 4 (S1 2 4)) 2 5 (S1 2 5)) 6 1 (S1 6 1)) 7 (cpyZ (S1 7) (S0 7) 0 0 (((S1 6 1) * 4).toNat))) 5 1 (S1 5 1)) 5 2 (S1 5 2)) 5 3 (S1 5 3)) 5 4 (S1 5 4)) 5 5 (S1 5 5)) 9 1 (S1 9 1)) 10 (cpyZ (S1 10) (S0 10) 0 0 (((S1 9 1) * 4).toNat))) 8 1 (S1 8 1)) 8 2 (S1 8 2)) 8 3 (S1 8 3)) 8 4 (S1 8 4)) 8 5 (S1 8 5)) 11 1 (S1 11 1)) 12 (cpyZ (S1 12) (S0 12) 0 0 (((S1 11 1) * 4).toNat))) 13 1 (S1 13 1)) 14 (cpyZ (S1 14) (S0 14) 0 0 4)) 0 3 (S1 0 3)) 0 4 (S1 0 4)) 0 5 (S1 0 5)) 0 6 (S1 0 6)) 0 7 (S1 0 7)) ++ wPlant k a1 S1) := hD
  refine lv_aload_n hx hb dX5_copyFrom_90 rfl (lv_at hl 1 rfl) ?_
  refine lv_aload_n hx hb dX5_copyFrom_91 rfl (lv_at hl 2 rfl) ?_
  refine va_get (D := D) (ci := 7) (v := .int (iI (S1 0 8))) (C := RX5) (T := TX5) (N := 11) hx hb hts (fun w h => List.mem_cons_of_mem _ (List.mem_append_left _ (List.mem_append_left _ (List.mem_append_left _ (List.mem_append_right _ h))))) hown hK hP 15 rfl rfl 8 (by decide) (hts (.fieldLink RX5 48 "MondayFactory$Plant" "fridays" "I") (List.mem_of_getElem? (i := 9) rfl)) (fun _ h9 => h9) rfl dX5_copyFrom_92 ?_
  refine va_put (D := D) (ci := 7) (v := .int (iI (S1 0 8))) (ty := .int) (C := RX5) (T := TX5) (N := 11) hx hb hts (fun w h => List.mem_cons_of_mem _ (List.mem_append_left _ (List.mem_append_left _ (List.mem_append_left _ (List.mem_append_right _ h))))) tyX5 tyX5_ok nmX5 hown hK hP hD hS 0 rfl rfl 8 (by decide) (hts (.fieldLink RX5 48 "MondayFactory$Plant" "fridays" "I") (List.mem_of_getElem? (i := 9) rfl)) (fun _ h9 => h9) rfl (by decide +kernel) rfl rfl (Nat.le_of_ble_eq_true rfl) dX5_copyFrom_95 (fun H locs hP hD hS => ?_)
  have hP : va_P D vwCl (wPlant k a0 (up2 (up2 (up2 (up2 (up2 (up2 (upA (up2 (upA (up2 (up2 (up2 (up2 (up2 (up2 (upA (up2 (up2 (up2 (up2 (up2 (up2 (upA (up2 (up2 (up2 (up2 (up2 (up2 (upA (up2 S0 3 1 (S1 3 1)) 4 (cpyZ (S1 4) (S0 4) 0 0 (((S1 3 1) * 4).toNat))) 2 1 (S1 2 1)) 2 2 (S1 2 2)) 2 3 (S1 2 3)) 2 4 (S1 2 4)) 2 5 (S1 2 5)) 6 1 (S1 6 1)) 7 (cpyZ (S1 7) (S0 7) 0 0 (((S1 6 1) * 4).toNat))) 5 1 (S1 5 1)) 5 2 (S1 5 2)) 5 3 (S1 5 3)) 5 4 (S1 5 4)) 5 5 (S1 5 5)) 9 1 (S1 9 1)) 10 (cpyZ (S1 10) (S0 10) 0 0 (((S1 9 1) * 4).toNat))) 8 1 (S1 8 1)) 8 2 (S1 8 2)) 8 3 (S1 8 3)) 8 4 (S1 8 4)) 8 5 (S1 8 5)) 11 1 (S1 11 1)) 12 (cpyZ (S1 12) (S0 12) 0 0 (((S1 11 1) * 4).toNat))) 13 1 (S1 13 1)) 14 (cpyZ (S1 14) (S0 14) 0 0 4)) 0 3 (S1 0 3)) 0 4 (S1 0 4)) 0 5 (S1 0 5)) 0 6 (S1 0 6)) 0 7 (S1 0 7)) 0 8 (S1 0 8)) ++ wPlant k a1 S1) H := hP
  have hD : va_D A (wPlant k a0 (up2 (up2 (up2 (up2 (up2 (up2 (upA (up2 (upA (up2 (up2 (up2 (up2 (up2 (up2 (upA (up2 (up2 (up2 (up2 (up2 (up2 (upA (up2 (up2 (up2 (up2 (up2 (up2 (upA (up2 S0 3 1 (S1 3 1)) 4 (cpyZ (S1 4) (S0 4) 0 0 (((S1 3 1) * 4).toNat))) 2 1 (S1 2 1)) 2 2 (S1 2 2)) 2 3 (S1 2 3)) 2 4 (S1 2 4)) 2 5 (S1 2 5)) 6 1 (S1 6 1)) 7 (cpyZ (S1 7) (S0 7) 0 0 (((S1 6 1) * 4).toNat))) 5 1 (S1 5 1)) 5 2 (S1 5 2)) 5 3 (S1 5 3)) 5 4 (S1 5 4)) 5 5 (S1 5 5)) 9 1 (S1 9 1)) 10 (cpyZ (S1 10) (S0 10) 0 0 (((S1 9 1) * 4).toNat))) 8 1 (S1 8 1)) 8 2 (S1 8 2)) 8 3 (S1 8 3)) 8 4 (S1 8 4)) 8 5 (S1 8 5)) 11 1 (S1 11 1)) 12 (cpyZ (S1 12) (S0 12) 0 0 (((S1 11 1) * 4).toNat))) 13 1 (S1 13 1)) 14 (cpyZ (S1 14) (S0 14) 0 0 4)) 0 3 (S1 0 3)) 0 4 (S1 0 4)) 0 5 (S1 0 5)) 0 6 (S1 0 6)) 0 7 (S1 0 7)) 0 8 (S1 0 8)) ++ wPlant k a1 S1) := hD
  refine lv_aload_n hx hb dX5_copyFrom_98 rfl (lv_at hl 1 rfl) ?_
  refine lv_aload_n hx hb dX5_copyFrom_99 rfl (lv_at hl 2 rfl) ?_
  refine va_get (D := D) (ci := 7) (v := .int (iI (S1 0 9))) (C := RX5) (T := TX5) (N := 11) hx hb hts (fun w h => List.mem_cons_of_mem _ (List.mem_append_left _ (List.mem_append_left _ (List.mem_append_left _ (List.mem_append_right _ h))))) hown hK hP 15 rfl rfl 9 (by decide) (hts (.fieldLink RX5 51 "MondayFactory$Plant" "fridaysOfWeek" "I") (List.mem_of_getElem? (i := 10) rfl)) (fun _ h9 => h9) rfl dX5_copyFrom_100 ?_
  refine va_put (D := D) (ci := 7) (v := .int (iI (S1 0 9))) (ty := .int) (C := RX5) (T := TX5) (N := 11) hx hb hts (fun w h => List.mem_cons_of_mem _ (List.mem_append_left _ (List.mem_append_left _ (List.mem_append_left _ (List.mem_append_right _ h))))) tyX5 tyX5_ok nmX5 hown hK hP hD hS 0 rfl rfl 9 (by decide) (hts (.fieldLink RX5 51 "MondayFactory$Plant" "fridaysOfWeek" "I") (List.mem_of_getElem? (i := 10) rfl)) (fun _ h9 => h9) rfl (by decide +kernel) rfl rfl (Nat.le_of_ble_eq_true rfl) dX5_copyFrom_103 (fun H locs hP hD hS => ?_)
  have hP : va_P D vwCl (wPlant k a0 (up2 (up2 (up2 (up2 (up2 (up2 (up2 (upA (up2 (upA (up2 (up2 (up2 (up2 (up2 (up2 (upA (up2 (up2 (up2 (up2 (up2 (up2 (upA (up2 (up2 (up2 (up2 (up2 (up2 (upA (up2 S0 3 1 (S1 3 1)) 4 (cpyZ (S1 4) (S0 4) 0 0 (((S1 3 1) * 4).toNat))) 2 1 (S1 2 1)) 2 2 (S1 2 2)) 2 3 (S1 2 3)) 2 4 (S1 2 4)) 2 5 (S1 2 5)) 6 1 (S1 6 1)) 7 (cpyZ (S1 7) (S0 7) 0 0 (((S1 6 1) * 4).toNat))) 5 1 (S1 5 1)) 5 2 (S1 5 2)) 5 3 (S1 5 3)) 5 4 (S1 5 4)) 5 5 (S1 5 5)) 9 1 (S1 9 1)) 10 (cpyZ (S1 10) (S0 10) 0 0 (((S1 9 1) * 4).toNat))) 8 1 (S1 8 1)) 8 2 (S1 8 2)) 8 3 (S1 8 3)) 8 4 (S1 8 4)) 8 5 (S1 8 5)) 11 1 (S1 11 1)) 12 (cpyZ (S1 12) (S0 12) 0 0 (((S1 11 1) * 4).toNat))) 13 1 (S1 13 1)) 14 (cpyZ (S1 14) (S0 14) 0 0 4)) 0 3 (S1 0 3)) 0 4 (S1 0 4)) 0 5 (S1 0 5)) 0 6 (S1 0 6)) 0 7 (S1 0 7)) 0 8 (S1 0 8)) 0 9 (S1 0 9)) ++ wPlant k a1 S1) H := hP
  have hD : va_D A (wPlant k a0 (up2 (up2 (up2 (up2 (up2 (up2 (up2 (upA (up2 (upA (up2 (up2 (up2 (up2 (up2 (up2 (upA (up2 (up2 (up2 (up2 (up2 (up2 (upA (up2 (up2 (up2 (up2 (up2 (up2 (upA (up2 S0 3 1 (S1 3 1)) 4 (cpyZ (S1 4) (S0 4) 0 0 (((S1 3 1) * 4).toNat))) 2 1 (S1 2 1)) 2 2 (S1 2 2)) 2 3 (S1 2 3)) 2 4 (S1 2 4)) 2 5 (S1 2 5)) 6 1 (S1 6 1)) 7 (cpyZ (S1 7) (S0 7) 0 0 (((S1 6 1) * 4).toNat))) 5 1 (S1 5 1)) 5 2 (S1 5 2)) 5 3 (S1 5 3)) 5 4 (S1 5 4)) 5 5 (S1 5 5)) 9 1 (S1 9 1)) 10 (cpyZ (S1 10) (S0 10) 0 0 (((S1 9 1) * 4).toNat))) 8 1 (S1 8 1)) 8 2 (S1 8 2)) 8 3 (S1 8 3)) 8 4 (S1 8 4)) 8 5 (S1 8 5)) 11 1 (S1 11 1)) 12 (cpyZ (S1 12) (S0 12) 0 0 (((S1 11 1) * 4).toNat))) 13 1 (S1 13 1)) 14 (cpyZ (S1 14) (S0 14) 0 0 4)) 0 3 (S1 0 3)) 0 4 (S1 0 4)) 0 5 (S1 0 5)) 0 6 (S1 0 6)) 0 7 (S1 0 7)) 0 8 (S1 0 8)) 0 9 (S1 0 9)) ++ wPlant k a1 S1) := hD
  refine lv_aload_n hx hb dX5_copyFrom_106 rfl (lv_at hl 1 rfl) ?_
  refine lv_aload_n hx hb dX5_copyFrom_107 rfl (lv_at hl 2 rfl) ?_
  refine va_get (D := D) (ci := 7) (v := .int (iI (S1 0 10))) (C := RX5) (T := TX5) (N := 11) hx hb hts (fun w h => List.mem_cons_of_mem _ (List.mem_append_left _ (List.mem_append_left _ (List.mem_append_left _ (List.mem_append_right _ h))))) hown hK hP 15 rfl rfl 10 (by decide) (hts (.fieldLink RX5 54 "MondayFactory$Plant" "repairs" "I") (List.mem_of_getElem? (i := 11) rfl)) (fun _ h9 => h9) rfl dX5_copyFrom_108 ?_
  refine va_put (D := D) (ci := 7) (v := .int (iI (S1 0 10))) (ty := .int) (C := RX5) (T := TX5) (N := 11) hx hb hts (fun w h => List.mem_cons_of_mem _ (List.mem_append_left _ (List.mem_append_left _ (List.mem_append_left _ (List.mem_append_right _ h))))) tyX5 tyX5_ok nmX5 hown hK hP hD hS 0 rfl rfl 10 (by decide) (hts (.fieldLink RX5 54 "MondayFactory$Plant" "repairs" "I") (List.mem_of_getElem? (i := 11) rfl)) (fun _ h9 => h9) rfl (by decide +kernel) rfl rfl (Nat.le_of_ble_eq_true rfl) dX5_copyFrom_111 (fun H locs hP hD hS => ?_)
  have hP : va_P D vwCl (wPlant k a0 (up2 (up2 (up2 (up2 (up2 (up2 (up2 (up2 (upA (up2 (upA (up2 (up2 (up2 (up2 (up2 (up2 (upA (up2 (up2 (up2 (up2 (up2 (up2 (upA (up2 (up2 (up2 (up2 (up2 (up2 (upA (up2 S0 3 1 (S1 3 1)) 4 (cpyZ (S1 4) (S0 4) 0 0 (((S1 3 1) * 4).toNat))) 2 1 (S1 2 1)) 2 2 (S1 2 2)) 2 3 (S1 2 3)) 2 4 (S1 2 4)) 2 5 (S1 2 5)) 6 1 (S1 6 1)) 7 (cpyZ (S1 7) (S0 7) 0 0 (((S1 6 1) * 4).toNat))) 5 1 (S1 5 1)) 5 2 (S1 5 2)) 5 3 (S1 5 3)) 5 4 (S1 5 4)) 5 5 (S1 5 5)) 9 1 (S1 9 1)) 10 (cpyZ (S1 10) (S0 10) 0 0 (((S1 9 1) * 4).toNat))) 8 1 (S1 8 1)) 8 2 (S1 8 2)) 8 3 (S1 8 3)) 8 4 (S1 8 4)) 8 5 (S1 8 5)) 11 1 (S1 11 1)) 12 (cpyZ (S1 12) (S0 12) 0 0 (((S1 11 1) * 4).toNat))) 13 1 (S1 13 1)) 14 (cpyZ (S1 14) (S0 14) 0 0 4)) 0 3 (S1 0 3)) 0 4 (S1 0 4)) 0 5 (S1 0 5)) 0 6 (S1 0 6)) 0 7 (S1 0 7)) 0 8 (S1 0 8)) 0 9 (S1 0 9)) 0 10 (S1 0 10)) ++ wPlant k a1 S1) H := hP
  have hD : va_D A (wPlant k a0 (up2 (up2 (up2 (up2 (up2 (up2 (up2 (up2 (upA (up2 (upA (up2 (up2 (up2 (up2 (up2 (up2 (upA (up2 (up2 (up2 (up2 (up2 (up2 (upA (up2 (up2 (up2 (up2 (up2 (up2 (upA (up2 S0 3 1 (S1 3 1)) 4 (cpyZ (S1 4) (S0 4) 0 0 (((S1 3 1) * 4).toNat))) 2 1 (S1 2 1)) 2 2 (S1 2 2)) 2 3 (S1 2 3)) 2 4 (S1 2 4)) 2 5 (S1 2 5)) 6 1 (S1 6 1)) 7 (cpyZ (S1 7) (S0 7) 0 0 (((S1 6 1) * 4).toNat))) 5 1 (S1 5 1)) 5 2 (S1 5 2)) 5 3 (S1 5 3)) 5 4 (S1 5 4)) 5 5 (S1 5 5)) 9 1 (S1 9 1)) 10 (cpyZ (S1 10) (S0 10) 0 0 (((S1 9 1) * 4).toNat))) 8 1 (S1 8 1)) 8 2 (S1 8 2)) 8 3 (S1 8 3)) 8 4 (S1 8 4)) 8 5 (S1 8 5)) 11 1 (S1 11 1)) 12 (cpyZ (S1 12) (S0 12) 0 0 (((S1 11 1) * 4).toNat))) 13 1 (S1 13 1)) 14 (cpyZ (S1 14) (S0 14) 0 0 4)) 0 3 (S1 0 3)) 0 4 (S1 0 4)) 0 5 (S1 0 5)) 0 6 (S1 0 6)) 0 7 (S1 0 7)) 0 8 (S1 0 8)) 0 9 (S1 0 9)) 0 10 (S1 0 10)) ++ wPlant k a1 S1) := hD
  exact z_vret hx hb hr hlocks hP hS dX5_copyFrom_114 rfl (Nat.le_refl _) (Nat.le_refl _)
set_option maxHeartbeats 4000000 in
set_option maxRecDepth 100000 in
theorem c_X5_repairCost (l : Launch) (D : va_G) (k : Nat → ClassId) (a0 : Nat → Nat) (S0 : Nat → Nat → Int) (p0 : Int) (hB012 : zBf (S0 12)) (hk011 : 0 ≤ S0 11 1 ∧ S0 11 1 ≤ 8) (h0 : -2147483648 ≤ p0 ∧ p0 < 2147483648) : zMi l yX5_repairCost wsX5_repairCost ({ frames := 1, cells := 0, slots := 0, locals := 23 } : Room) D k [.ref (a0 0), .int (iI p0)] (wPlant k a0 S0) (2 + wNum (S0 12) (S0 11 1) p0 2) (wPlant k a0 S0) 0 0 := by
  refine zMi_of (cc := cX5_repairCost) (maxL := 2) (ret := (some .int)) (by decide) rfl (Nat.le_of_ble_eq_true rfl) ?_
  intro p e s m args below meth c A ls hx hb hr hml hown hts hlocks hK hP hD hG hA hS hl
  have hown : s.vm.findClass RX5 = some m.cls := hown
  have hl : lv_has ls 2 [(0, .ref (a0 0)), (1, .int (iI p0))] := hl
  obtain ⟨H, hH⟩ : ∃ z, z = s.heap := ⟨_, rfl⟩
  obtain ⟨locs, hlc⟩ : ∃ z : List Loc, z = [] := ⟨_, rfl⟩
  rw [← hH] at hP
  have hS : va_S A s.heap H locs := by rw [hH, hlc]; exact hS
  rw [← hlc, ← hH]
  clear hlc hH
  refine lv_iconst (v := iI 2) hx hb dX5_repairCost_0 rfl ?_
  refine lv_aload_n hx hb dX5_repairCost_1 rfl (lv_at hl 0 rfl) ?_
  refine va_get (D := D) (ci := 7) (v := .ref (a0 11)) (C := RX5) (T := TX5) (N := 11) hx hb hts (fun w h => List.mem_cons_of_mem _ (List.mem_append_left _ (List.mem_append_left _ (List.mem_append_right _ h)))) hown hK hP 0 rfl rfl 1 (by decide) (hts (.fieldLink RX5 21 "MondayFactory$Plant" "shelf" "LMondayFactory$Row;") (List.mem_of_getElem? (i := 1) rfl)) (fun _ h9 => h9) rfl dX5_repairCost_2 ?_
  refine lv_iload_n hx hb dX5_repairCost_5 rfl (lv_at hl 1 rfl) ?_
  refine lv_iconst (v := iI 2) hx hb dX5_repairCost_6 rfl ?_
  refine z_ai0 (va_runV (As := [.int (iI p0), .int (iI 2)]) (rest := [.int (iI 2)]) ⟨hx, hb, hml, hown, hts⟩ (c_X6_number l D k (subA a0 11) (sub2 S0 11)  p0 2 hB012 (by have e0 : ((sub2 S0 11) 0 1) = S0 11 1 := rfl; omega) (by omega) (by omega) _) (cwV 2 hts gX5_repairCost_X6_number rfl rfl rfl (by decide +kernel) ⟨(Nat.le_of_ble_eq_true rfl), (Nat.le_of_ble_eq_true rfl)⟩) (z_preV hK hG hA hP hD hS [11, 12] rfl (by decide) 8 rfl rfl) rfl rfl hl.1 rfl (lv_room (Nat.le_of_ble_eq_true rfl)) dX5_repairCost_7 ⟨(Nat.le_of_ble_eq_true rfl), (Nat.le_of_ble_eq_true rfl)⟩) hA hP hD hS [11, 12] rfl (fun H locs hP hS => ?_)
  refine z_eqi (z2 := wNum (S0 12) (S0 11 1) p0 2) rfl ?_
  have q_1 : -1000000000 ≤ wNum (S0 12) (S0 11 1) p0 2 ∧ wNum (S0 12) (S0 11 1) p0 2 ≤ 1000000000 := wNum_bd hB012
  refine zi_add hx hb dX5_repairCost_10 ?_
  exact z_iret hx hb hr hlocks hP hS dX5_repairCost_11 rfl rfl (Nat.le_refl _) (Nat.le_refl _)
set_option maxHeartbeats 4000000 in
set_option maxRecDepth 100000 in
theorem c_X5_repairedGrey (l : Launch) (D : va_G) (k : Nat → ClassId) (a0 : Nat → Nat) (S0 : Nat → Nat → Int) (p0 : Int) (hB012 : zBf (S0 12)) (hk011 : 0 ≤ S0 11 1 ∧ S0 11 1 ≤ 8) (h0 : -2147483648 ≤ p0 ∧ p0 < 2147483648) : zMi l yX5_repairedGrey wsX5_repairedGrey ({ frames := 2, cells := 0, slots := 0, locals := 44 } : Room) D k [.ref (a0 0), .int (iI p0)] (wPlant k a0 S0) (min 9 (wNum (S0 12) (S0 11 1) p0 0 + 2)) (wPlant k a0 S0) 0 0 := by
  refine zMi_of (cc := cX5_repairedGrey) (maxL := 2) (ret := (some .int)) (by decide) rfl (Nat.le_of_ble_eq_true rfl) ?_
  intro p e s m args below meth c A ls hx hb hr hml hown hts hlocks hK hP hD hG hA hS hl
  have hown : s.vm.findClass RX5 = some m.cls := hown
  have hl : lv_has ls 2 [(0, .ref (a0 0)), (1, .int (iI p0))] := hl
  obtain ⟨H, hH⟩ : ∃ z, z = s.heap := ⟨_, rfl⟩
  obtain ⟨locs, hlc⟩ : ∃ z : List Loc, z = [] := ⟨_, rfl⟩
  rw [← hH] at hP
  have hS : va_S A s.heap H locs := by rw [hH, hlc]; exact hS
  rw [← hlc, ← hH]
  clear hlc hH
  refine lv_bipush (v := iI 9) hx hb dX5_repairedGrey_0 (by decide) ?_
  refine lv_aload_n hx hb dX5_repairedGrey_2 rfl (lv_at hl 0 rfl) ?_
  refine va_get (D := D) (ci := 7) (v := .ref (a0 11)) (C := RX5) (T := TX5) (N := 11) hx hb hts (fun w h => List.mem_cons_of_mem _ (List.mem_append_left _ (List.mem_append_left _ (List.mem_append_right _ h)))) hown hK hP 0 rfl rfl 1 (by decide) (hts (.fieldLink RX5 21 "MondayFactory$Plant" "shelf" "LMondayFactory$Row;") (List.mem_of_getElem? (i := 1) rfl)) (fun _ h9 => h9) rfl dX5_repairedGrey_3 ?_
  refine lv_iload_n hx hb dX5_repairedGrey_6 rfl (lv_at hl 1 rfl) ?_
  refine z_ai0 (va_runV (As := [.int (iI p0)]) (rest := [.int (iI 9)]) ⟨hx, hb, hml, hown, hts⟩ (c_X6_grey l D k (subA a0 11) (sub2 S0 11)  p0 hB012 (by have e0 : ((sub2 S0 11) 0 1) = S0 11 1 := rfl; omega) (by omega) _) (cwV 1 hts gX5_repairedGrey_X6_grey rfl rfl rfl (by decide +kernel) ⟨(Nat.le_of_ble_eq_true rfl), (Nat.le_of_ble_eq_true rfl)⟩) (z_preV hK hG hA hP hD hS [11, 12] rfl (by decide) 8 rfl rfl) rfl rfl hl.1 rfl (lv_room (Nat.le_of_ble_eq_true rfl)) dX5_repairedGrey_7 ⟨(Nat.le_of_ble_eq_true rfl), (Nat.le_of_ble_eq_true rfl)⟩) hA hP hD hS [11, 12] rfl (fun H locs hP hS => ?_)
  refine z_eqi (z2 := wNum (S0 12) (S0 11 1) p0 0) rfl ?_
  have q_1 : -1000000000 ≤ wNum (S0 12) (S0 11 1) p0 0 ∧ wNum (S0 12) (S0 11 1) p0 0 ≤ 1000000000 := wNum_bd hB012
  refine lv_iconst (v := iI 2) hx hb dX5_repairedGrey_10 rfl ?_
  refine zi_add hx hb dX5_repairedGrey_11 ?_
  refine z_mmin hx hb (hml.trans hl.1.symm) hown (hts (.methodLink RX5 216 Lib.Math.min.name) (List.mem_of_getElem? (i := 2) rfl)) (hts (.static Lib.Math.min.name) (List.mem_of_getElem? (i := 3) rfl)) (hts (.initialized "java/lang/Math") (List.mem_of_getElem? (i := 4) rfl)) (hts (.code Lib.Math.min.name Lib.Math.min.code 2 (some .int)) (List.mem_of_getElem? (i := 5) rfl)) (Nat.le_of_ble_eq_true rfl) (Nat.le_of_ble_eq_true rfl) (Nat.le_of_ble_eq_true rfl) (Nat.le_of_ble_eq_true rfl) ⟨by omega, by omega⟩ ⟨by omega, by omega⟩ dX5_repairedGrey_12 ?_
  exact z_iret hx hb hr hlocks hP hS dX5_repairedGrey_15 rfl rfl (Nat.le_refl _) (Nat.le_refl _)
set_option maxHeartbeats 4000000 in
set_option maxRecDepth 100000 in
theorem c_X5_repairedAlarm (l : Launch) (D : va_G) (k : Nat → ClassId) (a0 : Nat → Nat) (S0 : Nat → Nat → Int) (p0 : Int) (hB012 : zBf (S0 12)) (hk011 : 0 ≤ S0 11 1 ∧ S0 11 1 ≤ 8) (h0 : -2147483648 ≤ p0 ∧ p0 < 2147483648) : zMi l yX5_repairedAlarm wsX5_repairedAlarm ({ frames := 2, cells := 0, slots := 0, locals := 44 } : Room) D k [.ref (a0 0), .int (iI p0)] (wPlant k a0 S0) (max 4 (wNum (S0 12) (S0 11 1) p0 1 - 1)) (wPlant k a0 S0) 0 0 := by
  refine zMi_of (cc := cX5_repairedAlarm) (maxL := 2) (ret := (some .int)) (by decide) rfl (Nat.le_of_ble_eq_true rfl) ?_
  intro p e s m args below meth c A ls hx hb hr hml hown hts hlocks hK hP hD hG hA hS hl
  have hown : s.vm.findClass RX5 = some m.cls := hown
  have hl : lv_has ls 2 [(0, .ref (a0 0)), (1, .int (iI p0))] := hl
  obtain ⟨H, hH⟩ : ∃ z, z = s.heap := ⟨_, rfl⟩
  obtain ⟨locs, hlc⟩ : ∃ z : List Loc, z = [] := ⟨_, rfl⟩
  rw [← hH] at hP
  have hS : va_S A s.heap H locs := by rw [hH, hlc]; exact hS
  rw [← hlc, ← hH]
  clear hlc hH
  refine lv_iconst (v := iI 4) hx hb dX5_repairedAlarm_0 rfl ?_
  refine lv_aload_n hx hb dX5_repairedAlarm_1 rfl (lv_at hl 0 rfl) ?_
  refine va_get (D := D) (ci := 7) (v := .ref (a0 11)) (C := RX5) (T := TX5) (N := 11) hx hb hts (fun w h => List.mem_cons_of_mem _ (List.mem_append_left _ (List.mem_append_left _ (List.mem_append_right _ h)))) hown hK hP 0 rfl rfl 1 (by decide) (hts (.fieldLink RX5 21 "MondayFactory$Plant" "shelf" "LMondayFactory$Row;") (List.mem_of_getElem? (i := 1) rfl)) (fun _ h9 => h9) rfl dX5_repairedAlarm_2 ?_
  refine lv_iload_n hx hb dX5_repairedAlarm_5 rfl (lv_at hl 1 rfl) ?_
  refine z_ai0 (va_runV (As := [.int (iI p0)]) (rest := [.int (iI 4)]) ⟨hx, hb, hml, hown, hts⟩ (c_X6_alarm l D k (subA a0 11) (sub2 S0 11)  p0 hB012 (by have e0 : ((sub2 S0 11) 0 1) = S0 11 1 := rfl; omega) (by omega) _) (cwV 1 hts gX5_repairedAlarm_X6_alarm rfl rfl rfl (by decide +kernel) ⟨(Nat.le_of_ble_eq_true rfl), (Nat.le_of_ble_eq_true rfl)⟩) (z_preV hK hG hA hP hD hS [11, 12] rfl (by decide) 8 rfl rfl) rfl rfl hl.1 rfl (lv_room (Nat.le_of_ble_eq_true rfl)) dX5_repairedAlarm_6 ⟨(Nat.le_of_ble_eq_true rfl), (Nat.le_of_ble_eq_true rfl)⟩) hA hP hD hS [11, 12] rfl (fun H locs hP hS => ?_)
  refine z_eqi (z2 := wNum (S0 12) (S0 11 1) p0 1) rfl ?_
  have q_1 : -1000000000 ≤ wNum (S0 12) (S0 11 1) p0 1 ∧ wNum (S0 12) (S0 11 1) p0 1 ≤ 1000000000 := wNum_bd hB012
  refine lv_iconst (v := iI 1) hx hb dX5_repairedAlarm_9 rfl ?_
  refine zi_sub hx hb dX5_repairedAlarm_10 ?_
  refine z_mmax hx hb (hml.trans hl.1.symm) hown (hts (.methodLink RX5 211 Lib.Math.max.name) (List.mem_of_getElem? (i := 2) rfl)) (hts (.static Lib.Math.max.name) (List.mem_of_getElem? (i := 3) rfl)) (hts (.initialized "java/lang/Math") (List.mem_of_getElem? (i := 4) rfl)) (hts (.code Lib.Math.max.name Lib.Math.max.code 2 (some .int)) (List.mem_of_getElem? (i := 5) rfl)) (Nat.le_of_ble_eq_true rfl) (Nat.le_of_ble_eq_true rfl) (Nat.le_of_ble_eq_true rfl) (Nat.le_of_ble_eq_true rfl) ⟨by omega, by omega⟩ ⟨by omega, by omega⟩ dX5_repairedAlarm_11 ?_
  exact z_iret hx hb hr hlocks hP hS dX5_repairedAlarm_14 rfl rfl (Nat.le_refl _) (Nat.le_refl _)
set_option maxHeartbeats 4000000 in
set_option maxRecDepth 100000 in
theorem c_X5_priceInNewWeek (l : Launch) (D : va_G) (k : Nat → ClassId) (a0 : Nat → Nat) (S0 : Nat → Nat → Int) (p0 : Int) (hB012 : zBf (S0 12)) (hk011 : 0 ≤ S0 11 1 ∧ S0 11 1 ≤ 8) (h0 : -2147483648 ≤ p0 ∧ p0 < 2147483648) : zMi l yX5_priceInNewWeek wsX5_priceInNewWeek ({ frames := 1, cells := 0, slots := 0, locals := 23 } : Room) D k [.ref (a0 0), .int (iI p0)] (wPlant k a0 S0) (wPrice (S0 12) (S0 11 1) p0) (wPlant k a0 S0) 0 0 := by
  refine zMi_of (cc := cX5_priceInNewWeek) (maxL := 3) (ret := (some .int)) (by decide) rfl (Nat.le_of_ble_eq_true rfl) ?_
  intro p e s m args below meth c A ls hx hb hr hml hown hts hlocks hK hP hD hG hA hS hl
  have hown : s.vm.findClass RX5 = some m.cls := hown
  have hl : lv_has ls 3 [(0, .ref (a0 0)), (1, .int (iI p0))] := hl
  obtain ⟨H, hH⟩ : ∃ z, z = s.heap := ⟨_, rfl⟩
  obtain ⟨locs, hlc⟩ : ∃ z : List Loc, z = [] := ⟨_, rfl⟩
  rw [← hH] at hP
  have hS : va_S A s.heap H locs := by rw [hH, hlc]; exact hS
  rw [← hlc, ← hH]
  clear hlc hH
  refine lv_aload_n hx hb dX5_priceInNewWeek_0 rfl (lv_at hl 0 rfl) ?_
  refine va_get (D := D) (ci := 7) (v := .ref (a0 11)) (C := RX5) (T := TX5) (N := 11) hx hb hts (fun w h => List.mem_cons_of_mem _ (List.mem_append_left _ (List.mem_append_left _ (List.mem_append_right _ h)))) hown hK hP 0 rfl rfl 1 (by decide) (hts (.fieldLink RX5 21 "MondayFactory$Plant" "shelf" "LMondayFactory$Row;") (List.mem_of_getElem? (i := 1) rfl)) (fun _ h9 => h9) rfl dX5_priceInNewWeek_1 ?_
  refine lv_iload_n hx hb dX5_priceInNewWeek_4 rfl (lv_at hl 1 rfl) ?_
  refine lv_iconst (v := iI 3) hx hb dX5_priceInNewWeek_5 rfl ?_
  refine z_ai0 (va_runV (As := [.int (iI p0), .int (iI 3)]) (rest := []) ⟨hx, hb, hml, hown, hts⟩ (c_X6_number l D k (subA a0 11) (sub2 S0 11)  p0 3 hB012 (by have e0 : ((sub2 S0 11) 0 1) = S0 11 1 := rfl; omega) (by omega) (by omega) _) (cwV 2 hts gX5_priceInNewWeek_X6_number rfl rfl rfl (by decide +kernel) ⟨(Nat.le_of_ble_eq_true rfl), (Nat.le_of_ble_eq_true rfl)⟩) (z_preV hK hG hA hP hD hS [11, 12] rfl (by decide) 8 rfl rfl) rfl rfl hl.1 rfl (lv_room (Nat.le_of_ble_eq_true rfl)) dX5_priceInNewWeek_6 ⟨(Nat.le_of_ble_eq_true rfl), (Nat.le_of_ble_eq_true rfl)⟩) hA hP hD hS [11, 12] rfl (fun H locs hP hS => ?_)
  refine z_eqi (z2 := wNum (S0 12) (S0 11 1) p0 3) rfl ?_
  have q_1 : -1000000000 ≤ wNum (S0 12) (S0 11 1) p0 3 ∧ wNum (S0 12) (S0 11 1) p0 3 ≤ 1000000000 := wNum_bd hB012
  refine lv_iconst (v := iI 2) hx hb dX5_priceInNewWeek_9 rfl ?_
  refine zi_icmp_ne (tgt := 17) hx hb dX5_priceInNewWeek_10 (by decide) ⟨by omega, by omega⟩ ⟨by omega, by omega⟩ (fun c_2 => ?_) (fun c_2 => ?_)
  · refine lv_iconst (v := iI 0) hx hb dX5_priceInNewWeek_17 rfl ?_
    refine lv_istore_n (lv' := [(2, .int (iI 0)), (0, .ref (a0 0)), (1, .int (iI p0))]) hx hb dX5_priceInNewWeek_18 rfl hl (by decide) rfl (fun ls hl => ?_)
    refine lv_bipush (v := iI 12) hx hb dX5_priceInNewWeek_19 (by decide) ?_
    refine lv_aload_n hx hb dX5_priceInNewWeek_21 rfl (lv_at hl 1 rfl) ?_
    refine va_get (D := D) (ci := 7) (v := .ref (a0 11)) (C := RX5) (T := TX5) (N := 11) hx hb hts (fun w h => List.mem_cons_of_mem _ (List.mem_append_left _ (List.mem_append_left _ (List.mem_append_right _ h)))) hown hK hP 0 rfl rfl 1 (by decide) (hts (.fieldLink RX5 21 "MondayFactory$Plant" "shelf" "LMondayFactory$Row;") (List.mem_of_getElem? (i := 1) rfl)) (fun _ h9 => h9) rfl dX5_priceInNewWeek_22 ?_
    refine lv_iload_n hx hb dX5_priceInNewWeek_25 rfl (lv_at hl 2 rfl) ?_
    refine lv_iconst (v := iI 0) hx hb dX5_priceInNewWeek_26 rfl ?_
    refine z_ai0 (va_runV (As := [.int (iI p0), .int (iI 0)]) (rest := [.int (iI 12)]) ⟨hx, hb, hml, hown, hts⟩ (c_X6_number l D k (subA a0 11) (sub2 S0 11)  p0 0 hB012 (by have e0 : ((sub2 S0 11) 0 1) = S0 11 1 := rfl; omega) (by omega) (by omega) _) (cwV 2 hts gX5_priceInNewWeek_X6_number rfl rfl rfl (by decide +kernel) ⟨(Nat.le_of_ble_eq_true rfl), (Nat.le_of_ble_eq_true rfl)⟩) (z_preV hK hG hA hP hD hS [11, 12] rfl (by decide) 8 rfl rfl) rfl rfl hl.1 rfl (lv_room (Nat.le_of_ble_eq_true rfl)) dX5_priceInNewWeek_27 ⟨(Nat.le_of_ble_eq_true rfl), (Nat.le_of_ble_eq_true rfl)⟩) hA hP hD hS [11, 12] rfl (fun H locs hP hS => ?_)
    refine z_eqi (z2 := wNum (S0 12) (S0 11 1) p0 0) rfl ?_
    have q_3 : -1000000000 ≤ wNum (S0 12) (S0 11 1) p0 0 ∧ wNum (S0 12) (S0 11 1) p0 0 ≤ 1000000000 := wNum_bd hB012
    refine zi_sub hx hb dX5_priceInNewWeek_30 ?_
    refine lv_iload_n hx hb dX5_priceInNewWeek_31 rfl (lv_at hl 0 rfl) ?_
    refine zi_add hx hb dX5_priceInNewWeek_32 ?_
    exact z_iret hx hb hr hlocks hP hS dX5_priceInNewWeek_33 (by unfold wPrice; first | rw [zif_pos (by assumption)] | rw [zif_neg (by assumption)]) rfl (Nat.le_refl _) (Nat.le_refl _)
  · refine lv_iconst (v := iI 4) hx hb dX5_priceInNewWeek_13 rfl ?_
    refine lv_goto (tgt := 18) hx hb dX5_priceInNewWeek_14 (by decide) ?_
    refine lv_istore_n (lv' := [(2, .int (iI 4)), (0, .ref (a0 0)), (1, .int (iI p0))]) hx hb dX5_priceInNewWeek_18 rfl hl (by decide) rfl (fun ls hl => ?_)
    refine lv_bipush (v := iI 12) hx hb dX5_priceInNewWeek_19 (by decide) ?_
    refine lv_aload_n hx hb dX5_priceInNewWeek_21 rfl (lv_at hl 1 rfl) ?_
    refine va_get (D := D) (ci := 7) (v := .ref (a0 11)) (C := RX5) (T := TX5) (N := 11) hx hb hts (fun w h => List.mem_cons_of_mem _ (List.mem_append_left _ (List.mem_append_left _ (List.mem_append_right _ h)))) hown hK hP 0 rfl rfl 1 (by decide) (hts (.fieldLink RX5 21 "MondayFactory$Plant" "shelf" "LMondayFactory$Row;") (List.mem_of_getElem? (i := 1) rfl)) (fun _ h9 => h9) rfl dX5_priceInNewWeek_22 ?_
    refine lv_iload_n hx hb dX5_priceInNewWeek_25 rfl (lv_at hl 2 rfl) ?_
    refine lv_iconst (v := iI 0) hx hb dX5_priceInNewWeek_26 rfl ?_
    refine z_ai0 (va_runV (As := [.int (iI p0), .int (iI 0)]) (rest := [.int (iI 12)]) ⟨hx, hb, hml, hown, hts⟩ (c_X6_number l D k (subA a0 11) (sub2 S0 11)  p0 0 hB012 (by have e0 : ((sub2 S0 11) 0 1) = S0 11 1 := rfl; omega) (by omega) (by omega) _) (cwV 2 hts gX5_priceInNewWeek_X6_number rfl rfl rfl (by decide +kernel) ⟨(Nat.le_of_ble_eq_true rfl), (Nat.le_of_ble_eq_true rfl)⟩) (z_preV hK hG hA hP hD hS [11, 12] rfl (by decide) 8 rfl rfl) rfl rfl hl.1 rfl (lv_room (Nat.le_of_ble_eq_true rfl)) dX5_priceInNewWeek_27 ⟨(Nat.le_of_ble_eq_true rfl), (Nat.le_of_ble_eq_true rfl)⟩) hA hP hD hS [11, 12] rfl (fun H locs hP hS => ?_)
    refine z_eqi (z2 := wNum (S0 12) (S0 11 1) p0 0) rfl ?_
    have q_4 : -1000000000 ≤ wNum (S0 12) (S0 11 1) p0 0 ∧ wNum (S0 12) (S0 11 1) p0 0 ≤ 1000000000 := wNum_bd hB012
    refine zi_sub hx hb dX5_priceInNewWeek_30 ?_
    refine lv_iload_n hx hb dX5_priceInNewWeek_31 rfl (lv_at hl 0 rfl) ?_
    refine zi_add hx hb dX5_priceInNewWeek_32 ?_
    exact z_iret hx hb hr hlocks hP hS dX5_priceInNewWeek_33 (by unfold wPrice; first | rw [zif_pos (by assumption)] | rw [zif_neg (by assumption)]) rfl (Nat.le_refl _) (Nat.le_refl _)
set_option maxHeartbeats 4000000 in
set_option maxRecDepth 100000 in
theorem c_X5_priceOf (l : Launch) (D : va_G) (k : Nat → ClassId) (a0 : Nat → Nat) (S0 : Nat → Nat → Int) (p0 : Int) (hB012 : zBf (S0 12)) (hk011 : 0 ≤ S0 11 1 ∧ S0 11 1 ≤ 8) (h9 : -1000000000 ≤ S0 0 9 ∧ S0 0 9 ≤ 1000000000) (h0 : -2147483648 ≤ p0 ∧ p0 < 2147483648) : zMi l yX5_priceOf wsX5_priceOf ({ frames := 2, cells := 0, slots := 0, locals := 45 } : Room) D k [.ref (a0 0), .int (iI p0)] (wPlant k a0 S0) (wWorth (S0 12) (S0 11 1) p0 (S0 0 9)) (wPlant k a0 S0) 0 0 := by
  refine zMi_of (cc := cX5_priceOf) (maxL := 2) (ret := (some .int)) (by decide) rfl (Nat.le_of_ble_eq_true rfl) ?_
  intro p e s m args below meth c A ls hx hb hr hml hown hts hlocks hK hP hD hG hA hS hl
  have hown : s.vm.findClass RX5 = some m.cls := hown
  have hl : lv_has ls 2 [(0, .ref (a0 0)), (1, .int (iI p0))] := hl
  obtain ⟨H, hH⟩ : ∃ z, z = s.heap := ⟨_, rfl⟩
  obtain ⟨locs, hlc⟩ : ∃ z : List Loc, z = [] := ⟨_, rfl⟩
  rw [← hH] at hP
  have hS : va_S A s.heap H locs := by rw [hH, hlc]; exact hS
  rw [← hlc, ← hH]
  clear hlc hH
  refine lv_iconst (v := iI 1) hx hb dX5_priceOf_0 rfl ?_
  refine lv_aload_n hx hb dX5_priceOf_1 rfl (lv_at hl 0 rfl) ?_
  refine lv_iload_n hx hb dX5_priceOf_2 rfl (lv_at hl 1 rfl) ?_
  refine z_ai0 (va_runV (As := [.int (iI p0)]) (rest := [.int (iI 1)]) ⟨hx, hb, hml, hown, hts⟩ (c_X5_priceInNewWeek l D k a0 S0  p0 hB012 (by omega) (by omega) _) (cwV 1 hts gX5_priceOf_X5_priceInNewWeek rfl rfl rfl (by decide +kernel) ⟨(Nat.le_of_ble_eq_true rfl), (Nat.le_of_ble_eq_true rfl)⟩) (z_preV hK hG hA hP hD hS [0, 1, 2, 3, 4, 5, 6, 7, 8, 9, 10, 11, 12, 13, 14] rfl (by decide) 7 rfl rfl) rfl rfl hl.1 rfl (lv_room (Nat.le_of_ble_eq_true rfl)) dX5_priceOf_3 ⟨(Nat.le_of_ble_eq_true rfl), (Nat.le_of_ble_eq_true rfl)⟩) hA hP hD hS [0, 1, 2, 3, 4, 5, 6, 7, 8, 9, 10, 11, 12, 13, 14] rfl (fun H locs hP hS => ?_)
  have q_1 : -1000000100 ≤ wPrice (S0 12) (S0 11 1) p0 ∧ wPrice (S0 12) (S0 11 1) p0 ≤ 1000000100 := wPrice_bd hB012
  refine lv_aload_n hx hb dX5_priceOf_6 rfl (lv_at hl 0 rfl) ?_
  refine va_get (D := D) (ci := 7) (v := .int (iI (S0 0 9))) (C := RX5) (T := TX5) (N := 11) hx hb hts (fun w h => List.mem_cons_of_mem _ (List.mem_append_left _ (List.mem_append_left _ (List.mem_append_right _ h)))) hown hK hP 0 rfl rfl 9 (by decide) (hts (.fieldLink RX5 51 "MondayFactory$Plant" "fridaysOfWeek" "I") (List.mem_of_getElem? (i := 1) rfl)) (fun _ h9 => h9) rfl dX5_priceOf_7 ?_
  refine zi_sub hx hb dX5_priceOf_10 ?_
  refine z_mmax hx hb (hml.trans hl.1.symm) hown (hts (.methodLink RX5 211 Lib.Math.max.name) (List.mem_of_getElem? (i := 2) rfl)) (hts (.static Lib.Math.max.name) (List.mem_of_getElem? (i := 3) rfl)) (hts (.initialized "java/lang/Math") (List.mem_of_getElem? (i := 4) rfl)) (hts (.code Lib.Math.max.name Lib.Math.max.code 2 (some .int)) (List.mem_of_getElem? (i := 5) rfl)) (Nat.le_of_ble_eq_true rfl) (Nat.le_of_ble_eq_true rfl) (Nat.le_of_ble_eq_true rfl) (Nat.le_of_ble_eq_true rfl) ⟨by omega, by omega⟩ ⟨by omega, by omega⟩ dX5_priceOf_11 ?_
  exact z_iret hx hb hr hlocks hP hS dX5_priceOf_14 rfl rfl (Nat.le_refl _) (Nat.le_refl _)
set_option maxHeartbeats 4000000 in
set_option maxRecDepth 100000 in
theorem c_X5_isFull_0 (l : Launch) (D : va_G) (k : Nat → ClassId) (a0 : Nat → Nat) (S0 : Nat → Nat → Int) (hk03 : 0 ≤ S0 3 1 ∧ S0 3 1 ≤ 5) : zMi l yX5_isFull wsX5_isFull ({ frames := 0, cells := 0, slots := 0, locals := 0 } : Room) D k [.ref (a0 0), .int (iI 0)] (wPlant k a0 S0) (zb (5 ≤ S0 3 1)) (wPlant k a0 S0) 0 0 := by
  refine zMi_of (cc := cX5_isFull) (maxL := 2) (ret := (some .boolean)) (by decide) rfl (Nat.le_of_ble_eq_true rfl) ?_
  intro p e s m args below meth c A ls hx hb hr hml hown hts hlocks hK hP hD hG hA hS hl
  have hown : s.vm.findClass RX5 = some m.cls := hown
  have hl : lv_has ls 2 [(0, .ref (a0 0)), (1, .int (iI 0))] := hl
  obtain ⟨H, hH⟩ : ∃ z, z = s.heap := ⟨_, rfl⟩
  obtain ⟨locs, hlc⟩ : ∃ z : List Loc, z = [] := ⟨_, rfl⟩
  rw [← hH] at hP
  have hS : va_S A s.heap H locs := by rw [hH, hlc]; exact hS
  rw [← hlc, ← hH]
  clear hlc hH
  refine lv_aload_n hx hb dX5_isFull_0 rfl (lv_at hl 0 rfl) ?_
  refine va_get (D := D) (ci := 7) (v := .ref (a0 1)) (C := RX5) (T := TX5) (N := 11) hx hb hts (fun w h => List.mem_cons_of_mem _ (List.mem_append_left _ (List.mem_append_left _ (List.mem_append_right _ h)))) hown hK hP 0 rfl rfl 0 (by decide) (hts (.fieldLink RX5 12 "MondayFactory$Plant" "belts" "[LMondayFactory$Belt;") (List.mem_of_getElem? (i := 1) rfl)) (fun _ h9 => h9) rfl dX5_isFull_1 ?_
  refine lv_iload_n hx hb dX5_isFull_4 rfl (lv_at hl 1 rfl) ?_
  refine z_aald hx hb hK hP 1 2 (f := fun j => some (a0 (2 + 3 * j))) (q := a0 2) rfl rfl (i := 0) (by omega) (by omega) (by decide) rfl dX5_isFull_5 ?_
  refine va_get (D := D) (ci := 2) (v := .ref (a0 3)) (C := RX0) (T := TX0) (N := 6) hx hb hts (fun w h => List.mem_cons_of_mem _ (List.mem_append_left _ (List.mem_append_right _ h))) hown hK hP 2 rfl rfl 0 (by decide) (hts (.fieldLink RX5 98 "MondayFactory$Belt" "row" "LMondayFactory$Row;") (List.mem_of_getElem? (i := 2) rfl)) (fun _ h9 => h9) rfl dX5_isFull_6 ?_
  refine va_get (D := D) (ci := 8) (v := .int (iI (S0 3 1))) (C := RX6) (T := TX6) (N := 2) hx hb hts (fun w h => List.mem_cons_of_mem _ (List.mem_append_right _ h)) hown hK hP 3 rfl rfl 1 (by decide) (hts (.fieldLink RX5 101 "MondayFactory$Row" "count" "I") (List.mem_of_getElem? (i := 3) rfl)) (fun _ h9 => h9) rfl dX5_isFull_9 ?_
  refine lv_iconst (v := iI 5) hx hb dX5_isFull_12 rfl ?_
  refine zi_icmp_lt (tgt := 20) hx hb dX5_isFull_13 (by decide) ⟨by omega, by omega⟩ ⟨by omega, by omega⟩ (fun c_1 => ?_) (fun c_1 => ?_)
  · refine lv_iconst (v := iI 0) hx hb dX5_isFull_20 rfl ?_
    exact z_zret hx hb hr hlocks rfl hP hS dX5_isFull_21 (zb_neg (by omega)) rfl (Nat.le_refl _) (Nat.le_refl _)
  · refine lv_iconst (v := iI 1) hx hb dX5_isFull_16 rfl ?_
    refine lv_goto (tgt := 21) hx hb dX5_isFull_17 (by decide) ?_
    exact z_zret hx hb hr hlocks rfl hP hS dX5_isFull_21 (zb_pos (by omega)) rfl (Nat.le_refl _) (Nat.le_refl _)
set_option maxHeartbeats 4000000 in
set_option maxRecDepth 100000 in
theorem c_X5_isFull_1 (l : Launch) (D : va_G) (k : Nat → ClassId) (a0 : Nat → Nat) (S0 : Nat → Nat → Int) (hk06 : 0 ≤ S0 6 1 ∧ S0 6 1 ≤ 5) : zMi l yX5_isFull wsX5_isFull ({ frames := 0, cells := 0, slots := 0, locals := 0 } : Room) D k [.ref (a0 0), .int (iI 1)] (wPlant k a0 S0) (zb (5 ≤ S0 6 1)) (wPlant k a0 S0) 0 0 := by
  refine zMi_of (cc := cX5_isFull) (maxL := 2) (ret := (some .boolean)) (by decide) rfl (Nat.le_of_ble_eq_true rfl) ?_
  intro p e s m args below meth c A ls hx hb hr hml hown hts hlocks hK hP hD hG hA hS hl
  have hown : s.vm.findClass RX5 = some m.cls := hown
  have hl : lv_has ls 2 [(0, .ref (a0 0)), (1, .int (iI 1))] := hl
  obtain ⟨H, hH⟩ : ∃ z, z = s.heap := ⟨_, rfl⟩
  obtain ⟨locs, hlc⟩ : ∃ z : List Loc, z = [] := ⟨_, rfl⟩
  rw [← hH] at hP
  have hS : va_S A s.heap H locs := by rw [hH, hlc]; exact hS
  rw [← hlc, ← hH]
  clear hlc hH
  refine lv_aload_n hx hb dX5_isFull_0 rfl (lv_at hl 0 rfl) ?_
  refine va_get (D := D) (ci := 7) (v := .ref (a0 1)) (C := RX5) (T := TX5) (N := 11) hx hb hts (fun w h => List.mem_cons_of_mem _ (List.mem_append_left _ (List.mem_append_left _ (List.mem_append_right _ h)))) hown hK hP 0 rfl rfl 0 (by decide) (hts (.fieldLink RX5 12 "MondayFactory$Plant" "belts" "[LMondayFactory$Belt;") (List.mem_of_getElem? (i := 1) rfl)) (fun _ h9 => h9) rfl dX5_isFull_1 ?_
  refine lv_iload_n hx hb dX5_isFull_4 rfl (lv_at hl 1 rfl) ?_
  refine z_aald hx hb hK hP 1 2 (f := fun j => some (a0 (2 + 3 * j))) (q := a0 5) rfl rfl (i := 1) (by omega) (by omega) (by decide) rfl dX5_isFull_5 ?_
  refine va_get (D := D) (ci := 2) (v := .ref (a0 6)) (C := RX0) (T := TX0) (N := 6) hx hb hts (fun w h => List.mem_cons_of_mem _ (List.mem_append_left _ (List.mem_append_right _ h))) hown hK hP 5 rfl rfl 0 (by decide) (hts (.fieldLink RX5 98 "MondayFactory$Belt" "row" "LMondayFactory$Row;") (List.mem_of_getElem? (i := 2) rfl)) (fun _ h9 => h9) rfl dX5_isFull_6 ?_
  refine va_get (D := D) (ci := 8) (v := .int (iI (S0 6 1))) (C := RX6) (T := TX6) (N := 2) hx hb hts (fun w h => List.mem_cons_of_mem _ (List.mem_append_right _ h)) hown hK hP 6 rfl rfl 1 (by decide) (hts (.fieldLink RX5 101 "MondayFactory$Row" "count" "I") (List.mem_of_getElem? (i := 3) rfl)) (fun _ h9 => h9) rfl dX5_isFull_9 ?_
  refine lv_iconst (v := iI 5) hx hb dX5_isFull_12 rfl ?_
  refine zi_icmp_lt (tgt := 20) hx hb dX5_isFull_13 (by decide) ⟨by omega, by omega⟩ ⟨by omega, by omega⟩ (fun c_1 => ?_) (fun c_1 => ?_)
  · refine lv_iconst (v := iI 0) hx hb dX5_isFull_20 rfl ?_
    exact z_zret hx hb hr hlocks rfl hP hS dX5_isFull_21 (zb_neg (by omega)) rfl (Nat.le_refl _) (Nat.le_refl _)
  · refine lv_iconst (v := iI 1) hx hb dX5_isFull_16 rfl ?_
    refine lv_goto (tgt := 21) hx hb dX5_isFull_17 (by decide) ?_
    exact z_zret hx hb hr hlocks rfl hP hS dX5_isFull_21 (zb_pos (by omega)) rfl (Nat.le_refl _) (Nat.le_refl _)
set_option maxHeartbeats 4000000 in
set_option maxRecDepth 100000 in
theorem c_X5_isFull_2 (l : Launch) (D : va_G) (k : Nat → ClassId) (a0 : Nat → Nat) (S0 : Nat → Nat → Int) (hk09 : 0 ≤ S0 9 1 ∧ S0 9 1 ≤ 5) : zMi l yX5_isFull wsX5_isFull ({ frames := 0, cells := 0, slots := 0, locals := 0 } : Room) D k [.ref (a0 0), .int (iI 2)] (wPlant k a0 S0) (zb (5 ≤ S0 9 1)) (wPlant k a0 S0) 0 0 := by
  refine zMi_of (cc := cX5_isFull) (maxL := 2) (ret := (some .boolean)) (by decide) rfl (Nat.le_of_ble_eq_true rfl) ?_
  intro p e s m args below meth c A ls hx hb hr hml hown hts hlocks hK hP hD hG hA hS hl
  have hown : s.vm.findClass RX5 = some m.cls := hown
  have hl : lv_has ls 2 [(0, .ref (a0 0)), (1, .int (iI 2))] := hl
  obtain ⟨H, hH⟩ : ∃ z, z = s.heap := ⟨_, rfl⟩
  obtain ⟨locs, hlc⟩ : ∃ z : List Loc, z = [] := ⟨_, rfl⟩
  rw [← hH] at hP
  have hS : va_S A s.heap H locs := by rw [hH, hlc]; exact hS
  rw [← hlc, ← hH]
  clear hlc hH
  refine lv_aload_n hx hb dX5_isFull_0 rfl (lv_at hl 0 rfl) ?_
  refine va_get (D := D) (ci := 7) (v := .ref (a0 1)) (C := RX5) (T := TX5) (N := 11) hx hb hts (fun w h => List.mem_cons_of_mem _ (List.mem_append_left _ (List.mem_append_left _ (List.mem_append_right _ h)))) hown hK hP 0 rfl rfl 0 (by decide) (hts (.fieldLink RX5 12 "MondayFactory$Plant" "belts" "[LMondayFactory$Belt;") (List.mem_of_getElem? (i := 1) rfl)) (fun _ h9 => h9) rfl dX5_isFull_1 ?_
  refine lv_iload_n hx hb dX5_isFull_4 rfl (lv_at hl 1 rfl) ?_
  refine z_aald hx hb hK hP 1 2 (f := fun j => some (a0 (2 + 3 * j))) (q := a0 8) rfl rfl (i := 2) (by omega) (by omega) (by decide) rfl dX5_isFull_5 ?_
  refine va_get (D := D) (ci := 2) (v := .ref (a0 9)) (C := RX0) (T := TX0) (N := 6) hx hb hts (fun w h => List.mem_cons_of_mem _ (List.mem_append_left _ (List.mem_append_right _ h))) hown hK hP 8 rfl rfl 0 (by decide) (hts (.fieldLink RX5 98 "MondayFactory$Belt" "row" "LMondayFactory$Row;") (List.mem_of_getElem? (i := 2) rfl)) (fun _ h9 => h9) rfl dX5_isFull_6 ?_
  refine va_get (D := D) (ci := 8) (v := .int (iI (S0 9 1))) (C := RX6) (T := TX6) (N := 2) hx hb hts (fun w h => List.mem_cons_of_mem _ (List.mem_append_right _ h)) hown hK hP 9 rfl rfl 1 (by decide) (hts (.fieldLink RX5 101 "MondayFactory$Row" "count" "I") (List.mem_of_getElem? (i := 3) rfl)) (fun _ h9 => h9) rfl dX5_isFull_9 ?_
  refine lv_iconst (v := iI 5) hx hb dX5_isFull_12 rfl ?_
  refine zi_icmp_lt (tgt := 20) hx hb dX5_isFull_13 (by decide) ⟨by omega, by omega⟩ ⟨by omega, by omega⟩ (fun c_1 => ?_) (fun c_1 => ?_)
  · refine lv_iconst (v := iI 0) hx hb dX5_isFull_20 rfl ?_
    exact z_zret hx hb hr hlocks rfl hP hS dX5_isFull_21 (zb_neg (by omega)) rfl (Nat.le_refl _) (Nat.le_refl _)
  · refine lv_iconst (v := iI 1) hx hb dX5_isFull_16 rfl ?_
    refine lv_goto (tgt := 21) hx hb dX5_isFull_17 (by decide) ?_
    exact z_zret hx hb hr hlocks rfl hP hS dX5_isFull_21 (zb_pos (by omega)) rfl (Nat.le_refl _) (Nat.le_refl _)
noncomputable def sp_X5_verdictOnRepair (S0 : Nat → Nat → Int) (p0 : Int) : Int := zif (5 ≤ S0 3 1)
  (1)
  (zif ((2 + wNum (S0 12) (S0 11 1) p0 2) ≤ (S0 0 3))
    (0)
    (5))
set_option maxHeartbeats 4000000 in
set_option maxRecDepth 100000 in
theorem c_X5_verdictOnRepair (l : Launch) (D : va_G) (k : Nat → ClassId) (a0 : Nat → Nat) (S0 : Nat → Nat → Int) (p0 : Int) (hB00 : zBf (S0 0)) (hk03 : 0 ≤ S0 3 1 ∧ S0 3 1 ≤ 5) (hB012 : zBf (S0 12)) (hk011 : 0 ≤ S0 11 1 ∧ S0 11 1 ≤ 8) (h0 : -2147483648 ≤ p0 ∧ p0 < 2147483648) : zMi l yX5_verdictOnRepair wsX5_verdictOnRepair ({ frames := 2, cells := 0, slots := 0, locals := 44 } : Room) D k [.ref (a0 0), .int (iI p0)] (wPlant k a0 S0) (sp_X5_verdictOnRepair S0 p0) (wPlant k a0 S0) 0 0 := by
  refine zMi_of (cc := cX5_verdictOnRepair) (maxL := 2) (ret := (some .int)) (by decide) rfl (Nat.le_of_ble_eq_true rfl) ?_
  intro p e s m args below meth c A ls hx hb hr hml hown hts hlocks hK hP hD hG hA hS hl
  have hown : s.vm.findClass RX5 = some m.cls := hown
  have hl : lv_has ls 2 [(0, .ref (a0 0)), (1, .int (iI p0))] := hl
  obtain ⟨H, hH⟩ : ∃ z, z = s.heap := ⟨_, rfl⟩
  obtain ⟨locs, hlc⟩ : ∃ z : List Loc, z = [] := ⟨_, rfl⟩
  rw [← hH] at hP
  have hS : va_S A s.heap H locs := by rw [hH, hlc]; exact hS
  rw [← hlc, ← hH]
  clear hlc hH
  refine lv_aload_n hx hb dX5_verdictOnRepair_0 rfl (lv_at hl 0 rfl) ?_
  refine lv_iconst (v := iI 0) hx hb dX5_verdictOnRepair_1 rfl ?_
  refine z_ai0 (va_runV (As := [.int (iI 0)]) (rest := []) ⟨hx, hb, hml, hown, hts⟩ (c_X5_isFull_0 l D k a0 S0   (by omega) _) (cwV 1 hts gX5_verdictOnRepair_X5_isFull rfl rfl rfl (by decide +kernel) ⟨(Nat.le_of_ble_eq_true rfl), (Nat.le_of_ble_eq_true rfl)⟩) (z_preV hK hG hA hP hD hS [0, 1, 2, 3, 4, 5, 6, 7, 8, 9, 10, 11, 12, 13, 14] rfl (by decide) 7 rfl rfl) rfl rfl hl.1 rfl (lv_room (Nat.le_of_ble_eq_true rfl)) dX5_verdictOnRepair_2 ⟨(Nat.le_of_ble_eq_true rfl), (Nat.le_of_ble_eq_true rfl)⟩) hA hP hD hS [0, 1, 2, 3, 4, 5, 6, 7, 8, 9, 10, 11, 12, 13, 14] rfl (fun H locs hP hS => ?_)
  refine zi_if_eqB (tgt := 10) hx hb dX5_verdictOnRepair_5 (by decide) (fun c_1 => ?_) (fun c_1 => ?_)
  · refine lv_aload_n hx hb dX5_verdictOnRepair_10 rfl (lv_at hl 0 rfl) ?_
    have f_2 := hB00 3
    refine va_get (D := D) (ci := 7) (v := .int (iI (S0 0 3))) (C := RX5) (T := TX5) (N := 11) hx hb hts (fun w h => List.mem_cons_of_mem _ (List.mem_append_left _ (List.mem_append_left _ (List.mem_append_left _ (List.mem_append_right _ h))))) hown hK hP 0 rfl rfl 3 (by decide) (hts (.fieldLink RX5 32 "MondayFactory$Plant" "coins" "I") (List.mem_of_getElem? (i := 1) rfl)) (fun _ h9 => h9) rfl dX5_verdictOnRepair_11 ?_
    refine lv_aload_n hx hb dX5_verdictOnRepair_14 rfl (lv_at hl 0 rfl) ?_
    refine lv_iload_n hx hb dX5_verdictOnRepair_15 rfl (lv_at hl 1 rfl) ?_
    refine z_ai0 (va_runV (As := [.int (iI p0)]) (rest := [.int (iI (S0 0 3))]) ⟨hx, hb, hml, hown, hts⟩ (c_X5_repairCost l D k a0 S0  p0 hB012 (by omega) (by omega) _) (cwV 1 hts gX5_verdictOnRepair_X5_repairCost rfl rfl rfl (by decide +kernel) ⟨(Nat.le_of_ble_eq_true rfl), (Nat.le_of_ble_eq_true rfl)⟩) (z_preV hK hG hA hP hD hS [0, 1, 2, 3, 4, 5, 6, 7, 8, 9, 10, 11, 12, 13, 14] rfl (by decide) 7 rfl rfl) rfl rfl hl.1 rfl (lv_room (Nat.le_of_ble_eq_true rfl)) dX5_verdictOnRepair_16 ⟨(Nat.le_of_ble_eq_true rfl), (Nat.le_of_ble_eq_true rfl)⟩) hA hP hD hS [0, 1, 2, 3, 4, 5, 6, 7, 8, 9, 10, 11, 12, 13, 14] rfl (fun H locs hP hS => ?_)
    have q_3 : -1000000000 ≤ wNum (S0 12) (S0 11 1) p0 2 ∧ wNum (S0 12) (S0 11 1) p0 2 ≤ 1000000000 := wNum_bd hB012
    refine zi_icmp_ge (tgt := 26) hx hb dX5_verdictOnRepair_19 (by decide) ⟨by omega, by omega⟩ ⟨by omega, by omega⟩ (fun c_4 => ?_) (fun c_4 => ?_)
    · refine lv_iconst (v := iI 0) hx hb dX5_verdictOnRepair_26 rfl ?_
      exact z_iret hx hb hr hlocks hP hS dX5_verdictOnRepair_27 (Eq.trans (zif_neg c_1) (Eq.trans (zif_pos c_4) rfl)) rfl (Nat.le_refl _) (Nat.le_refl _)
    · refine lv_iconst (v := iI 5) hx hb dX5_verdictOnRepair_22 rfl ?_
      refine lv_goto (tgt := 27) hx hb dX5_verdictOnRepair_23 (by decide) ?_
      exact z_iret hx hb hr hlocks hP hS dX5_verdictOnRepair_27 (Eq.trans (zif_neg c_1) (Eq.trans (zif_neg c_4) rfl)) rfl (Nat.le_refl _) (Nat.le_refl _)
  · refine lv_iconst (v := iI 1) hx hb dX5_verdictOnRepair_8 rfl ?_
    exact z_iret hx hb hr hlocks hP hS dX5_verdictOnRepair_9 (Eq.trans (zif_pos c_1) rfl) rfl (Nat.le_refl _) (Nat.le_refl _)
theorem vrep_rng (S0 : Nat → Nat → Int) (p0 : Int) : 0 ≤ sp_X5_verdictOnRepair S0 p0 ∧ sp_X5_verdictOnRepair S0 p0 ≤ 7 := by
  unfold sp_X5_verdictOnRepair
  exact el1 (Q := fun z => 0 ≤ z ∧ z ≤ 7) (fun _ => by omega) (fun _ => el1 (Q := fun z => 0 ≤ z ∧ z ≤ 7) (fun _ => by omega) (fun _ => by omega))

noncomputable def sp_X5_verdictOnBelt_0 (S0 : Nat → Nat → Int) (p0 : Int) (p2 : Int) (p3 : Int) : Int := zif (p2 < 0)
  (zif (p0 = 105)
    (zif ((S0 3 1) = 0)
      (3)
      (zif ((S0 13 1) = 0)
        (4)
        (0)))
    (zif (p0 = 109)
      (7)
      (zif (p0 = 116)
        (7)
        (zif (5 ≤ S0 3 1)
          (1)
          (0)))))
  (zif (9 < p2)
    (zif (p0 = 105)
      (zif ((S0 3 1) = 0)
        (3)
        (zif ((S0 13 1) = 0)
          (4)
          (0)))
      (zif (p0 = 109)
        (7)
        (zif (p0 = 116)
          (7)
          (zif (5 ≤ S0 3 1)
            (1)
            (0)))))
    (zif (p3 < 4)
      (zif (p0 = 105)
        (zif ((S0 3 1) = 0)
          (3)
          (zif ((S0 13 1) = 0)
            (4)
            (0)))
        (zif (p0 = 109)
          (7)
          (zif (p0 = 116)
            (7)
            (zif (5 ≤ S0 3 1)
              (1)
              (0)))))
      (zif (9 < p3)
        (zif (p0 = 105)
          (zif ((S0 3 1) = 0)
            (3)
            (zif ((S0 13 1) = 0)
              (4)
              (0)))
          (zif (p0 = 109)
            (7)
            (zif (p0 = 116)
              (7)
              (zif (5 ≤ S0 3 1)
                (1)
                (0)))))
        (zif (p0 = 105)
          (zif ((S0 3 1) = 0)
            (3)
            (zif ((S0 13 1) = 0)
              (4)
              (0)))
          (zif (p0 = 109)
            (zif (5 ≤ S0 3 1)
              (1)
              (0))
            (zif (p0 = 116)
              (zif (p2 = (S0 2 1))
                (zif (p3 = (S0 2 2))
                  (2)
                  (0))
                (0))
              (zif (5 ≤ S0 3 1)
                (1)
                (0))))))))
set_option maxHeartbeats 4000000 in
set_option maxRecDepth 100000 in
theorem c_X5_verdictOnBelt_0 (l : Launch) (D : va_G) (k : Nat → ClassId) (a0 : Nat → Nat) (S0 : Nat → Nat → Int) (p0 : Int) (p2 : Int) (p3 : Int) (hB02 : zBf (S0 2)) (hk03 : 0 ≤ S0 3 1 ∧ S0 3 1 ≤ 5) (hk013 : 0 ≤ S0 13 1 ∧ S0 13 1 ≤ 4) (h0 : 0 ≤ p0 ∧ p0 < 65536) (h2 : -2147483648 ≤ p2 ∧ p2 < 2147483648) (h3 : -2147483648 ≤ p3 ∧ p3 < 2147483648) : zMi l yX5_verdictOnBelt wsX5_verdictOnBelt ({ frames := 1, cells := 0, slots := 0, locals := 21 } : Room) D k [.ref (a0 0), .int (iI p0), .int (iI 0), .int (iI p2), .int (iI p3)] (wPlant k a0 S0) (sp_X5_verdictOnBelt_0 S0 p0 p2 p3) (wPlant k a0 S0) 0 0 := by
  refine zMi_of (cc := cX5_verdictOnBelt) (maxL := 6) (ret := (some .int)) (by decide) rfl (Nat.le_of_ble_eq_true rfl) ?_
  intro p e s m args below meth c A ls hx hb hr hml hown hts hlocks hK hP hD hG hA hS hl
  have hown : s.vm.findClass RX5 = some m.cls := hown
  have hl : lv_has ls 6 [(0, .ref (a0 0)), (1, .int (iI p0)), (2, .int (iI 0)), (3, .int (iI p2)), (4, .int (iI p3))] := hl
  obtain ⟨H, hH⟩ : ∃ z, z = s.heap := ⟨_, rfl⟩
  obtain ⟨locs, hlc⟩ : ∃ z : List Loc, z = [] := ⟨_, rfl⟩
  rw [← hH] at hP
  have hS : va_S A s.heap H locs := by rw [hH, hlc]; exact hS
  rw [← hlc, ← hH]
  clear hlc hH
  refine lv_iload_n hx hb dX5_verdictOnBelt_0 rfl (lv_at hl 3 rfl) ?_
  refine zi_if_lt (tgt := 27) hx hb dX5_verdictOnBelt_1 (by decide) ⟨by omega, by omega⟩ (fun c_1 => ?_) (fun c_1 => ?_)
  · refine lv_iconst (v := iI 0) hx hb dX5_verdictOnBelt_27 rfl ?_
    refine lv_istore (lv' := [(5, .int (iI 0)), (0, .ref (a0 0)), (1, .int (iI p0)), (2, .int (iI 0)), (3, .int (iI p2)), (4, .int (iI p3))]) hx hb dX5_verdictOnBelt_28 hl (by decide) rfl (fun ls hl => ?_)
    refine lv_iload_n hx hb dX5_verdictOnBelt_30 rfl (lv_at hl 2 rfl) ?_
    by_cases w_2 : p0 = 105
    · refine z_lookup hx hb dX5_verdictOnBelt_31 (by decide) (x := p0) ⟨by omega, by omega⟩ (off := 96) (tgt := 127) (by rw [w_2]; decide) (by decide) ?_
      refine lv_aload_n hx hb dX5_verdictOnBelt_127 rfl (lv_at hl 1 rfl) ?_
      refine va_get (D := D) (ci := 7) (v := .ref (a0 1)) (C := RX5) (T := TX5) (N := 11) hx hb hts (fun w h => List.mem_cons_of_mem _ (List.mem_append_left _ (List.mem_append_left _ (List.mem_append_left _ (List.mem_append_right _ h))))) hown hK hP 0 rfl rfl 0 (by decide) (hts (.fieldLink RX5 12 "MondayFactory$Plant" "belts" "[LMondayFactory$Belt;") (List.mem_of_getElem? (i := 1) rfl)) (fun _ h9 => h9) rfl dX5_verdictOnBelt_128 ?_
      refine lv_iload_n hx hb dX5_verdictOnBelt_131 rfl (lv_at hl 3 rfl) ?_
      refine z_aald hx hb hK hP 1 2 (f := fun j => some (a0 (2 + 3 * j))) (q := a0 2) rfl rfl (i := 0) (by omega) (by omega) (by decide) rfl dX5_verdictOnBelt_132 ?_
      refine va_get (D := D) (ci := 2) (v := .ref (a0 3)) (C := RX0) (T := TX0) (N := 6) hx hb hts (fun w h => List.mem_cons_of_mem _ (List.mem_append_left _ (List.mem_append_left _ (List.mem_append_right _ h)))) hown hK hP 2 rfl rfl 0 (by decide) (hts (.fieldLink RX5 98 "MondayFactory$Belt" "row" "LMondayFactory$Row;") (List.mem_of_getElem? (i := 4) rfl)) (fun _ h9 => h9) rfl dX5_verdictOnBelt_133 ?_
      refine va_get (D := D) (ci := 8) (v := .int (iI (S0 3 1))) (C := RX6) (T := TX6) (N := 2) hx hb hts (fun w h => List.mem_cons_of_mem _ (List.mem_append_left _ (List.mem_append_right _ h))) hown hK hP 3 rfl rfl 1 (by decide) (hts (.fieldLink RX5 101 "MondayFactory$Row" "count" "I") (List.mem_of_getElem? (i := 5) rfl)) (fun _ h9 => h9) rfl dX5_verdictOnBelt_136 ?_
      refine zi_if_ne (tgt := 144) hx hb dX5_verdictOnBelt_139 (by decide) ⟨by omega, by omega⟩ (fun c_3 => ?_) (fun c_3 => ?_)
      · refine lv_aload_n hx hb dX5_verdictOnBelt_144 rfl (lv_at hl 1 rfl) ?_
        refine va_get (D := D) (ci := 7) (v := .ref (a0 13)) (C := RX5) (T := TX5) (N := 11) hx hb hts (fun w h => List.mem_cons_of_mem _ (List.mem_append_left _ (List.mem_append_left _ (List.mem_append_left _ (List.mem_append_right _ h))))) hown hK hP 0 rfl rfl 2 (by decide) (hts (.fieldLink RX5 28 "MondayFactory$Plant" "crew" "LMondayFactory$Crew;") (List.mem_of_getElem? (i := 6) rfl)) (fun _ h9 => h9) rfl dX5_verdictOnBelt_145 ?_
        refine va_get (D := D) (ci := 3) (v := .int (iI (S0 13 1))) (C := RX1) (T := TX1) (N := 2) hx hb hts (fun w h => List.mem_cons_of_mem _ (List.mem_append_right _ h)) hown hK hP 13 rfl rfl 1 (by decide) (hts (.fieldLink RX5 67 "MondayFactory$Crew" "count" "I") (List.mem_of_getElem? (i := 7) rfl)) (fun _ h9 => h9) rfl dX5_verdictOnBelt_148 ?_
        refine zi_if_ne (tgt := 158) hx hb dX5_verdictOnBelt_151 (by decide) ⟨by omega, by omega⟩ (fun c_4 => ?_) (fun c_4 => ?_)
        · refine lv_iconst (v := iI 0) hx hb dX5_verdictOnBelt_158 rfl ?_
          exact z_iret hx hb hr hlocks hP hS dX5_verdictOnBelt_159 (Eq.trans (zif_pos c_1) (Eq.trans (zif_pos w_2) (Eq.trans (zif_neg c_3) (Eq.trans (zif_neg c_4) rfl)))) rfl (Nat.le_refl _) (Nat.le_refl _)
        · refine lv_iconst (v := iI 4) hx hb dX5_verdictOnBelt_154 rfl ?_
          refine lv_goto (tgt := 159) hx hb dX5_verdictOnBelt_155 (by decide) ?_
          exact z_iret hx hb hr hlocks hP hS dX5_verdictOnBelt_159 (Eq.trans (zif_pos c_1) (Eq.trans (zif_pos w_2) (Eq.trans (zif_neg c_3) (Eq.trans (zif_pos c_4) rfl)))) rfl (Nat.le_refl _) (Nat.le_refl _)
      · refine lv_iconst (v := iI 3) hx hb dX5_verdictOnBelt_142 rfl ?_
        exact z_iret hx hb hr hlocks hP hS dX5_verdictOnBelt_143 (Eq.trans (zif_pos c_1) (Eq.trans (zif_pos w_2) (Eq.trans (zif_pos c_3) rfl))) rfl (Nat.le_refl _) (Nat.le_refl _)
    · by_cases w_5 : p0 = 109
      · refine z_lookup hx hb dX5_verdictOnBelt_31 (by decide) (x := p0) ⟨by omega, by omega⟩ (off := 33) (tgt := 64) (by rw [w_5]; decide) (by decide) ?_
        refine lv_iload hx hb dX5_verdictOnBelt_64 (lv_at hl 0 rfl) ?_
        refine zi_if_ne (tgt := 72) hx hb dX5_verdictOnBelt_66 (by decide) ⟨by omega, by omega⟩ (fun c_6 => absurd c_6 (by omega)) (fun _ => ?_)
        refine lv_bipush (v := iI 7) hx hb dX5_verdictOnBelt_69 (by decide) ?_
        exact z_iret hx hb hr hlocks hP hS dX5_verdictOnBelt_71 (Eq.trans (zif_pos c_1) (Eq.trans (zif_neg w_2) (Eq.trans (zif_pos w_5) rfl))) rfl (Nat.le_refl _) (Nat.le_refl _)
      · by_cases w_7 : p0 = 116
        · refine z_lookup hx hb dX5_verdictOnBelt_31 (by decide) (x := p0) ⟨by omega, by omega⟩ (off := 55) (tgt := 86) (by rw [w_7]; decide) (by decide) ?_
          refine lv_iload hx hb dX5_verdictOnBelt_86 (lv_at hl 0 rfl) ?_
          refine zi_if_ne (tgt := 94) hx hb dX5_verdictOnBelt_88 (by decide) ⟨by omega, by omega⟩ (fun c_8 => absurd c_8 (by omega)) (fun _ => ?_)
          refine lv_bipush (v := iI 7) hx hb dX5_verdictOnBelt_91 (by decide) ?_
          exact z_iret hx hb hr hlocks hP hS dX5_verdictOnBelt_93 (Eq.trans (zif_pos c_1) (Eq.trans (zif_neg w_2) (Eq.trans (zif_neg w_5) (Eq.trans (zif_pos w_7) rfl)))) rfl (Nat.le_refl _) (Nat.le_refl _)
        · refine z_lookup hx hb dX5_verdictOnBelt_31 (by decide) (x := p0) ⟨by omega, by omega⟩ (off := 129) (tgt := 160) (by simp [Op.lookupswitch.offset, Ne.symm w_2, Ne.symm w_5, Ne.symm w_7]) (by decide) ?_
          refine lv_aload_n hx hb dX5_verdictOnBelt_160 rfl (lv_at hl 1 rfl) ?_
          refine lv_iload_n hx hb dX5_verdictOnBelt_161 rfl (lv_at hl 3 rfl) ?_
          refine z_ai0 (va_runV (As := [.int (iI 0)]) (rest := []) ⟨hx, hb, hml, hown, hts⟩ (c_X5_isFull_0 l D k a0 S0   (by omega) _) (cwV 1 hts gX5_verdictOnBelt_X5_isFull rfl rfl rfl (by decide +kernel) ⟨(Nat.le_of_ble_eq_true rfl), (Nat.le_of_ble_eq_true rfl)⟩) (z_preV hK hG hA hP hD hS [0, 1, 2, 3, 4, 5, 6, 7, 8, 9, 10, 11, 12, 13, 14] rfl (by decide) 7 rfl rfl) rfl rfl hl.1 rfl (lv_room (Nat.le_of_ble_eq_true rfl)) dX5_verdictOnBelt_162 ⟨(Nat.le_of_ble_eq_true rfl), (Nat.le_of_ble_eq_true rfl)⟩) hA hP hD hS [0, 1, 2, 3, 4, 5, 6, 7, 8, 9, 10, 11, 12, 13, 14] rfl (fun H locs hP hS => ?_)
          refine zi_if_eqB (tgt := 172) hx hb dX5_verdictOnBelt_165 (by decide) (fun c_9 => ?_) (fun c_9 => ?_)
          · refine lv_iconst (v := iI 0) hx hb dX5_verdictOnBelt_172 rfl ?_
            exact z_iret hx hb hr hlocks hP hS dX5_verdictOnBelt_173 (Eq.trans (zif_pos c_1) (Eq.trans (zif_neg w_2) (Eq.trans (zif_neg w_5) (Eq.trans (zif_neg w_7) (Eq.trans (zif_neg c_9) rfl))))) rfl (Nat.le_refl _) (Nat.le_refl _)
          · refine lv_iconst (v := iI 1) hx hb dX5_verdictOnBelt_168 rfl ?_
            refine lv_goto (tgt := 173) hx hb dX5_verdictOnBelt_169 (by decide) ?_
            exact z_iret hx hb hr hlocks hP hS dX5_verdictOnBelt_173 (Eq.trans (zif_pos c_1) (Eq.trans (zif_neg w_2) (Eq.trans (zif_neg w_5) (Eq.trans (zif_neg w_7) (Eq.trans (zif_pos c_9) rfl))))) rfl (Nat.le_refl _) (Nat.le_refl _)
  · refine lv_iload_n hx hb dX5_verdictOnBelt_4 rfl (lv_at hl 3 rfl) ?_
    refine lv_bipush (v := iI 9) hx hb dX5_verdictOnBelt_5 (by decide) ?_
    refine zi_icmp_gt (tgt := 27) hx hb dX5_verdictOnBelt_7 (by decide) ⟨by omega, by omega⟩ ⟨by omega, by omega⟩ (fun c_10 => ?_) (fun c_10 => ?_)
    · refine lv_iconst (v := iI 0) hx hb dX5_verdictOnBelt_27 rfl ?_
      refine lv_istore (lv' := [(5, .int (iI 0)), (0, .ref (a0 0)), (1, .int (iI p0)), (2, .int (iI 0)), (3, .int (iI p2)), (4, .int (iI p3))]) hx hb dX5_verdictOnBelt_28 hl (by decide) rfl (fun ls hl => ?_)
      refine lv_iload_n hx hb dX5_verdictOnBelt_30 rfl (lv_at hl 2 rfl) ?_
      by_cases w_11 : p0 = 105
      · refine z_lookup hx hb dX5_verdictOnBelt_31 (by decide) (x := p0) ⟨by omega, by omega⟩ (off := 96) (tgt := 127) (by rw [w_11]; decide) (by decide) ?_
        refine lv_aload_n hx hb dX5_verdictOnBelt_127 rfl (lv_at hl 1 rfl) ?_
        refine va_get (D := D) (ci := 7) (v := .ref (a0 1)) (C := RX5) (T := TX5) (N := 11) hx hb hts (fun w h => List.mem_cons_of_mem _ (List.mem_append_left _ (List.mem_append_left _ (List.mem_append_left _ (List.mem_append_right _ h))))) hown hK hP 0 rfl rfl 0 (by decide) (hts (.fieldLink RX5 12 "MondayFactory$Plant" "belts" "[LMondayFactory$Belt;") (List.mem_of_getElem? (i := 1) rfl)) (fun _ h9 => h9) rfl dX5_verdictOnBelt_128 ?_
        refine lv_iload_n hx hb dX5_verdictOnBelt_131 rfl (lv_at hl 3 rfl) ?_
        refine z_aald hx hb hK hP 1 2 (f := fun j => some (a0 (2 + 3 * j))) (q := a0 2) rfl rfl (i := 0) (by omega) (by omega) (by decide) rfl dX5_verdictOnBelt_132 ?_
        refine va_get (D := D) (ci := 2) (v := .ref (a0 3)) (C := RX0) (T := TX0) (N := 6) hx hb hts (fun w h => List.mem_cons_of_mem _ (List.mem_append_left _ (List.mem_append_left _ (List.mem_append_right _ h)))) hown hK hP 2 rfl rfl 0 (by decide) (hts (.fieldLink RX5 98 "MondayFactory$Belt" "row" "LMondayFactory$Row;") (List.mem_of_getElem? (i := 4) rfl)) (fun _ h9 => h9) rfl dX5_verdictOnBelt_133 ?_
        refine va_get (D := D) (ci := 8) (v := .int (iI (S0 3 1))) (C := RX6) (T := TX6) (N := 2) hx hb hts (fun w h => List.mem_cons_of_mem _ (List.mem_append_left _ (List.mem_append_right _ h))) hown hK hP 3 rfl rfl 1 (by decide) (hts (.fieldLink RX5 101 "MondayFactory$Row" "count" "I") (List.mem_of_getElem? (i := 5) rfl)) (fun _ h9 => h9) rfl dX5_verdictOnBelt_136 ?_
        refine zi_if_ne (tgt := 144) hx hb dX5_verdictOnBelt_139 (by decide) ⟨by omega, by omega⟩ (fun c_12 => ?_) (fun c_12 => ?_)
        · refine lv_aload_n hx hb dX5_verdictOnBelt_144 rfl (lv_at hl 1 rfl) ?_
          refine va_get (D := D) (ci := 7) (v := .ref (a0 13)) (C := RX5) (T := TX5) (N := 11) hx hb hts (fun w h => List.mem_cons_of_mem _ (List.mem_append_left _ (List.mem_append_left _ (List.mem_append_left _ (List.mem_append_right _ h))))) hown hK hP 0 rfl rfl 2 (by decide) (hts (.fieldLink RX5 28 "MondayFactory$Plant" "crew" "LMondayFactory$Crew;") (List.mem_of_getElem? (i := 6) rfl)) (fun _ h9 => h9) rfl dX5_verdictOnBelt_145 ?_
          refine va_get (D := D) (ci := 3) (v := .int (iI (S0 13 1))) (C := RX1) (T := TX1) (N := 2) hx hb hts (fun w h => List.mem_cons_of_mem _ (List.mem_append_right _ h)) hown hK hP 13 rfl rfl 1 (by decide) (hts (.fieldLink RX5 67 "MondayFactory$Crew" "count" "I") (List.mem_of_getElem? (i := 7) rfl)) (fun _ h9 => h9) rfl dX5_verdictOnBelt_148 ?_
          refine zi_if_ne (tgt := 158) hx hb dX5_verdictOnBelt_151 (by decide) ⟨by omega, by omega⟩ (fun c_13 => ?_) (fun c_13 => ?_)
          · refine lv_iconst (v := iI 0) hx hb dX5_verdictOnBelt_158 rfl ?_
            exact z_iret hx hb hr hlocks hP hS dX5_verdictOnBelt_159 (Eq.trans (zif_neg c_1) (Eq.trans (zif_pos c_10) (Eq.trans (zif_pos w_11) (Eq.trans (zif_neg c_12) (Eq.trans (zif_neg c_13) rfl))))) rfl (Nat.le_refl _) (Nat.le_refl _)
          · refine lv_iconst (v := iI 4) hx hb dX5_verdictOnBelt_154 rfl ?_
            refine lv_goto (tgt := 159) hx hb dX5_verdictOnBelt_155 (by decide) ?_
            exact z_iret hx hb hr hlocks hP hS dX5_verdictOnBelt_159 (Eq.trans (zif_neg c_1) (Eq.trans (zif_pos c_10) (Eq.trans (zif_pos w_11) (Eq.trans (zif_neg c_12) (Eq.trans (zif_pos c_13) rfl))))) rfl (Nat.le_refl _) (Nat.le_refl _)
        · refine lv_iconst (v := iI 3) hx hb dX5_verdictOnBelt_142 rfl ?_
          exact z_iret hx hb hr hlocks hP hS dX5_verdictOnBelt_143 (Eq.trans (zif_neg c_1) (Eq.trans (zif_pos c_10) (Eq.trans (zif_pos w_11) (Eq.trans (zif_pos c_12) rfl)))) rfl (Nat.le_refl _) (Nat.le_refl _)
      · by_cases w_14 : p0 = 109
        · refine z_lookup hx hb dX5_verdictOnBelt_31 (by decide) (x := p0) ⟨by omega, by omega⟩ (off := 33) (tgt := 64) (by rw [w_14]; decide) (by decide) ?_
          refine lv_iload hx hb dX5_verdictOnBelt_64 (lv_at hl 0 rfl) ?_
          refine zi_if_ne (tgt := 72) hx hb dX5_verdictOnBelt_66 (by decide) ⟨by omega, by omega⟩ (fun c_15 => absurd c_15 (by omega)) (fun _ => ?_)
          refine lv_bipush (v := iI 7) hx hb dX5_verdictOnBelt_69 (by decide) ?_
          exact z_iret hx hb hr hlocks hP hS dX5_verdictOnBelt_71 (Eq.trans (zif_neg c_1) (Eq.trans (zif_pos c_10) (Eq.trans (zif_neg w_11) (Eq.trans (zif_pos w_14) rfl)))) rfl (Nat.le_refl _) (Nat.le_refl _)
        · by_cases w_16 : p0 = 116
          · refine z_lookup hx hb dX5_verdictOnBelt_31 (by decide) (x := p0) ⟨by omega, by omega⟩ (off := 55) (tgt := 86) (by rw [w_16]; decide) (by decide) ?_
            refine lv_iload hx hb dX5_verdictOnBelt_86 (lv_at hl 0 rfl) ?_
            refine zi_if_ne (tgt := 94) hx hb dX5_verdictOnBelt_88 (by decide) ⟨by omega, by omega⟩ (fun c_17 => absurd c_17 (by omega)) (fun _ => ?_)
            refine lv_bipush (v := iI 7) hx hb dX5_verdictOnBelt_91 (by decide) ?_
            exact z_iret hx hb hr hlocks hP hS dX5_verdictOnBelt_93 (Eq.trans (zif_neg c_1) (Eq.trans (zif_pos c_10) (Eq.trans (zif_neg w_11) (Eq.trans (zif_neg w_14) (Eq.trans (zif_pos w_16) rfl))))) rfl (Nat.le_refl _) (Nat.le_refl _)
          · refine z_lookup hx hb dX5_verdictOnBelt_31 (by decide) (x := p0) ⟨by omega, by omega⟩ (off := 129) (tgt := 160) (by simp [Op.lookupswitch.offset, Ne.symm w_11, Ne.symm w_14, Ne.symm w_16]) (by decide) ?_
            refine lv_aload_n hx hb dX5_verdictOnBelt_160 rfl (lv_at hl 1 rfl) ?_
            refine lv_iload_n hx hb dX5_verdictOnBelt_161 rfl (lv_at hl 3 rfl) ?_
            refine z_ai0 (va_runV (As := [.int (iI 0)]) (rest := []) ⟨hx, hb, hml, hown, hts⟩ (c_X5_isFull_0 l D k a0 S0   (by omega) _) (cwV 1 hts gX5_verdictOnBelt_X5_isFull rfl rfl rfl (by decide +kernel) ⟨(Nat.le_of_ble_eq_true rfl), (Nat.le_of_ble_eq_true rfl)⟩) (z_preV hK hG hA hP hD hS [0, 1, 2, 3, 4, 5, 6, 7, 8, 9, 10, 11, 12, 13, 14] rfl (by decide) 7 rfl rfl) rfl rfl hl.1 rfl (lv_room (Nat.le_of_ble_eq_true rfl)) dX5_verdictOnBelt_162 ⟨(Nat.le_of_ble_eq_true rfl), (Nat.le_of_ble_eq_true rfl)⟩) hA hP hD hS [0, 1, 2, 3, 4, 5, 6, 7, 8, 9, 10, 11, 12, 13, 14] rfl (fun H locs hP hS => ?_)
            refine zi_if_eqB (tgt := 172) hx hb dX5_verdictOnBelt_165 (by decide) (fun c_18 => ?_) (fun c_18 => ?_)
            · refine lv_iconst (v := iI 0) hx hb dX5_verdictOnBelt_172 rfl ?_
              exact z_iret hx hb hr hlocks hP hS dX5_verdictOnBelt_173 (Eq.trans (zif_neg c_1) (Eq.trans (zif_pos c_10) (Eq.trans (zif_neg w_11) (Eq.trans (zif_neg w_14) (Eq.trans (zif_neg w_16) (Eq.trans (zif_neg c_18) rfl)))))) rfl (Nat.le_refl _) (Nat.le_refl _)
            · refine lv_iconst (v := iI 1) hx hb dX5_verdictOnBelt_168 rfl ?_
              refine lv_goto (tgt := 173) hx hb dX5_verdictOnBelt_169 (by decide) ?_
              exact z_iret hx hb hr hlocks hP hS dX5_verdictOnBelt_173 (Eq.trans (zif_neg c_1) (Eq.trans (zif_pos c_10) (Eq.trans (zif_neg w_11) (Eq.trans (zif_neg w_14) (Eq.trans (zif_neg w_16) (Eq.trans (zif_pos c_18) rfl)))))) rfl (Nat.le_refl _) (Nat.le_refl _)
    · refine lv_iload hx hb dX5_verdictOnBelt_10 (lv_at hl 4 rfl) ?_
      refine lv_iconst (v := iI 4) hx hb dX5_verdictOnBelt_12 rfl ?_
      refine zi_icmp_lt (tgt := 27) hx hb dX5_verdictOnBelt_13 (by decide) ⟨by omega, by omega⟩ ⟨by omega, by omega⟩ (fun c_19 => ?_) (fun c_19 => ?_)
      · refine lv_iconst (v := iI 0) hx hb dX5_verdictOnBelt_27 rfl ?_
        refine lv_istore (lv' := [(5, .int (iI 0)), (0, .ref (a0 0)), (1, .int (iI p0)), (2, .int (iI 0)), (3, .int (iI p2)), (4, .int (iI p3))]) hx hb dX5_verdictOnBelt_28 hl (by decide) rfl (fun ls hl => ?_)
        refine lv_iload_n hx hb dX5_verdictOnBelt_30 rfl (lv_at hl 2 rfl) ?_
        by_cases w_20 : p0 = 105
        · refine z_lookup hx hb dX5_verdictOnBelt_31 (by decide) (x := p0) ⟨by omega, by omega⟩ (off := 96) (tgt := 127) (by rw [w_20]; decide) (by decide) ?_
          refine lv_aload_n hx hb dX5_verdictOnBelt_127 rfl (lv_at hl 1 rfl) ?_
          refine va_get (D := D) (ci := 7) (v := .ref (a0 1)) (C := RX5) (T := TX5) (N := 11) hx hb hts (fun w h => List.mem_cons_of_mem _ (List.mem_append_left _ (List.mem_append_left _ (List.mem_append_left _ (List.mem_append_right _ h))))) hown hK hP 0 rfl rfl 0 (by decide) (hts (.fieldLink RX5 12 "MondayFactory$Plant" "belts" "[LMondayFactory$Belt;") (List.mem_of_getElem? (i := 1) rfl)) (fun _ h9 => h9) rfl dX5_verdictOnBelt_128 ?_
          refine lv_iload_n hx hb dX5_verdictOnBelt_131 rfl (lv_at hl 3 rfl) ?_
          refine z_aald hx hb hK hP 1 2 (f := fun j => some (a0 (2 + 3 * j))) (q := a0 2) rfl rfl (i := 0) (by omega) (by omega) (by decide) rfl dX5_verdictOnBelt_132 ?_
          refine va_get (D := D) (ci := 2) (v := .ref (a0 3)) (C := RX0) (T := TX0) (N := 6) hx hb hts (fun w h => List.mem_cons_of_mem _ (List.mem_append_left _ (List.mem_append_left _ (List.mem_append_right _ h)))) hown hK hP 2 rfl rfl 0 (by decide) (hts (.fieldLink RX5 98 "MondayFactory$Belt" "row" "LMondayFactory$Row;") (List.mem_of_getElem? (i := 4) rfl)) (fun _ h9 => h9) rfl dX5_verdictOnBelt_133 ?_
          refine va_get (D := D) (ci := 8) (v := .int (iI (S0 3 1))) (C := RX6) (T := TX6) (N := 2) hx hb hts (fun w h => List.mem_cons_of_mem _ (List.mem_append_left _ (List.mem_append_right _ h))) hown hK hP 3 rfl rfl 1 (by decide) (hts (.fieldLink RX5 101 "MondayFactory$Row" "count" "I") (List.mem_of_getElem? (i := 5) rfl)) (fun _ h9 => h9) rfl dX5_verdictOnBelt_136 ?_
          refine zi_if_ne (tgt := 144) hx hb dX5_verdictOnBelt_139 (by decide) ⟨by omega, by omega⟩ (fun c_21 => ?_) (fun c_21 => ?_)
          · refine lv_aload_n hx hb dX5_verdictOnBelt_144 rfl (lv_at hl 1 rfl) ?_
            refine va_get (D := D) (ci := 7) (v := .ref (a0 13)) (C := RX5) (T := TX5) (N := 11) hx hb hts (fun w h => List.mem_cons_of_mem _ (List.mem_append_left _ (List.mem_append_left _ (List.mem_append_left _ (List.mem_append_right _ h))))) hown hK hP 0 rfl rfl 2 (by decide) (hts (.fieldLink RX5 28 "MondayFactory$Plant" "crew" "LMondayFactory$Crew;") (List.mem_of_getElem? (i := 6) rfl)) (fun _ h9 => h9) rfl dX5_verdictOnBelt_145 ?_
            refine va_get (D := D) (ci := 3) (v := .int (iI (S0 13 1))) (C := RX1) (T := TX1) (N := 2) hx hb hts (fun w h => List.mem_cons_of_mem _ (List.mem_append_right _ h)) hown hK hP 13 rfl rfl 1 (by decide) (hts (.fieldLink RX5 67 "MondayFactory$Crew" "count" "I") (List.mem_of_getElem? (i := 7) rfl)) (fun _ h9 => h9) rfl dX5_verdictOnBelt_148 ?_
            refine zi_if_ne (tgt := 158) hx hb dX5_verdictOnBelt_151 (by decide) ⟨by omega, by omega⟩ (fun c_22 => ?_) (fun c_22 => ?_)
            · refine lv_iconst (v := iI 0) hx hb dX5_verdictOnBelt_158 rfl ?_
              exact z_iret hx hb hr hlocks hP hS dX5_verdictOnBelt_159 (Eq.trans (zif_neg c_1) (Eq.trans (zif_neg c_10) (Eq.trans (zif_pos c_19) (Eq.trans (zif_pos w_20) (Eq.trans (zif_neg c_21) (Eq.trans (zif_neg c_22) rfl)))))) rfl (Nat.le_refl _) (Nat.le_refl _)
            · refine lv_iconst (v := iI 4) hx hb dX5_verdictOnBelt_154 rfl ?_
              refine lv_goto (tgt := 159) hx hb dX5_verdictOnBelt_155 (by decide) ?_
              exact z_iret hx hb hr hlocks hP hS dX5_verdictOnBelt_159 (Eq.trans (zif_neg c_1) (Eq.trans (zif_neg c_10) (Eq.trans (zif_pos c_19) (Eq.trans (zif_pos w_20) (Eq.trans (zif_neg c_21) (Eq.trans (zif_pos c_22) rfl)))))) rfl (Nat.le_refl _) (Nat.le_refl _)
          · refine lv_iconst (v := iI 3) hx hb dX5_verdictOnBelt_142 rfl ?_
            exact z_iret hx hb hr hlocks hP hS dX5_verdictOnBelt_143 (Eq.trans (zif_neg c_1) (Eq.trans (zif_neg c_10) (Eq.trans (zif_pos c_19) (Eq.trans (zif_pos w_20) (Eq.trans (zif_pos c_21) rfl))))) rfl (Nat.le_refl _) (Nat.le_refl _)
        · by_cases w_23 : p0 = 109
          · refine z_lookup hx hb dX5_verdictOnBelt_31 (by decide) (x := p0) ⟨by omega, by omega⟩ (off := 33) (tgt := 64) (by rw [w_23]; decide) (by decide) ?_
            refine lv_iload hx hb dX5_verdictOnBelt_64 (lv_at hl 0 rfl) ?_
            refine zi_if_ne (tgt := 72) hx hb dX5_verdictOnBelt_66 (by decide) ⟨by omega, by omega⟩ (fun c_24 => absurd c_24 (by omega)) (fun _ => ?_)
            refine lv_bipush (v := iI 7) hx hb dX5_verdictOnBelt_69 (by decide) ?_
            exact z_iret hx hb hr hlocks hP hS dX5_verdictOnBelt_71 (Eq.trans (zif_neg c_1) (Eq.trans (zif_neg c_10) (Eq.trans (zif_pos c_19) (Eq.trans (zif_neg w_20) (Eq.trans (zif_pos w_23) rfl))))) rfl (Nat.le_refl _) (Nat.le_refl _)
          · by_cases w_25 : p0 = 116
            · refine z_lookup hx hb dX5_verdictOnBelt_31 (by decide) (x := p0) ⟨by omega, by omega⟩ (off := 55) (tgt := 86) (by rw [w_25]; decide) (by decide) ?_
              refine lv_iload hx hb dX5_verdictOnBelt_86 (lv_at hl 0 rfl) ?_
              refine zi_if_ne (tgt := 94) hx hb dX5_verdictOnBelt_88 (by decide) ⟨by omega, by omega⟩ (fun c_26 => absurd c_26 (by omega)) (fun _ => ?_)
              refine lv_bipush (v := iI 7) hx hb dX5_verdictOnBelt_91 (by decide) ?_
              exact z_iret hx hb hr hlocks hP hS dX5_verdictOnBelt_93 (Eq.trans (zif_neg c_1) (Eq.trans (zif_neg c_10) (Eq.trans (zif_pos c_19) (Eq.trans (zif_neg w_20) (Eq.trans (zif_neg w_23) (Eq.trans (zif_pos w_25) rfl)))))) rfl (Nat.le_refl _) (Nat.le_refl _)
            · refine z_lookup hx hb dX5_verdictOnBelt_31 (by decide) (x := p0) ⟨by omega, by omega⟩ (off := 129) (tgt := 160) (by simp [Op.lookupswitch.offset, Ne.symm w_20, Ne.symm w_23, Ne.symm w_25]) (by decide) ?_
              refine lv_aload_n hx hb dX5_verdictOnBelt_160 rfl (lv_at hl 1 rfl) ?_
              refine lv_iload_n hx hb dX5_verdictOnBelt_161 rfl (lv_at hl 3 rfl) ?_
              refine z_ai0 (va_runV (As := [.int (iI 0)]) (rest := []) ⟨hx, hb, hml, hown, hts⟩ (c_X5_isFull_0 l D k a0 S0   (by omega) _) (cwV 1 hts gX5_verdictOnBelt_X5_isFull rfl rfl rfl (by decide +kernel) ⟨(Nat.le_of_ble_eq_true rfl), (Nat.le_of_ble_eq_true rfl)⟩) (z_preV hK hG hA hP hD hS [0, 1, 2, 3, 4, 5, 6, 7, 8, 9, 10, 11, 12, 13, 14] rfl (by decide) 7 rfl rfl) rfl rfl hl.1 rfl (lv_room (Nat.le_of_ble_eq_true rfl)) dX5_verdictOnBelt_162 ⟨(Nat.le_of_ble_eq_true rfl), (Nat.le_of_ble_eq_true rfl)⟩) hA hP hD hS [0, 1, 2, 3, 4, 5, 6, 7, 8, 9, 10, 11, 12, 13, 14] rfl (fun H locs hP hS => ?_)
              refine zi_if_eqB (tgt := 172) hx hb dX5_verdictOnBelt_165 (by decide) (fun c_27 => ?_) (fun c_27 => ?_)
              · refine lv_iconst (v := iI 0) hx hb dX5_verdictOnBelt_172 rfl ?_
                exact z_iret hx hb hr hlocks hP hS dX5_verdictOnBelt_173 (Eq.trans (zif_neg c_1) (Eq.trans (zif_neg c_10) (Eq.trans (zif_pos c_19) (Eq.trans (zif_neg w_20) (Eq.trans (zif_neg w_23) (Eq.trans (zif_neg w_25) (Eq.trans (zif_neg c_27) rfl))))))) rfl (Nat.le_refl _) (Nat.le_refl _)
              · refine lv_iconst (v := iI 1) hx hb dX5_verdictOnBelt_168 rfl ?_
                refine lv_goto (tgt := 173) hx hb dX5_verdictOnBelt_169 (by decide) ?_
                exact z_iret hx hb hr hlocks hP hS dX5_verdictOnBelt_173 (Eq.trans (zif_neg c_1) (Eq.trans (zif_neg c_10) (Eq.trans (zif_pos c_19) (Eq.trans (zif_neg w_20) (Eq.trans (zif_neg w_23) (Eq.trans (zif_neg w_25) (Eq.trans (zif_pos c_27) rfl))))))) rfl (Nat.le_refl _) (Nat.le_refl _)
      · refine lv_iload hx hb dX5_verdictOnBelt_16 (lv_at hl 4 rfl) ?_
        refine lv_bipush (v := iI 9) hx hb dX5_verdictOnBelt_18 (by decide) ?_
        refine zi_icmp_gt (tgt := 27) hx hb dX5_verdictOnBelt_20 (by decide) ⟨by omega, by omega⟩ ⟨by omega, by omega⟩ (fun c_28 => ?_) (fun c_28 => ?_)
        · refine lv_iconst (v := iI 0) hx hb dX5_verdictOnBelt_27 rfl ?_
          refine lv_istore (lv' := [(5, .int (iI 0)), (0, .ref (a0 0)), (1, .int (iI p0)), (2, .int (iI 0)), (3, .int (iI p2)), (4, .int (iI p3))]) hx hb dX5_verdictOnBelt_28 hl (by decide) rfl (fun ls hl => ?_)
          refine lv_iload_n hx hb dX5_verdictOnBelt_30 rfl (lv_at hl 2 rfl) ?_
          by_cases w_29 : p0 = 105
          · refine z_lookup hx hb dX5_verdictOnBelt_31 (by decide) (x := p0) ⟨by omega, by omega⟩ (off := 96) (tgt := 127) (by rw [w_29]; decide) (by decide) ?_
            refine lv_aload_n hx hb dX5_verdictOnBelt_127 rfl (lv_at hl 1 rfl) ?_
            refine va_get (D := D) (ci := 7) (v := .ref (a0 1)) (C := RX5) (T := TX5) (N := 11) hx hb hts (fun w h => List.mem_cons_of_mem _ (List.mem_append_left _ (List.mem_append_left _ (List.mem_append_left _ (List.mem_append_right _ h))))) hown hK hP 0 rfl rfl 0 (by decide) (hts (.fieldLink RX5 12 "MondayFactory$Plant" "belts" "[LMondayFactory$Belt;") (List.mem_of_getElem? (i := 1) rfl)) (fun _ h9 => h9) rfl dX5_verdictOnBelt_128 ?_
            refine lv_iload_n hx hb dX5_verdictOnBelt_131 rfl (lv_at hl 3 rfl) ?_
            refine z_aald hx hb hK hP 1 2 (f := fun j => some (a0 (2 + 3 * j))) (q := a0 2) rfl rfl (i := 0) (by omega) (by omega) (by decide) rfl dX5_verdictOnBelt_132 ?_
            refine va_get (D := D) (ci := 2) (v := .ref (a0 3)) (C := RX0) (T := TX0) (N := 6) hx hb hts (fun w h => List.mem_cons_of_mem _ (List.mem_append_left _ (List.mem_append_left _ (List.mem_append_right _ h)))) hown hK hP 2 rfl rfl 0 (by decide) (hts (.fieldLink RX5 98 "MondayFactory$Belt" "row" "LMondayFactory$Row;") (List.mem_of_getElem? (i := 4) rfl)) (fun _ h9 => h9) rfl dX5_verdictOnBelt_133 ?_
            refine va_get (D := D) (ci := 8) (v := .int (iI (S0 3 1))) (C := RX6) (T := TX6) (N := 2) hx hb hts (fun w h => List.mem_cons_of_mem _ (List.mem_append_left _ (List.mem_append_right _ h))) hown hK hP 3 rfl rfl 1 (by decide) (hts (.fieldLink RX5 101 "MondayFactory$Row" "count" "I") (List.mem_of_getElem? (i := 5) rfl)) (fun _ h9 => h9) rfl dX5_verdictOnBelt_136 ?_
            refine zi_if_ne (tgt := 144) hx hb dX5_verdictOnBelt_139 (by decide) ⟨by omega, by omega⟩ (fun c_30 => ?_) (fun c_30 => ?_)
            · refine lv_aload_n hx hb dX5_verdictOnBelt_144 rfl (lv_at hl 1 rfl) ?_
              refine va_get (D := D) (ci := 7) (v := .ref (a0 13)) (C := RX5) (T := TX5) (N := 11) hx hb hts (fun w h => List.mem_cons_of_mem _ (List.mem_append_left _ (List.mem_append_left _ (List.mem_append_left _ (List.mem_append_right _ h))))) hown hK hP 0 rfl rfl 2 (by decide) (hts (.fieldLink RX5 28 "MondayFactory$Plant" "crew" "LMondayFactory$Crew;") (List.mem_of_getElem? (i := 6) rfl)) (fun _ h9 => h9) rfl dX5_verdictOnBelt_145 ?_
              refine va_get (D := D) (ci := 3) (v := .int (iI (S0 13 1))) (C := RX1) (T := TX1) (N := 2) hx hb hts (fun w h => List.mem_cons_of_mem _ (List.mem_append_right _ h)) hown hK hP 13 rfl rfl 1 (by decide) (hts (.fieldLink RX5 67 "MondayFactory$Crew" "count" "I") (List.mem_of_getElem? (i := 7) rfl)) (fun _ h9 => h9) rfl dX5_verdictOnBelt_148 ?_
              refine zi_if_ne (tgt := 158) hx hb dX5_verdictOnBelt_151 (by decide) ⟨by omega, by omega⟩ (fun c_31 => ?_) (fun c_31 => ?_)
              · refine lv_iconst (v := iI 0) hx hb dX5_verdictOnBelt_158 rfl ?_
                exact z_iret hx hb hr hlocks hP hS dX5_verdictOnBelt_159 (Eq.trans (zif_neg c_1) (Eq.trans (zif_neg c_10) (Eq.trans (zif_neg c_19) (Eq.trans (zif_pos c_28) (Eq.trans (zif_pos w_29) (Eq.trans (zif_neg c_30) (Eq.trans (zif_neg c_31) rfl))))))) rfl (Nat.le_refl _) (Nat.le_refl _)
              · refine lv_iconst (v := iI 4) hx hb dX5_verdictOnBelt_154 rfl ?_
                refine lv_goto (tgt := 159) hx hb dX5_verdictOnBelt_155 (by decide) ?_
                exact z_iret hx hb hr hlocks hP hS dX5_verdictOnBelt_159 (Eq.trans (zif_neg c_1) (Eq.trans (zif_neg c_10) (Eq.trans (zif_neg c_19) (Eq.trans (zif_pos c_28) (Eq.trans (zif_pos w_29) (Eq.trans (zif_neg c_30) (Eq.trans (zif_pos c_31) rfl))))))) rfl (Nat.le_refl _) (Nat.le_refl _)
            · refine lv_iconst (v := iI 3) hx hb dX5_verdictOnBelt_142 rfl ?_
              exact z_iret hx hb hr hlocks hP hS dX5_verdictOnBelt_143 (Eq.trans (zif_neg c_1) (Eq.trans (zif_neg c_10) (Eq.trans (zif_neg c_19) (Eq.trans (zif_pos c_28) (Eq.trans (zif_pos w_29) (Eq.trans (zif_pos c_30) rfl)))))) rfl (Nat.le_refl _) (Nat.le_refl _)
          · by_cases w_32 : p0 = 109
            · refine z_lookup hx hb dX5_verdictOnBelt_31 (by decide) (x := p0) ⟨by omega, by omega⟩ (off := 33) (tgt := 64) (by rw [w_32]; decide) (by decide) ?_
              refine lv_iload hx hb dX5_verdictOnBelt_64 (lv_at hl 0 rfl) ?_
              refine zi_if_ne (tgt := 72) hx hb dX5_verdictOnBelt_66 (by decide) ⟨by omega, by omega⟩ (fun c_33 => absurd c_33 (by omega)) (fun _ => ?_)
              refine lv_bipush (v := iI 7) hx hb dX5_verdictOnBelt_69 (by decide) ?_
              exact z_iret hx hb hr hlocks hP hS dX5_verdictOnBelt_71 (Eq.trans (zif_neg c_1) (Eq.trans (zif_neg c_10) (Eq.trans (zif_neg c_19) (Eq.trans (zif_pos c_28) (Eq.trans (zif_neg w_29) (Eq.trans (zif_pos w_32) rfl)))))) rfl (Nat.le_refl _) (Nat.le_refl _)
            · by_cases w_34 : p0 = 116
              · refine z_lookup hx hb dX5_verdictOnBelt_31 (by decide) (x := p0) ⟨by omega, by omega⟩ (off := 55) (tgt := 86) (by rw [w_34]; decide) (by decide) ?_
                refine lv_iload hx hb dX5_verdictOnBelt_86 (lv_at hl 0 rfl) ?_
                refine zi_if_ne (tgt := 94) hx hb dX5_verdictOnBelt_88 (by decide) ⟨by omega, by omega⟩ (fun c_35 => absurd c_35 (by omega)) (fun _ => ?_)
                refine lv_bipush (v := iI 7) hx hb dX5_verdictOnBelt_91 (by decide) ?_
                exact z_iret hx hb hr hlocks hP hS dX5_verdictOnBelt_93 (Eq.trans (zif_neg c_1) (Eq.trans (zif_neg c_10) (Eq.trans (zif_neg c_19) (Eq.trans (zif_pos c_28) (Eq.trans (zif_neg w_29) (Eq.trans (zif_neg w_32) (Eq.trans (zif_pos w_34) rfl))))))) rfl (Nat.le_refl _) (Nat.le_refl _)
              · refine z_lookup hx hb dX5_verdictOnBelt_31 (by decide) (x := p0) ⟨by omega, by omega⟩ (off := 129) (tgt := 160) (by simp [Op.lookupswitch.offset, Ne.symm w_29, Ne.symm w_32, Ne.symm w_34]) (by decide) ?_
                refine lv_aload_n hx hb dX5_verdictOnBelt_160 rfl (lv_at hl 1 rfl) ?_
                refine lv_iload_n hx hb dX5_verdictOnBelt_161 rfl (lv_at hl 3 rfl) ?_
                refine z_ai0 (va_runV (As := [.int (iI 0)]) (rest := []) ⟨hx, hb, hml, hown, hts⟩ (c_X5_isFull_0 l D k a0 S0   (by omega) _) (cwV 1 hts gX5_verdictOnBelt_X5_isFull rfl rfl rfl (by decide +kernel) ⟨(Nat.le_of_ble_eq_true rfl), (Nat.le_of_ble_eq_true rfl)⟩) (z_preV hK hG hA hP hD hS [0, 1, 2, 3, 4, 5, 6, 7, 8, 9, 10, 11, 12, 13, 14] rfl (by decide) 7 rfl rfl) rfl rfl hl.1 rfl (lv_room (Nat.le_of_ble_eq_true rfl)) dX5_verdictOnBelt_162 ⟨(Nat.le_of_ble_eq_true rfl), (Nat.le_of_ble_eq_true rfl)⟩) hA hP hD hS [0, 1, 2, 3, 4, 5, 6, 7, 8, 9, 10, 11, 12, 13, 14] rfl (fun H locs hP hS => ?_)
                refine zi_if_eqB (tgt := 172) hx hb dX5_verdictOnBelt_165 (by decide) (fun c_36 => ?_) (fun c_36 => ?_)
                · refine lv_iconst (v := iI 0) hx hb dX5_verdictOnBelt_172 rfl ?_
                  exact z_iret hx hb hr hlocks hP hS dX5_verdictOnBelt_173 (Eq.trans (zif_neg c_1) (Eq.trans (zif_neg c_10) (Eq.trans (zif_neg c_19) (Eq.trans (zif_pos c_28) (Eq.trans (zif_neg w_29) (Eq.trans (zif_neg w_32) (Eq.trans (zif_neg w_34) (Eq.trans (zif_neg c_36) rfl)))))))) rfl (Nat.le_refl _) (Nat.le_refl _)
                · refine lv_iconst (v := iI 1) hx hb dX5_verdictOnBelt_168 rfl ?_
                  refine lv_goto (tgt := 173) hx hb dX5_verdictOnBelt_169 (by decide) ?_
                  exact z_iret hx hb hr hlocks hP hS dX5_verdictOnBelt_173 (Eq.trans (zif_neg c_1) (Eq.trans (zif_neg c_10) (Eq.trans (zif_neg c_19) (Eq.trans (zif_pos c_28) (Eq.trans (zif_neg w_29) (Eq.trans (zif_neg w_32) (Eq.trans (zif_neg w_34) (Eq.trans (zif_pos c_36) rfl)))))))) rfl (Nat.le_refl _) (Nat.le_refl _)
        · refine lv_iconst (v := iI 1) hx hb dX5_verdictOnBelt_23 rfl ?_
          refine lv_goto (tgt := 28) hx hb dX5_verdictOnBelt_24 (by decide) ?_
          refine lv_istore (lv' := [(5, .int (iI 1)), (0, .ref (a0 0)), (1, .int (iI p0)), (2, .int (iI 0)), (3, .int (iI p2)), (4, .int (iI p3))]) hx hb dX5_verdictOnBelt_28 hl (by decide) rfl (fun ls hl => ?_)
          refine lv_iload_n hx hb dX5_verdictOnBelt_30 rfl (lv_at hl 2 rfl) ?_
          by_cases w_37 : p0 = 105
          · refine z_lookup hx hb dX5_verdictOnBelt_31 (by decide) (x := p0) ⟨by omega, by omega⟩ (off := 96) (tgt := 127) (by rw [w_37]; decide) (by decide) ?_
            refine lv_aload_n hx hb dX5_verdictOnBelt_127 rfl (lv_at hl 1 rfl) ?_
            refine va_get (D := D) (ci := 7) (v := .ref (a0 1)) (C := RX5) (T := TX5) (N := 11) hx hb hts (fun w h => List.mem_cons_of_mem _ (List.mem_append_left _ (List.mem_append_left _ (List.mem_append_left _ (List.mem_append_right _ h))))) hown hK hP 0 rfl rfl 0 (by decide) (hts (.fieldLink RX5 12 "MondayFactory$Plant" "belts" "[LMondayFactory$Belt;") (List.mem_of_getElem? (i := 1) rfl)) (fun _ h9 => h9) rfl dX5_verdictOnBelt_128 ?_
            refine lv_iload_n hx hb dX5_verdictOnBelt_131 rfl (lv_at hl 3 rfl) ?_
            refine z_aald hx hb hK hP 1 2 (f := fun j => some (a0 (2 + 3 * j))) (q := a0 2) rfl rfl (i := 0) (by omega) (by omega) (by decide) rfl dX5_verdictOnBelt_132 ?_
            refine va_get (D := D) (ci := 2) (v := .ref (a0 3)) (C := RX0) (T := TX0) (N := 6) hx hb hts (fun w h => List.mem_cons_of_mem _ (List.mem_append_left _ (List.mem_append_left _ (List.mem_append_right _ h)))) hown hK hP 2 rfl rfl 0 (by decide) (hts (.fieldLink RX5 98 "MondayFactory$Belt" "row" "LMondayFactory$Row;") (List.mem_of_getElem? (i := 4) rfl)) (fun _ h9 => h9) rfl dX5_verdictOnBelt_133 ?_
            refine va_get (D := D) (ci := 8) (v := .int (iI (S0 3 1))) (C := RX6) (T := TX6) (N := 2) hx hb hts (fun w h => List.mem_cons_of_mem _ (List.mem_append_left _ (List.mem_append_right _ h))) hown hK hP 3 rfl rfl 1 (by decide) (hts (.fieldLink RX5 101 "MondayFactory$Row" "count" "I") (List.mem_of_getElem? (i := 5) rfl)) (fun _ h9 => h9) rfl dX5_verdictOnBelt_136 ?_
            refine zi_if_ne (tgt := 144) hx hb dX5_verdictOnBelt_139 (by decide) ⟨by omega, by omega⟩ (fun c_38 => ?_) (fun c_38 => ?_)
            · refine lv_aload_n hx hb dX5_verdictOnBelt_144 rfl (lv_at hl 1 rfl) ?_
              refine va_get (D := D) (ci := 7) (v := .ref (a0 13)) (C := RX5) (T := TX5) (N := 11) hx hb hts (fun w h => List.mem_cons_of_mem _ (List.mem_append_left _ (List.mem_append_left _ (List.mem_append_left _ (List.mem_append_right _ h))))) hown hK hP 0 rfl rfl 2 (by decide) (hts (.fieldLink RX5 28 "MondayFactory$Plant" "crew" "LMondayFactory$Crew;") (List.mem_of_getElem? (i := 6) rfl)) (fun _ h9 => h9) rfl dX5_verdictOnBelt_145 ?_
              refine va_get (D := D) (ci := 3) (v := .int (iI (S0 13 1))) (C := RX1) (T := TX1) (N := 2) hx hb hts (fun w h => List.mem_cons_of_mem _ (List.mem_append_right _ h)) hown hK hP 13 rfl rfl 1 (by decide) (hts (.fieldLink RX5 67 "MondayFactory$Crew" "count" "I") (List.mem_of_getElem? (i := 7) rfl)) (fun _ h9 => h9) rfl dX5_verdictOnBelt_148 ?_
              refine zi_if_ne (tgt := 158) hx hb dX5_verdictOnBelt_151 (by decide) ⟨by omega, by omega⟩ (fun c_39 => ?_) (fun c_39 => ?_)
              · refine lv_iconst (v := iI 0) hx hb dX5_verdictOnBelt_158 rfl ?_
                exact z_iret hx hb hr hlocks hP hS dX5_verdictOnBelt_159 (Eq.trans (zif_neg c_1) (Eq.trans (zif_neg c_10) (Eq.trans (zif_neg c_19) (Eq.trans (zif_neg c_28) (Eq.trans (zif_pos w_37) (Eq.trans (zif_neg c_38) (Eq.trans (zif_neg c_39) rfl))))))) rfl (Nat.le_refl _) (Nat.le_refl _)
              · refine lv_iconst (v := iI 4) hx hb dX5_verdictOnBelt_154 rfl ?_
                refine lv_goto (tgt := 159) hx hb dX5_verdictOnBelt_155 (by decide) ?_
                exact z_iret hx hb hr hlocks hP hS dX5_verdictOnBelt_159 (Eq.trans (zif_neg c_1) (Eq.trans (zif_neg c_10) (Eq.trans (zif_neg c_19) (Eq.trans (zif_neg c_28) (Eq.trans (zif_pos w_37) (Eq.trans (zif_neg c_38) (Eq.trans (zif_pos c_39) rfl))))))) rfl (Nat.le_refl _) (Nat.le_refl _)
            · refine lv_iconst (v := iI 3) hx hb dX5_verdictOnBelt_142 rfl ?_
              exact z_iret hx hb hr hlocks hP hS dX5_verdictOnBelt_143 (Eq.trans (zif_neg c_1) (Eq.trans (zif_neg c_10) (Eq.trans (zif_neg c_19) (Eq.trans (zif_neg c_28) (Eq.trans (zif_pos w_37) (Eq.trans (zif_pos c_38) rfl)))))) rfl (Nat.le_refl _) (Nat.le_refl _)
          · by_cases w_40 : p0 = 109
            · refine z_lookup hx hb dX5_verdictOnBelt_31 (by decide) (x := p0) ⟨by omega, by omega⟩ (off := 33) (tgt := 64) (by rw [w_40]; decide) (by decide) ?_
              refine lv_iload hx hb dX5_verdictOnBelt_64 (lv_at hl 0 rfl) ?_
              refine zi_if_ne (tgt := 72) hx hb dX5_verdictOnBelt_66 (by decide) ⟨by omega, by omega⟩ (fun _ => ?_) (fun c_41 => absurd c_41 (by omega))
              refine lv_aload_n hx hb dX5_verdictOnBelt_72 rfl (lv_at hl 1 rfl) ?_
              refine lv_iload_n hx hb dX5_verdictOnBelt_73 rfl (lv_at hl 3 rfl) ?_
              refine z_ai0 (va_runV (As := [.int (iI 0)]) (rest := []) ⟨hx, hb, hml, hown, hts⟩ (c_X5_isFull_0 l D k a0 S0   (by omega) _) (cwV 1 hts gX5_verdictOnBelt_X5_isFull rfl rfl rfl (by decide +kernel) ⟨(Nat.le_of_ble_eq_true rfl), (Nat.le_of_ble_eq_true rfl)⟩) (z_preV hK hG hA hP hD hS [0, 1, 2, 3, 4, 5, 6, 7, 8, 9, 10, 11, 12, 13, 14] rfl (by decide) 7 rfl rfl) rfl rfl hl.1 rfl (lv_room (Nat.le_of_ble_eq_true rfl)) dX5_verdictOnBelt_74 ⟨(Nat.le_of_ble_eq_true rfl), (Nat.le_of_ble_eq_true rfl)⟩) hA hP hD hS [0, 1, 2, 3, 4, 5, 6, 7, 8, 9, 10, 11, 12, 13, 14] rfl (fun H locs hP hS => ?_)
              refine zi_if_eqB (tgt := 84) hx hb dX5_verdictOnBelt_77 (by decide) (fun c_42 => ?_) (fun c_42 => ?_)
              · refine lv_iconst (v := iI 0) hx hb dX5_verdictOnBelt_84 rfl ?_
                exact z_iret hx hb hr hlocks hP hS dX5_verdictOnBelt_85 (Eq.trans (zif_neg c_1) (Eq.trans (zif_neg c_10) (Eq.trans (zif_neg c_19) (Eq.trans (zif_neg c_28) (Eq.trans (zif_neg w_37) (Eq.trans (zif_pos w_40) (Eq.trans (zif_neg c_42) rfl))))))) rfl (Nat.le_refl _) (Nat.le_refl _)
              · refine lv_iconst (v := iI 1) hx hb dX5_verdictOnBelt_80 rfl ?_
                refine lv_goto (tgt := 85) hx hb dX5_verdictOnBelt_81 (by decide) ?_
                exact z_iret hx hb hr hlocks hP hS dX5_verdictOnBelt_85 (Eq.trans (zif_neg c_1) (Eq.trans (zif_neg c_10) (Eq.trans (zif_neg c_19) (Eq.trans (zif_neg c_28) (Eq.trans (zif_neg w_37) (Eq.trans (zif_pos w_40) (Eq.trans (zif_pos c_42) rfl))))))) rfl (Nat.le_refl _) (Nat.le_refl _)
            · by_cases w_43 : p0 = 116
              · refine z_lookup hx hb dX5_verdictOnBelt_31 (by decide) (x := p0) ⟨by omega, by omega⟩ (off := 55) (tgt := 86) (by rw [w_43]; decide) (by decide) ?_
                refine lv_iload hx hb dX5_verdictOnBelt_86 (lv_at hl 0 rfl) ?_
                refine zi_if_ne (tgt := 94) hx hb dX5_verdictOnBelt_88 (by decide) ⟨by omega, by omega⟩ (fun _ => ?_) (fun c_44 => absurd c_44 (by omega))
                refine lv_iload_n hx hb dX5_verdictOnBelt_94 rfl (lv_at hl 4 rfl) ?_
                refine lv_aload_n hx hb dX5_verdictOnBelt_95 rfl (lv_at hl 1 rfl) ?_
                refine va_get (D := D) (ci := 7) (v := .ref (a0 1)) (C := RX5) (T := TX5) (N := 11) hx hb hts (fun w h => List.mem_cons_of_mem _ (List.mem_append_left _ (List.mem_append_left _ (List.mem_append_left _ (List.mem_append_right _ h))))) hown hK hP 0 rfl rfl 0 (by decide) (hts (.fieldLink RX5 12 "MondayFactory$Plant" "belts" "[LMondayFactory$Belt;") (List.mem_of_getElem? (i := 1) rfl)) (fun _ h9 => h9) rfl dX5_verdictOnBelt_96 ?_
                refine lv_iload_n hx hb dX5_verdictOnBelt_99 rfl (lv_at hl 3 rfl) ?_
                refine z_aald hx hb hK hP 1 2 (f := fun j => some (a0 (2 + 3 * j))) (q := a0 2) rfl rfl (i := 0) (by omega) (by omega) (by decide) rfl dX5_verdictOnBelt_100 ?_
                have f_45 := hB02 1
                refine va_get (D := D) (ci := 2) (v := .int (iI (S0 2 1))) (C := RX0) (T := TX0) (N := 6) hx hb hts (fun w h => List.mem_cons_of_mem _ (List.mem_append_left _ (List.mem_append_left _ (List.mem_append_right _ h)))) hown hK hP 2 rfl rfl 1 (by decide) (hts (.fieldLink RX5 92 "MondayFactory$Belt" "least" "I") (List.mem_of_getElem? (i := 2) rfl)) (fun _ h9 => h9) rfl dX5_verdictOnBelt_101 ?_
                refine zi_icmp_ne (tgt := 125) hx hb dX5_verdictOnBelt_104 (by decide) ⟨by omega, by omega⟩ ⟨by omega, by omega⟩ (fun c_46 => ?_) (fun c_46 => ?_)
                · refine lv_iconst (v := iI 0) hx hb dX5_verdictOnBelt_125 rfl ?_
                  exact z_iret hx hb hr hlocks hP hS dX5_verdictOnBelt_126 (Eq.trans (zif_neg c_1) (Eq.trans (zif_neg c_10) (Eq.trans (zif_neg c_19) (Eq.trans (zif_neg c_28) (Eq.trans (zif_neg w_37) (Eq.trans (zif_neg w_40) (Eq.trans (zif_pos w_43) (Eq.trans (zif_neg c_46) rfl)))))))) rfl (Nat.le_refl _) (Nat.le_refl _)
                · refine lv_iload hx hb dX5_verdictOnBelt_107 (lv_at hl 5 rfl) ?_
                  refine lv_aload_n hx hb dX5_verdictOnBelt_109 rfl (lv_at hl 1 rfl) ?_
                  refine va_get (D := D) (ci := 7) (v := .ref (a0 1)) (C := RX5) (T := TX5) (N := 11) hx hb hts (fun w h => List.mem_cons_of_mem _ (List.mem_append_left _ (List.mem_append_left _ (List.mem_append_left _ (List.mem_append_right _ h))))) hown hK hP 0 rfl rfl 0 (by decide) (hts (.fieldLink RX5 12 "MondayFactory$Plant" "belts" "[LMondayFactory$Belt;") (List.mem_of_getElem? (i := 1) rfl)) (fun _ h9 => h9) rfl dX5_verdictOnBelt_110 ?_
                  refine lv_iload_n hx hb dX5_verdictOnBelt_113 rfl (lv_at hl 3 rfl) ?_
                  refine z_aald hx hb hK hP 1 2 (f := fun j => some (a0 (2 + 3 * j))) (q := a0 2) rfl rfl (i := 0) (by omega) (by omega) (by decide) rfl dX5_verdictOnBelt_114 ?_
                  have f_47 := hB02 2
                  refine va_get (D := D) (ci := 2) (v := .int (iI (S0 2 2))) (C := RX0) (T := TX0) (N := 6) hx hb hts (fun w h => List.mem_cons_of_mem _ (List.mem_append_left _ (List.mem_append_left _ (List.mem_append_right _ h)))) hown hK hP 2 rfl rfl 2 (by decide) (hts (.fieldLink RX5 95 "MondayFactory$Belt" "latest" "I") (List.mem_of_getElem? (i := 3) rfl)) (fun _ h9 => h9) rfl dX5_verdictOnBelt_115 ?_
                  refine zi_icmp_ne (tgt := 125) hx hb dX5_verdictOnBelt_118 (by decide) ⟨by omega, by omega⟩ ⟨by omega, by omega⟩ (fun c_48 => ?_) (fun c_48 => ?_)
                  · refine lv_iconst (v := iI 0) hx hb dX5_verdictOnBelt_125 rfl ?_
                    exact z_iret hx hb hr hlocks hP hS dX5_verdictOnBelt_126 (Eq.trans (zif_neg c_1) (Eq.trans (zif_neg c_10) (Eq.trans (zif_neg c_19) (Eq.trans (zif_neg c_28) (Eq.trans (zif_neg w_37) (Eq.trans (zif_neg w_40) (Eq.trans (zif_pos w_43) (Eq.trans (zif_pos c_46) (Eq.trans (zif_neg c_48) rfl))))))))) rfl (Nat.le_refl _) (Nat.le_refl _)
                  · refine lv_iconst (v := iI 2) hx hb dX5_verdictOnBelt_121 rfl ?_
                    refine lv_goto (tgt := 126) hx hb dX5_verdictOnBelt_122 (by decide) ?_
                    exact z_iret hx hb hr hlocks hP hS dX5_verdictOnBelt_126 (Eq.trans (zif_neg c_1) (Eq.trans (zif_neg c_10) (Eq.trans (zif_neg c_19) (Eq.trans (zif_neg c_28) (Eq.trans (zif_neg w_37) (Eq.trans (zif_neg w_40) (Eq.trans (zif_pos w_43) (Eq.trans (zif_pos c_46) (Eq.trans (zif_pos c_48) rfl))))))))) rfl (Nat.le_refl _) (Nat.le_refl _)
              · refine z_lookup hx hb dX5_verdictOnBelt_31 (by decide) (x := p0) ⟨by omega, by omega⟩ (off := 129) (tgt := 160) (by simp [Op.lookupswitch.offset, Ne.symm w_37, Ne.symm w_40, Ne.symm w_43]) (by decide) ?_
                refine lv_aload_n hx hb dX5_verdictOnBelt_160 rfl (lv_at hl 1 rfl) ?_
                refine lv_iload_n hx hb dX5_verdictOnBelt_161 rfl (lv_at hl 3 rfl) ?_
                refine z_ai0 (va_runV (As := [.int (iI 0)]) (rest := []) ⟨hx, hb, hml, hown, hts⟩ (c_X5_isFull_0 l D k a0 S0   (by omega) _) (cwV 1 hts gX5_verdictOnBelt_X5_isFull rfl rfl rfl (by decide +kernel) ⟨(Nat.le_of_ble_eq_true rfl), (Nat.le_of_ble_eq_true rfl)⟩) (z_preV hK hG hA hP hD hS [0, 1, 2, 3, 4, 5, 6, 7, 8, 9, 10, 11, 12, 13, 14] rfl (by decide) 7 rfl rfl) rfl rfl hl.1 rfl (lv_room (Nat.le_of_ble_eq_true rfl)) dX5_verdictOnBelt_162 ⟨(Nat.le_of_ble_eq_true rfl), (Nat.le_of_ble_eq_true rfl)⟩) hA hP hD hS [0, 1, 2, 3, 4, 5, 6, 7, 8, 9, 10, 11, 12, 13, 14] rfl (fun H locs hP hS => ?_)
                refine zi_if_eqB (tgt := 172) hx hb dX5_verdictOnBelt_165 (by decide) (fun c_49 => ?_) (fun c_49 => ?_)
                · refine lv_iconst (v := iI 0) hx hb dX5_verdictOnBelt_172 rfl ?_
                  exact z_iret hx hb hr hlocks hP hS dX5_verdictOnBelt_173 (Eq.trans (zif_neg c_1) (Eq.trans (zif_neg c_10) (Eq.trans (zif_neg c_19) (Eq.trans (zif_neg c_28) (Eq.trans (zif_neg w_37) (Eq.trans (zif_neg w_40) (Eq.trans (zif_neg w_43) (Eq.trans (zif_neg c_49) rfl)))))))) rfl (Nat.le_refl _) (Nat.le_refl _)
                · refine lv_iconst (v := iI 1) hx hb dX5_verdictOnBelt_168 rfl ?_
                  refine lv_goto (tgt := 173) hx hb dX5_verdictOnBelt_169 (by decide) ?_
                  exact z_iret hx hb hr hlocks hP hS dX5_verdictOnBelt_173 (Eq.trans (zif_neg c_1) (Eq.trans (zif_neg c_10) (Eq.trans (zif_neg c_19) (Eq.trans (zif_neg c_28) (Eq.trans (zif_neg w_37) (Eq.trans (zif_neg w_40) (Eq.trans (zif_neg w_43) (Eq.trans (zif_pos c_49) rfl)))))))) rfl (Nat.le_refl _) (Nat.le_refl _)
theorem e_X5_verdictOnBelt_0 (S0 : Nat → Nat → Int) (p0 : Int) (p2 : Int) (p3 : Int) (Q : Int → Prop) (L0 : (p2 < 0) → (p0 = 105) → ((S0 3 1) = 0) → Q (3))
  (L1 : (p2 < 0) → (p0 = 105) → (¬ ((S0 3 1) = 0)) → ((S0 13 1) = 0) → Q (4))
  (L2 : (p2 < 0) → (p0 = 105) → (¬ ((S0 3 1) = 0)) → (¬ ((S0 13 1) = 0)) → Q (0))
  (L3 : (p2 < 0) → (¬ (p0 = 105)) → (p0 = 109) → Q (7))
  (L4 : (p2 < 0) → (¬ (p0 = 105)) → (¬ (p0 = 109)) → (p0 = 116) → Q (7))
  (L5 : (p2 < 0) → (¬ (p0 = 105)) → (¬ (p0 = 109)) → (¬ (p0 = 116)) → (5 ≤ S0 3 1) → Q (1))
  (L6 : (p2 < 0) → (¬ (p0 = 105)) → (¬ (p0 = 109)) → (¬ (p0 = 116)) → (¬ (5 ≤ S0 3 1)) → Q (0))
  (L7 : (¬ (p2 < 0)) → (9 < p2) → (p0 = 105) → ((S0 3 1) = 0) → Q (3))
  (L8 : (¬ (p2 < 0)) → (9 < p2) → (p0 = 105) → (¬ ((S0 3 1) = 0)) → ((S0 13 1) = 0) → Q (4))
  (L9 : (¬ (p2 < 0)) → (9 < p2) → (p0 = 105) → (¬ ((S0 3 1) = 0)) → (¬ ((S0 13 1) = 0)) → Q (0))
  (L10 : (¬ (p2 < 0)) → (9 < p2) → (¬ (p0 = 105)) → (p0 = 109) → Q (7))
  (L11 : (¬ (p2 < 0)) → (9 < p2) → (¬ (p0 = 105)) → (¬ (p0 = 109)) → (p0 = 116) → Q (7))
  (L12 : (¬ (p2 < 0)) → (9 < p2) → (¬ (p0 = 105)) → (¬ (p0 = 109)) → (¬ (p0 = 116)) → (5 ≤ S0 3 1) → Q (1))
  (L13 : (¬ (p2 < 0)) → (9 < p2) → (¬ (p0 = 105)) → (¬ (p0 = 109)) → (¬ (p0 = 116)) → (¬ (5 ≤ S0 3 1)) → Q (0))
  (L14 : (¬ (p2 < 0)) → (¬ (9 < p2)) → (p3 < 4) → (p0 = 105) → ((S0 3 1) = 0) → Q (3))
  (L15 : (¬ (p2 < 0)) → (¬ (9 < p2)) → (p3 < 4) → (p0 = 105) → (¬ ((S0 3 1) = 0)) → ((S0 13 1) = 0) → Q (4))
  (L16 : (¬ (p2 < 0)) → (¬ (9 < p2)) → (p3 < 4) → (p0 = 105) → (¬ ((S0 3 1) = 0)) → (¬ ((S0 13 1) = 0)) → Q (0))
  (L17 : (¬ (p2 < 0)) → (¬ (9 < p2)) → (p3 < 4) → (¬ (p0 = 105)) → (p0 = 109) → Q (7))
  (L18 : (¬ (p2 < 0)) → (¬ (9 < p2)) → (p3 < 4) → (¬ (p0 = 105)) → (¬ (p0 = 109)) → (p0 = 116) → Q (7))
  (L19 : (¬ (p2 < 0)) → (¬ (9 < p2)) → (p3 < 4) → (¬ (p0 = 105)) → (¬ (p0 = 109)) → (¬ (p0 = 116)) → (5 ≤ S0 3 1) → Q (1))
  (L20 : (¬ (p2 < 0)) → (¬ (9 < p2)) → (p3 < 4) → (¬ (p0 = 105)) → (¬ (p0 = 109)) → (¬ (p0 = 116)) → (¬ (5 ≤ S0 3 1)) → Q (0))
  (L21 : (¬ (p2 < 0)) → (¬ (9 < p2)) → (¬ (p3 < 4)) → (9 < p3) → (p0 = 105) → ((S0 3 1) = 0) → Q (3))
  (L22 : (¬ (p2 < 0)) → (¬ (9 < p2)) → (¬ (p3 < 4)) → (9 < p3) → (p0 = 105) → (¬ ((S0 3 1) = 0)) → ((S0 13 1) = 0) → Q (4))
  (L23 : (¬ (p2 < 0)) → (¬ (9 < p2)) → (¬ (p3 < 4)) → (9 < p3) → (p0 = 105) → (¬ ((S0 3 1) = 0)) → (¬ ((S0 13 1) = 0)) → Q (0))
  (L24 : (¬ (p2 < 0)) → (¬ (9 < p2)) → (¬ (p3 < 4)) → (9 < p3) → (¬ (p0 = 105)) → (p0 = 109) → Q (7))
  (L25 : (¬ (p2 < 0)) → (¬ (9 < p2)) → (¬ (p3 < 4)) → (9 < p3) → (¬ (p0 = 105)) → (¬ (p0 = 109)) → (p0 = 116) → Q (7))
  (L26 : (¬ (p2 < 0)) → (¬ (9 < p2)) → (¬ (p3 < 4)) → (9 < p3) → (¬ (p0 = 105)) → (¬ (p0 = 109)) → (¬ (p0 = 116)) → (5 ≤ S0 3 1) → Q (1))
  (L27 : (¬ (p2 < 0)) → (¬ (9 < p2)) → (¬ (p3 < 4)) → (9 < p3) → (¬ (p0 = 105)) → (¬ (p0 = 109)) → (¬ (p0 = 116)) → (¬ (5 ≤ S0 3 1)) → Q (0))
  (L28 : (¬ (p2 < 0)) → (¬ (9 < p2)) → (¬ (p3 < 4)) → (¬ (9 < p3)) → (p0 = 105) → ((S0 3 1) = 0) → Q (3))
  (L29 : (¬ (p2 < 0)) → (¬ (9 < p2)) → (¬ (p3 < 4)) → (¬ (9 < p3)) → (p0 = 105) → (¬ ((S0 3 1) = 0)) → ((S0 13 1) = 0) → Q (4))
  (L30 : (¬ (p2 < 0)) → (¬ (9 < p2)) → (¬ (p3 < 4)) → (¬ (9 < p3)) → (p0 = 105) → (¬ ((S0 3 1) = 0)) → (¬ ((S0 13 1) = 0)) → Q (0))
  (L31 : (¬ (p2 < 0)) → (¬ (9 < p2)) → (¬ (p3 < 4)) → (¬ (9 < p3)) → (¬ (p0 = 105)) → (p0 = 109) → (5 ≤ S0 3 1) → Q (1))
  (L32 : (¬ (p2 < 0)) → (¬ (9 < p2)) → (¬ (p3 < 4)) → (¬ (9 < p3)) → (¬ (p0 = 105)) → (p0 = 109) → (¬ (5 ≤ S0 3 1)) → Q (0))
  (L33 : (¬ (p2 < 0)) → (¬ (9 < p2)) → (¬ (p3 < 4)) → (¬ (9 < p3)) → (¬ (p0 = 105)) → (¬ (p0 = 109)) → (p0 = 116) → (p2 = (S0 2 1)) → (p3 = (S0 2 2)) → Q (2))
  (L34 : (¬ (p2 < 0)) → (¬ (9 < p2)) → (¬ (p3 < 4)) → (¬ (9 < p3)) → (¬ (p0 = 105)) → (¬ (p0 = 109)) → (p0 = 116) → (p2 = (S0 2 1)) → (¬ (p3 = (S0 2 2))) → Q (0))
  (L35 : (¬ (p2 < 0)) → (¬ (9 < p2)) → (¬ (p3 < 4)) → (¬ (9 < p3)) → (¬ (p0 = 105)) → (¬ (p0 = 109)) → (p0 = 116) → (¬ (p2 = (S0 2 1))) → Q (0))
  (L36 : (¬ (p2 < 0)) → (¬ (9 < p2)) → (¬ (p3 < 4)) → (¬ (9 < p3)) → (¬ (p0 = 105)) → (¬ (p0 = 109)) → (¬ (p0 = 116)) → (5 ≤ S0 3 1) → Q (1))
  (L37 : (¬ (p2 < 0)) → (¬ (9 < p2)) → (¬ (p3 < 4)) → (¬ (9 < p3)) → (¬ (p0 = 105)) → (¬ (p0 = 109)) → (¬ (p0 = 116)) → (¬ (5 ≤ S0 3 1)) → Q (0)) : Q (sp_X5_verdictOnBelt_0 S0 p0 p2 p3) := by
  unfold sp_X5_verdictOnBelt_0
  exact (el1 (fun h0 => (el1 (fun h1 => (el1 (fun h2 => (L0 h0 h1 h2)) (fun h2 => (el1 (fun h3 => (L1 h0 h1 h2 h3)) (fun h3 => (L2 h0 h1 h2 h3)))))) (fun h1 => (el1 (fun h2 => (L3 h0 h1 h2)) (fun h2 => (el1 (fun h3 => (L4 h0 h1 h2 h3)) (fun h3 => (el1 (fun h4 => (L5 h0 h1 h2 h3 h4)) (fun h4 => (L6 h0 h1 h2 h3 h4)))))))))) (fun h0 => (el1 (fun h1 => (el1 (fun h2 => (el1 (fun h3 => (L7 h0 h1 h2 h3)) (fun h3 => (el1 (fun h4 => (L8 h0 h1 h2 h3 h4)) (fun h4 => (L9 h0 h1 h2 h3 h4)))))) (fun h2 => (el1 (fun h3 => (L10 h0 h1 h2 h3)) (fun h3 => (el1 (fun h4 => (L11 h0 h1 h2 h3 h4)) (fun h4 => (el1 (fun h5 => (L12 h0 h1 h2 h3 h4 h5)) (fun h5 => (L13 h0 h1 h2 h3 h4 h5)))))))))) (fun h1 => (el1 (fun h2 => (el1 (fun h3 => (el1 (fun h4 => (L14 h0 h1 h2 h3 h4)) (fun h4 => (el1 (fun h5 => (L15 h0 h1 h2 h3 h4 h5)) (fun h5 => (L16 h0 h1 h2 h3 h4 h5)))))) (fun h3 => (el1 (fun h4 => (L17 h0 h1 h2 h3 h4)) (fun h4 => (el1 (fun h5 => (L18 h0 h1 h2 h3 h4 h5)) (fun h5 => (el1 (fun h6 => (L19 h0 h1 h2 h3 h4 h5 h6)) (fun h6 => (L20 h0 h1 h2 h3 h4 h5 h6)))))))))) (fun h2 => (el1 (fun h3 => (el1 (fun h4 => (el1 (fun h5 => (L21 h0 h1 h2 h3 h4 h5)) (fun h5 => (el1 (fun h6 => (L22 h0 h1 h2 h3 h4 h5 h6)) (fun h6 => (L23 h0 h1 h2 h3 h4 h5 h6)))))) (fun h4 => (el1 (fun h5 => (L24 h0 h1 h2 h3 h4 h5)) (fun h5 => (el1 (fun h6 => (L25 h0 h1 h2 h3 h4 h5 h6)) (fun h6 => (el1 (fun h7 => (L26 h0 h1 h2 h3 h4 h5 h6 h7)) (fun h7 => (L27 h0 h1 h2 h3 h4 h5 h6 h7)))))))))) (fun h3 => (el1 (fun h4 => (el1 (fun h5 => (L28 h0 h1 h2 h3 h4 h5)) (fun h5 => (el1 (fun h6 => (L29 h0 h1 h2 h3 h4 h5 h6)) (fun h6 => (L30 h0 h1 h2 h3 h4 h5 h6)))))) (fun h4 => (el1 (fun h5 => (el1 (fun h6 => (L31 h0 h1 h2 h3 h4 h5 h6)) (fun h6 => (L32 h0 h1 h2 h3 h4 h5 h6)))) (fun h5 => (el1 (fun h6 => (el1 (fun h7 => (el1 (fun h8 => (L33 h0 h1 h2 h3 h4 h5 h6 h7 h8)) (fun h8 => (L34 h0 h1 h2 h3 h4 h5 h6 h7 h8)))) (fun h7 => (L35 h0 h1 h2 h3 h4 h5 h6 h7)))) (fun h6 => (el1 (fun h7 => (L36 h0 h1 h2 h3 h4 h5 h6 h7)) (fun h7 => (L37 h0 h1 h2 h3 h4 h5 h6 h7)))))))))))))))))
noncomputable def sp_X5_verdictOnBelt_1 (S0 : Nat → Nat → Int) (p0 : Int) (p2 : Int) (p3 : Int) : Int := zif (p2 < 0)
  (zif (p0 = 105)
    (zif ((S0 6 1) = 0)
      (3)
      (zif ((S0 13 1) = 0)
        (4)
        (0)))
    (zif (p0 = 109)
      (7)
      (zif (p0 = 116)
        (7)
        (zif (5 ≤ S0 6 1)
          (1)
          (0)))))
  (zif (9 < p2)
    (zif (p0 = 105)
      (zif ((S0 6 1) = 0)
        (3)
        (zif ((S0 13 1) = 0)
          (4)
          (0)))
      (zif (p0 = 109)
        (7)
        (zif (p0 = 116)
          (7)
          (zif (5 ≤ S0 6 1)
            (1)
            (0)))))
    (zif (p3 < 4)
      (zif (p0 = 105)
        (zif ((S0 6 1) = 0)
          (3)
          (zif ((S0 13 1) = 0)
            (4)
            (0)))
        (zif (p0 = 109)
          (7)
          (zif (p0 = 116)
            (7)
            (zif (5 ≤ S0 6 1)
              (1)
              (0)))))
      (zif (9 < p3)
        (zif (p0 = 105)
          (zif ((S0 6 1) = 0)
            (3)
            (zif ((S0 13 1) = 0)
              (4)
              (0)))
          (zif (p0 = 109)
            (7)
            (zif (p0 = 116)
              (7)
              (zif (5 ≤ S0 6 1)
                (1)
                (0)))))
        (zif (p0 = 105)
          (zif ((S0 6 1) = 0)
            (3)
            (zif ((S0 13 1) = 0)
              (4)
              (0)))
          (zif (p0 = 109)
            (zif (5 ≤ S0 6 1)
              (1)
              (0))
            (zif (p0 = 116)
              (zif (p2 = (S0 5 1))
                (zif (p3 = (S0 5 2))
                  (2)
                  (0))
                (0))
              (zif (5 ≤ S0 6 1)
                (1)
                (0))))))))
set_option maxHeartbeats 4000000 in
set_option maxRecDepth 100000 in
theorem c_X5_verdictOnBelt_1 (l : Launch) (D : va_G) (k : Nat → ClassId) (a0 : Nat → Nat) (S0 : Nat → Nat → Int) (p0 : Int) (p2 : Int) (p3 : Int) (hB05 : zBf (S0 5)) (hk06 : 0 ≤ S0 6 1 ∧ S0 6 1 ≤ 5) (hk013 : 0 ≤ S0 13 1 ∧ S0 13 1 ≤ 4) (h0 : 0 ≤ p0 ∧ p0 < 65536) (h2 : -2147483648 ≤ p2 ∧ p2 < 2147483648) (h3 : -2147483648 ≤ p3 ∧ p3 < 2147483648) : zMi l yX5_verdictOnBelt wsX5_verdictOnBelt ({ frames := 1, cells := 0, slots := 0, locals := 21 } : Room) D k [.ref (a0 0), .int (iI p0), .int (iI 1), .int (iI p2), .int (iI p3)] (wPlant k a0 S0) (sp_X5_verdictOnBelt_1 S0 p0 p2 p3) (wPlant k a0 S0) 0 0 := by
  refine zMi_of (cc := cX5_verdictOnBelt) (maxL := 6) (ret := (some .int)) (by decide) rfl (Nat.le_of_ble_eq_true rfl) ?_
  intro p e s m args below meth c A ls hx hb hr hml hown hts hlocks hK hP hD hG hA hS hl
  have hown : s.vm.findClass RX5 = some m.cls := hown
  have hl : lv_has ls 6 [(0, .ref (a0 0)), (1, .int (iI p0)), (2, .int (iI 1)), (3, .int (iI p2)), (4, .int (iI p3))] := hl
  obtain ⟨H, hH⟩ : ∃ z, z = s.heap := ⟨_, rfl⟩
  obtain ⟨locs, hlc⟩ : ∃ z : List Loc, z = [] := ⟨_, rfl⟩
  rw [← hH] at hP
  have hS : va_S A s.heap H locs := by rw [hH, hlc]; exact hS
  rw [← hlc, ← hH]
  clear hlc hH
  refine lv_iload_n hx hb dX5_verdictOnBelt_0 rfl (lv_at hl 3 rfl) ?_
  refine zi_if_lt (tgt := 27) hx hb dX5_verdictOnBelt_1 (by decide) ⟨by omega, by omega⟩ (fun c_1 => ?_) (fun c_1 => ?_)
  · refine lv_iconst (v := iI 0) hx hb dX5_verdictOnBelt_27 rfl ?_
    refine lv_istore (lv' := [(5, .int (iI 0)), (0, .ref (a0 0)), (1, .int (iI p0)), (2, .int (iI 1)), (3, .int (iI p2)), (4, .int (iI p3))]) hx hb dX5_verdictOnBelt_28 hl (by decide) rfl (fun ls hl => ?_)
    refine lv_iload_n hx hb dX5_verdictOnBelt_30 rfl (lv_at hl 2 rfl) ?_
    by_cases w_2 : p0 = 105
    · refine z_lookup hx hb dX5_verdictOnBelt_31 (by decide) (x := p0) ⟨by omega, by omega⟩ (off := 96) (tgt := 127) (by rw [w_2]; decide) (by decide) ?_
      refine lv_aload_n hx hb dX5_verdictOnBelt_127 rfl (lv_at hl 1 rfl) ?_
      refine va_get (D := D) (ci := 7) (v := .ref (a0 1)) (C := RX5) (T := TX5) (N := 11) hx hb hts (fun w h => List.mem_cons_of_mem _ (List.mem_append_left _ (List.mem_append_left _ (List.mem_append_left _ (List.mem_append_right _ h))))) hown hK hP 0 rfl rfl 0 (by decide) (hts (.fieldLink RX5 12 "MondayFactory$Plant" "belts" "[LMondayFactory$Belt;") (List.mem_of_getElem? (i := 1) rfl)) (fun _ h9 => h9) rfl dX5_verdictOnBelt_128 ?_
      refine lv_iload_n hx hb dX5_verdictOnBelt_131 rfl (lv_at hl 3 rfl) ?_
      refine z_aald hx hb hK hP 1 2 (f := fun j => some (a0 (2 + 3 * j))) (q := a0 5) rfl rfl (i := 1) (by omega) (by omega) (by decide) rfl dX5_verdictOnBelt_132 ?_
      refine va_get (D := D) (ci := 2) (v := .ref (a0 6)) (C := RX0) (T := TX0) (N := 6) hx hb hts (fun w h => List.mem_cons_of_mem _ (List.mem_append_left _ (List.mem_append_left _ (List.mem_append_right _ h)))) hown hK hP 5 rfl rfl 0 (by decide) (hts (.fieldLink RX5 98 "MondayFactory$Belt" "row" "LMondayFactory$Row;") (List.mem_of_getElem? (i := 4) rfl)) (fun _ h9 => h9) rfl dX5_verdictOnBelt_133 ?_
      refine va_get (D := D) (ci := 8) (v := .int (iI (S0 6 1))) (C := RX6) (T := TX6) (N := 2) hx hb hts (fun w h => List.mem_cons_of_mem _ (List.mem_append_left _ (List.mem_append_right _ h))) hown hK hP 6 rfl rfl 1 (by decide) (hts (.fieldLink RX5 101 "MondayFactory$Row" "count" "I") (List.mem_of_getElem? (i := 5) rfl)) (fun _ h9 => h9) rfl dX5_verdictOnBelt_136 ?_
      refine zi_if_ne (tgt := 144) hx hb dX5_verdictOnBelt_139 (by decide) ⟨by omega, by omega⟩ (fun c_3 => ?_) (fun c_3 => ?_)
      · refine lv_aload_n hx hb dX5_verdictOnBelt_144 rfl (lv_at hl 1 rfl) ?_
        refine va_get (D := D) (ci := 7) (v := .ref (a0 13)) (C := RX5) (T := TX5) (N := 11) hx hb hts (fun w h => List.mem_cons_of_mem _ (List.mem_append_left _ (List.mem_append_left _ (List.mem_append_left _ (List.mem_append_right _ h))))) hown hK hP 0 rfl rfl 2 (by decide) (hts (.fieldLink RX5 28 "MondayFactory$Plant" "crew" "LMondayFactory$Crew;") (List.mem_of_getElem? (i := 6) rfl)) (fun _ h9 => h9) rfl dX5_verdictOnBelt_145 ?_
        refine va_get (D := D) (ci := 3) (v := .int (iI (S0 13 1))) (C := RX1) (T := TX1) (N := 2) hx hb hts (fun w h => List.mem_cons_of_mem _ (List.mem_append_right _ h)) hown hK hP 13 rfl rfl 1 (by decide) (hts (.fieldLink RX5 67 "MondayFactory$Crew" "count" "I") (List.mem_of_getElem? (i := 7) rfl)) (fun _ h9 => h9) rfl dX5_verdictOnBelt_148 ?_
        refine zi_if_ne (tgt := 158) hx hb dX5_verdictOnBelt_151 (by decide) ⟨by omega, by omega⟩ (fun c_4 => ?_) (fun c_4 => ?_)
        · refine lv_iconst (v := iI 0) hx hb dX5_verdictOnBelt_158 rfl ?_
          exact z_iret hx hb hr hlocks hP hS dX5_verdictOnBelt_159 (Eq.trans (zif_pos c_1) (Eq.trans (zif_pos w_2) (Eq.trans (zif_neg c_3) (Eq.trans (zif_neg c_4) rfl)))) rfl (Nat.le_refl _) (Nat.le_refl _)
        · refine lv_iconst (v := iI 4) hx hb dX5_verdictOnBelt_154 rfl ?_
          refine lv_goto (tgt := 159) hx hb dX5_verdictOnBelt_155 (by decide) ?_
          exact z_iret hx hb hr hlocks hP hS dX5_verdictOnBelt_159 (Eq.trans (zif_pos c_1) (Eq.trans (zif_pos w_2) (Eq.trans (zif_neg c_3) (Eq.trans (zif_pos c_4) rfl)))) rfl (Nat.le_refl _) (Nat.le_refl _)
      · refine lv_iconst (v := iI 3) hx hb dX5_verdictOnBelt_142 rfl ?_
        exact z_iret hx hb hr hlocks hP hS dX5_verdictOnBelt_143 (Eq.trans (zif_pos c_1) (Eq.trans (zif_pos w_2) (Eq.trans (zif_pos c_3) rfl))) rfl (Nat.le_refl _) (Nat.le_refl _)
    · by_cases w_5 : p0 = 109
      · refine z_lookup hx hb dX5_verdictOnBelt_31 (by decide) (x := p0) ⟨by omega, by omega⟩ (off := 33) (tgt := 64) (by rw [w_5]; decide) (by decide) ?_
        refine lv_iload hx hb dX5_verdictOnBelt_64 (lv_at hl 0 rfl) ?_
        refine zi_if_ne (tgt := 72) hx hb dX5_verdictOnBelt_66 (by decide) ⟨by omega, by omega⟩ (fun c_6 => absurd c_6 (by omega)) (fun _ => ?_)
        refine lv_bipush (v := iI 7) hx hb dX5_verdictOnBelt_69 (by decide) ?_
        exact z_iret hx hb hr hlocks hP hS dX5_verdictOnBelt_71 (Eq.trans (zif_pos c_1) (Eq.trans (zif_neg w_2) (Eq.trans (zif_pos w_5) rfl))) rfl (Nat.le_refl _) (Nat.le_refl _)
      · by_cases w_7 : p0 = 116
        · refine z_lookup hx hb dX5_verdictOnBelt_31 (by decide) (x := p0) ⟨by omega, by omega⟩ (off := 55) (tgt := 86) (by rw [w_7]; decide) (by decide) ?_
          refine lv_iload hx hb dX5_verdictOnBelt_86 (lv_at hl 0 rfl) ?_
          refine zi_if_ne (tgt := 94) hx hb dX5_verdictOnBelt_88 (by decide) ⟨by omega, by omega⟩ (fun c_8 => absurd c_8 (by omega)) (fun _ => ?_)
          refine lv_bipush (v := iI 7) hx hb dX5_verdictOnBelt_91 (by decide) ?_
          exact z_iret hx hb hr hlocks hP hS dX5_verdictOnBelt_93 (Eq.trans (zif_pos c_1) (Eq.trans (zif_neg w_2) (Eq.trans (zif_neg w_5) (Eq.trans (zif_pos w_7) rfl)))) rfl (Nat.le_refl _) (Nat.le_refl _)
        · refine z_lookup hx hb dX5_verdictOnBelt_31 (by decide) (x := p0) ⟨by omega, by omega⟩ (off := 129) (tgt := 160) (by simp [Op.lookupswitch.offset, Ne.symm w_2, Ne.symm w_5, Ne.symm w_7]) (by decide) ?_
          refine lv_aload_n hx hb dX5_verdictOnBelt_160 rfl (lv_at hl 1 rfl) ?_
          refine lv_iload_n hx hb dX5_verdictOnBelt_161 rfl (lv_at hl 3 rfl) ?_
          refine z_ai0 (va_runV (As := [.int (iI 1)]) (rest := []) ⟨hx, hb, hml, hown, hts⟩ (c_X5_isFull_1 l D k a0 S0   (by omega) _) (cwV 1 hts gX5_verdictOnBelt_X5_isFull rfl rfl rfl (by decide +kernel) ⟨(Nat.le_of_ble_eq_true rfl), (Nat.le_of_ble_eq_true rfl)⟩) (z_preV hK hG hA hP hD hS [0, 1, 2, 3, 4, 5, 6, 7, 8, 9, 10, 11, 12, 13, 14] rfl (by decide) 7 rfl rfl) rfl rfl hl.1 rfl (lv_room (Nat.le_of_ble_eq_true rfl)) dX5_verdictOnBelt_162 ⟨(Nat.le_of_ble_eq_true rfl), (Nat.le_of_ble_eq_true rfl)⟩) hA hP hD hS [0, 1, 2, 3, 4, 5, 6, 7, 8, 9, 10, 11, 12, 13, 14] rfl (fun H locs hP hS => ?_)
          refine zi_if_eqB (tgt := 172) hx hb dX5_verdictOnBelt_165 (by decide) (fun c_9 => ?_) (fun c_9 => ?_)
          · refine lv_iconst (v := iI 0) hx hb dX5_verdictOnBelt_172 rfl ?_
            exact z_iret hx hb hr hlocks hP hS dX5_verdictOnBelt_173 (Eq.trans (zif_pos c_1) (Eq.trans (zif_neg w_2) (Eq.trans (zif_neg w_5) (Eq.trans (zif_neg w_7) (Eq.trans (zif_neg c_9) rfl))))) rfl (Nat.le_refl _) (Nat.le_refl _)
          · refine lv_iconst (v := iI 1) hx hb dX5_verdictOnBelt_168 rfl ?_
            refine lv_goto (tgt := 173) hx hb dX5_verdictOnBelt_169 (by decide) ?_
            exact z_iret hx hb hr hlocks hP hS dX5_verdictOnBelt_173 (Eq.trans (zif_pos c_1) (Eq.trans (zif_neg w_2) (Eq.trans (zif_neg w_5) (Eq.trans (zif_neg w_7) (Eq.trans (zif_pos c_9) rfl))))) rfl (Nat.le_refl _) (Nat.le_refl _)
  · refine lv_iload_n hx hb dX5_verdictOnBelt_4 rfl (lv_at hl 3 rfl) ?_
    refine lv_bipush (v := iI 9) hx hb dX5_verdictOnBelt_5 (by decide) ?_
    refine zi_icmp_gt (tgt := 27) hx hb dX5_verdictOnBelt_7 (by decide) ⟨by omega, by omega⟩ ⟨by omega, by omega⟩ (fun c_10 => ?_) (fun c_10 => ?_)
    · refine lv_iconst (v := iI 0) hx hb dX5_verdictOnBelt_27 rfl ?_
      refine lv_istore (lv' := [(5, .int (iI 0)), (0, .ref (a0 0)), (1, .int (iI p0)), (2, .int (iI 1)), (3, .int (iI p2)), (4, .int (iI p3))]) hx hb dX5_verdictOnBelt_28 hl (by decide) rfl (fun ls hl => ?_)
      refine lv_iload_n hx hb dX5_verdictOnBelt_30 rfl (lv_at hl 2 rfl) ?_
      by_cases w_11 : p0 = 105
      · refine z_lookup hx hb dX5_verdictOnBelt_31 (by decide) (x := p0) ⟨by omega, by omega⟩ (off := 96) (tgt := 127) (by rw [w_11]; decide) (by decide) ?_
        refine lv_aload_n hx hb dX5_verdictOnBelt_127 rfl (lv_at hl 1 rfl) ?_
        refine va_get (D := D) (ci := 7) (v := .ref (a0 1)) (C := RX5) (T := TX5) (N := 11) hx hb hts (fun w h => List.mem_cons_of_mem _ (List.mem_append_left _ (List.mem_append_left _ (List.mem_append_left _ (List.mem_append_right _ h))))) hown hK hP 0 rfl rfl 0 (by decide) (hts (.fieldLink RX5 12 "MondayFactory$Plant" "belts" "[LMondayFactory$Belt;") (List.mem_of_getElem? (i := 1) rfl)) (fun _ h9 => h9) rfl dX5_verdictOnBelt_128 ?_
        refine lv_iload_n hx hb dX5_verdictOnBelt_131 rfl (lv_at hl 3 rfl) ?_
        refine z_aald hx hb hK hP 1 2 (f := fun j => some (a0 (2 + 3 * j))) (q := a0 5) rfl rfl (i := 1) (by omega) (by omega) (by decide) rfl dX5_verdictOnBelt_132 ?_
        refine va_get (D := D) (ci := 2) (v := .ref (a0 6)) (C := RX0) (T := TX0) (N := 6) hx hb hts (fun w h => List.mem_cons_of_mem _ (List.mem_append_left _ (List.mem_append_left _ (List.mem_append_right _ h)))) hown hK hP 5 rfl rfl 0 (by decide) (hts (.fieldLink RX5 98 "MondayFactory$Belt" "row" "LMondayFactory$Row;") (List.mem_of_getElem? (i := 4) rfl)) (fun _ h9 => h9) rfl dX5_verdictOnBelt_133 ?_
        refine va_get (D := D) (ci := 8) (v := .int (iI (S0 6 1))) (C := RX6) (T := TX6) (N := 2) hx hb hts (fun w h => List.mem_cons_of_mem _ (List.mem_append_left _ (List.mem_append_right _ h))) hown hK hP 6 rfl rfl 1 (by decide) (hts (.fieldLink RX5 101 "MondayFactory$Row" "count" "I") (List.mem_of_getElem? (i := 5) rfl)) (fun _ h9 => h9) rfl dX5_verdictOnBelt_136 ?_
        refine zi_if_ne (tgt := 144) hx hb dX5_verdictOnBelt_139 (by decide) ⟨by omega, by omega⟩ (fun c_12 => ?_) (fun c_12 => ?_)
        · refine lv_aload_n hx hb dX5_verdictOnBelt_144 rfl (lv_at hl 1 rfl) ?_
          refine va_get (D := D) (ci := 7) (v := .ref (a0 13)) (C := RX5) (T := TX5) (N := 11) hx hb hts (fun w h => List.mem_cons_of_mem _ (List.mem_append_left _ (List.mem_append_left _ (List.mem_append_left _ (List.mem_append_right _ h))))) hown hK hP 0 rfl rfl 2 (by decide) (hts (.fieldLink RX5 28 "MondayFactory$Plant" "crew" "LMondayFactory$Crew;") (List.mem_of_getElem? (i := 6) rfl)) (fun _ h9 => h9) rfl dX5_verdictOnBelt_145 ?_
          refine va_get (D := D) (ci := 3) (v := .int (iI (S0 13 1))) (C := RX1) (T := TX1) (N := 2) hx hb hts (fun w h => List.mem_cons_of_mem _ (List.mem_append_right _ h)) hown hK hP 13 rfl rfl 1 (by decide) (hts (.fieldLink RX5 67 "MondayFactory$Crew" "count" "I") (List.mem_of_getElem? (i := 7) rfl)) (fun _ h9 => h9) rfl dX5_verdictOnBelt_148 ?_
          refine zi_if_ne (tgt := 158) hx hb dX5_verdictOnBelt_151 (by decide) ⟨by omega, by omega⟩ (fun c_13 => ?_) (fun c_13 => ?_)
          · refine lv_iconst (v := iI 0) hx hb dX5_verdictOnBelt_158 rfl ?_
            exact z_iret hx hb hr hlocks hP hS dX5_verdictOnBelt_159 (Eq.trans (zif_neg c_1) (Eq.trans (zif_pos c_10) (Eq.trans (zif_pos w_11) (Eq.trans (zif_neg c_12) (Eq.trans (zif_neg c_13) rfl))))) rfl (Nat.le_refl _) (Nat.le_refl _)
          · refine lv_iconst (v := iI 4) hx hb dX5_verdictOnBelt_154 rfl ?_
            refine lv_goto (tgt := 159) hx hb dX5_verdictOnBelt_155 (by decide) ?_
            exact z_iret hx hb hr hlocks hP hS dX5_verdictOnBelt_159 (Eq.trans (zif_neg c_1) (Eq.trans (zif_pos c_10) (Eq.trans (zif_pos w_11) (Eq.trans (zif_neg c_12) (Eq.trans (zif_pos c_13) rfl))))) rfl (Nat.le_refl _) (Nat.le_refl _)
        · refine lv_iconst (v := iI 3) hx hb dX5_verdictOnBelt_142 rfl ?_
          exact z_iret hx hb hr hlocks hP hS dX5_verdictOnBelt_143 (Eq.trans (zif_neg c_1) (Eq.trans (zif_pos c_10) (Eq.trans (zif_pos w_11) (Eq.trans (zif_pos c_12) rfl)))) rfl (Nat.le_refl _) (Nat.le_refl _)
      · by_cases w_14 : p0 = 109
        · refine z_lookup hx hb dX5_verdictOnBelt_31 (by decide) (x := p0) ⟨by omega, by omega⟩ (off := 33) (tgt := 64) (by rw [w_14]; decide) (by decide) ?_
          refine lv_iload hx hb dX5_verdictOnBelt_64 (lv_at hl 0 rfl) ?_
          refine zi_if_ne (tgt := 72) hx hb dX5_verdictOnBelt_66 (by decide) ⟨by omega, by omega⟩ (fun c_15 => absurd c_15 (by omega)) (fun _ => ?_)
          refine lv_bipush (v := iI 7) hx hb dX5_verdictOnBelt_69 (by decide) ?_
          exact z_iret hx hb hr hlocks hP hS dX5_verdictOnBelt_71 (Eq.trans (zif_neg c_1) (Eq.trans (zif_pos c_10) (Eq.trans (zif_neg w_11) (Eq.trans (zif_pos w_14) rfl)))) rfl (Nat.le_refl _) (Nat.le_refl _)
        · by_cases w_16 : p0 = 116
          · refine z_lookup hx hb dX5_verdictOnBelt_31 (by decide) (x := p0) ⟨by omega, by omega⟩ (off := 55) (tgt := 86) (by rw [w_16]; decide) (by decide) ?_
            refine lv_iload hx hb dX5_verdictOnBelt_86 (lv_at hl 0 rfl) ?_
            refine zi_if_ne (tgt := 94) hx hb dX5_verdictOnBelt_88 (by decide) ⟨by omega, by omega⟩ (fun c_17 => absurd c_17 (by omega)) (fun _ => ?_)
            refine lv_bipush (v := iI 7) hx hb dX5_verdictOnBelt_91 (by decide) ?_
            exact z_iret hx hb hr hlocks hP hS dX5_verdictOnBelt_93 (Eq.trans (zif_neg c_1) (Eq.trans (zif_pos c_10) (Eq.trans (zif_neg w_11) (Eq.trans (zif_neg w_14) (Eq.trans (zif_pos w_16) rfl))))) rfl (Nat.le_refl _) (Nat.le_refl _)
          · refine z_lookup hx hb dX5_verdictOnBelt_31 (by decide) (x := p0) ⟨by omega, by omega⟩ (off := 129) (tgt := 160) (by simp [Op.lookupswitch.offset, Ne.symm w_11, Ne.symm w_14, Ne.symm w_16]) (by decide) ?_
            refine lv_aload_n hx hb dX5_verdictOnBelt_160 rfl (lv_at hl 1 rfl) ?_
            refine lv_iload_n hx hb dX5_verdictOnBelt_161 rfl (lv_at hl 3 rfl) ?_
            refine z_ai0 (va_runV (As := [.int (iI 1)]) (rest := []) ⟨hx, hb, hml, hown, hts⟩ (c_X5_isFull_1 l D k a0 S0   (by omega) _) (cwV 1 hts gX5_verdictOnBelt_X5_isFull rfl rfl rfl (by decide +kernel) ⟨(Nat.le_of_ble_eq_true rfl), (Nat.le_of_ble_eq_true rfl)⟩) (z_preV hK hG hA hP hD hS [0, 1, 2, 3, 4, 5, 6, 7, 8, 9, 10, 11, 12, 13, 14] rfl (by decide) 7 rfl rfl) rfl rfl hl.1 rfl (lv_room (Nat.le_of_ble_eq_true rfl)) dX5_verdictOnBelt_162 ⟨(Nat.le_of_ble_eq_true rfl), (Nat.le_of_ble_eq_true rfl)⟩) hA hP hD hS [0, 1, 2, 3, 4, 5, 6, 7, 8, 9, 10, 11, 12, 13, 14] rfl (fun H locs hP hS => ?_)
            refine zi_if_eqB (tgt := 172) hx hb dX5_verdictOnBelt_165 (by decide) (fun c_18 => ?_) (fun c_18 => ?_)
            · refine lv_iconst (v := iI 0) hx hb dX5_verdictOnBelt_172 rfl ?_
              exact z_iret hx hb hr hlocks hP hS dX5_verdictOnBelt_173 (Eq.trans (zif_neg c_1) (Eq.trans (zif_pos c_10) (Eq.trans (zif_neg w_11) (Eq.trans (zif_neg w_14) (Eq.trans (zif_neg w_16) (Eq.trans (zif_neg c_18) rfl)))))) rfl (Nat.le_refl _) (Nat.le_refl _)
            · refine lv_iconst (v := iI 1) hx hb dX5_verdictOnBelt_168 rfl ?_
              refine lv_goto (tgt := 173) hx hb dX5_verdictOnBelt_169 (by decide) ?_
              exact z_iret hx hb hr hlocks hP hS dX5_verdictOnBelt_173 (Eq.trans (zif_neg c_1) (Eq.trans (zif_pos c_10) (Eq.trans (zif_neg w_11) (Eq.trans (zif_neg w_14) (Eq.trans (zif_neg w_16) (Eq.trans (zif_pos c_18) rfl)))))) rfl (Nat.le_refl _) (Nat.le_refl _)
    · refine lv_iload hx hb dX5_verdictOnBelt_10 (lv_at hl 4 rfl) ?_
      refine lv_iconst (v := iI 4) hx hb dX5_verdictOnBelt_12 rfl ?_
      refine zi_icmp_lt (tgt := 27) hx hb dX5_verdictOnBelt_13 (by decide) ⟨by omega, by omega⟩ ⟨by omega, by omega⟩ (fun c_19 => ?_) (fun c_19 => ?_)
      · refine lv_iconst (v := iI 0) hx hb dX5_verdictOnBelt_27 rfl ?_
        refine lv_istore (lv' := [(5, .int (iI 0)), (0, .ref (a0 0)), (1, .int (iI p0)), (2, .int (iI 1)), (3, .int (iI p2)), (4, .int (iI p3))]) hx hb dX5_verdictOnBelt_28 hl (by decide) rfl (fun ls hl => ?_)
        refine lv_iload_n hx hb dX5_verdictOnBelt_30 rfl (lv_at hl 2 rfl) ?_
        by_cases w_20 : p0 = 105
        · refine z_lookup hx hb dX5_verdictOnBelt_31 (by decide) (x := p0) ⟨by omega, by omega⟩ (off := 96) (tgt := 127) (by rw [w_20]; decide) (by decide) ?_
          refine lv_aload_n hx hb dX5_verdictOnBelt_127 rfl (lv_at hl 1 rfl) ?_
          refine va_get (D := D) (ci := 7) (v := .ref (a0 1)) (C := RX5) (T := TX5) (N := 11) hx hb hts (fun w h => List.mem_cons_of_mem _ (List.mem_append_left _ (List.mem_append_left _ (List.mem_append_left _ (List.mem_append_right _ h))))) hown hK hP 0 rfl rfl 0 (by decide) (hts (.fieldLink RX5 12 "MondayFactory$Plant" "belts" "[LMondayFactory$Belt;") (List.mem_of_getElem? (i := 1) rfl)) (fun _ h9 => h9) rfl dX5_verdictOnBelt_128 ?_
          refine lv_iload_n hx hb dX5_verdictOnBelt_131 rfl (lv_at hl 3 rfl) ?_
          refine z_aald hx hb hK hP 1 2 (f := fun j => some (a0 (2 + 3 * j))) (q := a0 5) rfl rfl (i := 1) (by omega) (by omega) (by decide) rfl dX5_verdictOnBelt_132 ?_
          refine va_get (D := D) (ci := 2) (v := .ref (a0 6)) (C := RX0) (T := TX0) (N := 6) hx hb hts (fun w h => List.mem_cons_of_mem _ (List.mem_append_left _ (List.mem_append_left _ (List.mem_append_right _ h)))) hown hK hP 5 rfl rfl 0 (by decide) (hts (.fieldLink RX5 98 "MondayFactory$Belt" "row" "LMondayFactory$Row;") (List.mem_of_getElem? (i := 4) rfl)) (fun _ h9 => h9) rfl dX5_verdictOnBelt_133 ?_
          refine va_get (D := D) (ci := 8) (v := .int (iI (S0 6 1))) (C := RX6) (T := TX6) (N := 2) hx hb hts (fun w h => List.mem_cons_of_mem _ (List.mem_append_left _ (List.mem_append_right _ h))) hown hK hP 6 rfl rfl 1 (by decide) (hts (.fieldLink RX5 101 "MondayFactory$Row" "count" "I") (List.mem_of_getElem? (i := 5) rfl)) (fun _ h9 => h9) rfl dX5_verdictOnBelt_136 ?_
          refine zi_if_ne (tgt := 144) hx hb dX5_verdictOnBelt_139 (by decide) ⟨by omega, by omega⟩ (fun c_21 => ?_) (fun c_21 => ?_)
          · refine lv_aload_n hx hb dX5_verdictOnBelt_144 rfl (lv_at hl 1 rfl) ?_
            refine va_get (D := D) (ci := 7) (v := .ref (a0 13)) (C := RX5) (T := TX5) (N := 11) hx hb hts (fun w h => List.mem_cons_of_mem _ (List.mem_append_left _ (List.mem_append_left _ (List.mem_append_left _ (List.mem_append_right _ h))))) hown hK hP 0 rfl rfl 2 (by decide) (hts (.fieldLink RX5 28 "MondayFactory$Plant" "crew" "LMondayFactory$Crew;") (List.mem_of_getElem? (i := 6) rfl)) (fun _ h9 => h9) rfl dX5_verdictOnBelt_145 ?_
            refine va_get (D := D) (ci := 3) (v := .int (iI (S0 13 1))) (C := RX1) (T := TX1) (N := 2) hx hb hts (fun w h => List.mem_cons_of_mem _ (List.mem_append_right _ h)) hown hK hP 13 rfl rfl 1 (by decide) (hts (.fieldLink RX5 67 "MondayFactory$Crew" "count" "I") (List.mem_of_getElem? (i := 7) rfl)) (fun _ h9 => h9) rfl dX5_verdictOnBelt_148 ?_
            refine zi_if_ne (tgt := 158) hx hb dX5_verdictOnBelt_151 (by decide) ⟨by omega, by omega⟩ (fun c_22 => ?_) (fun c_22 => ?_)
            · refine lv_iconst (v := iI 0) hx hb dX5_verdictOnBelt_158 rfl ?_
              exact z_iret hx hb hr hlocks hP hS dX5_verdictOnBelt_159 (Eq.trans (zif_neg c_1) (Eq.trans (zif_neg c_10) (Eq.trans (zif_pos c_19) (Eq.trans (zif_pos w_20) (Eq.trans (zif_neg c_21) (Eq.trans (zif_neg c_22) rfl)))))) rfl (Nat.le_refl _) (Nat.le_refl _)
            · refine lv_iconst (v := iI 4) hx hb dX5_verdictOnBelt_154 rfl ?_
              refine lv_goto (tgt := 159) hx hb dX5_verdictOnBelt_155 (by decide) ?_
              exact z_iret hx hb hr hlocks hP hS dX5_verdictOnBelt_159 (Eq.trans (zif_neg c_1) (Eq.trans (zif_neg c_10) (Eq.trans (zif_pos c_19) (Eq.trans (zif_pos w_20) (Eq.trans (zif_neg c_21) (Eq.trans (zif_pos c_22) rfl)))))) rfl (Nat.le_refl _) (Nat.le_refl _)
          · refine lv_iconst (v := iI 3) hx hb dX5_verdictOnBelt_142 rfl ?_
            exact z_iret hx hb hr hlocks hP hS dX5_verdictOnBelt_143 (Eq.trans (zif_neg c_1) (Eq.trans (zif_neg c_10) (Eq.trans (zif_pos c_19) (Eq.trans (zif_pos w_20) (Eq.trans (zif_pos c_21) rfl))))) rfl (Nat.le_refl _) (Nat.le_refl _)
        · by_cases w_23 : p0 = 109
          · refine z_lookup hx hb dX5_verdictOnBelt_31 (by decide) (x := p0) ⟨by omega, by omega⟩ (off := 33) (tgt := 64) (by rw [w_23]; decide) (by decide) ?_
            refine lv_iload hx hb dX5_verdictOnBelt_64 (lv_at hl 0 rfl) ?_
            refine zi_if_ne (tgt := 72) hx hb dX5_verdictOnBelt_66 (by decide) ⟨by omega, by omega⟩ (fun c_24 => absurd c_24 (by omega)) (fun _ => ?_)
            refine lv_bipush (v := iI 7) hx hb dX5_verdictOnBelt_69 (by decide) ?_
            exact z_iret hx hb hr hlocks hP hS dX5_verdictOnBelt_71 (Eq.trans (zif_neg c_1) (Eq.trans (zif_neg c_10) (Eq.trans (zif_pos c_19) (Eq.trans (zif_neg w_20) (Eq.trans (zif_pos w_23) rfl))))) rfl (Nat.le_refl _) (Nat.le_refl _)
          · by_cases w_25 : p0 = 116
            · refine z_lookup hx hb dX5_verdictOnBelt_31 (by decide) (x := p0) ⟨by omega, by omega⟩ (off := 55) (tgt := 86) (by rw [w_25]; decide) (by decide) ?_
              refine lv_iload hx hb dX5_verdictOnBelt_86 (lv_at hl 0 rfl) ?_
              refine zi_if_ne (tgt := 94) hx hb dX5_verdictOnBelt_88 (by decide) ⟨by omega, by omega⟩ (fun c_26 => absurd c_26 (by omega)) (fun _ => ?_)
              refine lv_bipush (v := iI 7) hx hb dX5_verdictOnBelt_91 (by decide) ?_
              exact z_iret hx hb hr hlocks hP hS dX5_verdictOnBelt_93 (Eq.trans (zif_neg c_1) (Eq.trans (zif_neg c_10) (Eq.trans (zif_pos c_19) (Eq.trans (zif_neg w_20) (Eq.trans (zif_neg w_23) (Eq.trans (zif_pos w_25) rfl)))))) rfl (Nat.le_refl _) (Nat.le_refl _)
            · refine z_lookup hx hb dX5_verdictOnBelt_31 (by decide) (x := p0) ⟨by omega, by omega⟩ (off := 129) (tgt := 160) (by simp [Op.lookupswitch.offset, Ne.symm w_20, Ne.symm w_23, Ne.symm w_25]) (by decide) ?_
              refine lv_aload_n hx hb dX5_verdictOnBelt_160 rfl (lv_at hl 1 rfl) ?_
              refine lv_iload_n hx hb dX5_verdictOnBelt_161 rfl (lv_at hl 3 rfl) ?_
              refine z_ai0 (va_runV (As := [.int (iI 1)]) (rest := []) ⟨hx, hb, hml, hown, hts⟩ (c_X5_isFull_1 l D k a0 S0   (by omega) _) (cwV 1 hts gX5_verdictOnBelt_X5_isFull rfl rfl rfl (by decide +kernel) ⟨(Nat.le_of_ble_eq_true rfl), (Nat.le_of_ble_eq_true rfl)⟩) (z_preV hK hG hA hP hD hS [0, 1, 2, 3, 4, 5, 6, 7, 8, 9, 10, 11, 12, 13, 14] rfl (by decide) 7 rfl rfl) rfl rfl hl.1 rfl (lv_room (Nat.le_of_ble_eq_true rfl)) dX5_verdictOnBelt_162 ⟨(Nat.le_of_ble_eq_true rfl), (Nat.le_of_ble_eq_true rfl)⟩) hA hP hD hS [0, 1, 2, 3, 4, 5, 6, 7, 8, 9, 10, 11, 12, 13, 14] rfl (fun H locs hP hS => ?_)
              refine zi_if_eqB (tgt := 172) hx hb dX5_verdictOnBelt_165 (by decide) (fun c_27 => ?_) (fun c_27 => ?_)
              · refine lv_iconst (v := iI 0) hx hb dX5_verdictOnBelt_172 rfl ?_
                exact z_iret hx hb hr hlocks hP hS dX5_verdictOnBelt_173 (Eq.trans (zif_neg c_1) (Eq.trans (zif_neg c_10) (Eq.trans (zif_pos c_19) (Eq.trans (zif_neg w_20) (Eq.trans (zif_neg w_23) (Eq.trans (zif_neg w_25) (Eq.trans (zif_neg c_27) rfl))))))) rfl (Nat.le_refl _) (Nat.le_refl _)
              · refine lv_iconst (v := iI 1) hx hb dX5_verdictOnBelt_168 rfl ?_
                refine lv_goto (tgt := 173) hx hb dX5_verdictOnBelt_169 (by decide) ?_
                exact z_iret hx hb hr hlocks hP hS dX5_verdictOnBelt_173 (Eq.trans (zif_neg c_1) (Eq.trans (zif_neg c_10) (Eq.trans (zif_pos c_19) (Eq.trans (zif_neg w_20) (Eq.trans (zif_neg w_23) (Eq.trans (zif_neg w_25) (Eq.trans (zif_pos c_27) rfl))))))) rfl (Nat.le_refl _) (Nat.le_refl _)
      · refine lv_iload hx hb dX5_verdictOnBelt_16 (lv_at hl 4 rfl) ?_
        refine lv_bipush (v := iI 9) hx hb dX5_verdictOnBelt_18 (by decide) ?_
        refine zi_icmp_gt (tgt := 27) hx hb dX5_verdictOnBelt_20 (by decide) ⟨by omega, by omega⟩ ⟨by omega, by omega⟩ (fun c_28 => ?_) (fun c_28 => ?_)
        · refine lv_iconst (v := iI 0) hx hb dX5_verdictOnBelt_27 rfl ?_
          refine lv_istore (lv' := [(5, .int (iI 0)), (0, .ref (a0 0)), (1, .int (iI p0)), (2, .int (iI 1)), (3, .int (iI p2)), (4, .int (iI p3))]) hx hb dX5_verdictOnBelt_28 hl (by decide) rfl (fun ls hl => ?_)
          refine lv_iload_n hx hb dX5_verdictOnBelt_30 rfl (lv_at hl 2 rfl) ?_
          by_cases w_29 : p0 = 105
          · refine z_lookup hx hb dX5_verdictOnBelt_31 (by decide) (x := p0) ⟨by omega, by omega⟩ (off := 96) (tgt := 127) (by rw [w_29]; decide) (by decide) ?_
            refine lv_aload_n hx hb dX5_verdictOnBelt_127 rfl (lv_at hl 1 rfl) ?_
            refine va_get (D := D) (ci := 7) (v := .ref (a0 1)) (C := RX5) (T := TX5) (N := 11) hx hb hts (fun w h => List.mem_cons_of_mem _ (List.mem_append_left _ (List.mem_append_left _ (List.mem_append_left _ (List.mem_append_right _ h))))) hown hK hP 0 rfl rfl 0 (by decide) (hts (.fieldLink RX5 12 "MondayFactory$Plant" "belts" "[LMondayFactory$Belt;") (List.mem_of_getElem? (i := 1) rfl)) (fun _ h9 => h9) rfl dX5_verdictOnBelt_128 ?_
            refine lv_iload_n hx hb dX5_verdictOnBelt_131 rfl (lv_at hl 3 rfl) ?_
            refine z_aald hx hb hK hP 1 2 (f := fun j => some (a0 (2 + 3 * j))) (q := a0 5) rfl rfl (i := 1) (by omega) (by omega) (by decide) rfl dX5_verdictOnBelt_132 ?_
            refine va_get (D := D) (ci := 2) (v := .ref (a0 6)) (C := RX0) (T := TX0) (N := 6) hx hb hts (fun w h => List.mem_cons_of_mem _ (List.mem_append_left _ (List.mem_append_left _ (List.mem_append_right _ h)))) hown hK hP 5 rfl rfl 0 (by decide) (hts (.fieldLink RX5 98 "MondayFactory$Belt" "row" "LMondayFactory$Row;") (List.mem_of_getElem? (i := 4) rfl)) (fun _ h9 => h9) rfl dX5_verdictOnBelt_133 ?_
            refine va_get (D := D) (ci := 8) (v := .int (iI (S0 6 1))) (C := RX6) (T := TX6) (N := 2) hx hb hts (fun w h => List.mem_cons_of_mem _ (List.mem_append_left _ (List.mem_append_right _ h))) hown hK hP 6 rfl rfl 1 (by decide) (hts (.fieldLink RX5 101 "MondayFactory$Row" "count" "I") (List.mem_of_getElem? (i := 5) rfl)) (fun _ h9 => h9) rfl dX5_verdictOnBelt_136 ?_
            refine zi_if_ne (tgt := 144) hx hb dX5_verdictOnBelt_139 (by decide) ⟨by omega, by omega⟩ (fun c_30 => ?_) (fun c_30 => ?_)
            · refine lv_aload_n hx hb dX5_verdictOnBelt_144 rfl (lv_at hl 1 rfl) ?_
              refine va_get (D := D) (ci := 7) (v := .ref (a0 13)) (C := RX5) (T := TX5) (N := 11) hx hb hts (fun w h => List.mem_cons_of_mem _ (List.mem_append_left _ (List.mem_append_left _ (List.mem_append_left _ (List.mem_append_right _ h))))) hown hK hP 0 rfl rfl 2 (by decide) (hts (.fieldLink RX5 28 "MondayFactory$Plant" "crew" "LMondayFactory$Crew;") (List.mem_of_getElem? (i := 6) rfl)) (fun _ h9 => h9) rfl dX5_verdictOnBelt_145 ?_
              refine va_get (D := D) (ci := 3) (v := .int (iI (S0 13 1))) (C := RX1) (T := TX1) (N := 2) hx hb hts (fun w h => List.mem_cons_of_mem _ (List.mem_append_right _ h)) hown hK hP 13 rfl rfl 1 (by decide) (hts (.fieldLink RX5 67 "MondayFactory$Crew" "count" "I") (List.mem_of_getElem? (i := 7) rfl)) (fun _ h9 => h9) rfl dX5_verdictOnBelt_148 ?_
              refine zi_if_ne (tgt := 158) hx hb dX5_verdictOnBelt_151 (by decide) ⟨by omega, by omega⟩ (fun c_31 => ?_) (fun c_31 => ?_)
              · refine lv_iconst (v := iI 0) hx hb dX5_verdictOnBelt_158 rfl ?_
                exact z_iret hx hb hr hlocks hP hS dX5_verdictOnBelt_159 (Eq.trans (zif_neg c_1) (Eq.trans (zif_neg c_10) (Eq.trans (zif_neg c_19) (Eq.trans (zif_pos c_28) (Eq.trans (zif_pos w_29) (Eq.trans (zif_neg c_30) (Eq.trans (zif_neg c_31) rfl))))))) rfl (Nat.le_refl _) (Nat.le_refl _)
              · refine lv_iconst (v := iI 4) hx hb dX5_verdictOnBelt_154 rfl ?_
                refine lv_goto (tgt := 159) hx hb dX5_verdictOnBelt_155 (by decide) ?_
                exact z_iret hx hb hr hlocks hP hS dX5_verdictOnBelt_159 (Eq.trans (zif_neg c_1) (Eq.trans (zif_neg c_10) (Eq.trans (zif_neg c_19) (Eq.trans (zif_pos c_28) (Eq.trans (zif_pos w_29) (Eq.trans (zif_neg c_30) (Eq.trans (zif_pos c_31) rfl))))))) rfl (Nat.le_refl _) (Nat.le_refl _)
            · refine lv_iconst (v := iI 3) hx hb dX5_verdictOnBelt_142 rfl ?_
              exact z_iret hx hb hr hlocks hP hS dX5_verdictOnBelt_143 (Eq.trans (zif_neg c_1) (Eq.trans (zif_neg c_10) (Eq.trans (zif_neg c_19) (Eq.trans (zif_pos c_28) (Eq.trans (zif_pos w_29) (Eq.trans (zif_pos c_30) rfl)))))) rfl (Nat.le_refl _) (Nat.le_refl _)
          · by_cases w_32 : p0 = 109
            · refine z_lookup hx hb dX5_verdictOnBelt_31 (by decide) (x := p0) ⟨by omega, by omega⟩ (off := 33) (tgt := 64) (by rw [w_32]; decide) (by decide) ?_
              refine lv_iload hx hb dX5_verdictOnBelt_64 (lv_at hl 0 rfl) ?_
              refine zi_if_ne (tgt := 72) hx hb dX5_verdictOnBelt_66 (by decide) ⟨by omega, by omega⟩ (fun c_33 => absurd c_33 (by omega)) (fun _ => ?_)
              refine lv_bipush (v := iI 7) hx hb dX5_verdictOnBelt_69 (by decide) ?_
              exact z_iret hx hb hr hlocks hP hS dX5_verdictOnBelt_71 (Eq.trans (zif_neg c_1) (Eq.trans (zif_neg c_10) (Eq.trans (zif_neg c_19) (Eq.trans (zif_pos c_28) (Eq.trans (zif_neg w_29) (Eq.trans (zif_pos w_32) rfl)))))) rfl (Nat.le_refl _) (Nat.le_refl _)
            · by_cases w_34 : p0 = 116
              · refine z_lookup hx hb dX5_verdictOnBelt_31 (by decide) (x := p0) ⟨by omega, by omega⟩ (off := 55) (tgt := 86) (by rw [w_34]; decide) (by decide) ?_
                refine lv_iload hx hb dX5_verdictOnBelt_86 (lv_at hl 0 rfl) ?_
                refine zi_if_ne (tgt := 94) hx hb dX5_verdictOnBelt_88 (by decide) ⟨by omega, by omega⟩ (fun c_35 => absurd c_35 (by omega)) (fun _ => ?_)
                refine lv_bipush (v := iI 7) hx hb dX5_verdictOnBelt_91 (by decide) ?_
                exact z_iret hx hb hr hlocks hP hS dX5_verdictOnBelt_93 (Eq.trans (zif_neg c_1) (Eq.trans (zif_neg c_10) (Eq.trans (zif_neg c_19) (Eq.trans (zif_pos c_28) (Eq.trans (zif_neg w_29) (Eq.trans (zif_neg w_32) (Eq.trans (zif_pos w_34) rfl))))))) rfl (Nat.le_refl _) (Nat.le_refl _)
              · refine z_lookup hx hb dX5_verdictOnBelt_31 (by decide) (x := p0) ⟨by omega, by omega⟩ (off := 129) (tgt := 160) (by simp [Op.lookupswitch.offset, Ne.symm w_29, Ne.symm w_32, Ne.symm w_34]) (by decide) ?_
                refine lv_aload_n hx hb dX5_verdictOnBelt_160 rfl (lv_at hl 1 rfl) ?_
                refine lv_iload_n hx hb dX5_verdictOnBelt_161 rfl (lv_at hl 3 rfl) ?_
                refine z_ai0 (va_runV (As := [.int (iI 1)]) (rest := []) ⟨hx, hb, hml, hown, hts⟩ (c_X5_isFull_1 l D k a0 S0   (by omega) _) (cwV 1 hts gX5_verdictOnBelt_X5_isFull rfl rfl rfl (by decide +kernel) ⟨(Nat.le_of_ble_eq_true rfl), (Nat.le_of_ble_eq_true rfl)⟩) (z_preV hK hG hA hP hD hS [0, 1, 2, 3, 4, 5, 6, 7, 8, 9, 10, 11, 12, 13, 14] rfl (by decide) 7 rfl rfl) rfl rfl hl.1 rfl (lv_room (Nat.le_of_ble_eq_true rfl)) dX5_verdictOnBelt_162 ⟨(Nat.le_of_ble_eq_true rfl), (Nat.le_of_ble_eq_true rfl)⟩) hA hP hD hS [0, 1, 2, 3, 4, 5, 6, 7, 8, 9, 10, 11, 12, 13, 14] rfl (fun H locs hP hS => ?_)
                refine zi_if_eqB (tgt := 172) hx hb dX5_verdictOnBelt_165 (by decide) (fun c_36 => ?_) (fun c_36 => ?_)
                · refine lv_iconst (v := iI 0) hx hb dX5_verdictOnBelt_172 rfl ?_
                  exact z_iret hx hb hr hlocks hP hS dX5_verdictOnBelt_173 (Eq.trans (zif_neg c_1) (Eq.trans (zif_neg c_10) (Eq.trans (zif_neg c_19) (Eq.trans (zif_pos c_28) (Eq.trans (zif_neg w_29) (Eq.trans (zif_neg w_32) (Eq.trans (zif_neg w_34) (Eq.trans (zif_neg c_36) rfl)))))))) rfl (Nat.le_refl _) (Nat.le_refl _)
                · refine lv_iconst (v := iI 1) hx hb dX5_verdictOnBelt_168 rfl ?_
                  refine lv_goto (tgt := 173) hx hb dX5_verdictOnBelt_169 (by decide) ?_
                  exact z_iret hx hb hr hlocks hP hS dX5_verdictOnBelt_173 (Eq.trans (zif_neg c_1) (Eq.trans (zif_neg c_10) (Eq.trans (zif_neg c_19) (Eq.trans (zif_pos c_28) (Eq.trans (zif_neg w_29) (Eq.trans (zif_neg w_32) (Eq.trans (zif_neg w_34) (Eq.trans (zif_pos c_36) rfl)))))))) rfl (Nat.le_refl _) (Nat.le_refl _)
        · refine lv_iconst (v := iI 1) hx hb dX5_verdictOnBelt_23 rfl ?_
          refine lv_goto (tgt := 28) hx hb dX5_verdictOnBelt_24 (by decide) ?_
          refine lv_istore (lv' := [(5, .int (iI 1)), (0, .ref (a0 0)), (1, .int (iI p0)), (2, .int (iI 1)), (3, .int (iI p2)), (4, .int (iI p3))]) hx hb dX5_verdictOnBelt_28 hl (by decide) rfl (fun ls hl => ?_)
          refine lv_iload_n hx hb dX5_verdictOnBelt_30 rfl (lv_at hl 2 rfl) ?_
          by_cases w_37 : p0 = 105
          · refine z_lookup hx hb dX5_verdictOnBelt_31 (by decide) (x := p0) ⟨by omega, by omega⟩ (off := 96) (tgt := 127) (by rw [w_37]; decide) (by decide) ?_
            refine lv_aload_n hx hb dX5_verdictOnBelt_127 rfl (lv_at hl 1 rfl) ?_
            refine va_get (D := D) (ci := 7) (v := .ref (a0 1)) (C := RX5) (T := TX5) (N := 11) hx hb hts (fun w h => List.mem_cons_of_mem _ (List.mem_append_left _ (List.mem_append_left _ (List.mem_append_left _ (List.mem_append_right _ h))))) hown hK hP 0 rfl rfl 0 (by decide) (hts (.fieldLink RX5 12 "MondayFactory$Plant" "belts" "[LMondayFactory$Belt;") (List.mem_of_getElem? (i := 1) rfl)) (fun _ h9 => h9) rfl dX5_verdictOnBelt_128 ?_
            refine lv_iload_n hx hb dX5_verdictOnBelt_131 rfl (lv_at hl 3 rfl) ?_
            refine z_aald hx hb hK hP 1 2 (f := fun j => some (a0 (2 + 3 * j))) (q := a0 5) rfl rfl (i := 1) (by omega) (by omega) (by decide) rfl dX5_verdictOnBelt_132 ?_
            refine va_get (D := D) (ci := 2) (v := .ref (a0 6)) (C := RX0) (T := TX0) (N := 6) hx hb hts (fun w h => List.mem_cons_of_mem _ (List.mem_append_left _ (List.mem_append_left _ (List.mem_append_right _ h)))) hown hK hP 5 rfl rfl 0 (by decide) (hts (.fieldLink RX5 98 "MondayFactory$Belt" "row" "LMondayFactory$Row;") (List.mem_of_getElem? (i := 4) rfl)) (fun _ h9 => h9) rfl dX5_verdictOnBelt_133 ?_
            refine va_get (D := D) (ci := 8) (v := .int (iI (S0 6 1))) (C := RX6) (T := TX6) (N := 2) hx hb hts (fun w h => List.mem_cons_of_mem _ (List.mem_append_left _ (List.mem_append_right _ h))) hown hK hP 6 rfl rfl 1 (by decide) (hts (.fieldLink RX5 101 "MondayFactory$Row" "count" "I") (List.mem_of_getElem? (i := 5) rfl)) (fun _ h9 => h9) rfl dX5_verdictOnBelt_136 ?_
            refine zi_if_ne (tgt := 144) hx hb dX5_verdictOnBelt_139 (by decide) ⟨by omega, by omega⟩ (fun c_38 => ?_) (fun c_38 => ?_)
            · refine lv_aload_n hx hb dX5_verdictOnBelt_144 rfl (lv_at hl 1 rfl) ?_
              refine va_get (D := D) (ci := 7) (v := .ref (a0 13)) (C := RX5) (T := TX5) (N := 11) hx hb hts (fun w h => List.mem_cons_of_mem _ (List.mem_append_left _ (List.mem_append_left _ (List.mem_append_left _ (List.mem_append_right _ h))))) hown hK hP 0 rfl rfl 2 (by decide) (hts (.fieldLink RX5 28 "MondayFactory$Plant" "crew" "LMondayFactory$Crew;") (List.mem_of_getElem? (i := 6) rfl)) (fun _ h9 => h9) rfl dX5_verdictOnBelt_145 ?_
              refine va_get (D := D) (ci := 3) (v := .int (iI (S0 13 1))) (C := RX1) (T := TX1) (N := 2) hx hb hts (fun w h => List.mem_cons_of_mem _ (List.mem_append_right _ h)) hown hK hP 13 rfl rfl 1 (by decide) (hts (.fieldLink RX5 67 "MondayFactory$Crew" "count" "I") (List.mem_of_getElem? (i := 7) rfl)) (fun _ h9 => h9) rfl dX5_verdictOnBelt_148 ?_
              refine zi_if_ne (tgt := 158) hx hb dX5_verdictOnBelt_151 (by decide) ⟨by omega, by omega⟩ (fun c_39 => ?_) (fun c_39 => ?_)
              · refine lv_iconst (v := iI 0) hx hb dX5_verdictOnBelt_158 rfl ?_
                exact z_iret hx hb hr hlocks hP hS dX5_verdictOnBelt_159 (Eq.trans (zif_neg c_1) (Eq.trans (zif_neg c_10) (Eq.trans (zif_neg c_19) (Eq.trans (zif_neg c_28) (Eq.trans (zif_pos w_37) (Eq.trans (zif_neg c_38) (Eq.trans (zif_neg c_39) rfl))))))) rfl (Nat.le_refl _) (Nat.le_refl _)
              · refine lv_iconst (v := iI 4) hx hb dX5_verdictOnBelt_154 rfl ?_
                refine lv_goto (tgt := 159) hx hb dX5_verdictOnBelt_155 (by decide) ?_
                exact z_iret hx hb hr hlocks hP hS dX5_verdictOnBelt_159 (Eq.trans (zif_neg c_1) (Eq.trans (zif_neg c_10) (Eq.trans (zif_neg c_19) (Eq.trans (zif_neg c_28) (Eq.trans (zif_pos w_37) (Eq.trans (zif_neg c_38) (Eq.trans (zif_pos c_39) rfl))))))) rfl (Nat.le_refl _) (Nat.le_refl _)
            · refine lv_iconst (v := iI 3) hx hb dX5_verdictOnBelt_142 rfl ?_
              exact z_iret hx hb hr hlocks hP hS dX5_verdictOnBelt_143 (Eq.trans (zif_neg c_1) (Eq.trans (zif_neg c_10) (Eq.trans (zif_neg c_19) (Eq.trans (zif_neg c_28) (Eq.trans (zif_pos w_37) (Eq.trans (zif_pos c_38) rfl)))))) rfl (Nat.le_refl _) (Nat.le_refl _)
          · by_cases w_40 : p0 = 109
            · refine z_lookup hx hb dX5_verdictOnBelt_31 (by decide) (x := p0) ⟨by omega, by omega⟩ (off := 33) (tgt := 64) (by rw [w_40]; decide) (by decide) ?_
              refine lv_iload hx hb dX5_verdictOnBelt_64 (lv_at hl 0 rfl) ?_
              refine zi_if_ne (tgt := 72) hx hb dX5_verdictOnBelt_66 (by decide) ⟨by omega, by omega⟩ (fun _ => ?_) (fun c_41 => absurd c_41 (by omega))
              refine lv_aload_n hx hb dX5_verdictOnBelt_72 rfl (lv_at hl 1 rfl) ?_
              refine lv_iload_n hx hb dX5_verdictOnBelt_73 rfl (lv_at hl 3 rfl) ?_
              refine z_ai0 (va_runV (As := [.int (iI 1)]) (rest := []) ⟨hx, hb, hml, hown, hts⟩ (c_X5_isFull_1 l D k a0 S0   (by omega) _) (cwV 1 hts gX5_verdictOnBelt_X5_isFull rfl rfl rfl (by decide +kernel) ⟨(Nat.le_of_ble_eq_true rfl), (Nat.le_of_ble_eq_true rfl)⟩) (z_preV hK hG hA hP hD hS [0, 1, 2, 3, 4, 5, 6, 7, 8, 9, 10, 11, 12, 13, 14] rfl (by decide) 7 rfl rfl) rfl rfl hl.1 rfl (lv_room (Nat.le_of_ble_eq_true rfl)) dX5_verdictOnBelt_74 ⟨(Nat.le_of_ble_eq_true rfl), (Nat.le_of_ble_eq_true rfl)⟩) hA hP hD hS [0, 1, 2, 3, 4, 5, 6, 7, 8, 9, 10, 11, 12, 13, 14] rfl (fun H locs hP hS => ?_)
              refine zi_if_eqB (tgt := 84) hx hb dX5_verdictOnBelt_77 (by decide) (fun c_42 => ?_) (fun c_42 => ?_)
              · refine lv_iconst (v := iI 0) hx hb dX5_verdictOnBelt_84 rfl ?_
                exact z_iret hx hb hr hlocks hP hS dX5_verdictOnBelt_85 (Eq.trans (zif_neg c_1) (Eq.trans (zif_neg c_10) (Eq.trans (zif_neg c_19) (Eq.trans (zif_neg c_28) (Eq.trans (zif_neg w_37) (Eq.trans (zif_pos w_40) (Eq.trans (zif_neg c_42) rfl))))))) rfl (Nat.le_refl _) (Nat.le_refl _)
              · refine lv_iconst (v := iI 1) hx hb dX5_verdictOnBelt_80 rfl ?_
                refine lv_goto (tgt := 85) hx hb dX5_verdictOnBelt_81 (by decide) ?_
                exact z_iret hx hb hr hlocks hP hS dX5_verdictOnBelt_85 (Eq.trans (zif_neg c_1) (Eq.trans (zif_neg c_10) (Eq.trans (zif_neg c_19) (Eq.trans (zif_neg c_28) (Eq.trans (zif_neg w_37) (Eq.trans (zif_pos w_40) (Eq.trans (zif_pos c_42) rfl))))))) rfl (Nat.le_refl _) (Nat.le_refl _)
            · by_cases w_43 : p0 = 116
              · refine z_lookup hx hb dX5_verdictOnBelt_31 (by decide) (x := p0) ⟨by omega, by omega⟩ (off := 55) (tgt := 86) (by rw [w_43]; decide) (by decide) ?_
                refine lv_iload hx hb dX5_verdictOnBelt_86 (lv_at hl 0 rfl) ?_
                refine zi_if_ne (tgt := 94) hx hb dX5_verdictOnBelt_88 (by decide) ⟨by omega, by omega⟩ (fun _ => ?_) (fun c_44 => absurd c_44 (by omega))
                refine lv_iload_n hx hb dX5_verdictOnBelt_94 rfl (lv_at hl 4 rfl) ?_
                refine lv_aload_n hx hb dX5_verdictOnBelt_95 rfl (lv_at hl 1 rfl) ?_
                refine va_get (D := D) (ci := 7) (v := .ref (a0 1)) (C := RX5) (T := TX5) (N := 11) hx hb hts (fun w h => List.mem_cons_of_mem _ (List.mem_append_left _ (List.mem_append_left _ (List.mem_append_left _ (List.mem_append_right _ h))))) hown hK hP 0 rfl rfl 0 (by decide) (hts (.fieldLink RX5 12 "MondayFactory$Plant" "belts" "[LMondayFactory$Belt;") (List.mem_of_getElem? (i := 1) rfl)) (fun _ h9 => h9) rfl dX5_verdictOnBelt_96 ?_
                refine lv_iload_n hx hb dX5_verdictOnBelt_99 rfl (lv_at hl 3 rfl) ?_
                refine z_aald hx hb hK hP 1 2 (f := fun j => some (a0 (2 + 3 * j))) (q := a0 5) rfl rfl (i := 1) (by omega) (by omega) (by decide) rfl dX5_verdictOnBelt_100 ?_
                have f_45 := hB05 1
                refine va_get (D := D) (ci := 2) (v := .int (iI (S0 5 1))) (C := RX0) (T := TX0) (N := 6) hx hb hts (fun w h => List.mem_cons_of_mem _ (List.mem_append_left _ (List.mem_append_left _ (List.mem_append_right _ h)))) hown hK hP 5 rfl rfl 1 (by decide) (hts (.fieldLink RX5 92 "MondayFactory$Belt" "least" "I") (List.mem_of_getElem? (i := 2) rfl)) (fun _ h9 => h9) rfl dX5_verdictOnBelt_101 ?_
                refine zi_icmp_ne (tgt := 125) hx hb dX5_verdictOnBelt_104 (by decide) ⟨by omega, by omega⟩ ⟨by omega, by omega⟩ (fun c_46 => ?_) (fun c_46 => ?_)
                · refine lv_iconst (v := iI 0) hx hb dX5_verdictOnBelt_125 rfl ?_
                  exact z_iret hx hb hr hlocks hP hS dX5_verdictOnBelt_126 (Eq.trans (zif_neg c_1) (Eq.trans (zif_neg c_10) (Eq.trans (zif_neg c_19) (Eq.trans (zif_neg c_28) (Eq.trans (zif_neg w_37) (Eq.trans (zif_neg w_40) (Eq.trans (zif_pos w_43) (Eq.trans (zif_neg c_46) rfl)))))))) rfl (Nat.le_refl _) (Nat.le_refl _)
                · refine lv_iload hx hb dX5_verdictOnBelt_107 (lv_at hl 5 rfl) ?_
                  refine lv_aload_n hx hb dX5_verdictOnBelt_109 rfl (lv_at hl 1 rfl) ?_
                  refine va_get (D := D) (ci := 7) (v := .ref (a0 1)) (C := RX5) (T := TX5) (N := 11) hx hb hts (fun w h => List.mem_cons_of_mem _ (List.mem_append_left _ (List.mem_append_left _ (List.mem_append_left _ (List.mem_append_right _ h))))) hown hK hP 0 rfl rfl 0 (by decide) (hts (.fieldLink RX5 12 "MondayFactory$Plant" "belts" "[LMondayFactory$Belt;") (List.mem_of_getElem? (i := 1) rfl)) (fun _ h9 => h9) rfl dX5_verdictOnBelt_110 ?_
                  refine lv_iload_n hx hb dX5_verdictOnBelt_113 rfl (lv_at hl 3 rfl) ?_
                  refine z_aald hx hb hK hP 1 2 (f := fun j => some (a0 (2 + 3 * j))) (q := a0 5) rfl rfl (i := 1) (by omega) (by omega) (by decide) rfl dX5_verdictOnBelt_114 ?_
                  have f_47 := hB05 2
                  refine va_get (D := D) (ci := 2) (v := .int (iI (S0 5 2))) (C := RX0) (T := TX0) (N := 6) hx hb hts (fun w h => List.mem_cons_of_mem _ (List.mem_append_left _ (List.mem_append_left _ (List.mem_append_right _ h)))) hown hK hP 5 rfl rfl 2 (by decide) (hts (.fieldLink RX5 95 "MondayFactory$Belt" "latest" "I") (List.mem_of_getElem? (i := 3) rfl)) (fun _ h9 => h9) rfl dX5_verdictOnBelt_115 ?_
                  refine zi_icmp_ne (tgt := 125) hx hb dX5_verdictOnBelt_118 (by decide) ⟨by omega, by omega⟩ ⟨by omega, by omega⟩ (fun c_48 => ?_) (fun c_48 => ?_)
                  · refine lv_iconst (v := iI 0) hx hb dX5_verdictOnBelt_125 rfl ?_
                    exact z_iret hx hb hr hlocks hP hS dX5_verdictOnBelt_126 (Eq.trans (zif_neg c_1) (Eq.trans (zif_neg c_10) (Eq.trans (zif_neg c_19) (Eq.trans (zif_neg c_28) (Eq.trans (zif_neg w_37) (Eq.trans (zif_neg w_40) (Eq.trans (zif_pos w_43) (Eq.trans (zif_pos c_46) (Eq.trans (zif_neg c_48) rfl))))))))) rfl (Nat.le_refl _) (Nat.le_refl _)
                  · refine lv_iconst (v := iI 2) hx hb dX5_verdictOnBelt_121 rfl ?_
                    refine lv_goto (tgt := 126) hx hb dX5_verdictOnBelt_122 (by decide) ?_
                    exact z_iret hx hb hr hlocks hP hS dX5_verdictOnBelt_126 (Eq.trans (zif_neg c_1) (Eq.trans (zif_neg c_10) (Eq.trans (zif_neg c_19) (Eq.trans (zif_neg c_28) (Eq.trans (zif_neg w_37) (Eq.trans (zif_neg w_40) (Eq.trans (zif_pos w_43) (Eq.trans (zif_pos c_46) (Eq.trans (zif_pos c_48) rfl))))))))) rfl (Nat.le_refl _) (Nat.le_refl _)
              · refine z_lookup hx hb dX5_verdictOnBelt_31 (by decide) (x := p0) ⟨by omega, by omega⟩ (off := 129) (tgt := 160) (by simp [Op.lookupswitch.offset, Ne.symm w_37, Ne.symm w_40, Ne.symm w_43]) (by decide) ?_
                refine lv_aload_n hx hb dX5_verdictOnBelt_160 rfl (lv_at hl 1 rfl) ?_
                refine lv_iload_n hx hb dX5_verdictOnBelt_161 rfl (lv_at hl 3 rfl) ?_
                refine z_ai0 (va_runV (As := [.int (iI 1)]) (rest := []) ⟨hx, hb, hml, hown, hts⟩ (c_X5_isFull_1 l D k a0 S0   (by omega) _) (cwV 1 hts gX5_verdictOnBelt_X5_isFull rfl rfl rfl (by decide +kernel) ⟨(Nat.le_of_ble_eq_true rfl), (Nat.le_of_ble_eq_true rfl)⟩) (z_preV hK hG hA hP hD hS [0, 1, 2, 3, 4, 5, 6, 7, 8, 9, 10, 11, 12, 13, 14] rfl (by decide) 7 rfl rfl) rfl rfl hl.1 rfl (lv_room (Nat.le_of_ble_eq_true rfl)) dX5_verdictOnBelt_162 ⟨(Nat.le_of_ble_eq_true rfl), (Nat.le_of_ble_eq_true rfl)⟩) hA hP hD hS [0, 1, 2, 3, 4, 5, 6, 7, 8, 9, 10, 11, 12, 13, 14] rfl (fun H locs hP hS => ?_)
                refine zi_if_eqB (tgt := 172) hx hb dX5_verdictOnBelt_165 (by decide) (fun c_49 => ?_) (fun c_49 => ?_)
                · refine lv_iconst (v := iI 0) hx hb dX5_verdictOnBelt_172 rfl ?_
                  exact z_iret hx hb hr hlocks hP hS dX5_verdictOnBelt_173 (Eq.trans (zif_neg c_1) (Eq.trans (zif_neg c_10) (Eq.trans (zif_neg c_19) (Eq.trans (zif_neg c_28) (Eq.trans (zif_neg w_37) (Eq.trans (zif_neg w_40) (Eq.trans (zif_neg w_43) (Eq.trans (zif_neg c_49) rfl)))))))) rfl (Nat.le_refl _) (Nat.le_refl _)
                · refine lv_iconst (v := iI 1) hx hb dX5_verdictOnBelt_168 rfl ?_
                  refine lv_goto (tgt := 173) hx hb dX5_verdictOnBelt_169 (by decide) ?_
                  exact z_iret hx hb hr hlocks hP hS dX5_verdictOnBelt_173 (Eq.trans (zif_neg c_1) (Eq.trans (zif_neg c_10) (Eq.trans (zif_neg c_19) (Eq.trans (zif_neg c_28) (Eq.trans (zif_neg w_37) (Eq.trans (zif_neg w_40) (Eq.trans (zif_neg w_43) (Eq.trans (zif_pos c_49) rfl)))))))) rfl (Nat.le_refl _) (Nat.le_refl _)
theorem e_X5_verdictOnBelt_1 (S0 : Nat → Nat → Int) (p0 : Int) (p2 : Int) (p3 : Int) (Q : Int → Prop) (L0 : (p2 < 0) → (p0 = 105) → ((S0 6 1) = 0) → Q (3))
  (L1 : (p2 < 0) → (p0 = 105) → (¬ ((S0 6 1) = 0)) → ((S0 13 1) = 0) → Q (4))
  (L2 : (p2 < 0) → (p0 = 105) → (¬ ((S0 6 1) = 0)) → (¬ ((S0 13 1) = 0)) → Q (0))
  (L3 : (p2 < 0) → (¬ (p0 = 105)) → (p0 = 109) → Q (7))
  (L4 : (p2 < 0) → (¬ (p0 = 105)) → (¬ (p0 = 109)) → (p0 = 116) → Q (7))
  (L5 : (p2 < 0) → (¬ (p0 = 105)) → (¬ (p0 = 109)) → (¬ (p0 = 116)) → (5 ≤ S0 6 1) → Q (1))
  (L6 : (p2 < 0) → (¬ (p0 = 105)) → (¬ (p0 = 109)) → (¬ (p0 = 116)) → (¬ (5 ≤ S0 6 1)) → Q (0))
  (L7 : (¬ (p2 < 0)) → (9 < p2) → (p0 = 105) → ((S0 6 1) = 0) → Q (3))
  (L8 : (¬ (p2 < 0)) → (9 < p2) → (p0 = 105) → (¬ ((S0 6 1) = 0)) → ((S0 13 1) = 0) → Q (4))
  (L9 : (¬ (p2 < 0)) → (9 < p2) → (p0 = 105) → (¬ ((S0 6 1) = 0)) → (¬ ((S0 13 1) = 0)) → Q (0))
  (L10 : (¬ (p2 < 0)) → (9 < p2) → (¬ (p0 = 105)) → (p0 = 109) → Q (7))
  (L11 : (¬ (p2 < 0)) → (9 < p2) → (¬ (p0 = 105)) → (¬ (p0 = 109)) → (p0 = 116) → Q (7))
  (L12 : (¬ (p2 < 0)) → (9 < p2) → (¬ (p0 = 105)) → (¬ (p0 = 109)) → (¬ (p0 = 116)) → (5 ≤ S0 6 1) → Q (1))
  (L13 : (¬ (p2 < 0)) → (9 < p2) → (¬ (p0 = 105)) → (¬ (p0 = 109)) → (¬ (p0 = 116)) → (¬ (5 ≤ S0 6 1)) → Q (0))
  (L14 : (¬ (p2 < 0)) → (¬ (9 < p2)) → (p3 < 4) → (p0 = 105) → ((S0 6 1) = 0) → Q (3))
  (L15 : (¬ (p2 < 0)) → (¬ (9 < p2)) → (p3 < 4) → (p0 = 105) → (¬ ((S0 6 1) = 0)) → ((S0 13 1) = 0) → Q (4))
  (L16 : (¬ (p2 < 0)) → (¬ (9 < p2)) → (p3 < 4) → (p0 = 105) → (¬ ((S0 6 1) = 0)) → (¬ ((S0 13 1) = 0)) → Q (0))
  (L17 : (¬ (p2 < 0)) → (¬ (9 < p2)) → (p3 < 4) → (¬ (p0 = 105)) → (p0 = 109) → Q (7))
  (L18 : (¬ (p2 < 0)) → (¬ (9 < p2)) → (p3 < 4) → (¬ (p0 = 105)) → (¬ (p0 = 109)) → (p0 = 116) → Q (7))
  (L19 : (¬ (p2 < 0)) → (¬ (9 < p2)) → (p3 < 4) → (¬ (p0 = 105)) → (¬ (p0 = 109)) → (¬ (p0 = 116)) → (5 ≤ S0 6 1) → Q (1))
  (L20 : (¬ (p2 < 0)) → (¬ (9 < p2)) → (p3 < 4) → (¬ (p0 = 105)) → (¬ (p0 = 109)) → (¬ (p0 = 116)) → (¬ (5 ≤ S0 6 1)) → Q (0))
  (L21 : (¬ (p2 < 0)) → (¬ (9 < p2)) → (¬ (p3 < 4)) → (9 < p3) → (p0 = 105) → ((S0 6 1) = 0) → Q (3))
  (L22 : (¬ (p2 < 0)) → (¬ (9 < p2)) → (¬ (p3 < 4)) → (9 < p3) → (p0 = 105) → (¬ ((S0 6 1) = 0)) → ((S0 13 1) = 0) → Q (4))
  (L23 : (¬ (p2 < 0)) → (¬ (9 < p2)) → (¬ (p3 < 4)) → (9 < p3) → (p0 = 105) → (¬ ((S0 6 1) = 0)) → (¬ ((S0 13 1) = 0)) → Q (0))
  (L24 : (¬ (p2 < 0)) → (¬ (9 < p2)) → (¬ (p3 < 4)) → (9 < p3) → (¬ (p0 = 105)) → (p0 = 109) → Q (7))
  (L25 : (¬ (p2 < 0)) → (¬ (9 < p2)) → (¬ (p3 < 4)) → (9 < p3) → (¬ (p0 = 105)) → (¬ (p0 = 109)) → (p0 = 116) → Q (7))
  (L26 : (¬ (p2 < 0)) → (¬ (9 < p2)) → (¬ (p3 < 4)) → (9 < p3) → (¬ (p0 = 105)) → (¬ (p0 = 109)) → (¬ (p0 = 116)) → (5 ≤ S0 6 1) → Q (1))
  (L27 : (¬ (p2 < 0)) → (¬ (9 < p2)) → (¬ (p3 < 4)) → (9 < p3) → (¬ (p0 = 105)) → (¬ (p0 = 109)) → (¬ (p0 = 116)) → (¬ (5 ≤ S0 6 1)) → Q (0))
  (L28 : (¬ (p2 < 0)) → (¬ (9 < p2)) → (¬ (p3 < 4)) → (¬ (9 < p3)) → (p0 = 105) → ((S0 6 1) = 0) → Q (3))
  (L29 : (¬ (p2 < 0)) → (¬ (9 < p2)) → (¬ (p3 < 4)) → (¬ (9 < p3)) → (p0 = 105) → (¬ ((S0 6 1) = 0)) → ((S0 13 1) = 0) → Q (4))
  (L30 : (¬ (p2 < 0)) → (¬ (9 < p2)) → (¬ (p3 < 4)) → (¬ (9 < p3)) → (p0 = 105) → (¬ ((S0 6 1) = 0)) → (¬ ((S0 13 1) = 0)) → Q (0))
  (L31 : (¬ (p2 < 0)) → (¬ (9 < p2)) → (¬ (p3 < 4)) → (¬ (9 < p3)) → (¬ (p0 = 105)) → (p0 = 109) → (5 ≤ S0 6 1) → Q (1))
  (L32 : (¬ (p2 < 0)) → (¬ (9 < p2)) → (¬ (p3 < 4)) → (¬ (9 < p3)) → (¬ (p0 = 105)) → (p0 = 109) → (¬ (5 ≤ S0 6 1)) → Q (0))
  (L33 : (¬ (p2 < 0)) → (¬ (9 < p2)) → (¬ (p3 < 4)) → (¬ (9 < p3)) → (¬ (p0 = 105)) → (¬ (p0 = 109)) → (p0 = 116) → (p2 = (S0 5 1)) → (p3 = (S0 5 2)) → Q (2))
  (L34 : (¬ (p2 < 0)) → (¬ (9 < p2)) → (¬ (p3 < 4)) → (¬ (9 < p3)) → (¬ (p0 = 105)) → (¬ (p0 = 109)) → (p0 = 116) → (p2 = (S0 5 1)) → (¬ (p3 = (S0 5 2))) → Q (0))
  (L35 : (¬ (p2 < 0)) → (¬ (9 < p2)) → (¬ (p3 < 4)) → (¬ (9 < p3)) → (¬ (p0 = 105)) → (¬ (p0 = 109)) → (p0 = 116) → (¬ (p2 = (S0 5 1))) → Q (0))
  (L36 : (¬ (p2 < 0)) → (¬ (9 < p2)) → (¬ (p3 < 4)) → (¬ (9 < p3)) → (¬ (p0 = 105)) → (¬ (p0 = 109)) → (¬ (p0 = 116)) → (5 ≤ S0 6 1) → Q (1))
  (L37 : (¬ (p2 < 0)) → (¬ (9 < p2)) → (¬ (p3 < 4)) → (¬ (9 < p3)) → (¬ (p0 = 105)) → (¬ (p0 = 109)) → (¬ (p0 = 116)) → (¬ (5 ≤ S0 6 1)) → Q (0)) : Q (sp_X5_verdictOnBelt_1 S0 p0 p2 p3) := by
  unfold sp_X5_verdictOnBelt_1
  exact (el1 (fun h0 => (el1 (fun h1 => (el1 (fun h2 => (L0 h0 h1 h2)) (fun h2 => (el1 (fun h3 => (L1 h0 h1 h2 h3)) (fun h3 => (L2 h0 h1 h2 h3)))))) (fun h1 => (el1 (fun h2 => (L3 h0 h1 h2)) (fun h2 => (el1 (fun h3 => (L4 h0 h1 h2 h3)) (fun h3 => (el1 (fun h4 => (L5 h0 h1 h2 h3 h4)) (fun h4 => (L6 h0 h1 h2 h3 h4)))))))))) (fun h0 => (el1 (fun h1 => (el1 (fun h2 => (el1 (fun h3 => (L7 h0 h1 h2 h3)) (fun h3 => (el1 (fun h4 => (L8 h0 h1 h2 h3 h4)) (fun h4 => (L9 h0 h1 h2 h3 h4)))))) (fun h2 => (el1 (fun h3 => (L10 h0 h1 h2 h3)) (fun h3 => (el1 (fun h4 => (L11 h0 h1 h2 h3 h4)) (fun h4 => (el1 (fun h5 => (L12 h0 h1 h2 h3 h4 h5)) (fun h5 => (L13 h0 h1 h2 h3 h4 h5)))))))))) (fun h1 => (el1 (fun h2 => (el1 (fun h3 => (el1 (fun h4 => (L14 h0 h1 h2 h3 h4)) (fun h4 => (el1 (fun h5 => (L15 h0 h1 h2 h3 h4 h5)) (fun h5 => (L16 h0 h1 h2 h3 h4 h5)))))) (fun h3 => (el1 (fun h4 => (L17 h0 h1 h2 h3 h4)) (fun h4 => (el1 (fun h5 => (L18 h0 h1 h2 h3 h4 h5)) (fun h5 => (el1 (fun h6 => (L19 h0 h1 h2 h3 h4 h5 h6)) (fun h6 => (L20 h0 h1 h2 h3 h4 h5 h6)))))))))) (fun h2 => (el1 (fun h3 => (el1 (fun h4 => (el1 (fun h5 => (L21 h0 h1 h2 h3 h4 h5)) (fun h5 => (el1 (fun h6 => (L22 h0 h1 h2 h3 h4 h5 h6)) (fun h6 => (L23 h0 h1 h2 h3 h4 h5 h6)))))) (fun h4 => (el1 (fun h5 => (L24 h0 h1 h2 h3 h4 h5)) (fun h5 => (el1 (fun h6 => (L25 h0 h1 h2 h3 h4 h5 h6)) (fun h6 => (el1 (fun h7 => (L26 h0 h1 h2 h3 h4 h5 h6 h7)) (fun h7 => (L27 h0 h1 h2 h3 h4 h5 h6 h7)))))))))) (fun h3 => (el1 (fun h4 => (el1 (fun h5 => (L28 h0 h1 h2 h3 h4 h5)) (fun h5 => (el1 (fun h6 => (L29 h0 h1 h2 h3 h4 h5 h6)) (fun h6 => (L30 h0 h1 h2 h3 h4 h5 h6)))))) (fun h4 => (el1 (fun h5 => (el1 (fun h6 => (L31 h0 h1 h2 h3 h4 h5 h6)) (fun h6 => (L32 h0 h1 h2 h3 h4 h5 h6)))) (fun h5 => (el1 (fun h6 => (el1 (fun h7 => (el1 (fun h8 => (L33 h0 h1 h2 h3 h4 h5 h6 h7 h8)) (fun h8 => (L34 h0 h1 h2 h3 h4 h5 h6 h7 h8)))) (fun h7 => (L35 h0 h1 h2 h3 h4 h5 h6 h7)))) (fun h6 => (el1 (fun h7 => (L36 h0 h1 h2 h3 h4 h5 h6 h7)) (fun h7 => (L37 h0 h1 h2 h3 h4 h5 h6 h7)))))))))))))))))
noncomputable def sp_X5_verdictOnBelt_2 (S0 : Nat → Nat → Int) (p0 : Int) (p2 : Int) (p3 : Int) : Int := zif (p2 < 0)
  (zif (p0 = 105)
    (zif ((S0 9 1) = 0)
      (3)
      (zif ((S0 13 1) = 0)
        (4)
        (0)))
    (zif (p0 = 109)
      (7)
      (zif (p0 = 116)
        (7)
        (zif (5 ≤ S0 9 1)
          (1)
          (0)))))
  (zif (9 < p2)
    (zif (p0 = 105)
      (zif ((S0 9 1) = 0)
        (3)
        (zif ((S0 13 1) = 0)
          (4)
          (0)))
      (zif (p0 = 109)
        (7)
        (zif (p0 = 116)
          (7)
          (zif (5 ≤ S0 9 1)
            (1)
            (0)))))
    (zif (p3 < 4)
      (zif (p0 = 105)
        (zif ((S0 9 1) = 0)
          (3)
          (zif ((S0 13 1) = 0)
            (4)
            (0)))
        (zif (p0 = 109)
          (7)
          (zif (p0 = 116)
            (7)
            (zif (5 ≤ S0 9 1)
              (1)
              (0)))))
      (zif (9 < p3)
        (zif (p0 = 105)
          (zif ((S0 9 1) = 0)
            (3)
            (zif ((S0 13 1) = 0)
              (4)
              (0)))
          (zif (p0 = 109)
            (7)
            (zif (p0 = 116)
              (7)
              (zif (5 ≤ S0 9 1)
                (1)
                (0)))))
        (zif (p0 = 105)
          (zif ((S0 9 1) = 0)
            (3)
            (zif ((S0 13 1) = 0)
              (4)
              (0)))
          (zif (p0 = 109)
            (zif (5 ≤ S0 9 1)
              (1)
              (0))
            (zif (p0 = 116)
              (zif (p2 = (S0 8 1))
                (zif (p3 = (S0 8 2))
                  (2)
                  (0))
                (0))
              (zif (5 ≤ S0 9 1)
                (1)
                (0))))))))
set_option maxHeartbeats 4000000 in
set_option maxRecDepth 100000 in
theorem c_X5_verdictOnBelt_2 (l : Launch) (D : va_G) (k : Nat → ClassId) (a0 : Nat → Nat) (S0 : Nat → Nat → Int) (p0 : Int) (p2 : Int) (p3 : Int) (hB08 : zBf (S0 8)) (hk09 : 0 ≤ S0 9 1 ∧ S0 9 1 ≤ 5) (hk013 : 0 ≤ S0 13 1 ∧ S0 13 1 ≤ 4) (h0 : 0 ≤ p0 ∧ p0 < 65536) (h2 : -2147483648 ≤ p2 ∧ p2 < 2147483648) (h3 : -2147483648 ≤ p3 ∧ p3 < 2147483648) : zMi l yX5_verdictOnBelt wsX5_verdictOnBelt ({ frames := 1, cells := 0, slots := 0, locals := 21 } : Room) D k [.ref (a0 0), .int (iI p0), .int (iI 2), .int (iI p2), .int (iI p3)] (wPlant k a0 S0) (sp_X5_verdictOnBelt_2 S0 p0 p2 p3) (wPlant k a0 S0) 0 0 := by
  refine zMi_of (cc := cX5_verdictOnBelt) (maxL := 6) (ret := (some .int)) (by decide) rfl (Nat.le_of_ble_eq_true rfl) ?_
  intro p e s m args below meth c A ls hx hb hr hml hown hts hlocks hK hP hD hG hA hS hl
  have hown : s.vm.findClass RX5 = some m.cls := hown
  have hl : lv_has ls 6 [(0, .ref (a0 0)), (1, .int (iI p0)), (2, .int (iI 2)), (3, .int (iI p2)), (4, .int (iI p3))] := hl
  obtain ⟨H, hH⟩ : ∃ z, z = s.heap := ⟨_, rfl⟩
  obtain ⟨locs, hlc⟩ : ∃ z : List Loc, z = [] := ⟨_, rfl⟩
  rw [← hH] at hP
  have hS : va_S A s.heap H locs := by rw [hH, hlc]; exact hS
  rw [← hlc, ← hH]
  clear hlc hH
  refine lv_iload_n hx hb dX5_verdictOnBelt_0 rfl (lv_at hl 3 rfl) ?_
  refine zi_if_lt (tgt := 27) hx hb dX5_verdictOnBelt_1 (by decide) ⟨by omega, by omega⟩ (fun c_1 => ?_) (fun c_1 => ?_)
  · refine lv_iconst (v := iI 0) hx hb dX5_verdictOnBelt_27 rfl ?_
    refine lv_istore (lv' := [(5, .int (iI 0)), (0, .ref (a0 0)), (1, .int (iI p0)), (2, .int (iI 2)), (3, .int (iI p2)), (4, .int (iI p3))]) hx hb dX5_verdictOnBelt_28 hl (by decide) rfl (fun ls hl => ?_)
    refine lv_iload_n hx hb dX5_verdictOnBelt_30 rfl (lv_at hl 2 rfl) ?_
    by_cases w_2 : p0 = 105
    · refine z_lookup hx hb dX5_verdictOnBelt_31 (by decide) (x := p0) ⟨by omega, by omega⟩ (off := 96) (tgt := 127) (by rw [w_2]; decide) (by decide) ?_
      refine lv_aload_n hx hb dX5_verdictOnBelt_127 rfl (lv_at hl 1 rfl) ?_
      refine va_get (D := D) (ci := 7) (v := .ref (a0 1)) (C := RX5) (T := TX5) (N := 11) hx hb hts (fun w h => List.mem_cons_of_mem _ (List.mem_append_left _ (List.mem_append_left _ (List.mem_append_left _ (List.mem_append_right _ h))))) hown hK hP 0 rfl rfl 0 (by decide) (hts (.fieldLink RX5 12 "MondayFactory$Plant" "belts" "[LMondayFactory$Belt;") (List.mem_of_getElem? (i := 1) rfl)) (fun _ h9 => h9) rfl dX5_verdictOnBelt_128 ?_
      refine lv_iload_n hx hb dX5_verdictOnBelt_131 rfl (lv_at hl 3 rfl) ?_
      refine z_aald hx hb hK hP 1 2 (f := fun j => some (a0 (2 + 3 * j))) (q := a0 8) rfl rfl (i := 2) (by omega) (by omega) (by decide) rfl dX5_verdictOnBelt_132 ?_
      refine va_get (D := D) (ci := 2) (v := .ref (a0 9)) (C := RX0) (T := TX0) (N := 6) hx hb hts (fun w h => List.mem_cons_of_mem _ (List.mem_append_left _ (List.mem_append_left _ (List.mem_append_right _ h)))) hown hK hP 8 rfl rfl 0 (by decide) (hts (.fieldLink RX5 98 "MondayFactory$Belt" "row" "LMondayFactory$Row;") (List.mem_of_getElem? (i := 4) rfl)) (fun _ h9 => h9) rfl dX5_verdictOnBelt_133 ?_
      refine va_get (D := D) (ci := 8) (v := .int (iI (S0 9 1))) (C := RX6) (T := TX6) (N := 2) hx hb hts (fun w h => List.mem_cons_of_mem _ (List.mem_append_left _ (List.mem_append_right _ h))) hown hK hP 9 rfl rfl 1 (by decide) (hts (.fieldLink RX5 101 "MondayFactory$Row" "count" "I") (List.mem_of_getElem? (i := 5) rfl)) (fun _ h9 => h9) rfl dX5_verdictOnBelt_136 ?_
      refine zi_if_ne (tgt := 144) hx hb dX5_verdictOnBelt_139 (by decide) ⟨by omega, by omega⟩ (fun c_3 => ?_) (fun c_3 => ?_)
      · refine lv_aload_n hx hb dX5_verdictOnBelt_144 rfl (lv_at hl 1 rfl) ?_
        refine va_get (D := D) (ci := 7) (v := .ref (a0 13)) (C := RX5) (T := TX5) (N := 11) hx hb hts (fun w h => List.mem_cons_of_mem _ (List.mem_append_left _ (List.mem_append_left _ (List.mem_append_left _ (List.mem_append_right _ h))))) hown hK hP 0 rfl rfl 2 (by decide) (hts (.fieldLink RX5 28 "MondayFactory$Plant" "crew" "LMondayFactory$Crew;") (List.mem_of_getElem? (i := 6) rfl)) (fun _ h9 => h9) rfl dX5_verdictOnBelt_145 ?_
        refine va_get (D := D) (ci := 3) (v := .int (iI (S0 13 1))) (C := RX1) (T := TX1) (N := 2) hx hb hts (fun w h => List.mem_cons_of_mem _ (List.mem_append_right _ h)) hown hK hP 13 rfl rfl 1 (by decide) (hts (.fieldLink RX5 67 "MondayFactory$Crew" "count" "I") (List.mem_of_getElem? (i := 7) rfl)) (fun _ h9 => h9) rfl dX5_verdictOnBelt_148 ?_
        refine zi_if_ne (tgt := 158) hx hb dX5_verdictOnBelt_151 (by decide) ⟨by omega, by omega⟩ (fun c_4 => ?_) (fun c_4 => ?_)
        · refine lv_iconst (v := iI 0) hx hb dX5_verdictOnBelt_158 rfl ?_
          exact z_iret hx hb hr hlocks hP hS dX5_verdictOnBelt_159 (Eq.trans (zif_pos c_1) (Eq.trans (zif_pos w_2) (Eq.trans (zif_neg c_3) (Eq.trans (zif_neg c_4) rfl)))) rfl (Nat.le_refl _) (Nat.le_refl _)
        · refine lv_iconst (v := iI 4) hx hb dX5_verdictOnBelt_154 rfl ?_
          refine lv_goto (tgt := 159) hx hb dX5_verdictOnBelt_155 (by decide) ?_
          exact z_iret hx hb hr hlocks hP hS dX5_verdictOnBelt_159 (Eq.trans (zif_pos c_1) (Eq.trans (zif_pos w_2) (Eq.trans (zif_neg c_3) (Eq.trans (zif_pos c_4) rfl)))) rfl (Nat.le_refl _) (Nat.le_refl _)
      · refine lv_iconst (v := iI 3) hx hb dX5_verdictOnBelt_142 rfl ?_
        exact z_iret hx hb hr hlocks hP hS dX5_verdictOnBelt_143 (Eq.trans (zif_pos c_1) (Eq.trans (zif_pos w_2) (Eq.trans (zif_pos c_3) rfl))) rfl (Nat.le_refl _) (Nat.le_refl _)
    · by_cases w_5 : p0 = 109
      · refine z_lookup hx hb dX5_verdictOnBelt_31 (by decide) (x := p0) ⟨by omega, by omega⟩ (off := 33) (tgt := 64) (by rw [w_5]; decide) (by decide) ?_
        refine lv_iload hx hb dX5_verdictOnBelt_64 (lv_at hl 0 rfl) ?_
        refine zi_if_ne (tgt := 72) hx hb dX5_verdictOnBelt_66 (by decide) ⟨by omega, by omega⟩ (fun c_6 => absurd c_6 (by omega)) (fun _ => ?_)
        refine lv_bipush (v := iI 7) hx hb dX5_verdictOnBelt_69 (by decide) ?_
        exact z_iret hx hb hr hlocks hP hS dX5_verdictOnBelt_71 (Eq.trans (zif_pos c_1) (Eq.trans (zif_neg w_2) (Eq.trans (zif_pos w_5) rfl))) rfl (Nat.le_refl _) (Nat.le_refl _)
      · by_cases w_7 : p0 = 116
        · refine z_lookup hx hb dX5_verdictOnBelt_31 (by decide) (x := p0) ⟨by omega, by omega⟩ (off := 55) (tgt := 86) (by rw [w_7]; decide) (by decide) ?_
          refine lv_iload hx hb dX5_verdictOnBelt_86 (lv_at hl 0 rfl) ?_
          refine zi_if_ne (tgt := 94) hx hb dX5_verdictOnBelt_88 (by decide) ⟨by omega, by omega⟩ (fun c_8 => absurd c_8 (by omega)) (fun _ => ?_)
          refine lv_bipush (v := iI 7) hx hb dX5_verdictOnBelt_91 (by decide) ?_
          exact z_iret hx hb hr hlocks hP hS dX5_verdictOnBelt_93 (Eq.trans (zif_pos c_1) (Eq.trans (zif_neg w_2) (Eq.trans (zif_neg w_5) (Eq.trans (zif_pos w_7) rfl)))) rfl (Nat.le_refl _) (Nat.le_refl _)
        · refine z_lookup hx hb dX5_verdictOnBelt_31 (by decide) (x := p0) ⟨by omega, by omega⟩ (off := 129) (tgt := 160) (by simp [Op.lookupswitch.offset, Ne.symm w_2, Ne.symm w_5, Ne.symm w_7]) (by decide) ?_
          refine lv_aload_n hx hb dX5_verdictOnBelt_160 rfl (lv_at hl 1 rfl) ?_
          refine lv_iload_n hx hb dX5_verdictOnBelt_161 rfl (lv_at hl 3 rfl) ?_
          refine z_ai0 (va_runV (As := [.int (iI 2)]) (rest := []) ⟨hx, hb, hml, hown, hts⟩ (c_X5_isFull_2 l D k a0 S0   (by omega) _) (cwV 1 hts gX5_verdictOnBelt_X5_isFull rfl rfl rfl (by decide +kernel) ⟨(Nat.le_of_ble_eq_true rfl), (Nat.le_of_ble_eq_true rfl)⟩) (z_preV hK hG hA hP hD hS [0, 1, 2, 3, 4, 5, 6, 7, 8, 9, 10, 11, 12, 13, 14] rfl (by decide) 7 rfl rfl) rfl rfl hl.1 rfl (lv_room (Nat.le_of_ble_eq_true rfl)) dX5_verdictOnBelt_162 ⟨(Nat.le_of_ble_eq_true rfl), (Nat.le_of_ble_eq_true rfl)⟩) hA hP hD hS [0, 1, 2, 3, 4, 5, 6, 7, 8, 9, 10, 11, 12, 13, 14] rfl (fun H locs hP hS => ?_)
          refine zi_if_eqB (tgt := 172) hx hb dX5_verdictOnBelt_165 (by decide) (fun c_9 => ?_) (fun c_9 => ?_)
          · refine lv_iconst (v := iI 0) hx hb dX5_verdictOnBelt_172 rfl ?_
            exact z_iret hx hb hr hlocks hP hS dX5_verdictOnBelt_173 (Eq.trans (zif_pos c_1) (Eq.trans (zif_neg w_2) (Eq.trans (zif_neg w_5) (Eq.trans (zif_neg w_7) (Eq.trans (zif_neg c_9) rfl))))) rfl (Nat.le_refl _) (Nat.le_refl _)
          · refine lv_iconst (v := iI 1) hx hb dX5_verdictOnBelt_168 rfl ?_
            refine lv_goto (tgt := 173) hx hb dX5_verdictOnBelt_169 (by decide) ?_
            exact z_iret hx hb hr hlocks hP hS dX5_verdictOnBelt_173 (Eq.trans (zif_pos c_1) (Eq.trans (zif_neg w_2) (Eq.trans (zif_neg w_5) (Eq.trans (zif_neg w_7) (Eq.trans (zif_pos c_9) rfl))))) rfl (Nat.le_refl _) (Nat.le_refl _)
  · refine lv_iload_n hx hb dX5_verdictOnBelt_4 rfl (lv_at hl 3 rfl) ?_
    refine lv_bipush (v := iI 9) hx hb dX5_verdictOnBelt_5 (by decide) ?_
    refine zi_icmp_gt (tgt := 27) hx hb dX5_verdictOnBelt_7 (by decide) ⟨by omega, by omega⟩ ⟨by omega, by omega⟩ (fun c_10 => ?_) (fun c_10 => ?_)
    · refine lv_iconst (v := iI 0) hx hb dX5_verdictOnBelt_27 rfl ?_
      refine lv_istore (lv' := [(5, .int (iI 0)), (0, .ref (a0 0)), (1, .int (iI p0)), (2, .int (iI 2)), (3, .int (iI p2)), (4, .int (iI p3))]) hx hb dX5_verdictOnBelt_28 hl (by decide) rfl (fun ls hl => ?_)
      refine lv_iload_n hx hb dX5_verdictOnBelt_30 rfl (lv_at hl 2 rfl) ?_
      by_cases w_11 : p0 = 105
      · refine z_lookup hx hb dX5_verdictOnBelt_31 (by decide) (x := p0) ⟨by omega, by omega⟩ (off := 96) (tgt := 127) (by rw [w_11]; decide) (by decide) ?_
        refine lv_aload_n hx hb dX5_verdictOnBelt_127 rfl (lv_at hl 1 rfl) ?_
        refine va_get (D := D) (ci := 7) (v := .ref (a0 1)) (C := RX5) (T := TX5) (N := 11) hx hb hts (fun w h => List.mem_cons_of_mem _ (List.mem_append_left _ (List.mem_append_left _ (List.mem_append_left _ (List.mem_append_right _ h))))) hown hK hP 0 rfl rfl 0 (by decide) (hts (.fieldLink RX5 12 "MondayFactory$Plant" "belts" "[LMondayFactory$Belt;") (List.mem_of_getElem? (i := 1) rfl)) (fun _ h9 => h9) rfl dX5_verdictOnBelt_128 ?_
        refine lv_iload_n hx hb dX5_verdictOnBelt_131 rfl (lv_at hl 3 rfl) ?_
        refine z_aald hx hb hK hP 1 2 (f := fun j => some (a0 (2 + 3 * j))) (q := a0 8) rfl rfl (i := 2) (by omega) (by omega) (by decide) rfl dX5_verdictOnBelt_132 ?_
        refine va_get (D := D) (ci := 2) (v := .ref (a0 9)) (C := RX0) (T := TX0) (N := 6) hx hb hts (fun w h => List.mem_cons_of_mem _ (List.mem_append_left _ (List.mem_append_left _ (List.mem_append_right _ h)))) hown hK hP 8 rfl rfl 0 (by decide) (hts (.fieldLink RX5 98 "MondayFactory$Belt" "row" "LMondayFactory$Row;") (List.mem_of_getElem? (i := 4) rfl)) (fun _ h9 => h9) rfl dX5_verdictOnBelt_133 ?_
        refine va_get (D := D) (ci := 8) (v := .int (iI (S0 9 1))) (C := RX6) (T := TX6) (N := 2) hx hb hts (fun w h => List.mem_cons_of_mem _ (List.mem_append_left _ (List.mem_append_right _ h))) hown hK hP 9 rfl rfl 1 (by decide) (hts (.fieldLink RX5 101 "MondayFactory$Row" "count" "I") (List.mem_of_getElem? (i := 5) rfl)) (fun _ h9 => h9) rfl dX5_verdictOnBelt_136 ?_
        refine zi_if_ne (tgt := 144) hx hb dX5_verdictOnBelt_139 (by decide) ⟨by omega, by omega⟩ (fun c_12 => ?_) (fun c_12 => ?_)
        · refine lv_aload_n hx hb dX5_verdictOnBelt_144 rfl (lv_at hl 1 rfl) ?_
          refine va_get (D := D) (ci := 7) (v := .ref (a0 13)) (C := RX5) (T := TX5) (N := 11) hx hb hts (fun w h => List.mem_cons_of_mem _ (List.mem_append_left _ (List.mem_append_left _ (List.mem_append_left _ (List.mem_append_right _ h))))) hown hK hP 0 rfl rfl 2 (by decide) (hts (.fieldLink RX5 28 "MondayFactory$Plant" "crew" "LMondayFactory$Crew;") (List.mem_of_getElem? (i := 6) rfl)) (fun _ h9 => h9) rfl dX5_verdictOnBelt_145 ?_
          refine va_get (D := D) (ci := 3) (v := .int (iI (S0 13 1))) (C := RX1) (T := TX1) (N := 2) hx hb hts (fun w h => List.mem_cons_of_mem _ (List.mem_append_right _ h)) hown hK hP 13 rfl rfl 1 (by decide) (hts (.fieldLink RX5 67 "MondayFactory$Crew" "count" "I") (List.mem_of_getElem? (i := 7) rfl)) (fun _ h9 => h9) rfl dX5_verdictOnBelt_148 ?_
          refine zi_if_ne (tgt := 158) hx hb dX5_verdictOnBelt_151 (by decide) ⟨by omega, by omega⟩ (fun c_13 => ?_) (fun c_13 => ?_)
          · refine lv_iconst (v := iI 0) hx hb dX5_verdictOnBelt_158 rfl ?_
            exact z_iret hx hb hr hlocks hP hS dX5_verdictOnBelt_159 (Eq.trans (zif_neg c_1) (Eq.trans (zif_pos c_10) (Eq.trans (zif_pos w_11) (Eq.trans (zif_neg c_12) (Eq.trans (zif_neg c_13) rfl))))) rfl (Nat.le_refl _) (Nat.le_refl _)
          · refine lv_iconst (v := iI 4) hx hb dX5_verdictOnBelt_154 rfl ?_
            refine lv_goto (tgt := 159) hx hb dX5_verdictOnBelt_155 (by decide) ?_
            exact z_iret hx hb hr hlocks hP hS dX5_verdictOnBelt_159 (Eq.trans (zif_neg c_1) (Eq.trans (zif_pos c_10) (Eq.trans (zif_pos w_11) (Eq.trans (zif_neg c_12) (Eq.trans (zif_pos c_13) rfl))))) rfl (Nat.le_refl _) (Nat.le_refl _)
        · refine lv_iconst (v := iI 3) hx hb dX5_verdictOnBelt_142 rfl ?_
          exact z_iret hx hb hr hlocks hP hS dX5_verdictOnBelt_143 (Eq.trans (zif_neg c_1) (Eq.trans (zif_pos c_10) (Eq.trans (zif_pos w_11) (Eq.trans (zif_pos c_12) rfl)))) rfl (Nat.le_refl _) (Nat.le_refl _)
      · by_cases w_14 : p0 = 109
        · refine z_lookup hx hb dX5_verdictOnBelt_31 (by decide) (x := p0) ⟨by omega, by omega⟩ (off := 33) (tgt := 64) (by rw [w_14]; decide) (by decide) ?_
          refine lv_iload hx hb dX5_verdictOnBelt_64 (lv_at hl 0 rfl) ?_
          refine zi_if_ne (tgt := 72) hx hb dX5_verdictOnBelt_66 (by decide) ⟨by omega, by omega⟩ (fun c_15 => absurd c_15 (by omega)) (fun _ => ?_)
          refine lv_bipush (v := iI 7) hx hb dX5_verdictOnBelt_69 (by decide) ?_
          exact z_iret hx hb hr hlocks hP hS dX5_verdictOnBelt_71 (Eq.trans (zif_neg c_1) (Eq.trans (zif_pos c_10) (Eq.trans (zif_neg w_11) (Eq.trans (zif_pos w_14) rfl)))) rfl (Nat.le_refl _) (Nat.le_refl _)
        · by_cases w_16 : p0 = 116
          · refine z_lookup hx hb dX5_verdictOnBelt_31 (by decide) (x := p0) ⟨by omega, by omega⟩ (off := 55) (tgt := 86) (by rw [w_16]; decide) (by decide) ?_
            refine lv_iload hx hb dX5_verdictOnBelt_86 (lv_at hl 0 rfl) ?_
            refine zi_if_ne (tgt := 94) hx hb dX5_verdictOnBelt_88 (by decide) ⟨by omega, by omega⟩ (fun c_17 => absurd c_17 (by omega)) (fun _ => ?_)
            refine lv_bipush (v := iI 7) hx hb dX5_verdictOnBelt_91 (by decide) ?_
            exact z_iret hx hb hr hlocks hP hS dX5_verdictOnBelt_93 (Eq.trans (zif_neg c_1) (Eq.trans (zif_pos c_10) (Eq.trans (zif_neg w_11) (Eq.trans (zif_neg w_14) (Eq.trans (zif_pos w_16) rfl))))) rfl (Nat.le_refl _) (Nat.le_refl _)
          · refine z_lookup hx hb dX5_verdictOnBelt_31 (by decide) (x := p0) ⟨by omega, by omega⟩ (off := 129) (tgt := 160) (by simp [Op.lookupswitch.offset, Ne.symm w_11, Ne.symm w_14, Ne.symm w_16]) (by decide) ?_
            refine lv_aload_n hx hb dX5_verdictOnBelt_160 rfl (lv_at hl 1 rfl) ?_
            refine lv_iload_n hx hb dX5_verdictOnBelt_161 rfl (lv_at hl 3 rfl) ?_
            refine z_ai0 (va_runV (As := [.int (iI 2)]) (rest := []) ⟨hx, hb, hml, hown, hts⟩ (c_X5_isFull_2 l D k a0 S0   (by omega) _) (cwV 1 hts gX5_verdictOnBelt_X5_isFull rfl rfl rfl (by decide +kernel) ⟨(Nat.le_of_ble_eq_true rfl), (Nat.le_of_ble_eq_true rfl)⟩) (z_preV hK hG hA hP hD hS [0, 1, 2, 3, 4, 5, 6, 7, 8, 9, 10, 11, 12, 13, 14] rfl (by decide) 7 rfl rfl) rfl rfl hl.1 rfl (lv_room (Nat.le_of_ble_eq_true rfl)) dX5_verdictOnBelt_162 ⟨(Nat.le_of_ble_eq_true rfl), (Nat.le_of_ble_eq_true rfl)⟩) hA hP hD hS [0, 1, 2, 3, 4, 5, 6, 7, 8, 9, 10, 11, 12, 13, 14] rfl (fun H locs hP hS => ?_)
            refine zi_if_eqB (tgt := 172) hx hb dX5_verdictOnBelt_165 (by decide) (fun c_18 => ?_) (fun c_18 => ?_)
            · refine lv_iconst (v := iI 0) hx hb dX5_verdictOnBelt_172 rfl ?_
              exact z_iret hx hb hr hlocks hP hS dX5_verdictOnBelt_173 (Eq.trans (zif_neg c_1) (Eq.trans (zif_pos c_10) (Eq.trans (zif_neg w_11) (Eq.trans (zif_neg w_14) (Eq.trans (zif_neg w_16) (Eq.trans (zif_neg c_18) rfl)))))) rfl (Nat.le_refl _) (Nat.le_refl _)
            · refine lv_iconst (v := iI 1) hx hb dX5_verdictOnBelt_168 rfl ?_
              refine lv_goto (tgt := 173) hx hb dX5_verdictOnBelt_169 (by decide) ?_
              exact z_iret hx hb hr hlocks hP hS dX5_verdictOnBelt_173 (Eq.trans (zif_neg c_1) (Eq.trans (zif_pos c_10) (Eq.trans (zif_neg w_11) (Eq.trans (zif_neg w_14) (Eq.trans (zif_neg w_16) (Eq.trans (zif_pos c_18) rfl)))))) rfl (Nat.le_refl _) (Nat.le_refl _)
    · refine lv_iload hx hb dX5_verdictOnBelt_10 (lv_at hl 4 rfl) ?_
      refine lv_iconst (v := iI 4) hx hb dX5_verdictOnBelt_12 rfl ?_
      refine zi_icmp_lt (tgt := 27) hx hb dX5_verdictOnBelt_13 (by decide) ⟨by omega, by omega⟩ ⟨by omega, by omega⟩ (fun c_19 => ?_) (fun c_19 => ?_)
      · refine lv_iconst (v := iI 0) hx hb dX5_verdictOnBelt_27 rfl ?_
        refine lv_istore (lv' := [(5, .int (iI 0)), (0, .ref (a0 0)), (1, .int (iI p0)), (2, .int (iI 2)), (3, .int (iI p2)), (4, .int (iI p3))]) hx hb dX5_verdictOnBelt_28 hl (by decide) rfl (fun ls hl => ?_)
        refine lv_iload_n hx hb dX5_verdictOnBelt_30 rfl (lv_at hl 2 rfl) ?_
        by_cases w_20 : p0 = 105
        · refine z_lookup hx hb dX5_verdictOnBelt_31 (by decide) (x := p0) ⟨by omega, by omega⟩ (off := 96) (tgt := 127) (by rw [w_20]; decide) (by decide) ?_
          refine lv_aload_n hx hb dX5_verdictOnBelt_127 rfl (lv_at hl 1 rfl) ?_
          refine va_get (D := D) (ci := 7) (v := .ref (a0 1)) (C := RX5) (T := TX5) (N := 11) hx hb hts (fun w h => List.mem_cons_of_mem _ (List.mem_append_left _ (List.mem_append_left _ (List.mem_append_left _ (List.mem_append_right _ h))))) hown hK hP 0 rfl rfl 0 (by decide) (hts (.fieldLink RX5 12 "MondayFactory$Plant" "belts" "[LMondayFactory$Belt;") (List.mem_of_getElem? (i := 1) rfl)) (fun _ h9 => h9) rfl dX5_verdictOnBelt_128 ?_
          refine lv_iload_n hx hb dX5_verdictOnBelt_131 rfl (lv_at hl 3 rfl) ?_
          refine z_aald hx hb hK hP 1 2 (f := fun j => some (a0 (2 + 3 * j))) (q := a0 8) rfl rfl (i := 2) (by omega) (by omega) (by decide) rfl dX5_verdictOnBelt_132 ?_
          refine va_get (D := D) (ci := 2) (v := .ref (a0 9)) (C := RX0) (T := TX0) (N := 6) hx hb hts (fun w h => List.mem_cons_of_mem _ (List.mem_append_left _ (List.mem_append_left _ (List.mem_append_right _ h)))) hown hK hP 8 rfl rfl 0 (by decide) (hts (.fieldLink RX5 98 "MondayFactory$Belt" "row" "LMondayFactory$Row;") (List.mem_of_getElem? (i := 4) rfl)) (fun _ h9 => h9) rfl dX5_verdictOnBelt_133 ?_
          refine va_get (D := D) (ci := 8) (v := .int (iI (S0 9 1))) (C := RX6) (T := TX6) (N := 2) hx hb hts (fun w h => List.mem_cons_of_mem _ (List.mem_append_left _ (List.mem_append_right _ h))) hown hK hP 9 rfl rfl 1 (by decide) (hts (.fieldLink RX5 101 "MondayFactory$Row" "count" "I") (List.mem_of_getElem? (i := 5) rfl)) (fun _ h9 => h9) rfl dX5_verdictOnBelt_136 ?_
          refine zi_if_ne (tgt := 144) hx hb dX5_verdictOnBelt_139 (by decide) ⟨by omega, by omega⟩ (fun c_21 => ?_) (fun c_21 => ?_)
          · refine lv_aload_n hx hb dX5_verdictOnBelt_144 rfl (lv_at hl 1 rfl) ?_
            refine va_get (D := D) (ci := 7) (v := .ref (a0 13)) (C := RX5) (T := TX5) (N := 11) hx hb hts (fun w h => List.mem_cons_of_mem _ (List.mem_append_left _ (List.mem_append_left _ (List.mem_append_left _ (List.mem_append_right _ h))))) hown hK hP 0 rfl rfl 2 (by decide) (hts (.fieldLink RX5 28 "MondayFactory$Plant" "crew" "LMondayFactory$Crew;") (List.mem_of_getElem? (i := 6) rfl)) (fun _ h9 => h9) rfl dX5_verdictOnBelt_145 ?_
            refine va_get (D := D) (ci := 3) (v := .int (iI (S0 13 1))) (C := RX1) (T := TX1) (N := 2) hx hb hts (fun w h => List.mem_cons_of_mem _ (List.mem_append_right _ h)) hown hK hP 13 rfl rfl 1 (by decide) (hts (.fieldLink RX5 67 "MondayFactory$Crew" "count" "I") (List.mem_of_getElem? (i := 7) rfl)) (fun _ h9 => h9) rfl dX5_verdictOnBelt_148 ?_
            refine zi_if_ne (tgt := 158) hx hb dX5_verdictOnBelt_151 (by decide) ⟨by omega, by omega⟩ (fun c_22 => ?_) (fun c_22 => ?_)
            · refine lv_iconst (v := iI 0) hx hb dX5_verdictOnBelt_158 rfl ?_
              exact z_iret hx hb hr hlocks hP hS dX5_verdictOnBelt_159 (Eq.trans (zif_neg c_1) (Eq.trans (zif_neg c_10) (Eq.trans (zif_pos c_19) (Eq.trans (zif_pos w_20) (Eq.trans (zif_neg c_21) (Eq.trans (zif_neg c_22) rfl)))))) rfl (Nat.le_refl _) (Nat.le_refl _)
            · refine lv_iconst (v := iI 4) hx hb dX5_verdictOnBelt_154 rfl ?_
              refine lv_goto (tgt := 159) hx hb dX5_verdictOnBelt_155 (by decide) ?_
              exact z_iret hx hb hr hlocks hP hS dX5_verdictOnBelt_159 (Eq.trans (zif_neg c_1) (Eq.trans (zif_neg c_10) (Eq.trans (zif_pos c_19) (Eq.trans (zif_pos w_20) (Eq.trans (zif_neg c_21) (Eq.trans (zif_pos c_22) rfl)))))) rfl (Nat.le_refl _) (Nat.le_refl _)
          · refine lv_iconst (v := iI 3) hx hb dX5_verdictOnBelt_142 rfl ?_
            exact z_iret hx hb hr hlocks hP hS dX5_verdictOnBelt_143 (Eq.trans (zif_neg c_1) (Eq.trans (zif_neg c_10) (Eq.trans (zif_pos c_19) (Eq.trans (zif_pos w_20) (Eq.trans (zif_pos c_21) rfl))))) rfl (Nat.le_refl _) (Nat.le_refl _)
        · by_cases w_23 : p0 = 109
          · refine z_lookup hx hb dX5_verdictOnBelt_31 (by decide) (x := p0) ⟨by omega, by omega⟩ (off := 33) (tgt := 64) (by rw [w_23]; decide) (by decide) ?_
            refine lv_iload hx hb dX5_verdictOnBelt_64 (lv_at hl 0 rfl) ?_
            refine zi_if_ne (tgt := 72) hx hb dX5_verdictOnBelt_66 (by decide) ⟨by omega, by omega⟩ (fun c_24 => absurd c_24 (by omega)) (fun _ => ?_)
            refine lv_bipush (v := iI 7) hx hb dX5_verdictOnBelt_69 (by decide) ?_
            exact z_iret hx hb hr hlocks hP hS dX5_verdictOnBelt_71 (Eq.trans (zif_neg c_1) (Eq.trans (zif_neg c_10) (Eq.trans (zif_pos c_19) (Eq.trans (zif_neg w_20) (Eq.trans (zif_pos w_23) rfl))))) rfl (Nat.le_refl _) (Nat.le_refl _)
          · by_cases w_25 : p0 = 116
            · refine z_lookup hx hb dX5_verdictOnBelt_31 (by decide) (x := p0) ⟨by omega, by omega⟩ (off := 55) (tgt := 86) (by rw [w_25]; decide) (by decide) ?_
              refine lv_iload hx hb dX5_verdictOnBelt_86 (lv_at hl 0 rfl) ?_
              refine zi_if_ne (tgt := 94) hx hb dX5_verdictOnBelt_88 (by decide) ⟨by omega, by omega⟩ (fun c_26 => absurd c_26 (by omega)) (fun _ => ?_)
              refine lv_bipush (v := iI 7) hx hb dX5_verdictOnBelt_91 (by decide) ?_
              exact z_iret hx hb hr hlocks hP hS dX5_verdictOnBelt_93 (Eq.trans (zif_neg c_1) (Eq.trans (zif_neg c_10) (Eq.trans (zif_pos c_19) (Eq.trans (zif_neg w_20) (Eq.trans (zif_neg w_23) (Eq.trans (zif_pos w_25) rfl)))))) rfl (Nat.le_refl _) (Nat.le_refl _)
            · refine z_lookup hx hb dX5_verdictOnBelt_31 (by decide) (x := p0) ⟨by omega, by omega⟩ (off := 129) (tgt := 160) (by simp [Op.lookupswitch.offset, Ne.symm w_20, Ne.symm w_23, Ne.symm w_25]) (by decide) ?_
              refine lv_aload_n hx hb dX5_verdictOnBelt_160 rfl (lv_at hl 1 rfl) ?_
              refine lv_iload_n hx hb dX5_verdictOnBelt_161 rfl (lv_at hl 3 rfl) ?_
              refine z_ai0 (va_runV (As := [.int (iI 2)]) (rest := []) ⟨hx, hb, hml, hown, hts⟩ (c_X5_isFull_2 l D k a0 S0   (by omega) _) (cwV 1 hts gX5_verdictOnBelt_X5_isFull rfl rfl rfl (by decide +kernel) ⟨(Nat.le_of_ble_eq_true rfl), (Nat.le_of_ble_eq_true rfl)⟩) (z_preV hK hG hA hP hD hS [0, 1, 2, 3, 4, 5, 6, 7, 8, 9, 10, 11, 12, 13, 14] rfl (by decide) 7 rfl rfl) rfl rfl hl.1 rfl (lv_room (Nat.le_of_ble_eq_true rfl)) dX5_verdictOnBelt_162 ⟨(Nat.le_of_ble_eq_true rfl), (Nat.le_of_ble_eq_true rfl)⟩) hA hP hD hS [0, 1, 2, 3, 4, 5, 6, 7, 8, 9, 10, 11, 12, 13, 14] rfl (fun H locs hP hS => ?_)
              refine zi_if_eqB (tgt := 172) hx hb dX5_verdictOnBelt_165 (by decide) (fun c_27 => ?_) (fun c_27 => ?_)
              · refine lv_iconst (v := iI 0) hx hb dX5_verdictOnBelt_172 rfl ?_
                exact z_iret hx hb hr hlocks hP hS dX5_verdictOnBelt_173 (Eq.trans (zif_neg c_1) (Eq.trans (zif_neg c_10) (Eq.trans (zif_pos c_19) (Eq.trans (zif_neg w_20) (Eq.trans (zif_neg w_23) (Eq.trans (zif_neg w_25) (Eq.trans (zif_neg c_27) rfl))))))) rfl (Nat.le_refl _) (Nat.le_refl _)
              · refine lv_iconst (v := iI 1) hx hb dX5_verdictOnBelt_168 rfl ?_
                refine lv_goto (tgt := 173) hx hb dX5_verdictOnBelt_169 (by decide) ?_
                exact z_iret hx hb hr hlocks hP hS dX5_verdictOnBelt_173 (Eq.trans (zif_neg c_1) (Eq.trans (zif_neg c_10) (Eq.trans (zif_pos c_19) (Eq.trans (zif_neg w_20) (Eq.trans (zif_neg w_23) (Eq.trans (zif_neg w_25) (Eq.trans (zif_pos c_27) rfl))))))) rfl (Nat.le_refl _) (Nat.le_refl _)
      · refine lv_iload hx hb dX5_verdictOnBelt_16 (lv_at hl 4 rfl) ?_
        refine lv_bipush (v := iI 9) hx hb dX5_verdictOnBelt_18 (by decide) ?_
        refine zi_icmp_gt (tgt := 27) hx hb dX5_verdictOnBelt_20 (by decide) ⟨by omega, by omega⟩ ⟨by omega, by omega⟩ (fun c_28 => ?_) (fun c_28 => ?_)
        · refine lv_iconst (v := iI 0) hx hb dX5_verdictOnBelt_27 rfl ?_
          refine lv_istore (lv' := [(5, .int (iI 0)), (0, .ref (a0 0)), (1, .int (iI p0)), (2, .int (iI 2)), (3, .int (iI p2)), (4, .int (iI p3))]) hx hb dX5_verdictOnBelt_28 hl (by decide) rfl (fun ls hl => ?_)
          refine lv_iload_n hx hb dX5_verdictOnBelt_30 rfl (lv_at hl 2 rfl) ?_
          by_cases w_29 : p0 = 105
          · refine z_lookup hx hb dX5_verdictOnBelt_31 (by decide) (x := p0) ⟨by omega, by omega⟩ (off := 96) (tgt := 127) (by rw [w_29]; decide) (by decide) ?_
            refine lv_aload_n hx hb dX5_verdictOnBelt_127 rfl (lv_at hl 1 rfl) ?_
            refine va_get (D := D) (ci := 7) (v := .ref (a0 1)) (C := RX5) (T := TX5) (N := 11) hx hb hts (fun w h => List.mem_cons_of_mem _ (List.mem_append_left _ (List.mem_append_left _ (List.mem_append_left _ (List.mem_append_right _ h))))) hown hK hP 0 rfl rfl 0 (by decide) (hts (.fieldLink RX5 12 "MondayFactory$Plant" "belts" "[LMondayFactory$Belt;") (List.mem_of_getElem? (i := 1) rfl)) (fun _ h9 => h9) rfl dX5_verdictOnBelt_128 ?_
            refine lv_iload_n hx hb dX5_verdictOnBelt_131 rfl (lv_at hl 3 rfl) ?_
            refine z_aald hx hb hK hP 1 2 (f := fun j => some (a0 (2 + 3 * j))) (q := a0 8) rfl rfl (i := 2) (by omega) (by omega) (by decide) rfl dX5_verdictOnBelt_132 ?_
            refine va_get (D := D) (ci := 2) (v := .ref (a0 9)) (C := RX0) (T := TX0) (N := 6) hx hb hts (fun w h => List.mem_cons_of_mem _ (List.mem_append_left _ (List.mem_append_left _ (List.mem_append_right _ h)))) hown hK hP 8 rfl rfl 0 (by decide) (hts (.fieldLink RX5 98 "MondayFactory$Belt" "row" "LMondayFactory$Row;") (List.mem_of_getElem? (i := 4) rfl)) (fun _ h9 => h9) rfl dX5_verdictOnBelt_133 ?_
            refine va_get (D := D) (ci := 8) (v := .int (iI (S0 9 1))) (C := RX6) (T := TX6) (N := 2) hx hb hts (fun w h => List.mem_cons_of_mem _ (List.mem_append_left _ (List.mem_append_right _ h))) hown hK hP 9 rfl rfl 1 (by decide) (hts (.fieldLink RX5 101 "MondayFactory$Row" "count" "I") (List.mem_of_getElem? (i := 5) rfl)) (fun _ h9 => h9) rfl dX5_verdictOnBelt_136 ?_
            refine zi_if_ne (tgt := 144) hx hb dX5_verdictOnBelt_139 (by decide) ⟨by omega, by omega⟩ (fun c_30 => ?_) (fun c_30 => ?_)
            · refine lv_aload_n hx hb dX5_verdictOnBelt_144 rfl (lv_at hl 1 rfl) ?_
              refine va_get (D := D) (ci := 7) (v := .ref (a0 13)) (C := RX5) (T := TX5) (N := 11) hx hb hts (fun w h => List.mem_cons_of_mem _ (List.mem_append_left _ (List.mem_append_left _ (List.mem_append_left _ (List.mem_append_right _ h))))) hown hK hP 0 rfl rfl 2 (by decide) (hts (.fieldLink RX5 28 "MondayFactory$Plant" "crew" "LMondayFactory$Crew;") (List.mem_of_getElem? (i := 6) rfl)) (fun _ h9 => h9) rfl dX5_verdictOnBelt_145 ?_
              refine va_get (D := D) (ci := 3) (v := .int (iI (S0 13 1))) (C := RX1) (T := TX1) (N := 2) hx hb hts (fun w h => List.mem_cons_of_mem _ (List.mem_append_right _ h)) hown hK hP 13 rfl rfl 1 (by decide) (hts (.fieldLink RX5 67 "MondayFactory$Crew" "count" "I") (List.mem_of_getElem? (i := 7) rfl)) (fun _ h9 => h9) rfl dX5_verdictOnBelt_148 ?_
              refine zi_if_ne (tgt := 158) hx hb dX5_verdictOnBelt_151 (by decide) ⟨by omega, by omega⟩ (fun c_31 => ?_) (fun c_31 => ?_)
              · refine lv_iconst (v := iI 0) hx hb dX5_verdictOnBelt_158 rfl ?_
                exact z_iret hx hb hr hlocks hP hS dX5_verdictOnBelt_159 (Eq.trans (zif_neg c_1) (Eq.trans (zif_neg c_10) (Eq.trans (zif_neg c_19) (Eq.trans (zif_pos c_28) (Eq.trans (zif_pos w_29) (Eq.trans (zif_neg c_30) (Eq.trans (zif_neg c_31) rfl))))))) rfl (Nat.le_refl _) (Nat.le_refl _)
              · refine lv_iconst (v := iI 4) hx hb dX5_verdictOnBelt_154 rfl ?_
                refine lv_goto (tgt := 159) hx hb dX5_verdictOnBelt_155 (by decide) ?_
                exact z_iret hx hb hr hlocks hP hS dX5_verdictOnBelt_159 (Eq.trans (zif_neg c_1) (Eq.trans (zif_neg c_10) (Eq.trans (zif_neg c_19) (Eq.trans (zif_pos c_28) (Eq.trans (zif_pos w_29) (Eq.trans (zif_neg c_30) (Eq.trans (zif_pos c_31) rfl))))))) rfl (Nat.le_refl _) (Nat.le_refl _)
            · refine lv_iconst (v := iI 3) hx hb dX5_verdictOnBelt_142 rfl ?_
              exact z_iret hx hb hr hlocks hP hS dX5_verdictOnBelt_143 (Eq.trans (zif_neg c_1) (Eq.trans (zif_neg c_10) (Eq.trans (zif_neg c_19) (Eq.trans (zif_pos c_28) (Eq.trans (zif_pos w_29) (Eq.trans (zif_pos c_30) rfl)))))) rfl (Nat.le_refl _) (Nat.le_refl _)
          · by_cases w_32 : p0 = 109
            · refine z_lookup hx hb dX5_verdictOnBelt_31 (by decide) (x := p0) ⟨by omega, by omega⟩ (off := 33) (tgt := 64) (by rw [w_32]; decide) (by decide) ?_
              refine lv_iload hx hb dX5_verdictOnBelt_64 (lv_at hl 0 rfl) ?_
              refine zi_if_ne (tgt := 72) hx hb dX5_verdictOnBelt_66 (by decide) ⟨by omega, by omega⟩ (fun c_33 => absurd c_33 (by omega)) (fun _ => ?_)
              refine lv_bipush (v := iI 7) hx hb dX5_verdictOnBelt_69 (by decide) ?_
              exact z_iret hx hb hr hlocks hP hS dX5_verdictOnBelt_71 (Eq.trans (zif_neg c_1) (Eq.trans (zif_neg c_10) (Eq.trans (zif_neg c_19) (Eq.trans (zif_pos c_28) (Eq.trans (zif_neg w_29) (Eq.trans (zif_pos w_32) rfl)))))) rfl (Nat.le_refl _) (Nat.le_refl _)
            · by_cases w_34 : p0 = 116
              · refine z_lookup hx hb dX5_verdictOnBelt_31 (by decide) (x := p0) ⟨by omega, by omega⟩ (off := 55) (tgt := 86) (by rw [w_34]; decide) (by decide) ?_
                refine lv_iload hx hb dX5_verdictOnBelt_86 (lv_at hl 0 rfl) ?_
                refine zi_if_ne (tgt := 94) hx hb dX5_verdictOnBelt_88 (by decide) ⟨by omega, by omega⟩ (fun c_35 => absurd c_35 (by omega)) (fun _ => ?_)
                refine lv_bipush (v := iI 7) hx hb dX5_verdictOnBelt_91 (by decide) ?_
                exact z_iret hx hb hr hlocks hP hS dX5_verdictOnBelt_93 (Eq.trans (zif_neg c_1) (Eq.trans (zif_neg c_10) (Eq.trans (zif_neg c_19) (Eq.trans (zif_pos c_28) (Eq.trans (zif_neg w_29) (Eq.trans (zif_neg w_32) (Eq.trans (zif_pos w_34) rfl))))))) rfl (Nat.le_refl _) (Nat.le_refl _)
              · refine z_lookup hx hb dX5_verdictOnBelt_31 (by decide) (x := p0) ⟨by omega, by omega⟩ (off := 129) (tgt := 160) (by simp [Op.lookupswitch.offset, Ne.symm w_29, Ne.symm w_32, Ne.symm w_34]) (by decide) ?_
                refine lv_aload_n hx hb dX5_verdictOnBelt_160 rfl (lv_at hl 1 rfl) ?_
                refine lv_iload_n hx hb dX5_verdictOnBelt_161 rfl (lv_at hl 3 rfl) ?_
                refine z_ai0 (va_runV (As := [.int (iI 2)]) (rest := []) ⟨hx, hb, hml, hown, hts⟩ (c_X5_isFull_2 l D k a0 S0   (by omega) _) (cwV 1 hts gX5_verdictOnBelt_X5_isFull rfl rfl rfl (by decide +kernel) ⟨(Nat.le_of_ble_eq_true rfl), (Nat.le_of_ble_eq_true rfl)⟩) (z_preV hK hG hA hP hD hS [0, 1, 2, 3, 4, 5, 6, 7, 8, 9, 10, 11, 12, 13, 14] rfl (by decide) 7 rfl rfl) rfl rfl hl.1 rfl (lv_room (Nat.le_of_ble_eq_true rfl)) dX5_verdictOnBelt_162 ⟨(Nat.le_of_ble_eq_true rfl), (Nat.le_of_ble_eq_true rfl)⟩) hA hP hD hS [0, 1, 2, 3, 4, 5, 6, 7, 8, 9, 10, 11, 12, 13, 14] rfl (fun H locs hP hS => ?_)
                refine zi_if_eqB (tgt := 172) hx hb dX5_verdictOnBelt_165 (by decide) (fun c_36 => ?_) (fun c_36 => ?_)
                · refine lv_iconst (v := iI 0) hx hb dX5_verdictOnBelt_172 rfl ?_
                  exact z_iret hx hb hr hlocks hP hS dX5_verdictOnBelt_173 (Eq.trans (zif_neg c_1) (Eq.trans (zif_neg c_10) (Eq.trans (zif_neg c_19) (Eq.trans (zif_pos c_28) (Eq.trans (zif_neg w_29) (Eq.trans (zif_neg w_32) (Eq.trans (zif_neg w_34) (Eq.trans (zif_neg c_36) rfl)))))))) rfl (Nat.le_refl _) (Nat.le_refl _)
                · refine lv_iconst (v := iI 1) hx hb dX5_verdictOnBelt_168 rfl ?_
                  refine lv_goto (tgt := 173) hx hb dX5_verdictOnBelt_169 (by decide) ?_
                  exact z_iret hx hb hr hlocks hP hS dX5_verdictOnBelt_173 (Eq.trans (zif_neg c_1) (Eq.trans (zif_neg c_10) (Eq.trans (zif_neg c_19) (Eq.trans (zif_pos c_28) (Eq.trans (zif_neg w_29) (Eq.trans (zif_neg w_32) (Eq.trans (zif_neg w_34) (Eq.trans (zif_pos c_36) rfl)))))))) rfl (Nat.le_refl _) (Nat.le_refl _)
        · refine lv_iconst (v := iI 1) hx hb dX5_verdictOnBelt_23 rfl ?_
          refine lv_goto (tgt := 28) hx hb dX5_verdictOnBelt_24 (by decide) ?_
          refine lv_istore (lv' := [(5, .int (iI 1)), (0, .ref (a0 0)), (1, .int (iI p0)), (2, .int (iI 2)), (3, .int (iI p2)), (4, .int (iI p3))]) hx hb dX5_verdictOnBelt_28 hl (by decide) rfl (fun ls hl => ?_)
          refine lv_iload_n hx hb dX5_verdictOnBelt_30 rfl (lv_at hl 2 rfl) ?_
          by_cases w_37 : p0 = 105
          · refine z_lookup hx hb dX5_verdictOnBelt_31 (by decide) (x := p0) ⟨by omega, by omega⟩ (off := 96) (tgt := 127) (by rw [w_37]; decide) (by decide) ?_
            refine lv_aload_n hx hb dX5_verdictOnBelt_127 rfl (lv_at hl 1 rfl) ?_
            refine va_get (D := D) (ci := 7) (v := .ref (a0 1)) (C := RX5) (T := TX5) (N := 11) hx hb hts (fun w h => List.mem_cons_of_mem _ (List.mem_append_left _ (List.mem_append_left _ (List.mem_append_left _ (List.mem_append_right _ h))))) hown hK hP 0 rfl rfl 0 (by decide) (hts (.fieldLink RX5 12 "MondayFactory$Plant" "belts" "[LMondayFactory$Belt;") (List.mem_of_getElem? (i := 1) rfl)) (fun _ h9 => h9) rfl dX5_verdictOnBelt_128 ?_
            refine lv_iload_n hx hb dX5_verdictOnBelt_131 rfl (lv_at hl 3 rfl) ?_
            refine z_aald hx hb hK hP 1 2 (f := fun j => some (a0 (2 + 3 * j))) (q := a0 8) rfl rfl (i := 2) (by omega) (by omega) (by decide) rfl dX5_verdictOnBelt_132 ?_
            refine va_get (D := D) (ci := 2) (v := .ref (a0 9)) (C := RX0) (T := TX0) (N := 6) hx hb hts (fun w h => List.mem_cons_of_mem _ (List.mem_append_left _ (List.mem_append_left _ (List.mem_append_right _ h)))) hown hK hP 8 rfl rfl 0 (by decide) (hts (.fieldLink RX5 98 "MondayFactory$Belt" "row" "LMondayFactory$Row;") (List.mem_of_getElem? (i := 4) rfl)) (fun _ h9 => h9) rfl dX5_verdictOnBelt_133 ?_
            refine va_get (D := D) (ci := 8) (v := .int (iI (S0 9 1))) (C := RX6) (T := TX6) (N := 2) hx hb hts (fun w h => List.mem_cons_of_mem _ (List.mem_append_left _ (List.mem_append_right _ h))) hown hK hP 9 rfl rfl 1 (by decide) (hts (.fieldLink RX5 101 "MondayFactory$Row" "count" "I") (List.mem_of_getElem? (i := 5) rfl)) (fun _ h9 => h9) rfl dX5_verdictOnBelt_136 ?_
            refine zi_if_ne (tgt := 144) hx hb dX5_verdictOnBelt_139 (by decide) ⟨by omega, by omega⟩ (fun c_38 => ?_) (fun c_38 => ?_)
            · refine lv_aload_n hx hb dX5_verdictOnBelt_144 rfl (lv_at hl 1 rfl) ?_
              refine va_get (D := D) (ci := 7) (v := .ref (a0 13)) (C := RX5) (T := TX5) (N := 11) hx hb hts (fun w h => List.mem_cons_of_mem _ (List.mem_append_left _ (List.mem_append_left _ (List.mem_append_left _ (List.mem_append_right _ h))))) hown hK hP 0 rfl rfl 2 (by decide) (hts (.fieldLink RX5 28 "MondayFactory$Plant" "crew" "LMondayFactory$Crew;") (List.mem_of_getElem? (i := 6) rfl)) (fun _ h9 => h9) rfl dX5_verdictOnBelt_145 ?_
              refine va_get (D := D) (ci := 3) (v := .int (iI (S0 13 1))) (C := RX1) (T := TX1) (N := 2) hx hb hts (fun w h => List.mem_cons_of_mem _ (List.mem_append_right _ h)) hown hK hP 13 rfl rfl 1 (by decide) (hts (.fieldLink RX5 67 "MondayFactory$Crew" "count" "I") (List.mem_of_getElem? (i := 7) rfl)) (fun _ h9 => h9) rfl dX5_verdictOnBelt_148 ?_
              refine zi_if_ne (tgt := 158) hx hb dX5_verdictOnBelt_151 (by decide) ⟨by omega, by omega⟩ (fun c_39 => ?_) (fun c_39 => ?_)
              · refine lv_iconst (v := iI 0) hx hb dX5_verdictOnBelt_158 rfl ?_
                exact z_iret hx hb hr hlocks hP hS dX5_verdictOnBelt_159 (Eq.trans (zif_neg c_1) (Eq.trans (zif_neg c_10) (Eq.trans (zif_neg c_19) (Eq.trans (zif_neg c_28) (Eq.trans (zif_pos w_37) (Eq.trans (zif_neg c_38) (Eq.trans (zif_neg c_39) rfl))))))) rfl (Nat.le_refl _) (Nat.le_refl _)
              · refine lv_iconst (v := iI 4) hx hb dX5_verdictOnBelt_154 rfl ?_
                refine lv_goto (tgt := 159) hx hb dX5_verdictOnBelt_155 (by decide) ?_
                exact z_iret hx hb hr hlocks hP hS dX5_verdictOnBelt_159 (Eq.trans (zif_neg c_1) (Eq.trans (zif_neg c_10) (Eq.trans (zif_neg c_19) (Eq.trans (zif_neg c_28) (Eq.trans (zif_pos w_37) (Eq.trans (zif_neg c_38) (Eq.trans (zif_pos c_39) rfl))))))) rfl (Nat.le_refl _) (Nat.le_refl _)
            · refine lv_iconst (v := iI 3) hx hb dX5_verdictOnBelt_142 rfl ?_
              exact z_iret hx hb hr hlocks hP hS dX5_verdictOnBelt_143 (Eq.trans (zif_neg c_1) (Eq.trans (zif_neg c_10) (Eq.trans (zif_neg c_19) (Eq.trans (zif_neg c_28) (Eq.trans (zif_pos w_37) (Eq.trans (zif_pos c_38) rfl)))))) rfl (Nat.le_refl _) (Nat.le_refl _)
          · by_cases w_40 : p0 = 109
            · refine z_lookup hx hb dX5_verdictOnBelt_31 (by decide) (x := p0) ⟨by omega, by omega⟩ (off := 33) (tgt := 64) (by rw [w_40]; decide) (by decide) ?_
              refine lv_iload hx hb dX5_verdictOnBelt_64 (lv_at hl 0 rfl) ?_
              refine zi_if_ne (tgt := 72) hx hb dX5_verdictOnBelt_66 (by decide) ⟨by omega, by omega⟩ (fun _ => ?_) (fun c_41 => absurd c_41 (by omega))
              refine lv_aload_n hx hb dX5_verdictOnBelt_72 rfl (lv_at hl 1 rfl) ?_
              refine lv_iload_n hx hb dX5_verdictOnBelt_73 rfl (lv_at hl 3 rfl) ?_
              refine z_ai0 (va_runV (As := [.int (iI 2)]) (rest := []) ⟨hx, hb, hml, hown, hts⟩ (c_X5_isFull_2 l D k a0 S0   (by omega) _) (cwV 1 hts gX5_verdictOnBelt_X5_isFull rfl rfl rfl (by decide +kernel) ⟨(Nat.le_of_ble_eq_true rfl), (Nat.le_of_ble_eq_true rfl)⟩) (z_preV hK hG hA hP hD hS [0, 1, 2, 3, 4, 5, 6, 7, 8, 9, 10, 11, 12, 13, 14] rfl (by decide) 7 rfl rfl) rfl rfl hl.1 rfl (lv_room (Nat.le_of_ble_eq_true rfl)) dX5_verdictOnBelt_74 ⟨(Nat.le_of_ble_eq_true rfl), (Nat.le_of_ble_eq_true rfl)⟩) hA hP hD hS [0, 1, 2, 3, 4, 5, 6, 7, 8, 9, 10, 11, 12, 13, 14] rfl (fun H locs hP hS => ?_)
              refine zi_if_eqB (tgt := 84) hx hb dX5_verdictOnBelt_77 (by decide) (fun c_42 => ?_) (fun c_42 => ?_)
              · refine lv_iconst (v := iI 0) hx hb dX5_verdictOnBelt_84 rfl ?_
                exact z_iret hx hb hr hlocks hP hS dX5_verdictOnBelt_85 (Eq.trans (zif_neg c_1) (Eq.trans (zif_neg c_10) (Eq.trans (zif_neg c_19) (Eq.trans (zif_neg c_28) (Eq.trans (zif_neg w_37) (Eq.trans (zif_pos w_40) (Eq.trans (zif_neg c_42) rfl))))))) rfl (Nat.le_refl _) (Nat.le_refl _)
              · refine lv_iconst (v := iI 1) hx hb dX5_verdictOnBelt_80 rfl ?_
                refine lv_goto (tgt := 85) hx hb dX5_verdictOnBelt_81 (by decide) ?_
                exact z_iret hx hb hr hlocks hP hS dX5_verdictOnBelt_85 (Eq.trans (zif_neg c_1) (Eq.trans (zif_neg c_10) (Eq.trans (zif_neg c_19) (Eq.trans (zif_neg c_28) (Eq.trans (zif_neg w_37) (Eq.trans (zif_pos w_40) (Eq.trans (zif_pos c_42) rfl))))))) rfl (Nat.le_refl _) (Nat.le_refl _)
            · by_cases w_43 : p0 = 116
              · refine z_lookup hx hb dX5_verdictOnBelt_31 (by decide) (x := p0) ⟨by omega, by omega⟩ (off := 55) (tgt := 86) (by rw [w_43]; decide) (by decide) ?_
                refine lv_iload hx hb dX5_verdictOnBelt_86 (lv_at hl 0 rfl) ?_
                refine zi_if_ne (tgt := 94) hx hb dX5_verdictOnBelt_88 (by decide) ⟨by omega, by omega⟩ (fun _ => ?_) (fun c_44 => absurd c_44 (by omega))
                refine lv_iload_n hx hb dX5_verdictOnBelt_94 rfl (lv_at hl 4 rfl) ?_
                refine lv_aload_n hx hb dX5_verdictOnBelt_95 rfl (lv_at hl 1 rfl) ?_
                refine va_get (D := D) (ci := 7) (v := .ref (a0 1)) (C := RX5) (T := TX5) (N := 11) hx hb hts (fun w h => List.mem_cons_of_mem _ (List.mem_append_left _ (List.mem_append_left _ (List.mem_append_left _ (List.mem_append_right _ h))))) hown hK hP 0 rfl rfl 0 (by decide) (hts (.fieldLink RX5 12 "MondayFactory$Plant" "belts" "[LMondayFactory$Belt;") (List.mem_of_getElem? (i := 1) rfl)) (fun _ h9 => h9) rfl dX5_verdictOnBelt_96 ?_
                refine lv_iload_n hx hb dX5_verdictOnBelt_99 rfl (lv_at hl 3 rfl) ?_
                refine z_aald hx hb hK hP 1 2 (f := fun j => some (a0 (2 + 3 * j))) (q := a0 8) rfl rfl (i := 2) (by omega) (by omega) (by decide) rfl dX5_verdictOnBelt_100 ?_
                have f_45 := hB08 1
                refine va_get (D := D) (ci := 2) (v := .int (iI (S0 8 1))) (C := RX0) (T := TX0) (N := 6) hx hb hts (fun w h => List.mem_cons_of_mem _ (List.mem_append_left _ (List.mem_append_left _ (List.mem_append_right _ h)))) hown hK hP 8 rfl rfl 1 (by decide) (hts (.fieldLink RX5 92 "MondayFactory$Belt" "least" "I") (List.mem_of_getElem? (i := 2) rfl)) (fun _ h9 => h9) rfl dX5_verdictOnBelt_101 ?_
                refine zi_icmp_ne (tgt := 125) hx hb dX5_verdictOnBelt_104 (by decide) ⟨by omega, by omega⟩ ⟨by omega, by omega⟩ (fun c_46 => ?_) (fun c_46 => ?_)
                · refine lv_iconst (v := iI 0) hx hb dX5_verdictOnBelt_125 rfl ?_
                  exact z_iret hx hb hr hlocks hP hS dX5_verdictOnBelt_126 (Eq.trans (zif_neg c_1) (Eq.trans (zif_neg c_10) (Eq.trans (zif_neg c_19) (Eq.trans (zif_neg c_28) (Eq.trans (zif_neg w_37) (Eq.trans (zif_neg w_40) (Eq.trans (zif_pos w_43) (Eq.trans (zif_neg c_46) rfl)))))))) rfl (Nat.le_refl _) (Nat.le_refl _)
                · refine lv_iload hx hb dX5_verdictOnBelt_107 (lv_at hl 5 rfl) ?_
                  refine lv_aload_n hx hb dX5_verdictOnBelt_109 rfl (lv_at hl 1 rfl) ?_
                  refine va_get (D := D) (ci := 7) (v := .ref (a0 1)) (C := RX5) (T := TX5) (N := 11) hx hb hts (fun w h => List.mem_cons_of_mem _ (List.mem_append_left _ (List.mem_append_left _ (List.mem_append_left _ (List.mem_append_right _ h))))) hown hK hP 0 rfl rfl 0 (by decide) (hts (.fieldLink RX5 12 "MondayFactory$Plant" "belts" "[LMondayFactory$Belt;") (List.mem_of_getElem? (i := 1) rfl)) (fun _ h9 => h9) rfl dX5_verdictOnBelt_110 ?_
                  refine lv_iload_n hx hb dX5_verdictOnBelt_113 rfl (lv_at hl 3 rfl) ?_
                  refine z_aald hx hb hK hP 1 2 (f := fun j => some (a0 (2 + 3 * j))) (q := a0 8) rfl rfl (i := 2) (by omega) (by omega) (by decide) rfl dX5_verdictOnBelt_114 ?_
                  have f_47 := hB08 2
                  refine va_get (D := D) (ci := 2) (v := .int (iI (S0 8 2))) (C := RX0) (T := TX0) (N := 6) hx hb hts (fun w h => List.mem_cons_of_mem _ (List.mem_append_left _ (List.mem_append_left _ (List.mem_append_right _ h)))) hown hK hP 8 rfl rfl 2 (by decide) (hts (.fieldLink RX5 95 "MondayFactory$Belt" "latest" "I") (List.mem_of_getElem? (i := 3) rfl)) (fun _ h9 => h9) rfl dX5_verdictOnBelt_115 ?_
                  refine zi_icmp_ne (tgt := 125) hx hb dX5_verdictOnBelt_118 (by decide) ⟨by omega, by omega⟩ ⟨by omega, by omega⟩ (fun c_48 => ?_) (fun c_48 => ?_)
                  · refine lv_iconst (v := iI 0) hx hb dX5_verdictOnBelt_125 rfl ?_
                    exact z_iret hx hb hr hlocks hP hS dX5_verdictOnBelt_126 (Eq.trans (zif_neg c_1) (Eq.trans (zif_neg c_10) (Eq.trans (zif_neg c_19) (Eq.trans (zif_neg c_28) (Eq.trans (zif_neg w_37) (Eq.trans (zif_neg w_40) (Eq.trans (zif_pos w_43) (Eq.trans (zif_pos c_46) (Eq.trans (zif_neg c_48) rfl))))))))) rfl (Nat.le_refl _) (Nat.le_refl _)
                  · refine lv_iconst (v := iI 2) hx hb dX5_verdictOnBelt_121 rfl ?_
                    refine lv_goto (tgt := 126) hx hb dX5_verdictOnBelt_122 (by decide) ?_
                    exact z_iret hx hb hr hlocks hP hS dX5_verdictOnBelt_126 (Eq.trans (zif_neg c_1) (Eq.trans (zif_neg c_10) (Eq.trans (zif_neg c_19) (Eq.trans (zif_neg c_28) (Eq.trans (zif_neg w_37) (Eq.trans (zif_neg w_40) (Eq.trans (zif_pos w_43) (Eq.trans (zif_pos c_46) (Eq.trans (zif_pos c_48) rfl))))))))) rfl (Nat.le_refl _) (Nat.le_refl _)
              · refine z_lookup hx hb dX5_verdictOnBelt_31 (by decide) (x := p0) ⟨by omega, by omega⟩ (off := 129) (tgt := 160) (by simp [Op.lookupswitch.offset, Ne.symm w_37, Ne.symm w_40, Ne.symm w_43]) (by decide) ?_
                refine lv_aload_n hx hb dX5_verdictOnBelt_160 rfl (lv_at hl 1 rfl) ?_
                refine lv_iload_n hx hb dX5_verdictOnBelt_161 rfl (lv_at hl 3 rfl) ?_
                refine z_ai0 (va_runV (As := [.int (iI 2)]) (rest := []) ⟨hx, hb, hml, hown, hts⟩ (c_X5_isFull_2 l D k a0 S0   (by omega) _) (cwV 1 hts gX5_verdictOnBelt_X5_isFull rfl rfl rfl (by decide +kernel) ⟨(Nat.le_of_ble_eq_true rfl), (Nat.le_of_ble_eq_true rfl)⟩) (z_preV hK hG hA hP hD hS [0, 1, 2, 3, 4, 5, 6, 7, 8, 9, 10, 11, 12, 13, 14] rfl (by decide) 7 rfl rfl) rfl rfl hl.1 rfl (lv_room (Nat.le_of_ble_eq_true rfl)) dX5_verdictOnBelt_162 ⟨(Nat.le_of_ble_eq_true rfl), (Nat.le_of_ble_eq_true rfl)⟩) hA hP hD hS [0, 1, 2, 3, 4, 5, 6, 7, 8, 9, 10, 11, 12, 13, 14] rfl (fun H locs hP hS => ?_)
                refine zi_if_eqB (tgt := 172) hx hb dX5_verdictOnBelt_165 (by decide) (fun c_49 => ?_) (fun c_49 => ?_)
                · refine lv_iconst (v := iI 0) hx hb dX5_verdictOnBelt_172 rfl ?_
                  exact z_iret hx hb hr hlocks hP hS dX5_verdictOnBelt_173 (Eq.trans (zif_neg c_1) (Eq.trans (zif_neg c_10) (Eq.trans (zif_neg c_19) (Eq.trans (zif_neg c_28) (Eq.trans (zif_neg w_37) (Eq.trans (zif_neg w_40) (Eq.trans (zif_neg w_43) (Eq.trans (zif_neg c_49) rfl)))))))) rfl (Nat.le_refl _) (Nat.le_refl _)
                · refine lv_iconst (v := iI 1) hx hb dX5_verdictOnBelt_168 rfl ?_
                  refine lv_goto (tgt := 173) hx hb dX5_verdictOnBelt_169 (by decide) ?_
                  exact z_iret hx hb hr hlocks hP hS dX5_verdictOnBelt_173 (Eq.trans (zif_neg c_1) (Eq.trans (zif_neg c_10) (Eq.trans (zif_neg c_19) (Eq.trans (zif_neg c_28) (Eq.trans (zif_neg w_37) (Eq.trans (zif_neg w_40) (Eq.trans (zif_neg w_43) (Eq.trans (zif_pos c_49) rfl)))))))) rfl (Nat.le_refl _) (Nat.le_refl _)
theorem e_X5_verdictOnBelt_2 (S0 : Nat → Nat → Int) (p0 : Int) (p2 : Int) (p3 : Int) (Q : Int → Prop) (L0 : (p2 < 0) → (p0 = 105) → ((S0 9 1) = 0) → Q (3))
  (L1 : (p2 < 0) → (p0 = 105) → (¬ ((S0 9 1) = 0)) → ((S0 13 1) = 0) → Q (4))
  (L2 : (p2 < 0) → (p0 = 105) → (¬ ((S0 9 1) = 0)) → (¬ ((S0 13 1) = 0)) → Q (0))
  (L3 : (p2 < 0) → (¬ (p0 = 105)) → (p0 = 109) → Q (7))
  (L4 : (p2 < 0) → (¬ (p0 = 105)) → (¬ (p0 = 109)) → (p0 = 116) → Q (7))
  (L5 : (p2 < 0) → (¬ (p0 = 105)) → (¬ (p0 = 109)) → (¬ (p0 = 116)) → (5 ≤ S0 9 1) → Q (1))
  (L6 : (p2 < 0) → (¬ (p0 = 105)) → (¬ (p0 = 109)) → (¬ (p0 = 116)) → (¬ (5 ≤ S0 9 1)) → Q (0))
  (L7 : (¬ (p2 < 0)) → (9 < p2) → (p0 = 105) → ((S0 9 1) = 0) → Q (3))
  (L8 : (¬ (p2 < 0)) → (9 < p2) → (p0 = 105) → (¬ ((S0 9 1) = 0)) → ((S0 13 1) = 0) → Q (4))
  (L9 : (¬ (p2 < 0)) → (9 < p2) → (p0 = 105) → (¬ ((S0 9 1) = 0)) → (¬ ((S0 13 1) = 0)) → Q (0))
  (L10 : (¬ (p2 < 0)) → (9 < p2) → (¬ (p0 = 105)) → (p0 = 109) → Q (7))
  (L11 : (¬ (p2 < 0)) → (9 < p2) → (¬ (p0 = 105)) → (¬ (p0 = 109)) → (p0 = 116) → Q (7))
  (L12 : (¬ (p2 < 0)) → (9 < p2) → (¬ (p0 = 105)) → (¬ (p0 = 109)) → (¬ (p0 = 116)) → (5 ≤ S0 9 1) → Q (1))
  (L13 : (¬ (p2 < 0)) → (9 < p2) → (¬ (p0 = 105)) → (¬ (p0 = 109)) → (¬ (p0 = 116)) → (¬ (5 ≤ S0 9 1)) → Q (0))
  (L14 : (¬ (p2 < 0)) → (¬ (9 < p2)) → (p3 < 4) → (p0 = 105) → ((S0 9 1) = 0) → Q (3))
  (L15 : (¬ (p2 < 0)) → (¬ (9 < p2)) → (p3 < 4) → (p0 = 105) → (¬ ((S0 9 1) = 0)) → ((S0 13 1) = 0) → Q (4))
  (L16 : (¬ (p2 < 0)) → (¬ (9 < p2)) → (p3 < 4) → (p0 = 105) → (¬ ((S0 9 1) = 0)) → (¬ ((S0 13 1) = 0)) → Q (0))
  (L17 : (¬ (p2 < 0)) → (¬ (9 < p2)) → (p3 < 4) → (¬ (p0 = 105)) → (p0 = 109) → Q (7))
  (L18 : (¬ (p2 < 0)) → (¬ (9 < p2)) → (p3 < 4) → (¬ (p0 = 105)) → (¬ (p0 = 109)) → (p0 = 116) → Q (7))
  (L19 : (¬ (p2 < 0)) → (¬ (9 < p2)) → (p3 < 4) → (¬ (p0 = 105)) → (¬ (p0 = 109)) → (¬ (p0 = 116)) → (5 ≤ S0 9 1) → Q (1))
  (L20 : (¬ (p2 < 0)) → (¬ (9 < p2)) → (p3 < 4) → (¬ (p0 = 105)) → (¬ (p0 = 109)) → (¬ (p0 = 116)) → (¬ (5 ≤ S0 9 1)) → Q (0))
  (L21 : (¬ (p2 < 0)) → (¬ (9 < p2)) → (¬ (p3 < 4)) → (9 < p3) → (p0 = 105) → ((S0 9 1) = 0) → Q (3))
  (L22 : (¬ (p2 < 0)) → (¬ (9 < p2)) → (¬ (p3 < 4)) → (9 < p3) → (p0 = 105) → (¬ ((S0 9 1) = 0)) → ((S0 13 1) = 0) → Q (4))
  (L23 : (¬ (p2 < 0)) → (¬ (9 < p2)) → (¬ (p3 < 4)) → (9 < p3) → (p0 = 105) → (¬ ((S0 9 1) = 0)) → (¬ ((S0 13 1) = 0)) → Q (0))
  (L24 : (¬ (p2 < 0)) → (¬ (9 < p2)) → (¬ (p3 < 4)) → (9 < p3) → (¬ (p0 = 105)) → (p0 = 109) → Q (7))
  (L25 : (¬ (p2 < 0)) → (¬ (9 < p2)) → (¬ (p3 < 4)) → (9 < p3) → (¬ (p0 = 105)) → (¬ (p0 = 109)) → (p0 = 116) → Q (7))
  (L26 : (¬ (p2 < 0)) → (¬ (9 < p2)) → (¬ (p3 < 4)) → (9 < p3) → (¬ (p0 = 105)) → (¬ (p0 = 109)) → (¬ (p0 = 116)) → (5 ≤ S0 9 1) → Q (1))
  (L27 : (¬ (p2 < 0)) → (¬ (9 < p2)) → (¬ (p3 < 4)) → (9 < p3) → (¬ (p0 = 105)) → (¬ (p0 = 109)) → (¬ (p0 = 116)) → (¬ (5 ≤ S0 9 1)) → Q (0))
  (L28 : (¬ (p2 < 0)) → (¬ (9 < p2)) → (¬ (p3 < 4)) → (¬ (9 < p3)) → (p0 = 105) → ((S0 9 1) = 0) → Q (3))
  (L29 : (¬ (p2 < 0)) → (¬ (9 < p2)) → (¬ (p3 < 4)) → (¬ (9 < p3)) → (p0 = 105) → (¬ ((S0 9 1) = 0)) → ((S0 13 1) = 0) → Q (4))
  (L30 : (¬ (p2 < 0)) → (¬ (9 < p2)) → (¬ (p3 < 4)) → (¬ (9 < p3)) → (p0 = 105) → (¬ ((S0 9 1) = 0)) → (¬ ((S0 13 1) = 0)) → Q (0))
  (L31 : (¬ (p2 < 0)) → (¬ (9 < p2)) → (¬ (p3 < 4)) → (¬ (9 < p3)) → (¬ (p0 = 105)) → (p0 = 109) → (5 ≤ S0 9 1) → Q (1))
  (L32 : (¬ (p2 < 0)) → (¬ (9 < p2)) → (¬ (p3 < 4)) → (¬ (9 < p3)) → (¬ (p0 = 105)) → (p0 = 109) → (¬ (5 ≤ S0 9 1)) → Q (0))
  (L33 : (¬ (p2 < 0)) → (¬ (9 < p2)) → (¬ (p3 < 4)) → (¬ (9 < p3)) → (¬ (p0 = 105)) → (¬ (p0 = 109)) → (p0 = 116) → (p2 = (S0 8 1)) → (p3 = (S0 8 2)) → Q (2))
  (L34 : (¬ (p2 < 0)) → (¬ (9 < p2)) → (¬ (p3 < 4)) → (¬ (9 < p3)) → (¬ (p0 = 105)) → (¬ (p0 = 109)) → (p0 = 116) → (p2 = (S0 8 1)) → (¬ (p3 = (S0 8 2))) → Q (0))
  (L35 : (¬ (p2 < 0)) → (¬ (9 < p2)) → (¬ (p3 < 4)) → (¬ (9 < p3)) → (¬ (p0 = 105)) → (¬ (p0 = 109)) → (p0 = 116) → (¬ (p2 = (S0 8 1))) → Q (0))
  (L36 : (¬ (p2 < 0)) → (¬ (9 < p2)) → (¬ (p3 < 4)) → (¬ (9 < p3)) → (¬ (p0 = 105)) → (¬ (p0 = 109)) → (¬ (p0 = 116)) → (5 ≤ S0 9 1) → Q (1))
  (L37 : (¬ (p2 < 0)) → (¬ (9 < p2)) → (¬ (p3 < 4)) → (¬ (9 < p3)) → (¬ (p0 = 105)) → (¬ (p0 = 109)) → (¬ (p0 = 116)) → (¬ (5 ≤ S0 9 1)) → Q (0)) : Q (sp_X5_verdictOnBelt_2 S0 p0 p2 p3) := by
  unfold sp_X5_verdictOnBelt_2
  exact (el1 (fun h0 => (el1 (fun h1 => (el1 (fun h2 => (L0 h0 h1 h2)) (fun h2 => (el1 (fun h3 => (L1 h0 h1 h2 h3)) (fun h3 => (L2 h0 h1 h2 h3)))))) (fun h1 => (el1 (fun h2 => (L3 h0 h1 h2)) (fun h2 => (el1 (fun h3 => (L4 h0 h1 h2 h3)) (fun h3 => (el1 (fun h4 => (L5 h0 h1 h2 h3 h4)) (fun h4 => (L6 h0 h1 h2 h3 h4)))))))))) (fun h0 => (el1 (fun h1 => (el1 (fun h2 => (el1 (fun h3 => (L7 h0 h1 h2 h3)) (fun h3 => (el1 (fun h4 => (L8 h0 h1 h2 h3 h4)) (fun h4 => (L9 h0 h1 h2 h3 h4)))))) (fun h2 => (el1 (fun h3 => (L10 h0 h1 h2 h3)) (fun h3 => (el1 (fun h4 => (L11 h0 h1 h2 h3 h4)) (fun h4 => (el1 (fun h5 => (L12 h0 h1 h2 h3 h4 h5)) (fun h5 => (L13 h0 h1 h2 h3 h4 h5)))))))))) (fun h1 => (el1 (fun h2 => (el1 (fun h3 => (el1 (fun h4 => (L14 h0 h1 h2 h3 h4)) (fun h4 => (el1 (fun h5 => (L15 h0 h1 h2 h3 h4 h5)) (fun h5 => (L16 h0 h1 h2 h3 h4 h5)))))) (fun h3 => (el1 (fun h4 => (L17 h0 h1 h2 h3 h4)) (fun h4 => (el1 (fun h5 => (L18 h0 h1 h2 h3 h4 h5)) (fun h5 => (el1 (fun h6 => (L19 h0 h1 h2 h3 h4 h5 h6)) (fun h6 => (L20 h0 h1 h2 h3 h4 h5 h6)))))))))) (fun h2 => (el1 (fun h3 => (el1 (fun h4 => (el1 (fun h5 => (L21 h0 h1 h2 h3 h4 h5)) (fun h5 => (el1 (fun h6 => (L22 h0 h1 h2 h3 h4 h5 h6)) (fun h6 => (L23 h0 h1 h2 h3 h4 h5 h6)))))) (fun h4 => (el1 (fun h5 => (L24 h0 h1 h2 h3 h4 h5)) (fun h5 => (el1 (fun h6 => (L25 h0 h1 h2 h3 h4 h5 h6)) (fun h6 => (el1 (fun h7 => (L26 h0 h1 h2 h3 h4 h5 h6 h7)) (fun h7 => (L27 h0 h1 h2 h3 h4 h5 h6 h7)))))))))) (fun h3 => (el1 (fun h4 => (el1 (fun h5 => (L28 h0 h1 h2 h3 h4 h5)) (fun h5 => (el1 (fun h6 => (L29 h0 h1 h2 h3 h4 h5 h6)) (fun h6 => (L30 h0 h1 h2 h3 h4 h5 h6)))))) (fun h4 => (el1 (fun h5 => (el1 (fun h6 => (L31 h0 h1 h2 h3 h4 h5 h6)) (fun h6 => (L32 h0 h1 h2 h3 h4 h5 h6)))) (fun h5 => (el1 (fun h6 => (el1 (fun h7 => (el1 (fun h8 => (L33 h0 h1 h2 h3 h4 h5 h6 h7 h8)) (fun h8 => (L34 h0 h1 h2 h3 h4 h5 h6 h7 h8)))) (fun h7 => (L35 h0 h1 h2 h3 h4 h5 h6 h7)))) (fun h6 => (el1 (fun h7 => (L36 h0 h1 h2 h3 h4 h5 h6 h7)) (fun h7 => (L37 h0 h1 h2 h3 h4 h5 h6 h7)))))))))))))))))
set_option maxHeartbeats 4000000 in
set_option maxRecDepth 100000 in
theorem c_X5_dearest (l : Launch) (D : va_G) (k : Nat → ClassId) (a0 : Nat → Nat) (S0 : Nat → Nat → Int) (hB012 : zBf (S0 12)) (hk011 : 0 ≤ S0 11 1 ∧ S0 11 1 ≤ 8) (h9 : -1000000000 ≤ S0 0 9 ∧ S0 0 9 ≤ 1000000000) : zMi l yX5_dearest wsX5_dearest ({ frames := 3, cells := 0, slots := 0, locals := 66 } : Room) D k [.ref (a0 0)] (wPlant k a0 S0) (wBest (S0 12) (S0 11 1) (S0 0 9)) (wPlant k a0 S0) 0 0 := by
  refine zMi_of (cc := cX5_dearest) (maxL := 3) (ret := (some .int)) (by decide) rfl (Nat.le_of_ble_eq_true rfl) ?_
  intro p e s m args below meth c A ls hx hb hr hml hown hts hlocks hK hP hD hG hA hS hl
  have hown : s.vm.findClass RX5 = some m.cls := hown
  have hl : lv_has ls 3 [(0, .ref (a0 0))] := hl
  obtain ⟨H, hH⟩ : ∃ z, z = s.heap := ⟨_, rfl⟩
  obtain ⟨locs, hlc⟩ : ∃ z : List Loc, z = [] := ⟨_, rfl⟩
  rw [← hH] at hP
  have hS : va_S A s.heap H locs := by rw [hH, hlc]; exact hS
  rw [← hlc, ← hH]
  clear hlc hH
  refine lv_iconst (v := iI 0) hx hb dX5_dearest_0 rfl ?_
  refine lv_istore_n (lv' := [(1, .int (iI 0)), (0, .ref (a0 0))]) hx hb dX5_dearest_1 rfl hl (by decide) rfl (fun ls hl => ?_)
  refine lv_iconst (v := iI 1) hx hb dX5_dearest_2 rfl ?_
  refine lv_istore_n (lv' := [(2, .int (iI 1)), (1, .int (iI 0)), (0, .ref (a0 0))]) hx hb dX5_dearest_3 rfl hl (by decide) rfl (fun ls hl => ?_)
  have lp4_0 : ∀ (n : Nat) (x1 : Int) (x2 : Int), (8 - x2).toNat < n → (1 ≤ x2) → (x2 ≤ max 1 (S0 11 1)) → (0 ≤ x1 ∧ x1 < x2) → (x1 = foldI (wBestF (S0 12) (S0 11 1) (S0 0 9)) 0 x2) → ∀ (H : Heap) (locs : List Loc) (ls : Array Slot), va_P D vwCl (wPlant k a0 S0) H → va_D A (wPlant k a0 S0) → va_S A s.heap H locs → lv_has ls 3 [(2, .int (iI x2)), (1, .int (iI x1)), (0, .ref (a0 0))] → W p l e ({ frames := 3, cells := 0, slots := 0, locals := 66 } : Room) s m args below meth c H locs 0 0 (MQ below (zQi D A (wBest (S0 12) (S0 11 1) (S0 0 9)) (wPlant k a0 S0)) args s 0 0 A) (F0 m 4 ls []) := by
    intro n4
    induction n4 with
    | zero => intro x1 x2 hm; exact absurd hm (Nat.not_lt_zero _)
    | succ n4 ih4 =>
      intro x1 x2 hm4 i0 i1 ib iF  H locs ls hP hD hS hl
      refine lv_iload_n hx hb dX5_dearest_4 rfl (lv_at hl 0 rfl) ?_
      refine lv_aload_n hx hb dX5_dearest_5 rfl (lv_at hl 2 rfl) ?_
      refine va_get (D := D) (ci := 7) (v := .ref (a0 11)) (C := RX5) (T := TX5) (N := 11) hx hb hts (fun w h => List.mem_cons_of_mem _ (List.mem_append_left _ (List.mem_append_left _ (List.mem_append_right _ h)))) hown hK hP 0 rfl rfl 1 (by decide) (hts (.fieldLink RX5 21 "MondayFactory$Plant" "shelf" "LMondayFactory$Row;") (List.mem_of_getElem? (i := 1) rfl)) (fun _ h9 => h9) rfl dX5_dearest_6 ?_
      refine va_get (D := D) (ci := 8) (v := .int (iI (S0 11 1))) (C := RX6) (T := TX6) (N := 2) hx hb hts (fun w h => List.mem_cons_of_mem _ (List.mem_append_left _ (List.mem_append_right _ h))) hown hK hP 11 rfl rfl 1 (by decide) (hts (.fieldLink RX5 101 "MondayFactory$Row" "count" "I") (List.mem_of_getElem? (i := 2) rfl)) (fun _ h9 => h9) rfl dX5_dearest_9 ?_
      refine zi_icmp_ge (tgt := 36) hx hb dX5_dearest_12 (by decide) ⟨by omega, by omega⟩ ⟨by omega, by omega⟩ (fun c_1 => ?_) (fun c_1 => ?_)
      · have v_2 : x1 = wBest (S0 12) (S0 11 1) (S0 0 9) := (by rw [iF, show x2 = max 1 (S0 11 1) by omega]; rfl)
        rw [v_2] at hl
        have ib2 : 0 ≤ wBest (S0 12) (S0 11 1) (S0 0 9) ∧ wBest (S0 12) (S0 11 1) (S0 0 9) ≤ 7 := by have := ib; omega
        refine lv_iload_n hx hb dX5_dearest_36 rfl (lv_at hl 1 rfl) ?_
        exact z_iret hx hb hr hlocks hP hS dX5_dearest_37 rfl rfl (Nat.le_refl _) (Nat.le_refl _)
      · refine lv_aload_n hx hb dX5_dearest_15 rfl (lv_at hl 2 rfl) ?_
        refine lv_iload_n hx hb dX5_dearest_16 rfl (lv_at hl 0 rfl) ?_
        refine z_ai0 (va_runV (As := [.int (iI x2)]) (rest := []) ⟨hx, hb, hml, hown, hts⟩ (c_X5_priceOf l D k a0 S0  x2 hB012 (by omega) (by omega) (by omega) _) (cwV 1 hts gX5_dearest_X5_priceOf rfl rfl rfl (by decide +kernel) ⟨(Nat.le_of_ble_eq_true rfl), (Nat.le_of_ble_eq_true rfl)⟩) (z_preV hK hG hA hP hD hS [0, 1, 2, 3, 4, 5, 6, 7, 8, 9, 10, 11, 12, 13, 14] rfl (by decide) 7 rfl rfl) rfl rfl hl.1 rfl (lv_room (Nat.le_of_ble_eq_true rfl)) dX5_dearest_17 ⟨(Nat.le_of_ble_eq_true rfl), (Nat.le_of_ble_eq_true rfl)⟩) hA hP hD hS [0, 1, 2, 3, 4, 5, 6, 7, 8, 9, 10, 11, 12, 13, 14] rfl (fun H locs hP hS => ?_)
        have q_3 : 1 ≤ wWorth (S0 12) (S0 11 1) x2 (S0 0 9) ∧ wWorth (S0 12) (S0 11 1) x2 (S0 0 9) ≤ 2000000100 := wWorth_bd hB012 (by omega)
        refine lv_aload_n hx hb dX5_dearest_20 rfl (lv_at hl 2 rfl) ?_
        refine lv_iload_n hx hb dX5_dearest_21 rfl (lv_at hl 1 rfl) ?_
        refine z_ai0 (va_runV (As := [.int (iI x1)]) (rest := [.int (iI (wWorth (S0 12) (S0 11 1) x2 (S0 0 9)))]) ⟨hx, hb, hml, hown, hts⟩ (c_X5_priceOf l D k a0 S0  x1 hB012 (by omega) (by omega) (by omega) _) (cwV 1 hts gX5_dearest_X5_priceOf rfl rfl rfl (by decide +kernel) ⟨(Nat.le_of_ble_eq_true rfl), (Nat.le_of_ble_eq_true rfl)⟩) (z_preV hK hG hA hP hD hS [0, 1, 2, 3, 4, 5, 6, 7, 8, 9, 10, 11, 12, 13, 14] rfl (by decide) 7 rfl rfl) rfl rfl hl.1 rfl (lv_room (Nat.le_of_ble_eq_true rfl)) dX5_dearest_22 ⟨(Nat.le_of_ble_eq_true rfl), (Nat.le_of_ble_eq_true rfl)⟩) hA hP hD hS [0, 1, 2, 3, 4, 5, 6, 7, 8, 9, 10, 11, 12, 13, 14] rfl (fun H locs hP hS => ?_)
        have q_4 : 1 ≤ wWorth (S0 12) (S0 11 1) x1 (S0 0 9) ∧ wWorth (S0 12) (S0 11 1) x1 (S0 0 9) ≤ 2000000100 := wWorth_bd hB012 (by omega)
        refine zi_icmp_le (tgt := 30) hx hb dX5_dearest_25 (by decide) ⟨by omega, by omega⟩ ⟨by omega, by omega⟩ (fun c_5 => ?_) (fun c_5 => ?_)
        · refine lv_iinc (v := iI (x2 + 1)) (lv' := [(2, .int (iI (x2 + 1))), (1, .int (iI x1)), (0, .ref (a0 0))]) hx hb dX5_dearest_30 hl (k := 0) rfl (iI_add _ _) (by decide) rfl (fun ls hl => ?_)
          refine lv_goto (tgt := 4) hx hb dX5_dearest_33 (by decide) ?_
          exact ih4 x1 (x2 + 1) (by omega) (by omega) (by omega) (by omega) (foldI_e (by omega) (by rw [← iF]; unfold wBestF; first | exact (zif_pos (by assumption)).symm | exact (zif_neg (by assumption)).symm))  H locs ls hP hD hS (lv_sub hl [0, 1, 2] rfl)
        · refine lv_iload_n hx hb dX5_dearest_28 rfl (lv_at hl 0 rfl) ?_
          refine lv_istore_n (lv' := [(1, .int (iI x2)), (2, .int (iI x2)), (0, .ref (a0 0))]) hx hb dX5_dearest_29 rfl hl (by decide) rfl (fun ls hl => ?_)
          refine lv_iinc (v := iI (x2 + 1)) (lv' := [(2, .int (iI (x2 + 1))), (1, .int (iI x2)), (0, .ref (a0 0))]) hx hb dX5_dearest_30 hl (k := 1) rfl (iI_add _ _) (by decide) rfl (fun ls hl => ?_)
          refine lv_goto (tgt := 4) hx hb dX5_dearest_33 (by decide) ?_
          exact ih4 x2 (x2 + 1) (by omega) (by omega) (by omega) (by omega) (foldI_e (by omega) (by rw [← iF]; unfold wBestF; first | exact (zif_pos (by assumption)).symm | exact (zif_neg (by assumption)).symm))  H locs ls hP hD hS (lv_sub hl [0, 1, 2] rfl)
  exact lp4_0 9 0 1 (by omega) (by omega) (by omega) (by omega) (wBest_0 _ _ _)  H locs ls hP hD hS (lv_sub hl [0, 1, 2] rfl)
set_option maxHeartbeats 4000000 in
set_option maxRecDepth 100000 in
theorem c_X5_addCarrier_0 (l : Launch) (D : va_G) (k : Nat → ClassId) (a0 : Nat → Nat) (S0 : Nat → Nat → Int) (p1 : Int) (p2 : Int) (p3 : Int) (hk03 : 0 ≤ S0 3 1 ∧ S0 3 1 < 5) : zMi l yX5_addCarrier wsX5_addCarrier ({ frames := 1, cells := 0, slots := 0, locals := 25 } : Room) D k [.ref (a0 0), .int (iI 0), .int (iI p1), .int (iI p2), .int (iI p3)] (wPlant k a0 S0) (S0 3 1 + 1) (wPlant k a0 (upA (upA S0 3 (upZ (S0 3) 1 (S0 3 1 + 1))) 4 (wAdd (S0 4) (S0 3 1) p1 p2 p3 0))) 0 0 := by
  refine zMi_of (cc := cX5_addCarrier) (maxL := 6) (ret := (some .int)) (by decide) rfl (Nat.le_of_ble_eq_true rfl) ?_
  intro p e s m args below meth c A ls hx hb hr hml hown hts hlocks hK hP hD hG hA hS hl
  have hown : s.vm.findClass RX5 = some m.cls := hown
  have hl : lv_has ls 6 [(0, .ref (a0 0)), (1, .int (iI 0)), (2, .int (iI p1)), (3, .int (iI p2)), (4, .int (iI p3))] := hl
  obtain ⟨H, hH⟩ : ∃ z, z = s.heap := ⟨_, rfl⟩
  obtain ⟨locs, hlc⟩ : ∃ z : List Loc, z = [] := ⟨_, rfl⟩
  rw [← hH] at hP
  have hS : va_S A s.heap H locs := by rw [hH, hlc]; exact hS
  rw [← hlc, ← hH]
  clear hlc hH
  refine lv_aload_n hx hb dX5_addCarrier_0 rfl (lv_at hl 0 rfl) ?_
  refine va_get (D := D) (ci := 7) (v := .ref (a0 1)) (C := RX5) (T := TX5) (N := 11) hx hb hts (fun w h => List.mem_cons_of_mem _ (List.mem_append_left _ (List.mem_append_left _ (List.mem_append_left _ (List.mem_append_right _ h))))) hown hK hP 0 rfl rfl 0 (by decide) (hts (.fieldLink RX5 12 "MondayFactory$Plant" "belts" "[LMondayFactory$Belt;") (List.mem_of_getElem? (i := 1) rfl)) (fun _ h9 => h9) rfl dX5_addCarrier_1 ?_
  refine lv_iload_n hx hb dX5_addCarrier_4 rfl (lv_at hl 1 rfl) ?_
  refine z_aald hx hb hK hP 1 2 (f := fun j => some (a0 (2 + 3 * j))) (q := a0 2) rfl rfl (i := 0) (by omega) (by omega) (by decide) rfl dX5_addCarrier_5 ?_
  refine va_get (D := D) (ci := 2) (v := .ref (a0 3)) (C := RX0) (T := TX0) (N := 6) hx hb hts (fun w h => List.mem_cons_of_mem _ (List.mem_append_left _ (List.mem_append_left _ (List.mem_append_right _ h)))) hown hK hP 2 rfl rfl 0 (by decide) (hts (.fieldLink RX5 98 "MondayFactory$Belt" "row" "LMondayFactory$Row;") (List.mem_of_getElem? (i := 2) rfl)) (fun _ h9 => h9) rfl dX5_addCarrier_6 ?_
  refine lv_astore (lv' := [(5, .ref (a0 3)), (0, .ref (a0 0)), (1, .int (iI 0)), (2, .int (iI p1)), (3, .int (iI p2)), (4, .int (iI p3))]) hx hb dX5_addCarrier_9 hl (by decide) rfl (fun ls hl => ?_)
  refine lv_aload hx hb dX5_addCarrier_11 (lv_at hl 0 rfl) ?_
  refine lv_iload_n hx hb dX5_addCarrier_13 rfl (lv_at hl 3 rfl) ?_
  refine lv_iload_n hx hb dX5_addCarrier_14 rfl (lv_at hl 4 rfl) ?_
  refine lv_iload hx hb dX5_addCarrier_15 (lv_at hl 5 rfl) ?_
  refine lv_iconst (v := iI 0) hx hb dX5_addCarrier_17 rfl ?_
  refine z_av (va_runV (As := [.int (iI p1), .int (iI p2), .int (iI p3), .int (iI 0)]) (rest := []) ⟨hx, hb, hml, hown, hts⟩ (c_X6_add l D k (subA a0 3) (sub2 S0 3)  p1 p2 p3 0 (by have e0 : ((sub2 S0 3) 0 1) = S0 3 1 := rfl; omega) _) (cwV 4 hts gX5_addCarrier_X6_add rfl rfl rfl (by decide +kernel) ⟨(Nat.le_of_ble_eq_true rfl), (Nat.le_of_ble_eq_true rfl)⟩) (z_preV hK hG hA hP hD hS [3, 4] rfl (by decide) 8 rfl rfl) rfl rfl hl.1 rfl (lv_room (Nat.le_of_ble_eq_true rfl)) dX5_addCarrier_18 ⟨(Nat.le_of_ble_eq_true rfl), (Nat.le_of_ble_eq_true rfl)⟩) hA hP hD hS [3, 4] rfl rfl (fun H locs hP hD hS => ?_)
  have hP : va_P D vwCl (wPlant k a0 (upA (upA S0 3 (upZ (S0 3) 1 (S0 3 1 + 1))) 4 (wAdd (S0 4) (S0 3 1) p1 p2 p3 0))) H := hP
  have hD : va_D A (wPlant k a0 (upA (upA S0 3 (upZ (S0 3) 1 (S0 3 1 + 1))) 4 (wAdd (S0 4) (S0 3 1) p1 p2 p3 0))) := hD
  refine lv_aload hx hb dX5_addCarrier_21 (lv_at hl 0 rfl) ?_
  refine va_get (D := D) (ci := 8) (v := .int (iI (S0 3 1 + 1))) (C := RX6) (T := TX6) (N := 2) hx hb hts (fun w h => List.mem_cons_of_mem _ (List.mem_append_left _ (List.mem_append_right _ h))) hown hK hP 3 rfl rfl 1 (by decide) (hts (.fieldLink RX5 101 "MondayFactory$Row" "count" "I") (List.mem_of_getElem? (i := 3) rfl)) (fun _ h9 => h9) rfl dX5_addCarrier_23 ?_
  exact z_iret hx hb hr hlocks hP hS dX5_addCarrier_26 rfl rfl (Nat.le_refl _) (Nat.le_refl _)
set_option maxHeartbeats 4000000 in
set_option maxRecDepth 100000 in
theorem c_X5_makeMonday_0 (l : Launch) (D : va_G) (k : Nat → ClassId) (a0 : Nat → Nat) (S0 : Nat → Nat → Int) (p1 : Int) (p2 : Int) (hk03 : 0 ≤ S0 3 1 ∧ S0 3 1 < 5) : zMi l yX5_makeMonday wsX5_makeMonday ({ frames := 2, cells := 0, slots := 0, locals := 50 } : Room) D k [.ref (a0 0), .int (iI 0), .int (iI p1), .int (iI p2)] (wPlant k a0 S0) (S0 3 1 + 1) (wPlant k a0 (upA (upA (up2 S0 0 5 ((S0 0 5) + 1)) 3 (upZ (S0 3) 1 (S0 3 1 + 1))) 4 (wAdd (S0 4) (S0 3 1) p1 p2 0 0))) 0 0 := by
  refine zMi_of (cc := cX5_makeMonday) (maxL := 4) (ret := (some .int)) (by decide) rfl (Nat.le_of_ble_eq_true rfl) ?_
  intro p e s m args below meth c A ls hx hb hr hml hown hts hlocks hK hP hD hG hA hS hl
  have hown : s.vm.findClass RX5 = some m.cls := hown
  have hl : lv_has ls 4 [(0, .ref (a0 0)), (1, .int (iI 0)), (2, .int (iI p1)), (3, .int (iI p2))] := hl
  obtain ⟨H, hH⟩ : ∃ z, z = s.heap := ⟨_, rfl⟩
  obtain ⟨locs, hlc⟩ : ∃ z : List Loc, z = [] := ⟨_, rfl⟩
  rw [← hH] at hP
  have hS : va_S A s.heap H locs := by rw [hH, hlc]; exact hS
  rw [← hlc, ← hH]
  clear hlc hH
  refine lv_aload_n hx hb dX5_makeMonday_0 rfl (lv_at hl 0 rfl) ?_
  refine lv_dup hx hb dX5_makeMonday_1 rfl ?_
  refine va_get (D := D) (ci := 7) (v := .int (iI (S0 0 5))) (C := RX5) (T := TX5) (N := 11) hx hb hts (fun w h => List.mem_cons_of_mem _ (List.mem_append_left _ (List.mem_append_left _ (List.mem_append_left _ (List.mem_append_right _ h))))) hown hK hP 0 rfl rfl 5 (by decide) (hts (.fieldLink RX5 39 "MondayFactory$Plant" "made" "I") (List.mem_of_getElem? (i := 1) rfl)) (fun _ h9 => h9) rfl dX5_makeMonday_2 ?_
  refine lv_iconst (v := iI 1) hx hb dX5_makeMonday_5 rfl ?_
  refine zi_add hx hb dX5_makeMonday_6 ?_
  refine va_put (D := D) (ci := 7) (v := .int (iI ((S0 0 5) + 1))) (ty := .int) (C := RX5) (T := TX5) (N := 11) hx hb hts (fun w h => List.mem_cons_of_mem _ (List.mem_append_left _ (List.mem_append_left _ (List.mem_append_left _ (List.mem_append_right _ h))))) tyX5 tyX5_ok nmX5 hown hK hP hD hS 0 rfl rfl 5 (by decide) (hts (.fieldLink RX5 39 "MondayFactory$Plant" "made" "I") (List.mem_of_getElem? (i := 1) rfl)) (fun _ h9 => h9) rfl (by decide +kernel) rfl rfl (Nat.le_of_ble_eq_true rfl) dX5_makeMonday_7 (fun H locs hP hD hS => ?_)
  have hP : va_P D vwCl (wPlant k a0 (up2 S0 0 5 ((S0 0 5) + 1))) H := hP
  have hD : va_D A (wPlant k a0 (up2 S0 0 5 ((S0 0 5) + 1))) := hD
  refine lv_aload_n hx hb dX5_makeMonday_10 rfl (lv_at hl 0 rfl) ?_
  refine lv_iload_n hx hb dX5_makeMonday_11 rfl (lv_at hl 1 rfl) ?_
  refine lv_iload_n hx hb dX5_makeMonday_12 rfl (lv_at hl 2 rfl) ?_
  refine lv_iload_n hx hb dX5_makeMonday_13 rfl (lv_at hl 3 rfl) ?_
  refine lv_iconst (v := iI 0) hx hb dX5_makeMonday_14 rfl ?_
  refine z_ai (va_runV (As := [.int (iI 0), .int (iI p1), .int (iI p2), .int (iI 0)]) (rest := []) ⟨hx, hb, hml, hown, hts⟩ (c_X5_addCarrier_0 l D k a0 (up2 S0 0 5 ((S0 0 5) + 1))  p1 p2 0 (by have e0 : ((up2 S0 0 5 ((S0 0 5) + 1)) 3 1) = S0 3 1 := rfl; omega) _) (cwV 4 hts gX5_makeMonday_X5_addCarrier rfl rfl rfl (by decide +kernel) ⟨(Nat.le_of_ble_eq_true rfl), (Nat.le_of_ble_eq_true rfl)⟩) (z_preV hK hG hA hP hD hS [0, 1, 2, 3, 4, 5, 6, 7, 8, 9, 10, 11, 12, 13, 14] rfl (by decide) 7 rfl rfl) rfl rfl hl.1 rfl (lv_room (Nat.le_of_ble_eq_true rfl)) dX5_makeMonday_15 ⟨(Nat.le_of_ble_eq_true rfl), (Nat.le_of_ble_eq_true rfl)⟩) hA hP hD hS [0, 1, 2, 3, 4, 5, 6, 7, 8, 9, 10, 11, 12, 13, 14] rfl rfl (fun H locs hP hD hS => ?_)
  have hP : va_P D vwCl (wPlant k a0 (upA (upA (up2 S0 0 5 ((S0 0 5) + 1)) 3 (upZ (S0 3) 1 (S0 3 1 + 1))) 4 (wAdd (S0 4) (S0 3 1) p1 p2 0 0))) H := hP
  have hD : va_D A (wPlant k a0 (upA (upA (up2 S0 0 5 ((S0 0 5) + 1)) 3 (upZ (S0 3) 1 (S0 3 1 + 1))) 4 (wAdd (S0 4) (S0 3 1) p1 p2 0 0))) := hD
  refine z_eqi (z2 := S0 3 1 + 1) rfl ?_
  exact z_iret hx hb hr hlocks hP hS dX5_makeMonday_18 rfl rfl (Nat.le_refl _) (Nat.le_refl _)
set_option maxHeartbeats 4000000 in
set_option maxRecDepth 100000 in
theorem c_X5_addCarrier_1 (l : Launch) (D : va_G) (k : Nat → ClassId) (a0 : Nat → Nat) (S0 : Nat → Nat → Int) (p1 : Int) (p2 : Int) (p3 : Int) (hk06 : 0 ≤ S0 6 1 ∧ S0 6 1 < 5) : zMi l yX5_addCarrier wsX5_addCarrier ({ frames := 1, cells := 0, slots := 0, locals := 25 } : Room) D k [.ref (a0 0), .int (iI 1), .int (iI p1), .int (iI p2), .int (iI p3)] (wPlant k a0 S0) (S0 6 1 + 1) (wPlant k a0 (upA (upA S0 6 (upZ (S0 6) 1 (S0 6 1 + 1))) 7 (wAdd (S0 7) (S0 6 1) p1 p2 p3 0))) 0 0 := by
  refine zMi_of (cc := cX5_addCarrier) (maxL := 6) (ret := (some .int)) (by decide) rfl (Nat.le_of_ble_eq_true rfl) ?_
  intro p e s m args below meth c A ls hx hb hr hml hown hts hlocks hK hP hD hG hA hS hl
  have hown : s.vm.findClass RX5 = some m.cls := hown
  have hl : lv_has ls 6 [(0, .ref (a0 0)), (1, .int (iI 1)), (2, .int (iI p1)), (3, .int (iI p2)), (4, .int (iI p3))] := hl
  obtain ⟨H, hH⟩ : ∃ z, z = s.heap := ⟨_, rfl⟩
  obtain ⟨locs, hlc⟩ : ∃ z : List Loc, z = [] := ⟨_, rfl⟩
  rw [← hH] at hP
  have hS : va_S A s.heap H locs := by rw [hH, hlc]; exact hS
  rw [← hlc, ← hH]
  clear hlc hH
  refine lv_aload_n hx hb dX5_addCarrier_0 rfl (lv_at hl 0 rfl) ?_
  refine va_get (D := D) (ci := 7) (v := .ref (a0 1)) (C := RX5) (T := TX5) (N := 11) hx hb hts (fun w h => List.mem_cons_of_mem _ (List.mem_append_left _ (List.mem_append_left _ (List.mem_append_left _ (List.mem_append_right _ h))))) hown hK hP 0 rfl rfl 0 (by decide) (hts (.fieldLink RX5 12 "MondayFactory$Plant" "belts" "[LMondayFactory$Belt;") (List.mem_of_getElem? (i := 1) rfl)) (fun _ h9 => h9) rfl dX5_addCarrier_1 ?_
  refine lv_iload_n hx hb dX5_addCarrier_4 rfl (lv_at hl 1 rfl) ?_
  refine z_aald hx hb hK hP 1 2 (f := fun j => some (a0 (2 + 3 * j))) (q := a0 5) rfl rfl (i := 1) (by omega) (by omega) (by decide) rfl dX5_addCarrier_5 ?_
  refine va_get (D := D) (ci := 2) (v := .ref (a0 6)) (C := RX0) (T := TX0) (N := 6) hx hb hts (fun w h => List.mem_cons_of_mem _ (List.mem_append_left _ (List.mem_append_left _ (List.mem_append_right _ h)))) hown hK hP 5 rfl rfl 0 (by decide) (hts (.fieldLink RX5 98 "MondayFactory$Belt" "row" "LMondayFactory$Row;") (List.mem_of_getElem? (i := 2) rfl)) (fun _ h9 => h9) rfl dX5_addCarrier_6 ?_
  refine lv_astore (lv' := [(5, .ref (a0 6)), (0, .ref (a0 0)), (1, .int (iI 1)), (2, .int (iI p1)), (3, .int (iI p2)), (4, .int (iI p3))]) hx hb dX5_addCarrier_9 hl (by decide) rfl (fun ls hl => ?_)
  refine lv_aload hx hb dX5_addCarrier_11 (lv_at hl 0 rfl) ?_
  refine lv_iload_n hx hb dX5_addCarrier_13 rfl (lv_at hl 3 rfl) ?_
  refine lv_iload_n hx hb dX5_addCarrier_14 rfl (lv_at hl 4 rfl) ?_
  refine lv_iload hx hb dX5_addCarrier_15 (lv_at hl 5 rfl) ?_
  refine lv_iconst (v := iI 0) hx hb dX5_addCarrier_17 rfl ?_
  refine z_av (va_runV (As := [.int (iI p1), .int (iI p2), .int (iI p3), .int (iI 0)]) (rest := []) ⟨hx, hb, hml, hown, hts⟩ (c_X6_add l D k (subA a0 6) (sub2 S0 6)  p1 p2 p3 0 (by have e0 : ((sub2 S0 6) 0 1) = S0 6 1 := rfl; omega) _) (cwV 4 hts gX5_addCarrier_X6_add rfl rfl rfl (by decide +kernel) ⟨(Nat.le_of_ble_eq_true rfl), (Nat.le_of_ble_eq_true rfl)⟩) (z_preV hK hG hA hP hD hS [6, 7] rfl (by decide) 8 rfl rfl) rfl rfl hl.1 rfl (lv_room (Nat.le_of_ble_eq_true rfl)) dX5_addCarrier_18 ⟨(Nat.le_of_ble_eq_true rfl), (Nat.le_of_ble_eq_true rfl)⟩) hA hP hD hS [6, 7] rfl rfl (fun H locs hP hD hS => ?_)
  have hP : va_P D vwCl (wPlant k a0 (upA (upA S0 6 (upZ (S0 6) 1 (S0 6 1 + 1))) 7 (wAdd (S0 7) (S0 6 1) p1 p2 p3 0))) H := hP
  have hD : va_D A (wPlant k a0 (upA (upA S0 6 (upZ (S0 6) 1 (S0 6 1 + 1))) 7 (wAdd (S0 7) (S0 6 1) p1 p2 p3 0))) := hD
  refine lv_aload hx hb dX5_addCarrier_21 (lv_at hl 0 rfl) ?_
  refine va_get (D := D) (ci := 8) (v := .int (iI (S0 6 1 + 1))) (C := RX6) (T := TX6) (N := 2) hx hb hts (fun w h => List.mem_cons_of_mem _ (List.mem_append_left _ (List.mem_append_right _ h))) hown hK hP 6 rfl rfl 1 (by decide) (hts (.fieldLink RX5 101 "MondayFactory$Row" "count" "I") (List.mem_of_getElem? (i := 3) rfl)) (fun _ h9 => h9) rfl dX5_addCarrier_23 ?_
  exact z_iret hx hb hr hlocks hP hS dX5_addCarrier_26 rfl rfl (Nat.le_refl _) (Nat.le_refl _)
set_option maxHeartbeats 4000000 in
set_option maxRecDepth 100000 in
theorem c_X5_makeMonday_1 (l : Launch) (D : va_G) (k : Nat → ClassId) (a0 : Nat → Nat) (S0 : Nat → Nat → Int) (p1 : Int) (p2 : Int) (hk06 : 0 ≤ S0 6 1 ∧ S0 6 1 < 5) : zMi l yX5_makeMonday wsX5_makeMonday ({ frames := 2, cells := 0, slots := 0, locals := 50 } : Room) D k [.ref (a0 0), .int (iI 1), .int (iI p1), .int (iI p2)] (wPlant k a0 S0) (S0 6 1 + 1) (wPlant k a0 (upA (upA (up2 S0 0 5 ((S0 0 5) + 1)) 6 (upZ (S0 6) 1 (S0 6 1 + 1))) 7 (wAdd (S0 7) (S0 6 1) p1 p2 0 0))) 0 0 := by
  refine zMi_of (cc := cX5_makeMonday) (maxL := 4) (ret := (some .int)) (by decide) rfl (Nat.le_of_ble_eq_true rfl) ?_
  intro p e s m args below meth c A ls hx hb hr hml hown hts hlocks hK hP hD hG hA hS hl
  have hown : s.vm.findClass RX5 = some m.cls := hown
  have hl : lv_has ls 4 [(0, .ref (a0 0)), (1, .int (iI 1)), (2, .int (iI p1)), (3, .int (iI p2))] := hl
  obtain ⟨H, hH⟩ : ∃ z, z = s.heap := ⟨_, rfl⟩
  obtain ⟨locs, hlc⟩ : ∃ z : List Loc, z = [] := ⟨_, rfl⟩
  rw [← hH] at hP
  have hS : va_S A s.heap H locs := by rw [hH, hlc]; exact hS
  rw [← hlc, ← hH]
  clear hlc hH
  refine lv_aload_n hx hb dX5_makeMonday_0 rfl (lv_at hl 0 rfl) ?_
  refine lv_dup hx hb dX5_makeMonday_1 rfl ?_
  refine va_get (D := D) (ci := 7) (v := .int (iI (S0 0 5))) (C := RX5) (T := TX5) (N := 11) hx hb hts (fun w h => List.mem_cons_of_mem _ (List.mem_append_left _ (List.mem_append_left _ (List.mem_append_left _ (List.mem_append_right _ h))))) hown hK hP 0 rfl rfl 5 (by decide) (hts (.fieldLink RX5 39 "MondayFactory$Plant" "made" "I") (List.mem_of_getElem? (i := 1) rfl)) (fun _ h9 => h9) rfl dX5_makeMonday_2 ?_
  refine lv_iconst (v := iI 1) hx hb dX5_makeMonday_5 rfl ?_
  refine zi_add hx hb dX5_makeMonday_6 ?_
  refine va_put (D := D) (ci := 7) (v := .int (iI ((S0 0 5) + 1))) (ty := .int) (C := RX5) (T := TX5) (N := 11) hx hb hts (fun w h => List.mem_cons_of_mem _ (List.mem_append_left _ (List.mem_append_left _ (List.mem_append_left _ (List.mem_append_right _ h))))) tyX5 tyX5_ok nmX5 hown hK hP hD hS 0 rfl rfl 5 (by decide) (hts (.fieldLink RX5 39 "MondayFactory$Plant" "made" "I") (List.mem_of_getElem? (i := 1) rfl)) (fun _ h9 => h9) rfl (by decide +kernel) rfl rfl (Nat.le_of_ble_eq_true rfl) dX5_makeMonday_7 (fun H locs hP hD hS => ?_)
  have hP : va_P D vwCl (wPlant k a0 (up2 S0 0 5 ((S0 0 5) + 1))) H := hP
  have hD : va_D A (wPlant k a0 (up2 S0 0 5 ((S0 0 5) + 1))) := hD
  refine lv_aload_n hx hb dX5_makeMonday_10 rfl (lv_at hl 0 rfl) ?_
  refine lv_iload_n hx hb dX5_makeMonday_11 rfl (lv_at hl 1 rfl) ?_
  refine lv_iload_n hx hb dX5_makeMonday_12 rfl (lv_at hl 2 rfl) ?_
  refine lv_iload_n hx hb dX5_makeMonday_13 rfl (lv_at hl 3 rfl) ?_
  refine lv_iconst (v := iI 0) hx hb dX5_makeMonday_14 rfl ?_
  refine z_ai (va_runV (As := [.int (iI 1), .int (iI p1), .int (iI p2), .int (iI 0)]) (rest := []) ⟨hx, hb, hml, hown, hts⟩ (c_X5_addCarrier_1 l D k a0 (up2 S0 0 5 ((S0 0 5) + 1))  p1 p2 0 (by have e0 : ((up2 S0 0 5 ((S0 0 5) + 1)) 6 1) = S0 6 1 := rfl; omega) _) (cwV 4 hts gX5_makeMonday_X5_addCarrier rfl rfl rfl (by decide +kernel) ⟨(Nat.le_of_ble_eq_true rfl), (Nat.le_of_ble_eq_true rfl)⟩) (z_preV hK hG hA hP hD hS [0, 1, 2, 3, 4, 5, 6, 7, 8, 9, 10, 11, 12, 13, 14] rfl (by decide) 7 rfl rfl) rfl rfl hl.1 rfl (lv_room (Nat.le_of_ble_eq_true rfl)) dX5_makeMonday_15 ⟨(Nat.le_of_ble_eq_true rfl), (Nat.le_of_ble_eq_true rfl)⟩) hA hP hD hS [0, 1, 2, 3, 4, 5, 6, 7, 8, 9, 10, 11, 12, 13, 14] rfl rfl (fun H locs hP hD hS => ?_)
  have hP : va_P D vwCl (wPlant k a0 (upA (upA (up2 S0 0 5 ((S0 0 5) + 1)) 6 (upZ (S0 6) 1 (S0 6 1 + 1))) 7 (wAdd (S0 7) (S0 6 1) p1 p2 0 0))) H := hP
  have hD : va_D A (wPlant k a0 (upA (upA (up2 S0 0 5 ((S0 0 5) + 1)) 6 (upZ (S0 6) 1 (S0 6 1 + 1))) 7 (wAdd (S0 7) (S0 6 1) p1 p2 0 0))) := hD
  refine z_eqi (z2 := S0 6 1 + 1) rfl ?_
  exact z_iret hx hb hr hlocks hP hS dX5_makeMonday_18 rfl rfl (Nat.le_refl _) (Nat.le_refl _)
set_option maxHeartbeats 4000000 in
set_option maxRecDepth 100000 in
theorem c_X5_addCarrier_2 (l : Launch) (D : va_G) (k : Nat → ClassId) (a0 : Nat → Nat) (S0 : Nat → Nat → Int) (p1 : Int) (p2 : Int) (p3 : Int) (hk09 : 0 ≤ S0 9 1 ∧ S0 9 1 < 5) : zMi l yX5_addCarrier wsX5_addCarrier ({ frames := 1, cells := 0, slots := 0, locals := 25 } : Room) D k [.ref (a0 0), .int (iI 2), .int (iI p1), .int (iI p2), .int (iI p3)] (wPlant k a0 S0) (S0 9 1 + 1) (wPlant k a0 (upA (upA S0 9 (upZ (S0 9) 1 (S0 9 1 + 1))) 10 (wAdd (S0 10) (S0 9 1) p1 p2 p3 0))) 0 0 := by
  refine zMi_of (cc := cX5_addCarrier) (maxL := 6) (ret := (some .int)) (by decide) rfl (Nat.le_of_ble_eq_true rfl) ?_
  intro p e s m args below meth c A ls hx hb hr hml hown hts hlocks hK hP hD hG hA hS hl
  have hown : s.vm.findClass RX5 = some m.cls := hown
  have hl : lv_has ls 6 [(0, .ref (a0 0)), (1, .int (iI 2)), (2, .int (iI p1)), (3, .int (iI p2)), (4, .int (iI p3))] := hl
  obtain ⟨H, hH⟩ : ∃ z, z = s.heap := ⟨_, rfl⟩
  obtain ⟨locs, hlc⟩ : ∃ z : List Loc, z = [] := ⟨_, rfl⟩
  rw [← hH] at hP
  have hS : va_S A s.heap H locs := by rw [hH, hlc]; exact hS
  rw [← hlc, ← hH]
  clear hlc hH
  refine lv_aload_n hx hb dX5_addCarrier_0 rfl (lv_at hl 0 rfl) ?_
  refine va_get (D := D) (ci := 7) (v := .ref (a0 1)) (C := RX5) (T := TX5) (N := 11) hx hb hts (fun w h => List.mem_cons_of_mem _ (List.mem_append_left _ (List.mem_append_left _ (List.mem_append_left _ (List.mem_append_right _ h))))) hown hK hP 0 rfl rfl 0 (by decide) (hts (.fieldLink RX5 12 "MondayFactory$Plant" "belts" "[LMondayFactory$Belt;") (List.mem_of_getElem? (i := 1) rfl)) (fun _ h9 => h9) rfl dX5_addCarrier_1 ?_
  refine lv_iload_n hx hb dX5_addCarrier_4 rfl (lv_at hl 1 rfl) ?_
  refine z_aald hx hb hK hP 1 2 (f := fun j => some (a0 (2 + 3 * j))) (q := a0 8) rfl rfl (i := 2) (by omega) (by omega) (by decide) rfl dX5_addCarrier_5 ?_
  refine va_get (D := D) (ci := 2) (v := .ref (a0 9)) (C := RX0) (T := TX0) (N := 6) hx hb hts (fun w h => List.mem_cons_of_mem _ (List.mem_append_left _ (List.mem_append_left _ (List.mem_append_right _ h)))) hown hK hP 8 rfl rfl 0 (by decide) (hts (.fieldLink RX5 98 "MondayFactory$Belt" "row" "LMondayFactory$Row;") (List.mem_of_getElem? (i := 2) rfl)) (fun _ h9 => h9) rfl dX5_addCarrier_6 ?_
  refine lv_astore (lv' := [(5, .ref (a0 9)), (0, .ref (a0 0)), (1, .int (iI 2)), (2, .int (iI p1)), (3, .int (iI p2)), (4, .int (iI p3))]) hx hb dX5_addCarrier_9 hl (by decide) rfl (fun ls hl => ?_)
  refine lv_aload hx hb dX5_addCarrier_11 (lv_at hl 0 rfl) ?_
  refine lv_iload_n hx hb dX5_addCarrier_13 rfl (lv_at hl 3 rfl) ?_
  refine lv_iload_n hx hb dX5_addCarrier_14 rfl (lv_at hl 4 rfl) ?_
  refine lv_iload hx hb dX5_addCarrier_15 (lv_at hl 5 rfl) ?_
  refine lv_iconst (v := iI 0) hx hb dX5_addCarrier_17 rfl ?_
  refine z_av (va_runV (As := [.int (iI p1), .int (iI p2), .int (iI p3), .int (iI 0)]) (rest := []) ⟨hx, hb, hml, hown, hts⟩ (c_X6_add l D k (subA a0 9) (sub2 S0 9)  p1 p2 p3 0 (by have e0 : ((sub2 S0 9) 0 1) = S0 9 1 := rfl; omega) _) (cwV 4 hts gX5_addCarrier_X6_add rfl rfl rfl (by decide +kernel) ⟨(Nat.le_of_ble_eq_true rfl), (Nat.le_of_ble_eq_true rfl)⟩) (z_preV hK hG hA hP hD hS [9, 10] rfl (by decide) 8 rfl rfl) rfl rfl hl.1 rfl (lv_room (Nat.le_of_ble_eq_true rfl)) dX5_addCarrier_18 ⟨(Nat.le_of_ble_eq_true rfl), (Nat.le_of_ble_eq_true rfl)⟩) hA hP hD hS [9, 10] rfl rfl (fun H locs hP hD hS => ?_)
  have hP : va_P D vwCl (wPlant k a0 (upA (upA S0 9 (upZ (S0 9) 1 (S0 9 1 + 1))) 10 (wAdd (S0 10) (S0 9 1) p1 p2 p3 0))) H := hP
  have hD : va_D A (wPlant k a0 (upA (upA S0 9 (upZ (S0 9) 1 (S0 9 1 + 1))) 10 (wAdd (S0 10) (S0 9 1) p1 p2 p3 0))) := hD
  refine lv_aload hx hb dX5_addCarrier_21 (lv_at hl 0 rfl) ?_
  refine va_get (D := D) (ci := 8) (v := .int (iI (S0 9 1 + 1))) (C := RX6) (T := TX6) (N := 2) hx hb hts (fun w h => List.mem_cons_of_mem _ (List.mem_append_left _ (List.mem_append_right _ h))) hown hK hP 9 rfl rfl 1 (by decide) (hts (.fieldLink RX5 101 "MondayFactory$Row" "count" "I") (List.mem_of_getElem? (i := 3) rfl)) (fun _ h9 => h9) rfl dX5_addCarrier_23 ?_
  exact z_iret hx hb hr hlocks hP hS dX5_addCarrier_26 rfl rfl (Nat.le_refl _) (Nat.le_refl _)
set_option maxHeartbeats 4000000 in
set_option maxRecDepth 100000 in
theorem c_X5_makeMonday_2 (l : Launch) (D : va_G) (k : Nat → ClassId) (a0 : Nat → Nat) (S0 : Nat → Nat → Int) (p1 : Int) (p2 : Int) (hk09 : 0 ≤ S0 9 1 ∧ S0 9 1 < 5) : zMi l yX5_makeMonday wsX5_makeMonday ({ frames := 2, cells := 0, slots := 0, locals := 50 } : Room) D k [.ref (a0 0), .int (iI 2), .int (iI p1), .int (iI p2)] (wPlant k a0 S0) (S0 9 1 + 1) (wPlant k a0 (upA (upA (up2 S0 0 5 ((S0 0 5) + 1)) 9 (upZ (S0 9) 1 (S0 9 1 + 1))) 10 (wAdd (S0 10) (S0 9 1) p1 p2 0 0))) 0 0 := by
  refine zMi_of (cc := cX5_makeMonday) (maxL := 4) (ret := (some .int)) (by decide) rfl (Nat.le_of_ble_eq_true rfl) ?_
  intro p e s m args below meth c A ls hx hb hr hml hown hts hlocks hK hP hD hG hA hS hl
  have hown : s.vm.findClass RX5 = some m.cls := hown
  have hl : lv_has ls 4 [(0, .ref (a0 0)), (1, .int (iI 2)), (2, .int (iI p1)), (3, .int (iI p2))] := hl
  obtain ⟨H, hH⟩ : ∃ z, z = s.heap := ⟨_, rfl⟩
  obtain ⟨locs, hlc⟩ : ∃ z : List Loc, z = [] := ⟨_, rfl⟩
  rw [← hH] at hP
  have hS : va_S A s.heap H locs := by rw [hH, hlc]; exact hS
  rw [← hlc, ← hH]
  clear hlc hH
  refine lv_aload_n hx hb dX5_makeMonday_0 rfl (lv_at hl 0 rfl) ?_
  refine lv_dup hx hb dX5_makeMonday_1 rfl ?_
  refine va_get (D := D) (ci := 7) (v := .int (iI (S0 0 5))) (C := RX5) (T := TX5) (N := 11) hx hb hts (fun w h => List.mem_cons_of_mem _ (List.mem_append_left _ (List.mem_append_left _ (List.mem_append_left _ (List.mem_append_right _ h))))) hown hK hP 0 rfl rfl 5 (by decide) (hts (.fieldLink RX5 39 "MondayFactory$Plant" "made" "I") (List.mem_of_getElem? (i := 1) rfl)) (fun _ h9 => h9) rfl dX5_makeMonday_2 ?_
  refine lv_iconst (v := iI 1) hx hb dX5_makeMonday_5 rfl ?_
  refine zi_add hx hb dX5_makeMonday_6 ?_
  refine va_put (D := D) (ci := 7) (v := .int (iI ((S0 0 5) + 1))) (ty := .int) (C := RX5) (T := TX5) (N := 11) hx hb hts (fun w h => List.mem_cons_of_mem _ (List.mem_append_left _ (List.mem_append_left _ (List.mem_append_left _ (List.mem_append_right _ h))))) tyX5 tyX5_ok nmX5 hown hK hP hD hS 0 rfl rfl 5 (by decide) (hts (.fieldLink RX5 39 "MondayFactory$Plant" "made" "I") (List.mem_of_getElem? (i := 1) rfl)) (fun _ h9 => h9) rfl (by decide +kernel) rfl rfl (Nat.le_of_ble_eq_true rfl) dX5_makeMonday_7 (fun H locs hP hD hS => ?_)
  have hP : va_P D vwCl (wPlant k a0 (up2 S0 0 5 ((S0 0 5) + 1))) H := hP
  have hD : va_D A (wPlant k a0 (up2 S0 0 5 ((S0 0 5) + 1))) := hD
  refine lv_aload_n hx hb dX5_makeMonday_10 rfl (lv_at hl 0 rfl) ?_
  refine lv_iload_n hx hb dX5_makeMonday_11 rfl (lv_at hl 1 rfl) ?_
  refine lv_iload_n hx hb dX5_makeMonday_12 rfl (lv_at hl 2 rfl) ?_
  refine lv_iload_n hx hb dX5_makeMonday_13 rfl (lv_at hl 3 rfl) ?_
  refine lv_iconst (v := iI 0) hx hb dX5_makeMonday_14 rfl ?_
  refine z_ai (va_runV (As := [.int (iI 2), .int (iI p1), .int (iI p2), .int (iI 0)]) (rest := []) ⟨hx, hb, hml, hown, hts⟩ (c_X5_addCarrier_2 l D k a0 (up2 S0 0 5 ((S0 0 5) + 1))  p1 p2 0 (by have e0 : ((up2 S0 0 5 ((S0 0 5) + 1)) 9 1) = S0 9 1 := rfl; omega) _) (cwV 4 hts gX5_makeMonday_X5_addCarrier rfl rfl rfl (by decide +kernel) ⟨(Nat.le_of_ble_eq_true rfl), (Nat.le_of_ble_eq_true rfl)⟩) (z_preV hK hG hA hP hD hS [0, 1, 2, 3, 4, 5, 6, 7, 8, 9, 10, 11, 12, 13, 14] rfl (by decide) 7 rfl rfl) rfl rfl hl.1 rfl (lv_room (Nat.le_of_ble_eq_true rfl)) dX5_makeMonday_15 ⟨(Nat.le_of_ble_eq_true rfl), (Nat.le_of_ble_eq_true rfl)⟩) hA hP hD hS [0, 1, 2, 3, 4, 5, 6, 7, 8, 9, 10, 11, 12, 13, 14] rfl rfl (fun H locs hP hD hS => ?_)
  have hP : va_P D vwCl (wPlant k a0 (upA (upA (up2 S0 0 5 ((S0 0 5) + 1)) 9 (upZ (S0 9) 1 (S0 9 1 + 1))) 10 (wAdd (S0 10) (S0 9 1) p1 p2 0 0))) H := hP
  have hD : va_D A (wPlant k a0 (upA (upA (up2 S0 0 5 ((S0 0 5) + 1)) 9 (upZ (S0 9) 1 (S0 9 1 + 1))) 10 (wAdd (S0 10) (S0 9 1) p1 p2 0 0))) := hD
  refine z_eqi (z2 := S0 9 1 + 1) rfl ?_
  exact z_iret hx hb hr hlocks hP hS dX5_makeMonday_18 rfl rfl (Nat.le_refl _) (Nat.le_refl _)
set_option maxHeartbeats 4000000 in
set_option maxRecDepth 100000 in
theorem c_X5_tellBelt (l : Launch) (D : va_G) (k : Nat → ClassId) (a0 : Nat → Nat) (S0 : Nat → Nat → Int) (p1 : Int) (p2 : Int) : zMi l yX5_tellBelt wsX5_tellBelt ({ frames := 0, cells := 0, slots := 0, locals := 0 } : Room) D k [.ref (a0 0), .int (iI p1), .int (iI p2)] (wBelt k a0 S0) (S0 0 1) (wBelt k a0 (up2 (up2 S0 0 1 p1) 0 2 p2)) 0 0 := by
  refine zMi_of (cc := cX5_tellBelt) (maxL := 4) (ret := (some .int)) (by decide) rfl (Nat.le_of_ble_eq_true rfl) ?_
  intro p e s m args below meth c A ls hx hb hr hml hown hts hlocks hK hP hD hG hA hS hl
  have hown : s.vm.findClass RX5 = some m.cls := hown
  have hl : lv_has ls 4 [(0, .ref (a0 0)), (1, .int (iI p1)), (2, .int (iI p2))] := hl
  obtain ⟨H, hH⟩ : ∃ z, z = s.heap := ⟨_, rfl⟩
  obtain ⟨locs, hlc⟩ : ∃ z : List Loc, z = [] := ⟨_, rfl⟩
  rw [← hH] at hP
  have hS : va_S A s.heap H locs := by rw [hH, hlc]; exact hS
  rw [← hlc, ← hH]
  clear hlc hH
  refine lv_aload_n hx hb dX5_tellBelt_0 rfl (lv_at hl 0 rfl) ?_
  refine va_get (D := D) (ci := 2) (v := .int (iI (S0 0 1))) (C := RX0) (T := TX0) (N := 6) hx hb hts (fun w h => List.mem_cons_of_mem _ (List.mem_append_right _ h)) hown hK hP 0 rfl rfl 1 (by decide) (hts (.fieldLink RX5 92 "MondayFactory$Belt" "least" "I") (List.mem_of_getElem? (i := 1) rfl)) (fun _ h9 => h9) rfl dX5_tellBelt_1 ?_
  refine lv_istore_n (lv' := [(3, .int (iI (S0 0 1))), (0, .ref (a0 0)), (1, .int (iI p1)), (2, .int (iI p2))]) hx hb dX5_tellBelt_4 rfl hl (by decide) rfl (fun ls hl => ?_)
  refine lv_aload_n hx hb dX5_tellBelt_5 rfl (lv_at hl 1 rfl) ?_
  refine lv_iload_n hx hb dX5_tellBelt_6 rfl (lv_at hl 2 rfl) ?_
  refine va_put (D := D) (ci := 2) (v := .int (iI p1)) (ty := .int) (C := RX0) (T := TX0) (N := 6) hx hb hts (fun w h => List.mem_cons_of_mem _ (List.mem_append_right _ h)) tyX0 tyX0_ok nmX0 hown hK hP hD hS 0 rfl rfl 1 (by decide) (hts (.fieldLink RX5 92 "MondayFactory$Belt" "least" "I") (List.mem_of_getElem? (i := 1) rfl)) (fun _ h9 => h9) rfl (by decide +kernel) rfl rfl (Nat.le_of_ble_eq_true rfl) dX5_tellBelt_7 (fun H locs hP hD hS => ?_)
  have hP : va_P D vwCl (wBelt k a0 (up2 S0 0 1 p1)) H := hP
  have hD : va_D A (wBelt k a0 (up2 S0 0 1 p1)) := hD
  refine lv_aload_n hx hb dX5_tellBelt_10 rfl (lv_at hl 1 rfl) ?_
  refine lv_iload_n hx hb dX5_tellBelt_11 rfl (lv_at hl 3 rfl) ?_
  refine va_put (D := D) (ci := 2) (v := .int (iI p2)) (ty := .int) (C := RX0) (T := TX0) (N := 6) hx hb hts (fun w h => List.mem_cons_of_mem _ (List.mem_append_right _ h)) tyX0 tyX0_ok nmX0 hown hK hP hD hS 0 rfl rfl 2 (by decide) (hts (.fieldLink RX5 95 "MondayFactory$Belt" "latest" "I") (List.mem_of_getElem? (i := 2) rfl)) (fun _ h9 => h9) rfl (by decide +kernel) rfl rfl (Nat.le_of_ble_eq_true rfl) dX5_tellBelt_12 (fun H locs hP hD hS => ?_)
  have hP : va_P D vwCl (wBelt k a0 (up2 (up2 S0 0 1 p1) 0 2 p2)) H := hP
  have hD : va_D A (wBelt k a0 (up2 (up2 S0 0 1 p1) 0 2 p2)) := hD
  refine lv_iload_n hx hb dX5_tellBelt_15 rfl (lv_at hl 0 rfl) ?_
  exact z_iret hx hb hr hlocks hP hS dX5_tellBelt_16 rfl rfl (Nat.le_refl _) (Nat.le_refl _)
noncomputable def sp_X5_firstFailed_L3 (S0 : Nat → Nat → Int) (p1 : Int) (p2 : Int) (p3 : Int) : Nat → Int → Int
  | 0, _ => 0
  | n + 1, x4 => zif (3 < x4)
    (0)
    (zif (wPassed (S0 0) p1 p2 x4)
      (sp_X5_firstFailed_L3 S0 p1 p2 p3 n (x4 + 1))
      (zif (wLeft x4 p3)
        (sp_X5_firstFailed_L3 S0 p1 p2 p3 n (x4 + 1))
        (x4)))
noncomputable def sp_X5_firstFailed (S0 : Nat → Nat → Int) (p1 : Int) (p2 : Int) (p3 : Int) : Int := sp_X5_firstFailed_L3 S0 p1 p2 p3 4 1
set_option maxHeartbeats 4000000 in
set_option maxRecDepth 100000 in
theorem c_X5_firstFailed (l : Launch) (D : va_G) (k : Nat → ClassId) (a0 : Nat → Nat) (S0 : Nat → Nat → Int) (p1 : Int) (p2 : Int) (p3 : Int) (hB00 : zBf (S0 0)) (h0 : -2147483648 ≤ p1 ∧ p1 < 2147483648) (h1 : -2147483648 ≤ p2 ∧ p2 < 2147483648) (h2 : -2147483648 ≤ p3 ∧ p3 < 2147483648) : zMi l yX5_firstFailed wsX5_firstFailed ({ frames := 1, cells := 0, slots := 0, locals := 23 } : Room) D k [.ref (a0 0), .int (iI p1), .int (iI p2), .int (iI p3)] (wBelt k a0 S0) (sp_X5_firstFailed S0 p1 p2 p3) (wBelt k a0 S0) 0 0 := by
  refine zMi_of (cc := cX5_firstFailed) (maxL := 5) (ret := (some .int)) (by decide) rfl (Nat.le_of_ble_eq_true rfl) ?_
  intro p e s m args below meth c A ls hx hb hr hml hown hts hlocks hK hP hD hG hA hS hl
  have hown : s.vm.findClass RX5 = some m.cls := hown
  have hl : lv_has ls 5 [(0, .ref (a0 0)), (1, .int (iI p1)), (2, .int (iI p2)), (3, .int (iI p3))] := hl
  obtain ⟨H, hH⟩ : ∃ z, z = s.heap := ⟨_, rfl⟩
  obtain ⟨locs, hlc⟩ : ∃ z : List Loc, z = [] := ⟨_, rfl⟩
  rw [← hH] at hP
  have hS : va_S A s.heap H locs := by rw [hH, hlc]; exact hS
  rw [← hlc, ← hH]
  clear hlc hH
  refine lv_iconst (v := iI 1) hx hb dX5_firstFailed_0 rfl ?_
  refine lv_istore (lv' := [(4, .int (iI 1)), (0, .ref (a0 0)), (1, .int (iI p1)), (2, .int (iI p2)), (3, .int (iI p3))]) hx hb dX5_firstFailed_1 hl (by decide) rfl (fun ls hl => ?_)
  have lp3_0 : ∀ (n : Nat) (x4 : Int), (4 - x4).toNat < n → (1 ≤ x4) → (x4 ≤ 4) → sp_X5_firstFailed S0 p1 p2 p3 = sp_X5_firstFailed_L3 S0 p1 p2 p3 n x4 → ∀ (H : Heap) (locs : List Loc) (ls : Array Slot), va_P D vwCl (wBelt k a0 S0) H → va_D A (wBelt k a0 S0) → va_S A s.heap H locs → lv_has ls 5 [(4, .int (iI x4)), (0, .ref (a0 0)), (1, .int (iI p1)), (2, .int (iI p2)), (3, .int (iI p3))] → W p l e ({ frames := 1, cells := 0, slots := 0, locals := 23 } : Room) s m args below meth c H locs 0 0 (MQ below (zQi D A (sp_X5_firstFailed S0 p1 p2 p3) (wBelt k a0 S0)) args s 0 0 A) (F0 m 3 ls []) := by
    intro n3
    induction n3 with
    | zero => intro x4 hm; exact absurd hm (Nat.not_lt_zero _)
    | succ n3 ih3 =>
      intro x4 hm3 i0 i1 E3_0_r H locs ls hP hD hS hl
      refine lv_iload hx hb dX5_firstFailed_3 (lv_at hl 0 rfl) ?_
      refine lv_iconst (v := iI 3) hx hb dX5_firstFailed_5 rfl ?_
      refine zi_icmp_gt (tgt := 38) hx hb dX5_firstFailed_6 (by decide) ⟨by omega, by omega⟩ ⟨by omega, by omega⟩ (fun c_1 => ?_) (fun c_1 => ?_)
      · refine lv_iconst (v := iI 0) hx hb dX5_firstFailed_38 rfl ?_
        exact z_iret hx hb hr hlocks hP hS dX5_firstFailed_39 (Eq.trans E3_0_r (Eq.trans (zif_pos c_1) rfl)) rfl (Nat.le_refl _) (Nat.le_refl _)
      · refine lv_aload_n hx hb dX5_firstFailed_9 rfl (lv_at hl 1 rfl) ?_
        refine lv_iload_n hx hb dX5_firstFailed_10 rfl (lv_at hl 2 rfl) ?_
        refine lv_iload_n hx hb dX5_firstFailed_11 rfl (lv_at hl 3 rfl) ?_
        refine lv_iload hx hb dX5_firstFailed_12 (lv_at hl 0 rfl) ?_
        refine z_ai0 (va_runV (As := [.int (iI p1), .int (iI p2), .int (iI x4)]) (rest := []) ⟨hx, hb, hml, hown, hts⟩ (c_X0_isPassedBy l D k a0 S0  p1 p2 x4 hB00 (by omega) (by omega) (by omega) _) (cwV 3 hts gX5_firstFailed_X0_isPassedBy rfl rfl rfl (by decide +kernel) ⟨(Nat.le_of_ble_eq_true rfl), (Nat.le_of_ble_eq_true rfl)⟩) (z_preV hK hG hA hP hD hS [0, 1, 2] rfl (by decide) 2 rfl rfl) rfl rfl hl.1 rfl (lv_room (Nat.le_of_ble_eq_true rfl)) dX5_firstFailed_14 ⟨(Nat.le_of_ble_eq_true rfl), (Nat.le_of_ble_eq_true rfl)⟩) hA hP hD hS [0, 1, 2] rfl (fun H locs hP hS => ?_)
        refine zi_if_neB (tgt := 32) hx hb dX5_firstFailed_17 (by decide) (fun c_2 => ?_) (fun c_2 => ?_)
        · refine lv_iinc (v := iI (x4 + 1)) (lv' := [(4, .int (iI (x4 + 1))), (0, .ref (a0 0)), (1, .int (iI p1)), (2, .int (iI p2)), (3, .int (iI p3))]) hx hb dX5_firstFailed_32 hl (k := 0) rfl (iI_add _ _) (by decide) rfl (fun ls hl => ?_)
          refine lv_goto (tgt := 3) hx hb dX5_firstFailed_35 (by decide) ?_
          exact ih3 (x4 + 1) (by omega) (by omega) (by omega) (Eq.trans E3_0_r (Eq.trans (zif_neg c_1) (Eq.trans (zif_pos c_2) rfl))) H locs ls hP hD hS (lv_sub hl [0, 1, 2, 3, 4] rfl)
        · refine lv_iload hx hb dX5_firstFailed_20 (lv_at hl 0 rfl) ?_
          refine lv_iload_n hx hb dX5_firstFailed_22 rfl (lv_at hl 4 rfl) ?_
          refine z_ai0 (va_runS (As := [.int (iI x4), .int (iI p3)]) (rest := []) ⟨hx, hb, hml, hown, hts⟩ (c_X1_isLeftOut l D k   x4 p3 (by omega) (by omega) _) (va_cwS 2 hts gX5_firstFailed_X1_isLeftOut rfl rfl rfl (by decide +kernel) ⟨(Nat.le_of_ble_eq_true rfl), (Nat.le_of_ble_eq_true rfl)⟩) (z_preS hK hG hA hP hD hS [] rfl (by decide)) rfl rfl hl.1 rfl (lv_room (Nat.le_of_ble_eq_true rfl)) dX5_firstFailed_23 ⟨(Nat.le_of_ble_eq_true rfl), (Nat.le_of_ble_eq_true rfl)⟩) hA hP hD hS [] rfl (fun H locs hP hS => ?_)
          refine zi_if_neB (tgt := 32) hx hb dX5_firstFailed_26 (by decide) (fun c_3 => ?_) (fun c_3 => ?_)
          · refine lv_iinc (v := iI (x4 + 1)) (lv' := [(4, .int (iI (x4 + 1))), (0, .ref (a0 0)), (1, .int (iI p1)), (2, .int (iI p2)), (3, .int (iI p3))]) hx hb dX5_firstFailed_32 hl (k := 0) rfl (iI_add _ _) (by decide) rfl (fun ls hl => ?_)
            refine lv_goto (tgt := 3) hx hb dX5_firstFailed_35 (by decide) ?_
            exact ih3 (x4 + 1) (by omega) (by omega) (by omega) (Eq.trans E3_0_r (Eq.trans (zif_neg c_1) (Eq.trans (zif_neg c_2) (Eq.trans (zif_pos c_3) rfl)))) H locs ls hP hD hS (lv_sub hl [0, 1, 2, 3, 4] rfl)
          · refine lv_iload hx hb dX5_firstFailed_29 (lv_at hl 0 rfl) ?_
            exact z_iret hx hb hr hlocks hP hS dX5_firstFailed_31 (Eq.trans E3_0_r (Eq.trans (zif_neg c_1) (Eq.trans (zif_neg c_2) (Eq.trans (zif_neg c_3) rfl)))) rfl (Nat.le_refl _) (Nat.le_refl _)
  exact lp3_0 4 1 (by omega) (by omega) (by omega) rfl H locs ls hP hD hS (lv_sub hl [0, 1, 2, 3, 4] rfl)
theorem ffailL_rng (S0 : Nat → Nat → Int) (p1 p2 p3 : Int) : ∀ (n : Nat) (x : Int), 1 ≤ x → x ≤ 4 → 0 ≤ sp_X5_firstFailed_L3 S0 p1 p2 p3 n x ∧ sp_X5_firstFailed_L3 S0 p1 p2 p3 n x ≤ 3 := by
  intro n
  induction n with
  | zero => intro x _ _; exact ⟨Int.le_refl 0, show (0 : Int) ≤ 3 by decide⟩
  | succ n ih =>
    intro x hx hx4
    unfold sp_X5_firstFailed_L3
    refine el1 (Q := fun z => 0 ≤ z ∧ z ≤ 3) (fun _ => by omega) (fun h3 => ?_)
    refine el1 (Q := fun z => 0 ≤ z ∧ z ≤ 3) (fun _ => ih _ (by omega) (by omega)) (fun _ => ?_)
    exact el1 (Q := fun z => 0 ≤ z ∧ z ≤ 3) (fun _ => ih _ (by omega) (by omega)) (fun _ => by omega)
theorem ffail_rng (S0 : Nat → Nat → Int) (p1 p2 p3 : Int) : 0 ≤ sp_X5_firstFailed S0 p1 p2 p3 ∧ sp_X5_firstFailed S0 p1 p2 p3 ≤ 3 := by
  unfold sp_X5_firstFailed
  exact ffailL_rng S0 p1 p2 p3 4 1 (by omega) (by omega)

