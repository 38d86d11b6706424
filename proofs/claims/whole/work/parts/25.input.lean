/-- the sign at a place of the input, 0 where there is none -/
noncomputable def iSign (I : Nat → Int) (x : Int) : Int := zif (0 ≤ x ∧ x < 60) (I x.toNat) 0
theorem iSign_rng {I : Nat → Int} (h : ∀ j : Nat, 0 ≤ I j ∧ I j < 65536) {x : Int} : 0 ≤ iSign I x ∧ iSign I x < 65536 := by
  unfold iSign
  exact el1 (Q := fun z => 0 ≤ z ∧ z < 65536) (fun _ => h _) (fun _ => by omega)
noncomputable def iNumb (I : Nat → Int) (x : Int) : Int := zif (48 ≤ iSign I x ∧ iSign I x ≤ 57) (iSign I x - 48) 0
theorem iNumb_rng {I : Nat → Int} {x : Int} : 0 ≤ iNumb I x ∧ iNumb I x ≤ 9 := by
  unfold iNumb
  exact el1 (Q := fun z => 0 ≤ z ∧ z ≤ 9) (fun h => by omega) (fun _ => by omega)
/-- how many numbers an order's letter wants -/
noncomputable def iNums (c : Int) : Int := zif (c = 109 ∨ c = 116) 3 (zif (c = 98 ∨ c = 105 ∨ c = 111 ∨ c = 115 ∨ c = 114) 1 (zif (c = 104 ∨ c = 119) 0 (-2)))
theorem iNums_rng {c : Int} : iNums c = -2 ∨ (0 ≤ iNums c ∧ iNums c ≤ 3) := by
  unfold iNums
  exact el1 (Q := fun z => z = -2 ∨ (0 ≤ z ∧ z ≤ 3)) (fun _ => by omega) (fun _ => el1 (Q := fun z => z = -2 ∨ (0 ≤ z ∧ z ≤ 3)) (fun _ => by omega) (fun _ => el1 (Q := fun z => z = -2 ∨ (0 ≤ z ∧ z ≤ 3)) (fun _ => by omega) (fun _ => by omega)))
noncomputable def iDue (d c : Int) : Int := zif (d = -1) (iNums c) (zif (d = 0) (zif (c = 59) (-1) (-2)) (zif (48 ≤ c ∧ c ≤ 57) (d - 1) (-2)))
theorem iDue_rng {d c : Int} (h : -1 ≤ d ∧ d ≤ 3) : -2 ≤ iDue d c ∧ iDue d c ≤ 3 := by
  have n := iNums_rng (c := c)
  unfold iDue
  exact el1 (Q := fun z => -2 ≤ z ∧ z ≤ 3) (fun _ => by omega) (fun h1 => el1 (Q := fun z => -2 ≤ z ∧ z ≤ 3) (fun _ => el1 (Q := fun z => -2 ≤ z ∧ z ≤ 3) (fun _ => by omega) (fun _ => by omega)) (fun h2 => el1 (Q := fun z => -2 ≤ z ∧ z ≤ 3) (fun _ => by omega) (fun _ => by omega)))
noncomputable def iCount (I : Nat → Int) (n : Int) : Int := sumI (fun k => zif (iNums (iSign I k) = -2) 0 1) n
set_option maxHeartbeats 4000000 in
set_option maxRecDepth 100000 in
theorem c_X2_remember (l : Launch) (D : va_G) (k : Nat → ClassId) (a0 : Nat → Nat) (a2 : Nat → Nat) (S0 : Nat → Nat → Int) (S1 : Nat → Nat → Int) (S2 : Nat → Nat → Int) (i0 : Nat) (hi : S0 0 1 = (i0 : Int) ∧ i0 < 8) (hcn : 0 ≤ S0 0 2 ∧ S0 0 2 ≤ 8) (hk23 : 0 ≤ S2 3 1 ∧ S2 3 1 ≤ 8) (hk26 : 0 ≤ S2 6 1 ∧ S2 6 1 ≤ 8) (hk29 : 0 ≤ S2 9 1 ∧ S2 9 1 ≤ 8) (hk211 : 0 ≤ S2 11 1 ∧ S2 11 1 ≤ 8) : zMv l yX2_remember wsX2_remember ({ frames := 4, cells := 0, slots := 0, locals := 104 } : Room) D k [.ref (a0 0), .ref (a2 0)] (wHist k a0 S0 ++ (wPlant k (subA a0 (2 + 15 * i0)) S1 ++ wPlant k a2 S2)) (wHist k a0 (up2 (up2 S0 0 1 (((S0 0 1) + 1) % 8)) 0 2 (min ((S0 0 2) + 1) 8)) ++ (wPlant k (subA a0 (2 + 15 * i0)) ((wCopy S1 S2)) ++ wPlant k a2 S2)) 0 0 := by
  refine zMv_of (cc := cX2_remember) (maxL := 2) (ret := none) (by decide) rfl (Nat.le_of_ble_eq_true rfl) ?_
  intro p e s m args below meth c A ls hx hb hr hml hown hts hlocks hK hP hD hG hA hS hl
  have hown : s.vm.findClass RX2 = some m.cls := hown
  have hl : lv_has ls 2 [(0, .ref (a0 0)), (1, .ref (a2 0))] := hl
  obtain ⟨H, hH⟩ : ∃ z, z = s.heap := ⟨_, rfl⟩
  obtain ⟨locs, hlc⟩ : ∃ z : List Loc, z = [] := ⟨_, rfl⟩
  rw [← hH] at hP
  have hS : va_S A s.heap H locs := by rw [hH, hlc]; exact hS
  rw [← hlc, ← hH]
  clear hlc hH
  refine lv_aload_n hx hb dX2_remember_0 rfl (lv_at hl 0 rfl) ?_
  refine va_get (D := D) (ci := 4) (v := .ref (a0 1)) (C := RX2) (T := TX2) (N := 3) hx hb hts (fun w h => List.mem_cons_of_mem _ (List.mem_append_left _ (List.mem_append_left _ (List.mem_append_left _ (List.mem_append_left _ (List.mem_append_right _ h)))))) hown hK hP 0 rfl rfl 0 (by decide) (hts (.fieldLink RX2 11 "MondayFactory$History" "plants" "[LMondayFactory$Plant;") (List.mem_of_getElem? (i := 1) rfl)) (fun _ h9 => h9) rfl dX2_remember_1 ?_
  refine lv_aload_n hx hb dX2_remember_4 rfl (lv_at hl 0 rfl) ?_
  refine va_get (D := D) (ci := 4) (v := .int (iI (S0 0 1))) (C := RX2) (T := TX2) (N := 3) hx hb hts (fun w h => List.mem_cons_of_mem _ (List.mem_append_left _ (List.mem_append_left _ (List.mem_append_left _ (List.mem_append_left _ (List.mem_append_right _ h)))))) hown hK hP 0 rfl rfl 1 (by decide) (hts (.fieldLink RX2 17 "MondayFactory$History" "at" "I") (List.mem_of_getElem? (i := 2) rfl)) (fun _ h9 => h9) rfl dX2_remember_5 ?_
  refine z_aald hx hb hK hP 1 3 (f := fun j => some (a0 (2 + 15 * j))) (q := (subA a0 (2 + 15 * i0)) 0) rfl rfl (i := S0 0 1) (by omega) (by omega) (by decide) (by rw [hi.1]; rfl) dX2_remember_8 ?_
  refine lv_aload_n hx hb dX2_remember_9 rfl (lv_at hl 1 rfl) ?_
  refine z_av (va_runV (As := [.ref (a2 0)]) (rest := []) ⟨hx, hb, hml, hown, hts⟩ (c_X5_copyW l D k ((subA a0 (2 + 15 * i0))) S1 a2 S2   (by omega) (by omega) (by omega) (by omega) _) (cwV 1 hts gX2_remember_X5_copyFrom rfl rfl rfl (by decide +kernel) ⟨(Nat.le_of_ble_eq_true rfl), (Nat.le_of_ble_eq_true rfl)⟩) (z_preV hK hG hA hP hD hS [2, 3, 4, 5, 6, 7, 8, 9, 10, 11, 12, 13, 14, 15, 16, 17, 18, 19, 20, 21, 22, 23, 24, 25, 26, 27, 28, 29, 30, 31] rfl (by decide) 7 rfl rfl) rfl rfl hl.1 rfl (lv_room (Nat.le_of_ble_eq_true rfl)) dX2_remember_10 ⟨(Nat.le_of_ble_eq_true rfl), (Nat.le_of_ble_eq_true rfl)⟩) hA hP hD hS [2, 3, 4, 5, 6, 7, 8, 9, 10, 11, 12, 13, 14, 15, 16, 17, 18, 19, 20, 21, 22, 23, 24, 25, 26, 27, 28, 29, 30, 31] rfl rfl (fun H locs hP hD hS => ?_)
  have hP : va_P D vwCl (wHist k a0 S0 ++ (wPlant k (subA a0 (2 + 15 * i0)) ((wCopy S1 S2)) ++ wPlant k a2 S2)) H := hP
  have hD : va_D A (wHist k a0 S0 ++ (wPlant k (subA a0 (2 + 15 * i0)) ((wCopy S1 S2)) ++ wPlant k a2 S2)) := hD
  refine lv_aload_n hx hb dX2_remember_13 rfl (lv_at hl 0 rfl) ?_
  refine lv_aload_n hx hb dX2_remember_14 rfl (lv_at hl 0 rfl) ?_
  refine va_get (D := D) (ci := 4) (v := .int (iI (S0 0 1))) (C := RX2) (T := TX2) (N := 3) hx hb hts (fun w h => List.mem_cons_of_mem _ (List.mem_append_left _ (List.mem_append_left _ (List.mem_append_left _ (List.mem_append_left _ (List.mem_append_right _ h)))))) hown hK hP 0 rfl rfl 1 (by decide) (hts (.fieldLink RX2 17 "MondayFactory$History" "at" "I") (List.mem_of_getElem? (i := 2) rfl)) (fun _ h9 => h9) rfl dX2_remember_15 ?_
  refine lv_iconst (v := iI 1) hx hb dX2_remember_18 rfl ?_
  refine zi_add hx hb dX2_remember_19 ?_
  refine lv_bipush (v := iI 8) hx hb dX2_remember_20 (by decide) ?_
  refine z_rem8 hx hb (by omega) (by omega) dX2_remember_22 ?_
  refine va_put (D := D) (ci := 4) (v := .int (iI (((S0 0 1) + 1) % 8))) (ty := .int) (C := RX2) (T := TX2) (N := 3) hx hb hts (fun w h => List.mem_cons_of_mem _ (List.mem_append_left _ (List.mem_append_left _ (List.mem_append_left _ (List.mem_append_left _ (List.mem_append_right _ h)))))) tyX2 tyX2_ok nmX2 hown hK hP hD hS 0 rfl rfl 1 (by decide) (hts (.fieldLink RX2 17 "MondayFactory$History" "at" "I") (List.mem_of_getElem? (i := 2) rfl)) (fun _ h9 => h9) rfl (by decide +kernel) rfl rfl (Nat.le_of_ble_eq_true rfl) dX2_remember_23 (fun H locs hP hD hS => ?_)
  have hP : va_P D vwCl (wHist k a0 (up2 S0 0 1 (((S0 0 1) + 1) % 8)) ++ (wPlant k (subA a0 (2 + 15 * i0)) ((wCopy S1 S2)) ++ wPlant k a2 S2)) H := hP
  have hD : va_D A (wHist k a0 (up2 S0 0 1 (((S0 0 1) + 1) % 8)) ++ (wPlant k (subA a0 (2 + 15 * i0)) ((wCopy S1 S2)) ++ wPlant k a2 S2)) := hD
  refine lv_aload_n hx hb dX2_remember_26 rfl (lv_at hl 0 rfl) ?_
  refine lv_aload_n hx hb dX2_remember_27 rfl (lv_at hl 0 rfl) ?_
  refine va_get (D := D) (ci := 4) (v := .int (iI (S0 0 2))) (C := RX2) (T := TX2) (N := 3) hx hb hts (fun w h => List.mem_cons_of_mem _ (List.mem_append_left _ (List.mem_append_left _ (List.mem_append_left _ (List.mem_append_left _ (List.mem_append_right _ h)))))) hown hK hP 0 rfl rfl 2 (by decide) (hts (.fieldLink RX2 21 "MondayFactory$History" "count" "I") (List.mem_of_getElem? (i := 3) rfl)) (fun _ h9 => h9) rfl dX2_remember_28 ?_
  refine lv_iconst (v := iI 1) hx hb dX2_remember_31 rfl ?_
  refine zi_add hx hb dX2_remember_32 ?_
  refine lv_bipush (v := iI 8) hx hb dX2_remember_33 (by decide) ?_
  refine z_mmin hx hb (hml.trans hl.1.symm) hown (hts (.methodLink RX2 29 Lib.Math.min.name) (List.mem_of_getElem? (i := 4) rfl)) (hts (.static Lib.Math.min.name) (List.mem_of_getElem? (i := 5) rfl)) (hts (.initialized "java/lang/Math") (List.mem_of_getElem? (i := 6) rfl)) (hts (.code Lib.Math.min.name Lib.Math.min.code 2 (some .int)) (List.mem_of_getElem? (i := 7) rfl)) (Nat.le_of_ble_eq_true rfl) (Nat.le_of_ble_eq_true rfl) (Nat.le_of_ble_eq_true rfl) (Nat.le_of_ble_eq_true rfl) ⟨by omega, by omega⟩ ⟨by omega, by omega⟩ dX2_remember_35 ?_
  refine va_put (D := D) (ci := 4) (v := .int (iI (min ((S0 0 2) + 1) 8))) (ty := .int) (C := RX2) (T := TX2) (N := 3) hx hb hts (fun w h => List.mem_cons_of_mem _ (List.mem_append_left _ (List.mem_append_left _ (List.mem_append_left _ (List.mem_append_left _ (List.mem_append_right _ h)))))) tyX2 tyX2_ok nmX2 hown hK hP hD hS 0 rfl rfl 2 (by decide) (hts (.fieldLink RX2 21 "MondayFactory$History" "count" "I") (List.mem_of_getElem? (i := 3) rfl)) (fun _ h9 => h9) rfl (by decide +kernel) rfl rfl (Nat.le_of_ble_eq_true rfl) dX2_remember_38 (fun H locs hP hD hS => ?_)
  have hP : va_P D vwCl (wHist k a0 (up2 (up2 S0 0 1 (((S0 0 1) + 1) % 8)) 0 2 (min ((S0 0 2) + 1) 8)) ++ (wPlant k (subA a0 (2 + 15 * i0)) ((wCopy S1 S2)) ++ wPlant k a2 S2)) H := hP
  have hD : va_D A (wHist k a0 (up2 (up2 S0 0 1 (((S0 0 1) + 1) % 8)) 0 2 (min ((S0 0 2) + 1) 8)) ++ (wPlant k (subA a0 (2 + 15 * i0)) ((wCopy S1 S2)) ++ wPlant k a2 S2)) := hD
  exact z_vret hx hb hr hlocks hP hS dX2_remember_41 rfl (Nat.le_refl _) (Nat.le_refl _)
set_option maxHeartbeats 4000000 in
set_option maxRecDepth 100000 in
theorem c_X2_takeBack (l : Launch) (D : va_G) (k : Nat → ClassId) (a0 : Nat → Nat) (a2 : Nat → Nat) (S0 : Nat → Nat → Int) (S1 : Nat → Nat → Int) (S2 : Nat → Nat → Int) (i0 : Nat) (hi : (S0 0 1 + 8 - 1) % 8 = (i0 : Int) ∧ i0 < 8) (hcn : 0 ≤ S0 0 2 ∧ S0 0 2 ≤ 8) (hat : 0 ≤ S0 0 1 ∧ S0 0 1 < 8) (hk13 : 0 ≤ S1 3 1 ∧ S1 3 1 ≤ 8) (hk16 : 0 ≤ S1 6 1 ∧ S1 6 1 ≤ 8) (hk19 : 0 ≤ S1 9 1 ∧ S1 9 1 ≤ 8) (hk111 : 0 ≤ S1 11 1 ∧ S1 11 1 ≤ 8) : zMv l yX2_takeBack wsX2_takeBack ({ frames := 4, cells := 0, slots := 0, locals := 104 } : Room) D k [.ref (a0 0), .ref (a2 0)] (wHist k a0 S0 ++ (wPlant k (subA a0 (2 + 15 * i0)) S1 ++ wPlant k a2 S2)) (wHist k a0 (up2 (up2 S0 0 1 ((((S0 0 1) + 8) - 1) % 8)) 0 2 ((S0 0 2) - 1)) ++ (wPlant k (subA a0 (2 + 15 * i0)) S1 ++ wPlant k a2 ((wCopy S2 S1)))) 0 0 := by
  refine zMv_of (cc := cX2_takeBack) (maxL := 2) (ret := none) (by decide) rfl (Nat.le_of_ble_eq_true rfl) ?_
  intro p e s m args below meth c A ls hx hb hr hml hown hts hlocks hK hP hD hG hA hS hl
  have hown : s.vm.findClass RX2 = some m.cls := hown
  have hl : lv_has ls 2 [(0, .ref (a0 0)), (1, .ref (a2 0))] := hl
  obtain ⟨H, hH⟩ : ∃ z, z = s.heap := ⟨_, rfl⟩
  obtain ⟨locs, hlc⟩ : ∃ z : List Loc, z = [] := ⟨_, rfl⟩
  rw [← hH] at hP
  have hS : va_S A s.heap H locs := by rw [hH, hlc]; exact hS
  rw [← hlc, ← hH]
  clear hlc hH
  refine lv_aload_n hx hb dX2_takeBack_0 rfl (lv_at hl 0 rfl) ?_
  refine lv_aload_n hx hb dX2_takeBack_1 rfl (lv_at hl 0 rfl) ?_
  refine va_get (D := D) (ci := 4) (v := .int (iI (S0 0 1))) (C := RX2) (T := TX2) (N := 3) hx hb hts (fun w h => List.mem_cons_of_mem _ (List.mem_append_left _ (List.mem_append_left _ (List.mem_append_left _ (List.mem_append_left _ (List.mem_append_right _ h)))))) hown hK hP 0 rfl rfl 1 (by decide) (hts (.fieldLink RX2 17 "MondayFactory$History" "at" "I") (List.mem_of_getElem? (i := 1) rfl)) (fun _ h9 => h9) rfl dX2_takeBack_2 ?_
  refine lv_bipush (v := iI 8) hx hb dX2_takeBack_5 (by decide) ?_
  refine zi_add hx hb dX2_takeBack_7 ?_
  refine lv_iconst (v := iI 1) hx hb dX2_takeBack_8 rfl ?_
  refine zi_sub hx hb dX2_takeBack_9 ?_
  refine lv_bipush (v := iI 8) hx hb dX2_takeBack_10 (by decide) ?_
  refine z_rem8 hx hb (by omega) (by omega) dX2_takeBack_12 ?_
  refine va_put (D := D) (ci := 4) (v := .int (iI ((((S0 0 1) + 8) - 1) % 8))) (ty := .int) (C := RX2) (T := TX2) (N := 3) hx hb hts (fun w h => List.mem_cons_of_mem _ (List.mem_append_left _ (List.mem_append_left _ (List.mem_append_left _ (List.mem_append_left _ (List.mem_append_right _ h)))))) tyX2 tyX2_ok nmX2 hown hK hP hD hS 0 rfl rfl 1 (by decide) (hts (.fieldLink RX2 17 "MondayFactory$History" "at" "I") (List.mem_of_getElem? (i := 1) rfl)) (fun _ h9 => h9) rfl (by decide +kernel) rfl rfl (Nat.le_of_ble_eq_true rfl) dX2_takeBack_13 (fun H locs hP hD hS => ?_)
  have hP : va_P D vwCl (wHist k a0 (up2 S0 0 1 ((((S0 0 1) + 8) - 1) % 8)) ++ (wPlant k (subA a0 (2 + 15 * i0)) S1 ++ wPlant k a2 S2)) H := hP
  have hD : va_D A (wHist k a0 (up2 S0 0 1 ((((S0 0 1) + 8) - 1) % 8)) ++ (wPlant k (subA a0 (2 + 15 * i0)) S1 ++ wPlant k a2 S2)) := hD
  refine lv_aload_n hx hb dX2_takeBack_16 rfl (lv_at hl 1 rfl) ?_
  refine lv_aload_n hx hb dX2_takeBack_17 rfl (lv_at hl 0 rfl) ?_
  refine va_get (D := D) (ci := 4) (v := .ref (a0 1)) (C := RX2) (T := TX2) (N := 3) hx hb hts (fun w h => List.mem_cons_of_mem _ (List.mem_append_left _ (List.mem_append_left _ (List.mem_append_left _ (List.mem_append_left _ (List.mem_append_right _ h)))))) hown hK hP 0 rfl rfl 0 (by decide) (hts (.fieldLink RX2 11 "MondayFactory$History" "plants" "[LMondayFactory$Plant;") (List.mem_of_getElem? (i := 2) rfl)) (fun _ h9 => h9) rfl dX2_takeBack_18 ?_
  refine lv_aload_n hx hb dX2_takeBack_21 rfl (lv_at hl 0 rfl) ?_
  refine va_get (D := D) (ci := 4) (v := .int (iI ((((S0 0 1) + 8) - 1) % 8))) (C := RX2) (T := TX2) (N := 3) hx hb hts (fun w h => List.mem_cons_of_mem _ (List.mem_append_left _ (List.mem_append_left _ (List.mem_append_left _ (List.mem_append_left _ (List.mem_append_right _ h)))))) hown hK hP 0 rfl rfl 1 (by decide) (hts (.fieldLink RX2 17 "MondayFactory$History" "at" "I") (List.mem_of_getElem? (i := 1) rfl)) (fun _ h9 => h9) rfl dX2_takeBack_22 ?_
  refine z_aald hx hb hK hP 1 3 (f := fun j => some (a0 (2 + 15 * j))) (q := (subA a0 (2 + 15 * i0)) 0) rfl rfl (i := (((S0 0 1) + 8) - 1) % 8) (by omega) (by omega) (by decide) (by rw [hi.1]; rfl) dX2_takeBack_25 ?_
  refine z_av (va_runV (As := [.ref ((subA a0 (2 + 15 * i0)) 0)]) (rest := []) ⟨hx, hb, hml, hown, hts⟩ (c_X5_copyW l D k a2 S2 ((subA a0 (2 + 15 * i0))) S1   (by omega) (by omega) (by omega) (by omega) _) (cwV 1 hts gX2_takeBack_X5_copyFrom rfl rfl rfl (by decide +kernel) ⟨(Nat.le_of_ble_eq_true rfl), (Nat.le_of_ble_eq_true rfl)⟩) (z_preV hK hG hA hP hD hS [17, 18, 19, 20, 21, 22, 23, 24, 25, 26, 27, 28, 29, 30, 31, 2, 3, 4, 5, 6, 7, 8, 9, 10, 11, 12, 13, 14, 15, 16] rfl (by decide) 7 rfl rfl) rfl rfl hl.1 rfl (lv_room (Nat.le_of_ble_eq_true rfl)) dX2_takeBack_26 ⟨(Nat.le_of_ble_eq_true rfl), (Nat.le_of_ble_eq_true rfl)⟩) hA hP hD hS [17, 18, 19, 20, 21, 22, 23, 24, 25, 26, 27, 28, 29, 30, 31, 2, 3, 4, 5, 6, 7, 8, 9, 10, 11, 12, 13, 14, 15, 16] rfl rfl (fun H locs hP hD hS => ?_)
  have hP : va_P D vwCl (wHist k a0 (up2 S0 0 1 ((((S0 0 1) + 8) - 1) % 8)) ++ (wPlant k (subA a0 (2 + 15 * i0)) S1 ++ wPlant k a2 ((wCopy S2 S1)))) H := hP
  have hD : va_D A (wHist k a0 (up2 S0 0 1 ((((S0 0 1) + 8) - 1) % 8)) ++ (wPlant k (subA a0 (2 + 15 * i0)) S1 ++ wPlant k a2 ((wCopy S2 S1)))) := hD
  refine lv_aload_n hx hb dX2_takeBack_29 rfl (lv_at hl 0 rfl) ?_
  refine lv_dup hx hb dX2_takeBack_30 rfl ?_
  refine va_get (D := D) (ci := 4) (v := .int (iI (S0 0 2))) (C := RX2) (T := TX2) (N := 3) hx hb hts (fun w h => List.mem_cons_of_mem _ (List.mem_append_left _ (List.mem_append_left _ (List.mem_append_left _ (List.mem_append_left _ (List.mem_append_right _ h)))))) hown hK hP 0 rfl rfl 2 (by decide) (hts (.fieldLink RX2 21 "MondayFactory$History" "count" "I") (List.mem_of_getElem? (i := 3) rfl)) (fun _ h9 => h9) rfl dX2_takeBack_31 ?_
  refine lv_iconst (v := iI 1) hx hb dX2_takeBack_34 rfl ?_
  refine zi_sub hx hb dX2_takeBack_35 ?_
  refine va_put (D := D) (ci := 4) (v := .int (iI ((S0 0 2) - 1))) (ty := .int) (C := RX2) (T := TX2) (N := 3) hx hb hts (fun w h => List.mem_cons_of_mem _ (List.mem_append_left _ (List.mem_append_left _ (List.mem_append_left _ (List.mem_append_left _ (List.mem_append_right _ h)))))) tyX2 tyX2_ok nmX2 hown hK hP hD hS 0 rfl rfl 2 (by decide) (hts (.fieldLink RX2 21 "MondayFactory$History" "count" "I") (List.mem_of_getElem? (i := 3) rfl)) (fun _ h9 => h9) rfl (by decide +kernel) rfl rfl (Nat.le_of_ble_eq_true rfl) dX2_takeBack_36 (fun H locs hP hD hS => ?_)
  have hP : va_P D vwCl (wHist k a0 (up2 (up2 S0 0 1 ((((S0 0 1) + 8) - 1) % 8)) 0 2 ((S0 0 2) - 1)) ++ (wPlant k (subA a0 (2 + 15 * i0)) S1 ++ wPlant k a2 ((wCopy S2 S1)))) H := hP
  have hD : va_D A (wHist k a0 (up2 (up2 S0 0 1 ((((S0 0 1) + 8) - 1) % 8)) 0 2 ((S0 0 2) - 1)) ++ (wPlant k (subA a0 (2 + 15 * i0)) S1 ++ wPlant k a2 ((wCopy S2 S1)))) := hD
  exact z_vret hx hb hr hlocks hP hS dX2_takeBack_39 rfl (Nat.le_refl _) (Nat.le_refl _)
set_option maxHeartbeats 4000000 in
set_option maxRecDepth 100000 in
theorem c_X3_add (l : Launch) (D : va_G) (k : Nat → ClassId) (a0 : Nat → Nat) (S0 : Nat → Nat → Int) (p0 : Int) (hc0 : 0 ≤ S0 0 1 ∧ S0 0 1 < 60) (h0 : 0 ≤ p0 ∧ p0 < 65536) : zMv l yX3_add wsX3_add ({ frames := 0, cells := 0, slots := 0, locals := 0 } : Room) D k [.ref (a0 0), .int (iI p0)] (wInput k a0 S0) (wInput k a0 (up2 (up2 S0 1 ((S0 0 1).toNat) p0) 0 1 ((S0 0 1) + 1))) 0 0 := by
  refine zMv_of (cc := cX3_add) (maxL := 2) (ret := none) (by decide) rfl (Nat.le_of_ble_eq_true rfl) ?_
  intro p e s m args below meth c A ls hx hb hr hml hown hts hlocks hK hP hD hG hA hS hl
  have hown : s.vm.findClass RX3 = some m.cls := hown
  have hl : lv_has ls 2 [(0, .ref (a0 0)), (1, .int (iI p0))] := hl
  obtain ⟨H, hH⟩ : ∃ z, z = s.heap := ⟨_, rfl⟩
  obtain ⟨locs, hlc⟩ : ∃ z : List Loc, z = [] := ⟨_, rfl⟩
  rw [← hH] at hP
  have hS : va_S A s.heap H locs := by rw [hH, hlc]; exact hS
  rw [← hlc, ← hH]
  clear hlc hH
  refine lv_aload_n hx hb dX3_add_0 rfl (lv_at hl 0 rfl) ?_
  refine va_get (D := D) (ci := 5) (v := .int (iI (S0 0 1))) (C := RX3) (T := TX3) (N := 2) hx hb hts (fun w h => List.mem_cons_of_mem _ (List.mem_append_left _ (List.mem_append_right _ h))) hown hK hP 0 rfl rfl 1 (by decide) (hts (.fieldLink RX3 15 "MondayFactory$Input" "length" "I") (List.mem_of_getElem? (i := 1) rfl)) (fun _ h9 => h9) rfl dX3_add_1 ?_
  refine lv_bipush (v := iI 60) hx hb dX3_add_4 (by decide) ?_
  refine zi_icmp_ge (tgt := 29) hx hb dX3_add_6 (by decide) ⟨by omega, by omega⟩ ⟨by omega, by omega⟩ (fun c_1 => absurd c_1 (by omega)) (fun _ => ?_)
  refine lv_aload_n hx hb dX3_add_9 rfl (lv_at hl 0 rfl) ?_
  refine va_get (D := D) (ci := 5) (v := .ref (a0 1)) (C := RX3) (T := TX3) (N := 2) hx hb hts (fun w h => List.mem_cons_of_mem _ (List.mem_append_left _ (List.mem_append_right _ h))) hown hK hP 0 rfl rfl 0 (by decide) (hts (.fieldLink RX3 9 "MondayFactory$Input" "signs" "[C") (List.mem_of_getElem? (i := 2) rfl)) (fun _ h9 => h9) rfl dX3_add_10 ?_
  refine lv_aload_n hx hb dX3_add_13 rfl (lv_at hl 0 rfl) ?_
  refine va_get (D := D) (ci := 5) (v := .int (iI (S0 0 1))) (C := RX3) (T := TX3) (N := 2) hx hb hts (fun w h => List.mem_cons_of_mem _ (List.mem_append_left _ (List.mem_append_right _ h))) hown hK hP 0 rfl rfl 1 (by decide) (hts (.fieldLink RX3 15 "MondayFactory$Input" "length" "I") (List.mem_of_getElem? (i := 1) rfl)) (fun _ h9 => h9) rfl dX3_add_14 ?_
  refine lv_iload_n hx hb dX3_add_17 rfl (lv_at hl 1 rfl) ?_
  refine z_cast hx hb hK hP hD hS 1 1 (f := S0 1) rfl rfl (i := S0 0 1) (by omega) (by omega) (by decide) (by omega) (by omega) ((S0 0 1).toNat) rfl dX3_add_18 (fun H locs hP hD hS => ?_)
  have hP : va_P D vwCl (wInput k a0 (up2 S0 1 ((S0 0 1).toNat) p0)) H := hP
  have hD : va_D A (wInput k a0 (up2 S0 1 ((S0 0 1).toNat) p0)) := hD
  refine lv_aload_n hx hb dX3_add_19 rfl (lv_at hl 0 rfl) ?_
  refine lv_dup hx hb dX3_add_20 rfl ?_
  refine va_get (D := D) (ci := 5) (v := .int (iI (S0 0 1))) (C := RX3) (T := TX3) (N := 2) hx hb hts (fun w h => List.mem_cons_of_mem _ (List.mem_append_left _ (List.mem_append_right _ h))) hown hK hP 0 rfl rfl 1 (by decide) (hts (.fieldLink RX3 15 "MondayFactory$Input" "length" "I") (List.mem_of_getElem? (i := 1) rfl)) (fun _ h9 => h9) rfl dX3_add_21 ?_
  refine lv_iconst (v := iI 1) hx hb dX3_add_24 rfl ?_
  refine zi_add hx hb dX3_add_25 ?_
  refine va_put (D := D) (ci := 5) (v := .int (iI ((S0 0 1) + 1))) (ty := .int) (C := RX3) (T := TX3) (N := 2) hx hb hts (fun w h => List.mem_cons_of_mem _ (List.mem_append_left _ (List.mem_append_right _ h))) tyX3 tyX3_ok nmX3 hown hK hP hD hS 0 rfl rfl 1 (by decide) (hts (.fieldLink RX3 15 "MondayFactory$Input" "length" "I") (List.mem_of_getElem? (i := 1) rfl)) (fun _ h9 => h9) rfl (by decide +kernel) rfl rfl (Nat.le_of_ble_eq_true rfl) dX3_add_26 (fun H locs hP hD hS => ?_)
  have hP : va_P D vwCl (wInput k a0 (up2 (up2 S0 1 ((S0 0 1).toNat) p0) 0 1 ((S0 0 1) + 1))) H := hP
  have hD : va_D A (wInput k a0 (up2 (up2 S0 1 ((S0 0 1).toNat) p0) 0 1 ((S0 0 1) + 1))) := hD
  exact z_vret hx hb hr hlocks hP hS dX3_add_29 rfl (Nat.le_refl _) (Nat.le_refl _)
set_option maxHeartbeats 4000000 in
set_option maxRecDepth 100000 in
theorem c_X3_signAt (l : Launch) (D : va_G) (k : Nat → ClassId) (a0 : Nat → Nat) (S0 : Nat → Nat → Int) (p0 : Int) (hS1 : ∀ j : Nat, 0 ≤ S0 1 j ∧ S0 1 j < 65536) (h0 : -2147483648 ≤ p0 ∧ p0 < 2147483648) : zMi l yX3_signAt wsX3_signAt ({ frames := 0, cells := 0, slots := 0, locals := 0 } : Room) D k [.ref (a0 0), .int (iI p0)] (wInput k a0 S0) (iSign (S0 1) p0) (wInput k a0 S0) 0 0 := by
  refine zMi_of (cc := cX3_signAt) (maxL := 2) (ret := (some .char)) (by decide) rfl (Nat.le_of_ble_eq_true rfl) ?_
  intro p e s m args below meth c A ls hx hb hr hml hown hts hlocks hK hP hD hG hA hS hl
  have hown : s.vm.findClass RX3 = some m.cls := hown
  have hl : lv_has ls 2 [(0, .ref (a0 0)), (1, .int (iI p0))] := hl
  obtain ⟨H, hH⟩ : ∃ z, z = s.heap := ⟨_, rfl⟩
  obtain ⟨locs, hlc⟩ : ∃ z : List Loc, z = [] := ⟨_, rfl⟩
  rw [← hH] at hP
  have hS : va_S A s.heap H locs := by rw [hH, hlc]; exact hS
  rw [← hlc, ← hH]
  clear hlc hH
  refine lv_iload_n hx hb dX3_signAt_0 rfl (lv_at hl 1 rfl) ?_
  refine zi_if_lt (tgt := 19) hx hb dX3_signAt_1 (by decide) ⟨by omega, by omega⟩ (fun c_1 => ?_) (fun c_1 => ?_)
  · refine lv_iconst (v := iI 0) hx hb dX3_signAt_19 rfl ?_
    exact z_zret hx hb hr hlocks (iI_narC (by omega) (by omega)) hP hS dX3_signAt_20 (by unfold iSign; first | exact zif_pos (by omega) | exact zif_neg (by omega)) rfl (Nat.le_refl _) (Nat.le_refl _)
  · refine lv_iload_n hx hb dX3_signAt_4 rfl (lv_at hl 1 rfl) ?_
    refine lv_bipush (v := iI 60) hx hb dX3_signAt_5 (by decide) ?_
    refine zi_icmp_ge (tgt := 19) hx hb dX3_signAt_7 (by decide) ⟨by omega, by omega⟩ ⟨by omega, by omega⟩ (fun c_2 => ?_) (fun c_2 => ?_)
    · refine lv_iconst (v := iI 0) hx hb dX3_signAt_19 rfl ?_
      exact z_zret hx hb hr hlocks (iI_narC (by omega) (by omega)) hP hS dX3_signAt_20 (by unfold iSign; first | exact zif_pos (by omega) | exact zif_neg (by omega)) rfl (Nat.le_refl _) (Nat.le_refl _)
    · refine lv_aload_n hx hb dX3_signAt_10 rfl (lv_at hl 0 rfl) ?_
      refine va_get (D := D) (ci := 5) (v := .ref (a0 1)) (C := RX3) (T := TX3) (N := 2) hx hb hts (fun w h => List.mem_cons_of_mem _ (List.mem_append_left _ (List.mem_append_right _ h))) hown hK hP 0 rfl rfl 0 (by decide) (hts (.fieldLink RX3 9 "MondayFactory$Input" "signs" "[C") (List.mem_of_getElem? (i := 1) rfl)) (fun _ h9 => h9) rfl dX3_signAt_11 ?_
      have qs := hS1 p0.toNat
      refine lv_iload_n hx hb dX3_signAt_14 rfl (lv_at hl 1 rfl) ?_
      refine z_cald hx hb hK hP 1 1 (f := S0 1) rfl rfl (i := p0) (by omega) (by omega) (by decide) p0.toNat rfl dX3_signAt_15 ?_
      refine lv_goto (tgt := 20) hx hb dX3_signAt_16 (by decide) ?_
      exact z_zret hx hb hr hlocks (iI_narC (by omega) (by omega)) hP hS dX3_signAt_20 (by unfold iSign; first | exact zif_pos (by omega) | exact zif_neg (by omega)) rfl (Nat.le_refl _) (Nat.le_refl _)
set_option maxHeartbeats 4000000 in
set_option maxRecDepth 100000 in
theorem c_X3_isDigit (l : Launch) (D : va_G) (k : Nat → ClassId)  (p0 : Int) (h0 : 0 ≤ p0 ∧ p0 < 65536) : zMi l yX3_isDigit wsX3_isDigit ({ frames := 0, cells := 0, slots := 0, locals := 0 } : Room) D k [.int (iI p0)] (([] : va_W)) (zb (48 ≤ p0 ∧ p0 ≤ 57)) (([] : va_W)) 0 0 := by
  refine zMi_of (cc := cX3_isDigit) (maxL := 1) (ret := (some .boolean)) (by decide) rfl (Nat.le_of_ble_eq_true rfl) ?_
  intro p e s m args below meth c A ls hx hb hr hml hown hts hlocks hK hP hD hG hA hS hl
  have hown : s.vm.findClass RX3 = some m.cls := hown
  have hl : lv_has ls 1 [(0, .int (iI p0))] := hl
  obtain ⟨H, hH⟩ : ∃ z, z = s.heap := ⟨_, rfl⟩
  obtain ⟨locs, hlc⟩ : ∃ z : List Loc, z = [] := ⟨_, rfl⟩
  rw [← hH] at hP
  have hS : va_S A s.heap H locs := by rw [hH, hlc]; exact hS
  rw [← hlc, ← hH]
  clear hlc hH
  refine lv_iload_n hx hb dX3_isDigit_0 rfl (lv_at hl 0 rfl) ?_
  refine lv_bipush (v := iI 48) hx hb dX3_isDigit_1 (by decide) ?_
  refine zi_icmp_lt (tgt := 16) hx hb dX3_isDigit_3 (by decide) ⟨by omega, by omega⟩ ⟨by omega, by omega⟩ (fun c_1 => ?_) (fun c_1 => ?_)
  · refine lv_iconst (v := iI 0) hx hb dX3_isDigit_16 rfl ?_
    exact z_zret hx hb hr hlocks rfl hP hS dX3_isDigit_17 (zb_neg (by omega)) rfl (Nat.le_refl _) (Nat.le_refl _)
  · refine lv_iload_n hx hb dX3_isDigit_6 rfl (lv_at hl 0 rfl) ?_
    refine lv_bipush (v := iI 57) hx hb dX3_isDigit_7 (by decide) ?_
    refine zi_icmp_gt (tgt := 16) hx hb dX3_isDigit_9 (by decide) ⟨by omega, by omega⟩ ⟨by omega, by omega⟩ (fun c_2 => ?_) (fun c_2 => ?_)
    · refine lv_iconst (v := iI 0) hx hb dX3_isDigit_16 rfl ?_
      exact z_zret hx hb hr hlocks rfl hP hS dX3_isDigit_17 (zb_neg (by omega)) rfl (Nat.le_refl _) (Nat.le_refl _)
    · refine lv_iconst (v := iI 1) hx hb dX3_isDigit_12 rfl ?_
      refine lv_goto (tgt := 17) hx hb dX3_isDigit_13 (by decide) ?_
      exact z_zret hx hb hr hlocks rfl hP hS dX3_isDigit_17 (zb_pos (by omega)) rfl (Nat.le_refl _) (Nat.le_refl _)
set_option maxHeartbeats 4000000 in
set_option maxRecDepth 100000 in
theorem c_X3_numberAt (l : Launch) (D : va_G) (k : Nat → ClassId) (a0 : Nat → Nat) (S0 : Nat → Nat → Int) (p0 : Int) (hS1 : ∀ j : Nat, 0 ≤ S0 1 j ∧ S0 1 j < 65536) (h0 : -2147483648 ≤ p0 ∧ p0 < 2147483648) : zMi l yX3_numberAt wsX3_numberAt ({ frames := 1, cells := 0, slots := 0, locals := 21 } : Room) D k [.ref (a0 0), .int (iI p0)] (wInput k a0 S0) (iNumb (S0 1) p0) (wInput k a0 S0) 0 0 := by
  refine zMi_of (cc := cX3_numberAt) (maxL := 3) (ret := (some .int)) (by decide) rfl (Nat.le_of_ble_eq_true rfl) ?_
  intro p e s m args below meth c A ls hx hb hr hml hown hts hlocks hK hP hD hG hA hS hl
  have hown : s.vm.findClass RX3 = some m.cls := hown
  have hl : lv_has ls 3 [(0, .ref (a0 0)), (1, .int (iI p0))] := hl
  obtain ⟨H, hH⟩ : ∃ z, z = s.heap := ⟨_, rfl⟩
  obtain ⟨locs, hlc⟩ : ∃ z : List Loc, z = [] := ⟨_, rfl⟩
  rw [← hH] at hP
  have hS : va_S A s.heap H locs := by rw [hH, hlc]; exact hS
  rw [← hlc, ← hH]
  clear hlc hH
  refine lv_aload_n hx hb dX3_numberAt_0 rfl (lv_at hl 0 rfl) ?_
  refine lv_iload_n hx hb dX3_numberAt_1 rfl (lv_at hl 1 rfl) ?_
  refine z_ai0 (va_runV (As := [.int (iI p0)]) (rest := []) ⟨hx, hb, hml, hown, hts⟩ (c_X3_signAt l D k a0 S0  p0 hS1 (by omega) _) (cwV 1 hts gX3_numberAt_X3_signAt rfl rfl rfl (by decide +kernel) ⟨(Nat.le_of_ble_eq_true rfl), (Nat.le_of_ble_eq_true rfl)⟩) (z_preV hK hG hA hP hD hS [0, 1] rfl (by decide) 5 rfl rfl) rfl rfl hl.1 rfl (lv_room (Nat.le_of_ble_eq_true rfl)) dX3_numberAt_2 ⟨(Nat.le_of_ble_eq_true rfl), (Nat.le_of_ble_eq_true rfl)⟩) hA hP hD hS [0, 1] rfl (fun H locs hP hS => ?_)
  have q_1 : 0 ≤ iSign (S0 1) p0 ∧ iSign (S0 1) p0 < 65536 := iSign_rng hS1
  refine lv_istore_n (lv' := [(2, .int (iI (iSign (S0 1) p0))), (0, .ref (a0 0)), (1, .int (iI p0))]) hx hb dX3_numberAt_5 rfl hl (by decide) rfl (fun ls hl => ?_)
  refine lv_iload_n hx hb dX3_numberAt_6 rfl (lv_at hl 0 rfl) ?_
  refine z_ai0 (va_runS (As := [.int (iI (iSign (S0 1) p0))]) (rest := []) ⟨hx, hb, hml, hown, hts⟩ (c_X3_isDigit l D k   (iSign (S0 1) p0) (by omega) _) (va_cwS 1 hts gX3_numberAt_X3_isDigit rfl rfl rfl (by decide +kernel) ⟨(Nat.le_of_ble_eq_true rfl), (Nat.le_of_ble_eq_true rfl)⟩) (z_preS hK hG hA hP hD hS [] rfl (by decide)) rfl rfl hl.1 rfl (lv_room (Nat.le_of_ble_eq_true rfl)) dX3_numberAt_7 ⟨(Nat.le_of_ble_eq_true rfl), (Nat.le_of_ble_eq_true rfl)⟩) hA hP hD hS [] rfl (fun H locs hP hS => ?_)
  refine zi_if_eqB (tgt := 20) hx hb dX3_numberAt_10 (by decide) (fun c_2 => ?_) (fun c_2 => ?_)
  · refine lv_iconst (v := iI 0) hx hb dX3_numberAt_20 rfl ?_
    exact z_iret hx hb hr hlocks hP hS dX3_numberAt_21 (by unfold iNumb; first | exact zif_pos (by assumption) | exact zif_neg (by assumption)) rfl (Nat.le_refl _) (Nat.le_refl _)
  · refine lv_iload_n hx hb dX3_numberAt_13 rfl (lv_at hl 0 rfl) ?_
    refine lv_bipush (v := iI 48) hx hb dX3_numberAt_14 (by decide) ?_
    refine zi_sub hx hb dX3_numberAt_16 ?_
    refine lv_goto (tgt := 21) hx hb dX3_numberAt_17 (by decide) ?_
    exact z_iret hx hb hr hlocks hP hS dX3_numberAt_21 (by unfold iNumb; first | exact zif_pos (by assumption) | exact zif_neg (by assumption)) rfl (Nat.le_refl _) (Nat.le_refl _)
set_option maxHeartbeats 4000000 in
set_option maxRecDepth 100000 in
theorem c_X3_numbersOf (l : Launch) (D : va_G) (k : Nat → ClassId)  (p0 : Int) (h0 : 0 ≤ p0 ∧ p0 < 65536) : zMi l yX3_numbersOf wsX3_numbersOf ({ frames := 0, cells := 0, slots := 0, locals := 0 } : Room) D k [.int (iI p0)] (([] : va_W)) (iNums p0) (([] : va_W)) 0 0 := by
  refine zMi_of (cc := cX3_numbersOf) (maxL := 1) (ret := (some .int)) (by decide) rfl (Nat.le_of_ble_eq_true rfl) ?_
  intro p e s m args below meth c A ls hx hb hr hml hown hts hlocks hK hP hD hG hA hS hl
  have hown : s.vm.findClass RX3 = some m.cls := hown
  have hl : lv_has ls 1 [(0, .int (iI p0))] := hl
  obtain ⟨H, hH⟩ : ∃ z, z = s.heap := ⟨_, rfl⟩
  obtain ⟨locs, hlc⟩ : ∃ z : List Loc, z = [] := ⟨_, rfl⟩
  rw [← hH] at hP
  have hS : va_S A s.heap H locs := by rw [hH, hlc]; exact hS
  rw [← hlc, ← hH]
  clear hlc hH
  refine lv_iload_n hx hb dX3_numbersOf_0 rfl (lv_at hl 0 rfl) ?_
  by_cases w_1 : p0 = 98
  · refine z_tabI hx hb dX3_numbersOf_1 (x := p0) ⟨by omega, by omega⟩ (v := 98) w_1 (by decide) (by decide) (off := 105) (by decide) (tgt := 106) (by decide) ?_
    refine lv_iconst (v := iI 1) hx hb dX3_numbersOf_106 rfl ?_
    exact z_iret hx hb hr hlocks hP hS dX3_numbersOf_107 (by unfold iNums; first | (rw [zif_pos (by omega)]) | (rw [zif_neg (by omega), zif_pos (by omega)]) | (rw [zif_neg (by omega), zif_neg (by omega), zif_pos (by omega)]) | (rw [zif_neg (by omega), zif_neg (by omega), zif_neg (by omega)])) rfl (Nat.le_refl _) (Nat.le_refl _)
  · by_cases w_2 : p0 = 104
    · refine z_tabI hx hb dX3_numbersOf_1 (x := p0) ⟨by omega, by omega⟩ (v := 104) w_2 (by decide) (by decide) (off := 107) (by decide) (tgt := 108) (by decide) ?_
      refine lv_iconst (v := iI 0) hx hb dX3_numbersOf_108 rfl ?_
      exact z_iret hx hb hr hlocks hP hS dX3_numbersOf_109 (by unfold iNums; first | (rw [zif_pos (by omega)]) | (rw [zif_neg (by omega), zif_pos (by omega)]) | (rw [zif_neg (by omega), zif_neg (by omega), zif_pos (by omega)]) | (rw [zif_neg (by omega), zif_neg (by omega), zif_neg (by omega)])) rfl (Nat.le_refl _) (Nat.le_refl _)
    · by_cases w_3 : p0 = 105
      · refine z_tabI hx hb dX3_numbersOf_1 (x := p0) ⟨by omega, by omega⟩ (v := 105) w_3 (by decide) (by decide) (off := 105) (by decide) (tgt := 106) (by decide) ?_
        refine lv_iconst (v := iI 1) hx hb dX3_numbersOf_106 rfl ?_
        exact z_iret hx hb hr hlocks hP hS dX3_numbersOf_107 (by unfold iNums; first | (rw [zif_pos (by omega)]) | (rw [zif_neg (by omega), zif_pos (by omega)]) | (rw [zif_neg (by omega), zif_neg (by omega), zif_pos (by omega)]) | (rw [zif_neg (by omega), zif_neg (by omega), zif_neg (by omega)])) rfl (Nat.le_refl _) (Nat.le_refl _)
      · by_cases w_4 : p0 = 109
        · refine z_tabI hx hb dX3_numbersOf_1 (x := p0) ⟨by omega, by omega⟩ (v := 109) w_4 (by decide) (by decide) (off := 103) (by decide) (tgt := 104) (by decide) ?_
          refine lv_iconst (v := iI 3) hx hb dX3_numbersOf_104 rfl ?_
          exact z_iret hx hb hr hlocks hP hS dX3_numbersOf_105 (by unfold iNums; first | (rw [zif_pos (by omega)]) | (rw [zif_neg (by omega), zif_pos (by omega)]) | (rw [zif_neg (by omega), zif_neg (by omega), zif_pos (by omega)]) | (rw [zif_neg (by omega), zif_neg (by omega), zif_neg (by omega)])) rfl (Nat.le_refl _) (Nat.le_refl _)
        · by_cases w_5 : p0 = 111
          · refine z_tabI hx hb dX3_numbersOf_1 (x := p0) ⟨by omega, by omega⟩ (v := 111) w_5 (by decide) (by decide) (off := 105) (by decide) (tgt := 106) (by decide) ?_
            refine lv_iconst (v := iI 1) hx hb dX3_numbersOf_106 rfl ?_
            exact z_iret hx hb hr hlocks hP hS dX3_numbersOf_107 (by unfold iNums; first | (rw [zif_pos (by omega)]) | (rw [zif_neg (by omega), zif_pos (by omega)]) | (rw [zif_neg (by omega), zif_neg (by omega), zif_pos (by omega)]) | (rw [zif_neg (by omega), zif_neg (by omega), zif_neg (by omega)])) rfl (Nat.le_refl _) (Nat.le_refl _)
          · by_cases w_6 : p0 = 114
            · refine z_tabI hx hb dX3_numbersOf_1 (x := p0) ⟨by omega, by omega⟩ (v := 114) w_6 (by decide) (by decide) (off := 105) (by decide) (tgt := 106) (by decide) ?_
              refine lv_iconst (v := iI 1) hx hb dX3_numbersOf_106 rfl ?_
              exact z_iret hx hb hr hlocks hP hS dX3_numbersOf_107 (by unfold iNums; first | (rw [zif_pos (by omega)]) | (rw [zif_neg (by omega), zif_pos (by omega)]) | (rw [zif_neg (by omega), zif_neg (by omega), zif_pos (by omega)]) | (rw [zif_neg (by omega), zif_neg (by omega), zif_neg (by omega)])) rfl (Nat.le_refl _) (Nat.le_refl _)
            · by_cases w_7 : p0 = 115
              · refine z_tabI hx hb dX3_numbersOf_1 (x := p0) ⟨by omega, by omega⟩ (v := 115) w_7 (by decide) (by decide) (off := 105) (by decide) (tgt := 106) (by decide) ?_
                refine lv_iconst (v := iI 1) hx hb dX3_numbersOf_106 rfl ?_
                exact z_iret hx hb hr hlocks hP hS dX3_numbersOf_107 (by unfold iNums; first | (rw [zif_pos (by omega)]) | (rw [zif_neg (by omega), zif_pos (by omega)]) | (rw [zif_neg (by omega), zif_neg (by omega), zif_pos (by omega)]) | (rw [zif_neg (by omega), zif_neg (by omega), zif_neg (by omega)])) rfl (Nat.le_refl _) (Nat.le_refl _)
              · by_cases w_8 : p0 = 116
                · refine z_tabI hx hb dX3_numbersOf_1 (x := p0) ⟨by omega, by omega⟩ (v := 116) w_8 (by decide) (by decide) (off := 103) (by decide) (tgt := 104) (by decide) ?_
                  refine lv_iconst (v := iI 3) hx hb dX3_numbersOf_104 rfl ?_
                  exact z_iret hx hb hr hlocks hP hS dX3_numbersOf_105 (by unfold iNums; first | (rw [zif_pos (by omega)]) | (rw [zif_neg (by omega), zif_pos (by omega)]) | (rw [zif_neg (by omega), zif_neg (by omega), zif_pos (by omega)]) | (rw [zif_neg (by omega), zif_neg (by omega), zif_neg (by omega)])) rfl (Nat.le_refl _) (Nat.le_refl _)
                · by_cases w_9 : p0 = 119
                  · refine z_tabI hx hb dX3_numbersOf_1 (x := p0) ⟨by omega, by omega⟩ (v := 119) w_9 (by decide) (by decide) (off := 107) (by decide) (tgt := 108) (by decide) ?_
                    refine lv_iconst (v := iI 0) hx hb dX3_numbersOf_108 rfl ?_
                    exact z_iret hx hb hr hlocks hP hS dX3_numbersOf_109 (by unfold iNums; first | (rw [zif_pos (by omega)]) | (rw [zif_neg (by omega), zif_pos (by omega)]) | (rw [zif_neg (by omega), zif_neg (by omega), zif_pos (by omega)]) | (rw [zif_neg (by omega), zif_neg (by omega), zif_neg (by omega)])) rfl (Nat.le_refl _) (Nat.le_refl _)
                  · refine z_tabD hx hb dX3_numbersOf_1 (x := p0) ⟨by omega, by omega⟩ (tgt := 110) (by decide) (by rcases (show (p0 < 98 ∨ 119 < p0) ∨ p0 = 99 ∨ p0 = 100 ∨ p0 = 101 ∨ p0 = 102 ∨ p0 = 103 ∨ p0 = 106 ∨ p0 = 107 ∨ p0 = 108 ∨ p0 = 110 ∨ p0 = 112 ∨ p0 = 113 ∨ p0 = 117 ∨ p0 = 118 by omega) with h9 | h9 | h9 | h9 | h9 | h9 | h9 | h9 | h9 | h9 | h9 | h9 | h9 | h9; (left; exact h9); (right; rw [h9]; exact ⟨_, rfl, rfl, by decide, by decide⟩); (right; rw [h9]; exact ⟨_, rfl, rfl, by decide, by decide⟩); (right; rw [h9]; exact ⟨_, rfl, rfl, by decide, by decide⟩); (right; rw [h9]; exact ⟨_, rfl, rfl, by decide, by decide⟩); (right; rw [h9]; exact ⟨_, rfl, rfl, by decide, by decide⟩); (right; rw [h9]; exact ⟨_, rfl, rfl, by decide, by decide⟩); (right; rw [h9]; exact ⟨_, rfl, rfl, by decide, by decide⟩); (right; rw [h9]; exact ⟨_, rfl, rfl, by decide, by decide⟩); (right; rw [h9]; exact ⟨_, rfl, rfl, by decide, by decide⟩); (right; rw [h9]; exact ⟨_, rfl, rfl, by decide, by decide⟩); (right; rw [h9]; exact ⟨_, rfl, rfl, by decide, by decide⟩); (right; rw [h9]; exact ⟨_, rfl, rfl, by decide, by decide⟩); (right; rw [h9]; exact ⟨_, rfl, rfl, by decide, by decide⟩)) ?_
                    refine lv_bipush (v := iI (-2)) hx hb dX3_numbersOf_110 (by decide) ?_
                    exact z_iret hx hb hr hlocks hP hS dX3_numbersOf_112 (by unfold iNums; first | (rw [zif_pos (by omega)]) | (rw [zif_neg (by omega), zif_pos (by omega)]) | (rw [zif_neg (by omega), zif_neg (by omega), zif_pos (by omega)]) | (rw [zif_neg (by omega), zif_neg (by omega), zif_neg (by omega)])) rfl (Nat.le_refl _) (Nat.le_refl _)
set_option maxHeartbeats 4000000 in
set_option maxRecDepth 100000 in
theorem c_X3_dueBehind (l : Launch) (D : va_G) (k : Nat → ClassId)  (p0 : Int) (p1 : Int) (h0 : -1 ≤ p0 ∧ p0 ≤ 3) (h1 : 0 ≤ p1 ∧ p1 < 65536) : zMi l yX3_dueBehind wsX3_dueBehind ({ frames := 1, cells := 0, slots := 0, locals := 20 } : Room) D k [.int (iI p0), .int (iI p1)] (([] : va_W)) (iDue p0 p1) (([] : va_W)) 0 0 := by
  refine zMi_of (cc := cX3_dueBehind) (maxL := 2) (ret := (some .int)) (by decide) rfl (Nat.le_of_ble_eq_true rfl) ?_
  intro p e s m args below meth c A ls hx hb hr hml hown hts hlocks hK hP hD hG hA hS hl
  have hown : s.vm.findClass RX3 = some m.cls := hown
  have hl : lv_has ls 2 [(0, .int (iI p0)), (1, .int (iI p1))] := hl
  obtain ⟨H, hH⟩ : ∃ z, z = s.heap := ⟨_, rfl⟩
  obtain ⟨locs, hlc⟩ : ∃ z : List Loc, z = [] := ⟨_, rfl⟩
  rw [← hH] at hP
  have hS : va_S A s.heap H locs := by rw [hH, hlc]; exact hS
  rw [← hlc, ← hH]
  clear hlc hH
  refine lv_iload_n hx hb dX3_dueBehind_0 rfl (lv_at hl 0 rfl) ?_
  refine lv_iconst (v := iI (-1)) hx hb dX3_dueBehind_1 rfl ?_
  refine zi_icmp_ne (tgt := 10) hx hb dX3_dueBehind_2 (by decide) ⟨by omega, by omega⟩ ⟨by omega, by omega⟩ (fun c_1 => ?_) (fun c_1 => ?_)
  · refine lv_iload_n hx hb dX3_dueBehind_10 rfl (lv_at hl 0 rfl) ?_
    refine zi_if_ne (tgt := 27) hx hb dX3_dueBehind_11 (by decide) ⟨by omega, by omega⟩ (fun c_2 => ?_) (fun c_2 => ?_)
    · refine lv_iload_n hx hb dX3_dueBehind_27 rfl (lv_at hl 1 rfl) ?_
      refine z_ai0 (va_runS (As := [.int (iI p1)]) (rest := []) ⟨hx, hb, hml, hown, hts⟩ (c_X3_isDigit l D k   p1 (by omega) _) (va_cwS 1 hts gX3_dueBehind_X3_isDigit rfl rfl rfl (by decide +kernel) ⟨(Nat.le_of_ble_eq_true rfl), (Nat.le_of_ble_eq_true rfl)⟩) (z_preS hK hG hA hP hD hS [] rfl (by decide)) rfl rfl hl.1 rfl (lv_room (Nat.le_of_ble_eq_true rfl)) dX3_dueBehind_28 ⟨(Nat.le_of_ble_eq_true rfl), (Nat.le_of_ble_eq_true rfl)⟩) hA hP hD hS [] rfl (fun H locs hP hS => ?_)
      refine zi_if_eqB (tgt := 40) hx hb dX3_dueBehind_31 (by decide) (fun c_3 => ?_) (fun c_3 => ?_)
      · refine lv_bipush (v := iI (-2)) hx hb dX3_dueBehind_40 (by decide) ?_
        exact z_iret hx hb hr hlocks hP hS dX3_dueBehind_42 (by unfold iDue; first | exact zif_pos (by assumption) | (rw [zif_neg (by assumption)]; first | (rw [zif_pos (by assumption)]; first | exact zif_pos (by assumption) | exact zif_neg (by assumption)) | (rw [zif_neg (by assumption)]; first | exact zif_pos (by assumption) | exact zif_neg (by assumption)))) rfl (Nat.le_refl _) (Nat.le_refl _)
      · refine lv_iload_n hx hb dX3_dueBehind_34 rfl (lv_at hl 0 rfl) ?_
        refine lv_iconst (v := iI 1) hx hb dX3_dueBehind_35 rfl ?_
        refine zi_sub hx hb dX3_dueBehind_36 ?_
        refine lv_goto (tgt := 42) hx hb dX3_dueBehind_37 (by decide) ?_
        exact z_iret hx hb hr hlocks hP hS dX3_dueBehind_42 (by unfold iDue; first | exact zif_pos (by assumption) | (rw [zif_neg (by assumption)]; first | (rw [zif_pos (by assumption)]; first | exact zif_pos (by assumption) | exact zif_neg (by assumption)) | (rw [zif_neg (by assumption)]; first | exact zif_pos (by assumption) | exact zif_neg (by assumption)))) rfl (Nat.le_refl _) (Nat.le_refl _)
    · refine lv_iload_n hx hb dX3_dueBehind_14 rfl (lv_at hl 1 rfl) ?_
      refine lv_bipush (v := iI 59) hx hb dX3_dueBehind_15 (by decide) ?_
      refine zi_icmp_ne (tgt := 24) hx hb dX3_dueBehind_17 (by decide) ⟨by omega, by omega⟩ ⟨by omega, by omega⟩ (fun c_4 => ?_) (fun c_4 => ?_)
      · refine lv_bipush (v := iI (-2)) hx hb dX3_dueBehind_24 (by decide) ?_
        exact z_iret hx hb hr hlocks hP hS dX3_dueBehind_26 (by unfold iDue; first | exact zif_pos (by assumption) | (rw [zif_neg (by assumption)]; first | (rw [zif_pos (by assumption)]; first | exact zif_pos (by assumption) | exact zif_neg (by assumption)) | (rw [zif_neg (by assumption)]; first | exact zif_pos (by assumption) | exact zif_neg (by assumption)))) rfl (Nat.le_refl _) (Nat.le_refl _)
      · refine lv_iconst (v := iI (-1)) hx hb dX3_dueBehind_20 rfl ?_
        refine lv_goto (tgt := 26) hx hb dX3_dueBehind_21 (by decide) ?_
        exact z_iret hx hb hr hlocks hP hS dX3_dueBehind_26 (by unfold iDue; first | exact zif_pos (by assumption) | (rw [zif_neg (by assumption)]; first | (rw [zif_pos (by assumption)]; first | exact zif_pos (by assumption) | exact zif_neg (by assumption)) | (rw [zif_neg (by assumption)]; first | exact zif_pos (by assumption) | exact zif_neg (by assumption)))) rfl (Nat.le_refl _) (Nat.le_refl _)
  · refine lv_iload_n hx hb dX3_dueBehind_5 rfl (lv_at hl 1 rfl) ?_
    refine z_ai0 (va_runS (As := [.int (iI p1)]) (rest := []) ⟨hx, hb, hml, hown, hts⟩ (c_X3_numbersOf l D k   p1 (by omega) _) (va_cwS 1 hts gX3_dueBehind_X3_numbersOf rfl rfl rfl (by decide +kernel) ⟨(Nat.le_of_ble_eq_true rfl), (Nat.le_of_ble_eq_true rfl)⟩) (z_preS hK hG hA hP hD hS [] rfl (by decide)) rfl rfl hl.1 rfl (lv_room (Nat.le_of_ble_eq_true rfl)) dX3_dueBehind_6 ⟨(Nat.le_of_ble_eq_true rfl), (Nat.le_of_ble_eq_true rfl)⟩) hA hP hD hS [] rfl (fun H locs hP hS => ?_)
    have q_5 : iNums p1 = -2 ∨ (0 ≤ iNums p1 ∧ iNums p1 ≤ 3) := iNums_rng
    exact z_iret hx hb hr hlocks hP hS dX3_dueBehind_9 (by unfold iDue; first | exact zif_pos (by assumption) | (rw [zif_neg (by assumption)]; first | (rw [zif_pos (by assumption)]; first | exact zif_pos (by assumption) | exact zif_neg (by assumption)) | (rw [zif_neg (by assumption)]; first | exact zif_pos (by assumption) | exact zif_neg (by assumption)))) rfl (Nat.le_refl _) (Nat.le_refl _)
noncomputable def sp_X3_findError_L4 (S0 : Nat → Nat → Int) (p0 : Int) : Nat → Int → Int → Int
  | 0, _, _ => 0
  | n + 1, x2, x3 => zif (p0 ≤ x3)
    (zif (x2 = 0)
      (-1)
      (p0))
    (zif ((iDue x2 (iSign (S0 1) x3)) = (-2))
      (x3)
      (sp_X3_findError_L4 S0 p0 n (iDue x2 (iSign (S0 1) x3)) (x3 + 1)))
noncomputable def sp_X3_findError (S0 : Nat → Nat → Int) (p0 : Int) : Int := sp_X3_findError_L4 S0 p0 61 (-1) 0
set_option maxHeartbeats 4000000 in
set_option maxRecDepth 100000 in
theorem c_X3_findError (l : Launch) (D : va_G) (k : Nat → ClassId) (a0 : Nat → Nat) (S0 : Nat → Nat → Int) (p0 : Int) (hS1 : ∀ j : Nat, 0 ≤ S0 1 j ∧ S0 1 j < 65536) (h0 : 0 ≤ p0 ∧ p0 ≤ 60) : zMi l yX3_findError wsX3_findError ({ frames := 2, cells := 0, slots := 0, locals := 41 } : Room) D k [.ref (a0 0), .int (iI p0)] (wInput k a0 S0) (sp_X3_findError S0 p0) (wInput k a0 S0) 0 0 := by
  refine zMi_of (cc := cX3_findError) (maxL := 4) (ret := (some .int)) (by decide) rfl (Nat.le_of_ble_eq_true rfl) ?_
  intro p e s m args below meth c A ls hx hb hr hml hown hts hlocks hK hP hD hG hA hS hl
  have hown : s.vm.findClass RX3 = some m.cls := hown
  have hl : lv_has ls 4 [(0, .ref (a0 0)), (1, .int (iI p0))] := hl
  obtain ⟨H, hH⟩ : ∃ z, z = s.heap := ⟨_, rfl⟩
  obtain ⟨locs, hlc⟩ : ∃ z : List Loc, z = [] := ⟨_, rfl⟩
  rw [← hH] at hP
  have hS : va_S A s.heap H locs := by rw [hH, hlc]; exact hS
  rw [← hlc, ← hH]
  clear hlc hH
  refine lv_iconst (v := iI (-1)) hx hb dX3_findError_0 rfl ?_
  refine lv_istore_n (lv' := [(2, .int (iI (-1))), (0, .ref (a0 0)), (1, .int (iI p0))]) hx hb dX3_findError_1 rfl hl (by decide) rfl (fun ls hl => ?_)
  refine lv_iconst (v := iI 0) hx hb dX3_findError_2 rfl ?_
  refine lv_istore_n (lv' := [(3, .int (iI 0)), (2, .int (iI (-1))), (0, .ref (a0 0)), (1, .int (iI p0))]) hx hb dX3_findError_3 rfl hl (by decide) rfl (fun ls hl => ?_)
  have lp4_0 : ∀ (n : Nat) (x2 : Int) (x3 : Int), (p0 - x3).toNat < n → (0 ≤ x3 ∧ x3 ≤ p0) → (-1 ≤ x2 ∧ x2 ≤ 3) → sp_X3_findError S0 p0 = sp_X3_findError_L4 S0 p0 n x2 x3 → ∀ (H : Heap) (locs : List Loc) (ls : Array Slot), va_P D vwCl (wInput k a0 S0) H → va_D A (wInput k a0 S0) → va_S A s.heap H locs → lv_has ls 4 [(3, .int (iI x3)), (2, .int (iI x2)), (0, .ref (a0 0)), (1, .int (iI p0))] → W p l e ({ frames := 2, cells := 0, slots := 0, locals := 41 } : Room) s m args below meth c H locs 0 0 (MQ below (zQi D A (sp_X3_findError S0 p0) (wInput k a0 S0)) args s 0 0 A) (F0 m 4 ls []) := by
    intro n4
    induction n4 with
    | zero => intro x2 x3 hm; exact absurd hm (Nat.not_lt_zero _)
    | succ n4 ih4 =>
      intro x2 x3 hm4 i0 i1 E4_0_r H locs ls hP hD hS hl
      refine lv_iload_n hx hb dX3_findError_4 rfl (lv_at hl 0 rfl) ?_
      refine lv_iload_n hx hb dX3_findError_5 rfl (lv_at hl 3 rfl) ?_
      refine zi_icmp_ge (tgt := 33) hx hb dX3_findError_6 (by decide) ⟨by omega, by omega⟩ ⟨by omega, by omega⟩ (fun c_1 => ?_) (fun c_1 => ?_)
      · refine lv_iload_n hx hb dX3_findError_33 rfl (lv_at hl 1 rfl) ?_
        refine zi_if_ne (tgt := 41) hx hb dX3_findError_34 (by decide) ⟨by omega, by omega⟩ (fun c_2 => ?_) (fun c_2 => ?_)
        · refine lv_iload_n hx hb dX3_findError_41 rfl (lv_at hl 3 rfl) ?_
          exact z_iret hx hb hr hlocks hP hS dX3_findError_42 (Eq.trans E4_0_r (Eq.trans (zif_pos c_1) (Eq.trans (zif_neg c_2) rfl))) rfl (Nat.le_refl _) (Nat.le_refl _)
        · refine lv_iconst (v := iI (-1)) hx hb dX3_findError_37 rfl ?_
          refine lv_goto (tgt := 42) hx hb dX3_findError_38 (by decide) ?_
          exact z_iret hx hb hr hlocks hP hS dX3_findError_42 (Eq.trans E4_0_r (Eq.trans (zif_pos c_1) (Eq.trans (zif_pos c_2) rfl))) rfl (Nat.le_refl _) (Nat.le_refl _)
      · refine lv_iload_n hx hb dX3_findError_9 rfl (lv_at hl 1 rfl) ?_
        refine lv_aload_n hx hb dX3_findError_10 rfl (lv_at hl 2 rfl) ?_
        refine lv_iload_n hx hb dX3_findError_11 rfl (lv_at hl 0 rfl) ?_
        refine z_ai0 (va_runV (As := [.int (iI x3)]) (rest := [.int (iI x2)]) ⟨hx, hb, hml, hown, hts⟩ (c_X3_signAt l D k a0 S0  x3 hS1 (by omega) _) (cwV 1 hts gX3_findError_X3_signAt rfl rfl rfl (by decide +kernel) ⟨(Nat.le_of_ble_eq_true rfl), (Nat.le_of_ble_eq_true rfl)⟩) (z_preV hK hG hA hP hD hS [0, 1] rfl (by decide) 5 rfl rfl) rfl rfl hl.1 rfl (lv_room (Nat.le_of_ble_eq_true rfl)) dX3_findError_12 ⟨(Nat.le_of_ble_eq_true rfl), (Nat.le_of_ble_eq_true rfl)⟩) hA hP hD hS [0, 1] rfl (fun H locs hP hS => ?_)
        have q_3 : 0 ≤ iSign (S0 1) x3 ∧ iSign (S0 1) x3 < 65536 := iSign_rng hS1
        refine z_ai0 (va_runS (As := [.int (iI x2), .int (iI (iSign (S0 1) x3))]) (rest := []) ⟨hx, hb, hml, hown, hts⟩ (c_X3_dueBehind l D k   x2 (iSign (S0 1) x3) (by omega) (by omega) _) (va_cwS 2 hts gX3_findError_X3_dueBehind rfl rfl rfl (by decide +kernel) ⟨(Nat.le_of_ble_eq_true rfl), (Nat.le_of_ble_eq_true rfl)⟩) (z_preS hK hG hA hP hD hS [] rfl (by decide)) rfl rfl hl.1 rfl (lv_room (Nat.le_of_ble_eq_true rfl)) dX3_findError_15 ⟨(Nat.le_of_ble_eq_true rfl), (Nat.le_of_ble_eq_true rfl)⟩) hA hP hD hS [] rfl (fun H locs hP hS => ?_)
        have q_4 : -2 ≤ iDue x2 (iSign (S0 1) x3) ∧ iDue x2 (iSign (S0 1) x3) ≤ 3 := iDue_rng (by omega)
        refine lv_istore_n (lv' := [(2, .int (iI (iDue x2 (iSign (S0 1) x3)))), (3, .int (iI x3)), (0, .ref (a0 0)), (1, .int (iI p0))]) hx hb dX3_findError_18 rfl hl (by decide) rfl (fun ls hl => ?_)
        refine lv_iload_n hx hb dX3_findError_19 rfl (lv_at hl 0 rfl) ?_
        refine lv_bipush (v := iI (-2)) hx hb dX3_findError_20 (by decide) ?_
        refine zi_icmp_ne (tgt := 27) hx hb dX3_findError_22 (by decide) ⟨by omega, by omega⟩ ⟨by omega, by omega⟩ (fun c_5 => ?_) (fun c_5 => ?_)
        · refine lv_iinc (v := iI (x3 + 1)) (lv' := [(3, .int (iI (x3 + 1))), (2, .int (iI (iDue x2 (iSign (S0 1) x3)))), (0, .ref (a0 0)), (1, .int (iI p0))]) hx hb dX3_findError_27 hl (k := 1) rfl (iI_add _ _) (by decide) rfl (fun ls hl => ?_)
          refine lv_goto (tgt := 4) hx hb dX3_findError_30 (by decide) ?_
          exact ih4 (iDue x2 (iSign (S0 1) x3)) (x3 + 1) (by omega) (by omega) (by omega) (Eq.trans E4_0_r (Eq.trans (zif_neg c_1) (Eq.trans (zif_neg c_5) rfl))) H locs ls hP hD hS (lv_sub hl [0, 1, 2, 3] rfl)
        · refine lv_iload_n hx hb dX3_findError_25 rfl (lv_at hl 1 rfl) ?_
          exact z_iret hx hb hr hlocks hP hS dX3_findError_26 (Eq.trans E4_0_r (Eq.trans (zif_neg c_1) (Eq.trans (zif_pos c_5) rfl))) rfl (Nat.le_refl _) (Nat.le_refl _)
  exact lp4_0 61 (-1) 0 (by omega) (by omega) (by omega) rfl H locs ls hP hD hS (lv_sub hl [0, 1, 2, 3] rfl)
set_option maxHeartbeats 4000000 in
set_option maxRecDepth 100000 in
theorem c_X3_countOrders (l : Launch) (D : va_G) (k : Nat → ClassId) (a0 : Nat → Nat) (S0 : Nat → Nat → Int) (p0 : Int) (hS1 : ∀ j : Nat, 0 ≤ S0 1 j ∧ S0 1 j < 65536) (h0 : 0 ≤ p0 ∧ p0 ≤ 60) : zMi l yX3_countOrders wsX3_countOrders ({ frames := 1, cells := 0, slots := 0, locals := 21 } : Room) D k [.ref (a0 0), .int (iI p0)] (wInput k a0 S0) (iCount (S0 1) p0) (wInput k a0 S0) 0 0 := by
  refine zMi_of (cc := cX3_countOrders) (maxL := 4) (ret := (some .int)) (by decide) rfl (Nat.le_of_ble_eq_true rfl) ?_
  intro p e s m args below meth c A ls hx hb hr hml hown hts hlocks hK hP hD hG hA hS hl
  have hown : s.vm.findClass RX3 = some m.cls := hown
  have hl : lv_has ls 4 [(0, .ref (a0 0)), (1, .int (iI p0))] := hl
  obtain ⟨H, hH⟩ : ∃ z, z = s.heap := ⟨_, rfl⟩
  obtain ⟨locs, hlc⟩ : ∃ z : List Loc, z = [] := ⟨_, rfl⟩
  rw [← hH] at hP
  have hS : va_S A s.heap H locs := by rw [hH, hlc]; exact hS
  rw [← hlc, ← hH]
  clear hlc hH
  refine lv_iconst (v := iI 0) hx hb dX3_countOrders_0 rfl ?_
  refine lv_istore_n (lv' := [(2, .int (iI 0)), (0, .ref (a0 0)), (1, .int (iI p0))]) hx hb dX3_countOrders_1 rfl hl (by decide) rfl (fun ls hl => ?_)
  refine lv_iconst (v := iI 0) hx hb dX3_countOrders_2 rfl ?_
  refine lv_istore_n (lv' := [(3, .int (iI 0)), (2, .int (iI 0)), (0, .ref (a0 0)), (1, .int (iI p0))]) hx hb dX3_countOrders_3 rfl hl (by decide) rfl (fun ls hl => ?_)
  have lp4_0 : ∀ (n : Nat) (x2 : Int) (x3 : Int), (60 - x3).toNat < n → (0 ≤ x3) → (x3 ≤ p0) → (x2 = sumI (fun k => zif (iNums (iSign (S0 1) k) = -2) 0 1) x3) → ∀ (H : Heap) (locs : List Loc) (ls : Array Slot), va_P D vwCl (wInput k a0 S0) H → va_D A (wInput k a0 S0) → va_S A s.heap H locs → lv_has ls 4 [(3, .int (iI x3)), (2, .int (iI x2)), (0, .ref (a0 0)), (1, .int (iI p0))] → W p l e ({ frames := 1, cells := 0, slots := 0, locals := 21 } : Room) s m args below meth c H locs 0 0 (MQ below (zQi D A (iCount (S0 1) p0) (wInput k a0 S0)) args s 0 0 A) (F0 m 4 ls []) := by
    intro n4
    induction n4 with
    | zero => intro x2 x3 hm; exact absurd hm (Nat.not_lt_zero _)
    | succ n4 ih4 =>
      intro x2 x3 hm4 i0 i1 iF  H locs ls hP hD hS hl
      refine lv_iload_n hx hb dX3_countOrders_4 rfl (lv_at hl 0 rfl) ?_
      refine lv_iload_n hx hb dX3_countOrders_5 rfl (lv_at hl 3 rfl) ?_
      refine zi_icmp_ge (tgt := 36) hx hb dX3_countOrders_6 (by decide) ⟨by omega, by omega⟩ ⟨by omega, by omega⟩ (fun c_1 => ?_) (fun c_1 => ?_)
      · have v_2 : x2 = iCount (S0 1) p0 := (by rw [iF, show x3 = p0 by omega]; rfl)
        rw [v_2] at hl
        refine lv_iload_n hx hb dX3_countOrders_36 rfl (lv_at hl 1 rfl) ?_
        exact z_iret hx hb hr hlocks hP hS dX3_countOrders_37 rfl rfl (Nat.le_refl _) (Nat.le_refl _)
      · refine lv_iload_n hx hb dX3_countOrders_9 rfl (lv_at hl 1 rfl) ?_
        refine lv_aload_n hx hb dX3_countOrders_10 rfl (lv_at hl 2 rfl) ?_
        refine lv_iload_n hx hb dX3_countOrders_11 rfl (lv_at hl 0 rfl) ?_
        refine z_ai0 (va_runV (As := [.int (iI x3)]) (rest := [.int (iI x2)]) ⟨hx, hb, hml, hown, hts⟩ (c_X3_signAt l D k a0 S0  x3 hS1 (by omega) _) (cwV 1 hts gX3_countOrders_X3_signAt rfl rfl rfl (by decide +kernel) ⟨(Nat.le_of_ble_eq_true rfl), (Nat.le_of_ble_eq_true rfl)⟩) (z_preV hK hG hA hP hD hS [0, 1] rfl (by decide) 5 rfl rfl) rfl rfl hl.1 rfl (lv_room (Nat.le_of_ble_eq_true rfl)) dX3_countOrders_12 ⟨(Nat.le_of_ble_eq_true rfl), (Nat.le_of_ble_eq_true rfl)⟩) hA hP hD hS [0, 1] rfl (fun H locs hP hS => ?_)
        have q_3 : 0 ≤ iSign (S0 1) x3 ∧ iSign (S0 1) x3 < 65536 := iSign_rng hS1
        refine z_ai0 (va_runS (As := [.int (iI (iSign (S0 1) x3))]) (rest := [.int (iI x2)]) ⟨hx, hb, hml, hown, hts⟩ (c_X3_numbersOf l D k   (iSign (S0 1) x3) (by omega) _) (va_cwS 1 hts gX3_countOrders_X3_numbersOf rfl rfl rfl (by decide +kernel) ⟨(Nat.le_of_ble_eq_true rfl), (Nat.le_of_ble_eq_true rfl)⟩) (z_preS hK hG hA hP hD hS [] rfl (by decide)) rfl rfl hl.1 rfl (lv_room (Nat.le_of_ble_eq_true rfl)) dX3_countOrders_15 ⟨(Nat.le_of_ble_eq_true rfl), (Nat.le_of_ble_eq_true rfl)⟩) hA hP hD hS [] rfl (fun H locs hP hS => ?_)
        have q_4 : iNums (iSign (S0 1) x3) = -2 ∨ (0 ≤ iNums (iSign (S0 1) x3) ∧ iNums (iSign (S0 1) x3) ≤ 3) := iNums_rng
        refine lv_bipush (v := iI (-2)) hx hb dX3_countOrders_18 (by decide) ?_
        have c_5K : W p l e ({ frames := 1, cells := 0, slots := 0, locals := 21 } : Room) s m args below meth c H locs 0 0 (MQ below (zQi D A (iCount (S0 1) p0) (wInput k a0 S0)) args s 0 0 A) (F0 m 28 ls [.int (iI (zif ((iNums (iSign (S0 1) x3)) = (-2)) 0 1)), .int (iI x2)]) := by
          have c_5O := zif_or ((iNums (iSign (S0 1) x3)) = (-2)) 0 1
          refine zi_add hx hb dX3_countOrders_28 ?_
          refine lv_istore_n (lv' := [(2, .int (iI (x2 + (zif ((iNums (iSign (S0 1) x3)) = (-2)) 0 1)))), (3, .int (iI x3)), (0, .ref (a0 0)), (1, .int (iI p0))]) hx hb dX3_countOrders_29 rfl hl (by decide) rfl (fun ls hl => ?_)
          refine lv_iinc (v := iI (x3 + 1)) (lv' := [(3, .int (iI (x3 + 1))), (2, .int (iI (x2 + (zif ((iNums (iSign (S0 1) x3)) = (-2)) 0 1)))), (0, .ref (a0 0)), (1, .int (iI p0))]) hx hb dX3_countOrders_30 hl (k := 1) rfl (iI_add _ _) (by decide) rfl (fun ls hl => ?_)
          refine lv_goto (tgt := 4) hx hb dX3_countOrders_33 (by decide) ?_
          exact ih4 (x2 + (zif ((iNums (iSign (S0 1) x3)) = (-2)) 0 1)) (x3 + 1) (by omega) (by omega) (by omega) (by rw [iF]; exact sumI_e i0 rfl)  H locs ls hP hD hS (lv_sub hl [0, 1, 2, 3] rfl)
        refine zi_icmp_ne (tgt := 27) hx hb dX3_countOrders_20 (by decide) ⟨by omega, by omega⟩ ⟨by omega, by omega⟩ (fun c_5 => ?_) (fun c_5 => ?_)
        · refine lv_iconst (v := iI 1) hx hb dX3_countOrders_27 rfl ?_
          exact z_eqi (z2 := zif ((iNums (iSign (S0 1) x3)) = (-2)) 0 1) (zif_neg c_5).symm c_5K
        · refine lv_iconst (v := iI 0) hx hb dX3_countOrders_23 rfl ?_
          refine lv_goto (tgt := 28) hx hb dX3_countOrders_24 (by decide) ?_
          exact z_eqi (z2 := zif ((iNums (iSign (S0 1) x3)) = (-2)) 0 1) (zif_pos c_5).symm c_5K
  exact lp4_0 61 0 0 (by omega) (by omega) (by omega) rfl  H locs ls hP hD hS (lv_sub hl [0, 1, 2, 3] rfl)
