theorem hist_at {a : Nat → Nat} {z : Int} {i : Nat} (h : z = (i : Int) ∧ i < 8) : (fun j => some (a (2 + 15 * j))) z.toNat = some ((subA a (2 + 15 * i)) 0) := by
  have e : z.toNat = i := by omega
  rw [e]
  unfold subA
  rw [Nat.add_zero]
set_option maxHeartbeats 4000000 in
set_option maxRecDepth 100000 in
theorem c_X2_remember (l : Launch) (D : va_G) (k : Nat → ClassId) (a0 : Nat → Nat) (a2 : Nat → Nat) (S0 : Nat → Nat → Int) (S1 : Nat → Nat → Int) (S2 : Nat → Nat → Int) (i0 : Nat) (hi : S0 0 1 = (i0 : Int) ∧ i0 < 8) (hcn : 0 ≤ S0 0 2 ∧ S0 0 2 ≤ 8) (hk23 : 0 ≤ S2 3 1 ∧ S2 3 1 ≤ 8) (hk26 : 0 ≤ S2 6 1 ∧ S2 6 1 ≤ 8) (hk29 : 0 ≤ S2 9 1 ∧ S2 9 1 ≤ 8) (hk211 : 0 ≤ S2 11 1 ∧ S2 11 1 ≤ 8) : zMv l yX2_remember wsX2_remember ({ frames := 4, cells := 0, slots := 0, locals := 104 } : Room) D k [.ref (a0 0), .ref (a2 0)] (wHist k a0 S0 ++ (wPlant k (subA a0 (2 + 15 * i0)) S1 ++ wPlant k a2 S2)) (wHist k a0 (up2 (up2 S0 0 1 (((S0 0 1) + 1) % 8)) 0 2 (min ((S0 0 2) + 1) 8)) ++ (wPlant k (subA a0 (2 + 15 * i0)) ((wCopy S1 S2)) ++ wPlant k a2 S2)) 0 0 := by
  refine zMv_of (cc := cX2_remember) (maxL := 2) (ret := none) (by decide) rfl (Nat.le_of_ble_eq_true rfl) ?_
  intro p e s m args below meth c A ls hx hb hr hml hown hts hlocks hK hP hD hG hA hS hl
  have hown : s.vm.findClass RX2 = some m.cls := hown
  have hl : lv_has ls 2 [(0, .ref (a0 0)), (1, .ref (a2 0))] := hl
  obtain ⟨H, hH⟩ : ∃ z, z = s.heap := ⟨_, rfl⟩
  obtain ⟨locs, hlc⟩ : ∃ z : List Loc, z = [] := ⟨_, rfl⟩
  rw [← hH] at hP
  have hS : va_S A s.heap H locs := by rw [hH, hlc]; exact hS
  rw [← hlc, ← hH]
  clear hlc hH
  refine lv_aload_n hx hb dX2_remember_0 rfl (lv_at hl 0 rfl) ?_
  refine va_get (D := D) (ci := 4) (v := .ref (a0 1)) (C := RX2) (T := TX2) (N := 3) hx hb hts (fun w h => List.mem_cons_of_mem _ (List.mem_append_left _ (List.mem_append_left _ (List.mem_append_left _ (List.mem_append_left _ (List.mem_append_right _ h)))))) hown hK hP 0 rfl rfl 0 (by decide) (hts (.fieldLink RX2 11 "MondayFactory$History" "plants" "[LMondayFactory$Plant;") (List.mem_of_getElem? (i := 1) rfl)) (fun _ h9 => h9) rfl dX2_remember_1 ?_
  refine lv_aload_n hx hb dX2_remember_4 rfl (lv_at hl 0 rfl) ?_
  refine va_get (D := D) (ci := 4) (v := .int (iI (S0 0 1))) (C := RX2) (T := TX2) (N := 3) hx hb hts (fun w h => List.mem_cons_of_mem _ (List.mem_append_left _ (List.mem_append_left _ (List.mem_append_left _ (List.mem_append_left _ (List.mem_append_right _ h)))))) hown hK hP 0 rfl rfl 1 (by decide) (hts (.fieldLink RX2 17 "MondayFactory$History" "at" "I") (List.mem_of_getElem? (i := 2) rfl)) (fun _ h9 => h9) rfl dX2_remember_5 ?_
  refine z_aald hx hb hK hP 1 3 (f := fun j => some (a0 (2 + 15 * j))) (q := (subA a0 (2 + 15 * i0)) 0) rfl rfl (i := S0 0 1) (by omega) (by omega) (by decide) (hist_at hi) dX2_remember_8 ?_
  refine lv_aload_n hx hb dX2_remember_9 rfl (lv_at hl 1 rfl) ?_
  refine z_av (va_runV (As := [.ref (a2 0)]) (rest := []) ⟨hx, hb, hml, hown, hts⟩ (c_X5_copyW l D k ((subA a0 (2 + 15 * i0))) S1 a2 S2   (by omega) (by omega) (by omega) (by omega) _) (cwV 1 hts gX2_remember_X5_copyFrom rfl rfl rfl (by decide +kernel) ⟨(Nat.le_of_ble_eq_true rfl), (Nat.le_of_ble_eq_true rfl)⟩) (z_preV hK hG hA hP hD hS (zrg 2 15 ++ zrg 17 15) (z_mcat (z_sk (n := 2) (off := 0) (m := 15) rfl (z_hd (n := 15) rfl)) (z_sk (n := 2) (off := 15) (m := 15) rfl (z_sk (n := 15) (off := 0) (m := 15) rfl (z_hdl (n := 15) rfl)))) (by decide +kernel) 7 rfl rfl) rfl rfl hl.1 rfl (lv_room (Nat.le_of_ble_eq_true rfl)) dX2_remember_10 ⟨(Nat.le_of_ble_eq_true rfl), (Nat.le_of_ble_eq_true rfl)⟩) hA hP hD hS (zrg 2 15 ++ zrg 17 15) (z_mcat (z_sk (n := 2) (off := 0) (m := 15) rfl (z_hd (n := 15) rfl)) (z_sk (n := 2) (off := 15) (m := 15) rfl (z_sk (n := 15) (off := 0) (m := 15) rfl (z_hdl (n := 15) rfl)))) (z_mfst rfl rfl) (fun H locs hP hD hS => ?_)
  have hz_2 : zset (wHist k a0 S0 ++ (wPlant k (subA a0 (2 + 15 * i0)) S1 ++ wPlant k a2 S2)) (zrg 2 15) (wPlant k (subA a0 (2 + 15 * i0)) ((wCopy S1 S2))) = wHist k a0 S0 ++ (wPlant k (subA a0 (2 + 15 * i0)) ((wCopy S1 S2)) ++ wPlant k a2 S2) := (z_zsk (n := 2) (off := 0) (m := 15) rfl (z_zhd (n := 15) rfl rfl))
  have hz_3 : zset (wHist k a0 S0 ++ (wPlant k (subA a0 (2 + 15 * i0)) ((wCopy S1 S2)) ++ wPlant k a2 S2)) (zrg 17 15) (wPlant k a2 S2) = wHist k a0 S0 ++ (wPlant k (subA a0 (2 + 15 * i0)) ((wCopy S1 S2)) ++ wPlant k a2 S2) := (z_zsk (n := 2) (off := 15) (m := 15) rfl (z_zsk (n := 15) (off := 0) (m := 15) rfl (z_zhl (n := 15) rfl rfl)))
  have hE_1 : zset (wHist k a0 S0 ++ (wPlant k (subA a0 (2 + 15 * i0)) S1 ++ wPlant k a2 S2)) (zrg 2 15 ++ zrg 17 15) (wPlant k (subA a0 (2 + 15 * i0)) ((wCopy S1 S2)) ++ wPlant k a2 S2) = wHist k a0 S0 ++ (wPlant k (subA a0 (2 + 15 * i0)) ((wCopy S1 S2)) ++ wPlant k a2 S2) := (z_zcat rfl hz_2 hz_3)
  have hP : va_P D vwCl (wHist k a0 S0 ++ (wPlant k (subA a0 (2 + 15 * i0)) ((wCopy S1 S2)) ++ wPlant k a2 S2)) H := z_to hE_1 hP
  have hD : va_D A (wHist k a0 S0 ++ (wPlant k (subA a0 (2 + 15 * i0)) ((wCopy S1 S2)) ++ wPlant k a2 S2)) := z_to2 hE_1 hD
  refine lv_aload_n hx hb dX2_remember_13 rfl (lv_at hl 0 rfl) ?_
  refine lv_aload_n hx hb dX2_remember_14 rfl (lv_at hl 0 rfl) ?_
  refine va_get (D := D) (ci := 4) (v := .int (iI (S0 0 1))) (C := RX2) (T := TX2) (N := 3) hx hb hts (fun w h => List.mem_cons_of_mem _ (List.mem_append_left _ (List.mem_append_left _ (List.mem_append_left _ (List.mem_append_left _ (List.mem_append_right _ h)))))) hown hK hP 0 rfl rfl 1 (by decide) (hts (.fieldLink RX2 17 "MondayFactory$History" "at" "I") (List.mem_of_getElem? (i := 2) rfl)) (fun _ h9 => h9) rfl dX2_remember_15 ?_
  refine lv_iconst (v := iI 1) hx hb dX2_remember_18 rfl ?_
  refine zi_add hx hb dX2_remember_19 ?_
  refine lv_bipush (v := iI 8) hx hb dX2_remember_20 (by decide) ?_
  refine z_rem8 hx hb (by omega) (by omega) dX2_remember_22 ?_
  refine va_put (D := D) (ci := 4) (v := .int (iI (((S0 0 1) + 1) % 8))) (ty := .int) (C := RX2) (T := TX2) (N := 3) hx hb hts (fun w h => List.mem_cons_of_mem _ (List.mem_append_left _ (List.mem_append_left _ (List.mem_append_left _ (List.mem_append_left _ (List.mem_append_right _ h)))))) tyX2 tyX2_ok nmX2 hown hK hP hD hS 0 rfl rfl 1 (by decide) (hts (.fieldLink RX2 17 "MondayFactory$History" "at" "I") (List.mem_of_getElem? (i := 2) rfl)) (fun _ h9 => h9) rfl (by decide +kernel) rfl rfl (Nat.le_of_ble_eq_true rfl) dX2_remember_23 (fun H locs hP hD hS => ?_)
  have hP : va_P D vwCl (wHist k a0 (up2 S0 0 1 (((S0 0 1) + 1) % 8)) ++ (wPlant k (subA a0 (2 + 15 * i0)) ((wCopy S1 S2)) ++ wPlant k a2 S2)) H := hP
  have hD : va_D A (wHist k a0 (up2 S0 0 1 (((S0 0 1) + 1) % 8)) ++ (wPlant k (subA a0 (2 + 15 * i0)) ((wCopy S1 S2)) ++ wPlant k a2 S2)) := hD
  refine lv_aload_n hx hb dX2_remember_26 rfl (lv_at hl 0 rfl) ?_
  refine lv_aload_n hx hb dX2_remember_27 rfl (lv_at hl 0 rfl) ?_
  refine va_get (D := D) (ci := 4) (v := .int (iI (S0 0 2))) (C := RX2) (T := TX2) (N := 3) hx hb hts (fun w h => List.mem_cons_of_mem _ (List.mem_append_left _ (List.mem_append_left _ (List.mem_append_left _ (List.mem_append_left _ (List.mem_append_right _ h)))))) hown hK hP 0 rfl rfl 2 (by decide) (hts (.fieldLink RX2 21 "MondayFactory$History" "count" "I") (List.mem_of_getElem? (i := 3) rfl)) (fun _ h9 => h9) rfl dX2_remember_28 ?_
  refine lv_iconst (v := iI 1) hx hb dX2_remember_31 rfl ?_
  refine zi_add hx hb dX2_remember_32 ?_
  refine lv_bipush (v := iI 8) hx hb dX2_remember_33 (by decide) ?_
  refine z_mmin hx hb (hml.trans hl.1.symm) hown (hts (.methodLink RX2 29 Lib.Math.min.name) (List.mem_of_getElem? (i := 4) rfl)) (hts (.static Lib.Math.min.name) (List.mem_of_getElem? (i := 5) rfl)) (hts (.initialized "java/lang/Math") (List.mem_of_getElem? (i := 6) rfl)) (hts (.code Lib.Math.min.name Lib.Math.min.code 2 (some .int)) (List.mem_of_getElem? (i := 7) rfl)) (Nat.le_of_ble_eq_true rfl) (Nat.le_of_ble_eq_true rfl) (Nat.le_of_ble_eq_true rfl) (Nat.le_of_ble_eq_true rfl) ⟨by omega, by omega⟩ ⟨by omega, by omega⟩ dX2_remember_35 ?_
  refine va_put (D := D) (ci := 4) (v := .int (iI (min ((S0 0 2) + 1) 8))) (ty := .int) (C := RX2) (T := TX2) (N := 3) hx hb hts (fun w h => List.mem_cons_of_mem _ (List.mem_append_left _ (List.mem_append_left _ (List.mem_append_left _ (List.mem_append_left _ (List.mem_append_right _ h)))))) tyX2 tyX2_ok nmX2 hown hK hP hD hS 0 rfl rfl 2 (by decide) (hts (.fieldLink RX2 21 "MondayFactory$History" "count" "I") (List.mem_of_getElem? (i := 3) rfl)) (fun _ h9 => h9) rfl (by decide +kernel) rfl rfl (Nat.le_of_ble_eq_true rfl) dX2_remember_38 (fun H locs hP hD hS => ?_)
  have hP : va_P D vwCl (wHist k a0 (up2 (up2 S0 0 1 (((S0 0 1) + 1) % 8)) 0 2 (min ((S0 0 2) + 1) 8)) ++ (wPlant k (subA a0 (2 + 15 * i0)) ((wCopy S1 S2)) ++ wPlant k a2 S2)) H := hP
  have hD : va_D A (wHist k a0 (up2 (up2 S0 0 1 (((S0 0 1) + 1) % 8)) 0 2 (min ((S0 0 2) + 1) 8)) ++ (wPlant k (subA a0 (2 + 15 * i0)) ((wCopy S1 S2)) ++ wPlant k a2 S2)) := hD
  exact z_vret hx hb hr hlocks hP hS dX2_remember_41 rfl (Nat.le_refl _) (Nat.le_refl _)
set_option maxHeartbeats 4000000 in
set_option maxRecDepth 100000 in
theorem c_X2_takeBack (l : Launch) (D : va_G) (k : Nat → ClassId) (a0 : Nat → Nat) (a2 : Nat → Nat) (S0 : Nat → Nat → Int) (S1 : Nat → Nat → Int) (S2 : Nat → Nat → Int) (i0 : Nat) (hi : (S0 0 1 + 8 - 1) % 8 = (i0 : Int) ∧ i0 < 8) (hcn : 0 ≤ S0 0 2 ∧ S0 0 2 ≤ 8) (hat : 0 ≤ S0 0 1 ∧ S0 0 1 < 8) (hk13 : 0 ≤ S1 3 1 ∧ S1 3 1 ≤ 8) (hk16 : 0 ≤ S1 6 1 ∧ S1 6 1 ≤ 8) (hk19 : 0 ≤ S1 9 1 ∧ S1 9 1 ≤ 8) (hk111 : 0 ≤ S1 11 1 ∧ S1 11 1 ≤ 8) : zMv l yX2_takeBack wsX2_takeBack ({ frames := 4, cells := 0, slots := 0, locals := 104 } : Room) D k [.ref (a0 0), .ref (a2 0)] (wHist k a0 S0 ++ (wPlant k (subA a0 (2 + 15 * i0)) S1 ++ wPlant k a2 S2)) (wHist k a0 (up2 (up2 S0 0 1 ((((S0 0 1) + 8) - 1) % 8)) 0 2 ((S0 0 2) - 1)) ++ (wPlant k (subA a0 (2 + 15 * i0)) S1 ++ wPlant k a2 ((wCopy S2 S1)))) 0 0 := by
  refine zMv_of (cc := cX2_takeBack) (maxL := 2) (ret := none) (by decide) rfl (Nat.le_of_ble_eq_true rfl) ?_
  intro p e s m args below meth c A ls hx hb hr hml hown hts hlocks hK hP hD hG hA hS hl
  have hown : s.vm.findClass RX2 = some m.cls := hown
  have hl : lv_has ls 2 [(0, .ref (a0 0)), (1, .ref (a2 0))] := hl
  obtain ⟨H, hH⟩ : ∃ z, z = s.heap := ⟨_, rfl⟩
  obtain ⟨locs, hlc⟩ : ∃ z : List Loc, z = [] := ⟨_, rfl⟩
  rw [← hH] at hP
  have hS : va_S A s.heap H locs := by rw [hH, hlc]; exact hS
  rw [← hlc, ← hH]
  clear hlc hH
  refine lv_aload_n hx hb dX2_takeBack_0 rfl (lv_at hl 0 rfl) ?_
  refine lv_aload_n hx hb dX2_takeBack_1 rfl (lv_at hl 0 rfl) ?_
  refine va_get (D := D) (ci := 4) (v := .int (iI (S0 0 1))) (C := RX2) (T := TX2) (N := 3) hx hb hts (fun w h => List.mem_cons_of_mem _ (List.mem_append_left _ (List.mem_append_left _ (List.mem_append_left _ (List.mem_append_left _ (List.mem_append_right _ h)))))) hown hK hP 0 rfl rfl 1 (by decide) (hts (.fieldLink RX2 17 "MondayFactory$History" "at" "I") (List.mem_of_getElem? (i := 1) rfl)) (fun _ h9 => h9) rfl dX2_takeBack_2 ?_
  refine lv_bipush (v := iI 8) hx hb dX2_takeBack_5 (by decide) ?_
  refine zi_add hx hb dX2_takeBack_7 ?_
  refine lv_iconst (v := iI 1) hx hb dX2_takeBack_8 rfl ?_
  refine zi_sub hx hb dX2_takeBack_9 ?_
  refine lv_bipush (v := iI 8) hx hb dX2_takeBack_10 (by decide) ?_
  refine z_rem8 hx hb (by omega) (by omega) dX2_takeBack_12 ?_
  refine va_put (D := D) (ci := 4) (v := .int (iI ((((S0 0 1) + 8) - 1) % 8))) (ty := .int) (C := RX2) (T := TX2) (N := 3) hx hb hts (fun w h => List.mem_cons_of_mem _ (List.mem_append_left _ (List.mem_append_left _ (List.mem_append_left _ (List.mem_append_left _ (List.mem_append_right _ h)))))) tyX2 tyX2_ok nmX2 hown hK hP hD hS 0 rfl rfl 1 (by decide) (hts (.fieldLink RX2 17 "MondayFactory$History" "at" "I") (List.mem_of_getElem? (i := 1) rfl)) (fun _ h9 => h9) rfl (by decide +kernel) rfl rfl (Nat.le_of_ble_eq_true rfl) dX2_takeBack_13 (fun H locs hP hD hS => ?_)
  have hP : va_P D vwCl (wHist k a0 (up2 S0 0 1 ((((S0 0 1) + 8) - 1) % 8)) ++ (wPlant k (subA a0 (2 + 15 * i0)) S1 ++ wPlant k a2 S2)) H := hP
  have hD : va_D A (wHist k a0 (up2 S0 0 1 ((((S0 0 1) + 8) - 1) % 8)) ++ (wPlant k (subA a0 (2 + 15 * i0)) S1 ++ wPlant k a2 S2)) := hD
  refine lv_aload_n hx hb dX2_takeBack_16 rfl (lv_at hl 1 rfl) ?_
  refine lv_aload_n hx hb dX2_takeBack_17 rfl (lv_at hl 0 rfl) ?_
  refine va_get (D := D) (ci := 4) (v := .ref (a0 1)) (C := RX2) (T := TX2) (N := 3) hx hb hts (fun w h => List.mem_cons_of_mem _ (List.mem_append_left _ (List.mem_append_left _ (List.mem_append_left _ (List.mem_append_left _ (List.mem_append_right _ h)))))) hown hK hP 0 rfl rfl 0 (by decide) (hts (.fieldLink RX2 11 "MondayFactory$History" "plants" "[LMondayFactory$Plant;") (List.mem_of_getElem? (i := 2) rfl)) (fun _ h9 => h9) rfl dX2_takeBack_18 ?_
  refine lv_aload_n hx hb dX2_takeBack_21 rfl (lv_at hl 0 rfl) ?_
  refine va_get (D := D) (ci := 4) (v := .int (iI ((((S0 0 1) + 8) - 1) % 8))) (C := RX2) (T := TX2) (N := 3) hx hb hts (fun w h => List.mem_cons_of_mem _ (List.mem_append_left _ (List.mem_append_left _ (List.mem_append_left _ (List.mem_append_left _ (List.mem_append_right _ h)))))) hown hK hP 0 rfl rfl 1 (by decide) (hts (.fieldLink RX2 17 "MondayFactory$History" "at" "I") (List.mem_of_getElem? (i := 1) rfl)) (fun _ h9 => h9) rfl dX2_takeBack_22 ?_
  refine z_aald hx hb hK hP 1 3 (f := fun j => some (a0 (2 + 15 * j))) (q := (subA a0 (2 + 15 * i0)) 0) rfl rfl (i := (((S0 0 1) + 8) - 1) % 8) (by omega) (by omega) (by decide) (hist_at hi) dX2_takeBack_25 ?_
  refine z_av (va_runV (As := [.ref ((subA a0 (2 + 15 * i0)) 0)]) (rest := []) ⟨hx, hb, hml, hown, hts⟩ (c_X5_copyW l D k a2 S2 ((subA a0 (2 + 15 * i0))) S1   (by omega) (by omega) (by omega) (by omega) _) (cwV 1 hts gX2_takeBack_X5_copyFrom rfl rfl rfl (by decide +kernel) ⟨(Nat.le_of_ble_eq_true rfl), (Nat.le_of_ble_eq_true rfl)⟩) (z_preV hK hG hA hP hD hS (zrg 17 15 ++ zrg 2 15) (z_mcat (z_sk (n := 2) (off := 15) (m := 15) rfl (z_sk (n := 15) (off := 0) (m := 15) rfl (z_hdl (n := 15) rfl))) (z_sk (n := 2) (off := 0) (m := 15) rfl (z_hd (n := 15) rfl))) (by decide +kernel) 7 rfl rfl) rfl rfl hl.1 rfl (lv_room (Nat.le_of_ble_eq_true rfl)) dX2_takeBack_26 ⟨(Nat.le_of_ble_eq_true rfl), (Nat.le_of_ble_eq_true rfl)⟩) hA hP hD hS (zrg 17 15 ++ zrg 2 15) (z_mcat (z_sk (n := 2) (off := 15) (m := 15) rfl (z_sk (n := 15) (off := 0) (m := 15) rfl (z_hdl (n := 15) rfl))) (z_sk (n := 2) (off := 0) (m := 15) rfl (z_hd (n := 15) rfl))) (z_mfst rfl rfl) (fun H locs hP hD hS => ?_)
  have hz_2 : zset (wHist k a0 (up2 S0 0 1 ((((S0 0 1) + 8) - 1) % 8)) ++ (wPlant k (subA a0 (2 + 15 * i0)) S1 ++ wPlant k a2 S2)) (zrg 17 15) (wPlant k a2 ((wCopy S2 S1))) = wHist k a0 (up2 S0 0 1 ((((S0 0 1) + 8) - 1) % 8)) ++ (wPlant k (subA a0 (2 + 15 * i0)) S1 ++ wPlant k a2 ((wCopy S2 S1))) := (z_zsk (n := 2) (off := 15) (m := 15) rfl (z_zsk (n := 15) (off := 0) (m := 15) rfl (z_zhl (n := 15) rfl rfl)))
  have hz_3 : zset (wHist k a0 (up2 S0 0 1 ((((S0 0 1) + 8) - 1) % 8)) ++ (wPlant k (subA a0 (2 + 15 * i0)) S1 ++ wPlant k a2 ((wCopy S2 S1)))) (zrg 2 15) (wPlant k (subA a0 (2 + 15 * i0)) S1) = wHist k a0 (up2 S0 0 1 ((((S0 0 1) + 8) - 1) % 8)) ++ (wPlant k (subA a0 (2 + 15 * i0)) S1 ++ wPlant k a2 ((wCopy S2 S1))) := (z_zsk (n := 2) (off := 0) (m := 15) rfl (z_zhd (n := 15) rfl rfl))
  have hE_1 : zset (wHist k a0 (up2 S0 0 1 ((((S0 0 1) + 8) - 1) % 8)) ++ (wPlant k (subA a0 (2 + 15 * i0)) S1 ++ wPlant k a2 S2)) (zrg 17 15 ++ zrg 2 15) (wPlant k a2 ((wCopy S2 S1)) ++ wPlant k (subA a0 (2 + 15 * i0)) S1) = wHist k a0 (up2 S0 0 1 ((((S0 0 1) + 8) - 1) % 8)) ++ (wPlant k (subA a0 (2 + 15 * i0)) S1 ++ wPlant k a2 ((wCopy S2 S1))) := (z_zcat rfl hz_2 hz_3)
  have hP : va_P D vwCl (wHist k a0 (up2 S0 0 1 ((((S0 0 1) + 8) - 1) % 8)) ++ (wPlant k (subA a0 (2 + 15 * i0)) S1 ++ wPlant k a2 ((wCopy S2 S1)))) H := z_to hE_1 hP
  have hD : va_D A (wHist k a0 (up2 S0 0 1 ((((S0 0 1) + 8) - 1) % 8)) ++ (wPlant k (subA a0 (2 + 15 * i0)) S1 ++ wPlant k a2 ((wCopy S2 S1)))) := z_to2 hE_1 hD
  refine lv_aload_n hx hb dX2_takeBack_29 rfl (lv_at hl 0 rfl) ?_
  refine lv_dup hx hb dX2_takeBack_30 rfl ?_
  refine va_get (D := D) (ci := 4) (v := .int (iI (S0 0 2))) (C := RX2) (T := TX2) (N := 3) hx hb hts (fun w h => List.mem_cons_of_mem _ (List.mem_append_left _ (List.mem_append_left _ (List.mem_append_left _ (List.mem_append_left _ (List.mem_append_right _ h)))))) hown hK hP 0 rfl rfl 2 (by decide) (hts (.fieldLink RX2 21 "MondayFactory$History" "count" "I") (List.mem_of_getElem? (i := 3) rfl)) (fun _ h9 => h9) rfl dX2_takeBack_31 ?_
  refine lv_iconst (v := iI 1) hx hb dX2_takeBack_34 rfl ?_
  refine zi_sub hx hb dX2_takeBack_35 ?_
  refine va_put (D := D) (ci := 4) (v := .int (iI ((S0 0 2) - 1))) (ty := .int) (C := RX2) (T := TX2) (N := 3) hx hb hts (fun w h => List.mem_cons_of_mem _ (List.mem_append_left _ (List.mem_append_left _ (List.mem_append_left _ (List.mem_append_left _ (List.mem_append_right _ h)))))) tyX2 tyX2_ok nmX2 hown hK hP hD hS 0 rfl rfl 2 (by decide) (hts (.fieldLink RX2 21 "MondayFactory$History" "count" "I") (List.mem_of_getElem? (i := 3) rfl)) (fun _ h9 => h9) rfl (by decide +kernel) rfl rfl (Nat.le_of_ble_eq_true rfl) dX2_takeBack_36 (fun H locs hP hD hS => ?_)
  have hP : va_P D vwCl (wHist k a0 (up2 (up2 S0 0 1 ((((S0 0 1) + 8) - 1) % 8)) 0 2 ((S0 0 2) - 1)) ++ (wPlant k (subA a0 (2 + 15 * i0)) S1 ++ wPlant k a2 ((wCopy S2 S1)))) H := hP
  have hD : va_D A (wHist k a0 (up2 (up2 S0 0 1 ((((S0 0 1) + 8) - 1) % 8)) 0 2 ((S0 0 2) - 1)) ++ (wPlant k (subA a0 (2 + 15 * i0)) S1 ++ wPlant k a2 ((wCopy S2 S1)))) := hD
  exact z_vret hx hb hr hlocks hP hS dX2_takeBack_39 rfl (Nat.le_refl _) (Nat.le_refl _)
