set_option maxHeartbeats 4000000 in
set_option maxRecDepth 100000 in
theorem c_X7_keepReason_k (l : Launch) (D : va_G) (k : Nat → ClassId) (a0 : Nat → Nat) (S0 : Nat → Nat → Int) (S1 : Nat → Nat → Int) (p0 : Int) (p1 : Int) (p2 : Int) (hp : pOK S1) (h0 : 1 ≤ p0 ∧ p0 ≤ 5) (h1 : 0 ≤ p1 ∧ p1 < 65536) (h2 : -2147483648 ≤ p2 ∧ p2 < 2147483648) (hn : ¬ p0 = 2 ∨ (0 ≤ p2 ∧ p2 ≤ 2)) : zMv l yX7_keepReason wsX7_keepReason ({ frames := 3, cells := 0, slots := 0, locals := 67 } : Room) D k [.ref (a0 0), .int (iI p0), .int (iI p1), .int (iI p2)] (wFac k a0 S0 ++ wPlant k (subA a0 1) S1) (wFac k a0 (up2 (up2 S0 0 9 p0) 0 10 (sp_X5_detailOf S1 p0 p1 p2)) ++ wPlant k (subA a0 1) S1) 0 0 := by
  refine zMv_of (cc := cX7_keepReason) (maxL := 4) (ret := none) (by decide) rfl (Nat.le_of_ble_eq_true rfl) ?_
  intro p e s m args below meth c A ls hx hb hr hml hown hts hlocks hK hP hD hG hA hS hl
  have hown : s.vm.findClass RX7 = some m.cls := hown
  have hl : lv_has ls 4 [(0, .ref (a0 0)), (1, .int (iI p0)), (2, .int (iI p1)), (3, .int (iI p2))] := hl
  obtain ⟨H, hH⟩ : ∃ z, z = s.heap := ⟨_, rfl⟩
  obtain ⟨locs, hlc⟩ : ∃ z : List Loc, z = [] := ⟨_, rfl⟩
  rw [← hH] at hP
  have hS : va_S A s.heap H locs := by rw [hH, hlc]; exact hS
  rw [← hlc, ← hH]
  clear hlc hH
  have kp := hp.2
  refine lv_iload_n hx hb dX7_keepReason_0 rfl (lv_at hl 1 rfl) ?_
  refine lv_iconst (v := iI 1) hx hb dX7_keepReason_1 rfl ?_
  refine zi_icmp_lt (tgt := 29) hx hb dX7_keepReason_2 (by decide) ⟨by omega, by omega⟩ ⟨by omega, by omega⟩ (fun c_1 => absurd c_1 (by omega)) (fun _ => ?_)
  refine lv_iload_n hx hb dX7_keepReason_5 rfl (lv_at hl 1 rfl) ?_
  refine lv_iconst (v := iI 5) hx hb dX7_keepReason_6 rfl ?_
  refine zi_icmp_gt (tgt := 29) hx hb dX7_keepReason_7 (by decide) ⟨by omega, by omega⟩ ⟨by omega, by omega⟩ (fun c_2 => absurd c_2 (by omega)) (fun _ => ?_)
  refine lv_aload_n hx hb dX7_keepReason_10 rfl (lv_at hl 0 rfl) ?_
  refine lv_iload_n hx hb dX7_keepReason_11 rfl (lv_at hl 1 rfl) ?_
  refine va_put (D := D) (ci := 9) (v := .int (iI p0)) (ty := .int) (C := RX7) (T := TX7) (N := 11) hx hb hts (fun w h => List.mem_cons_of_mem _ (List.mem_append_left _ (List.mem_append_left _ (List.mem_append_left _ (List.mem_append_left _ (List.mem_append_right _ h)))))) tyX7 tyX7_ok nmX7 hown hK hP hD hS 0 rfl rfl 9 (by decide) (hts (.fieldLink RX7 54 "MondayFactory" "latestReason" "I") (List.mem_of_getElem? (i := 1) rfl)) (fun _ h9 => h9) rfl (by decide +kernel) rfl rfl (Nat.le_of_ble_eq_true rfl) dX7_keepReason_12 (fun H locs hP hD hS => ?_)
  have hP : va_P D vwCl (wFac k a0 (up2 S0 0 9 p0) ++ wPlant k (subA a0 1) S1) H := hP
  have hD : va_D A (wFac k a0 (up2 S0 0 9 p0) ++ wPlant k (subA a0 1) S1) := hD
  refine lv_aload_n hx hb dX7_keepReason_15 rfl (lv_at hl 0 rfl) ?_
  refine lv_aload_n hx hb dX7_keepReason_16 rfl (lv_at hl 0 rfl) ?_
  refine va_get (D := D) (ci := 9) (v := .ref ((subA a0 1) 0)) (C := RX7) (T := TX7) (N := 11) hx hb hts (fun w h => List.mem_cons_of_mem _ (List.mem_append_left _ (List.mem_append_left _ (List.mem_append_left _ (List.mem_append_left _ (List.mem_append_right _ h)))))) hown hK hP 0 rfl rfl 0 (by decide) (hts (.fieldLink RX7 10 "MondayFactory" "plant" "LMondayFactory$Plant;") (List.mem_of_getElem? (i := 2) rfl)) (fun _ h9 => h9) rfl dX7_keepReason_17 ?_
  refine lv_iload_n hx hb dX7_keepReason_20 rfl (lv_at hl 1 rfl) ?_
  refine lv_iload_n hx hb dX7_keepReason_21 rfl (lv_at hl 2 rfl) ?_
  refine lv_iload_n hx hb dX7_keepReason_22 rfl (lv_at hl 3 rfl) ?_
  refine z_ai0 (va_runV (As := [.int (iI p0), .int (iI p1), .int (iI p2)]) (rest := [.ref (a0 0)]) ⟨hx, hb, hml, hown, hts⟩ (c_X5_detailOf l D k ((subA a0 1)) S1  p0 p1 p2 (pOK_b hp 12 (by decide)) (by omega) (by omega) (by omega) (by omega) (by omega) _) (cwV 3 hts gX7_keepReason_X5_detailOf rfl rfl rfl (by decide +kernel) ⟨(Nat.le_of_ble_eq_true rfl), (Nat.le_of_ble_eq_true rfl)⟩) (z_preV hK hG hA hP hD hS (zrg 1 15) (z_sk (n := 1) (off := 0) (m := 15) rfl (z_hdl (n := 15) rfl)) (by decide +kernel) 7 rfl rfl) rfl rfl hl.1 rfl (lv_room (Nat.le_of_ble_eq_true rfl)) dX7_keepReason_23 ⟨(Nat.le_of_ble_eq_true rfl), (Nat.le_of_ble_eq_true rfl)⟩) hA hP hD hS (zrg 1 15) (z_sk (n := 1) (off := 0) (m := 15) rfl (z_hdl (n := 15) rfl)) (fun H locs hP hS => ?_)
  refine va_put (D := D) (ci := 9) (v := .int (iI (sp_X5_detailOf S1 p0 p1 p2))) (ty := .int) (C := RX7) (T := TX7) (N := 11) hx hb hts (fun w h => List.mem_cons_of_mem _ (List.mem_append_left _ (List.mem_append_left _ (List.mem_append_left _ (List.mem_append_left _ (List.mem_append_right _ h)))))) tyX7 tyX7_ok nmX7 hown hK hP hD hS 0 rfl rfl 10 (by decide) (hts (.fieldLink RX7 57 "MondayFactory" "latestDetail" "I") (List.mem_of_getElem? (i := 3) rfl)) (fun _ h9 => h9) rfl (by decide +kernel) rfl rfl (Nat.le_of_ble_eq_true rfl) dX7_keepReason_26 (fun H locs hP hD hS => ?_)
  have hP : va_P D vwCl (wFac k a0 (up2 (up2 S0 0 9 p0) 0 10 (sp_X5_detailOf S1 p0 p1 p2)) ++ wPlant k (subA a0 1) S1) H := hP
  have hD : va_D A (wFac k a0 (up2 (up2 S0 0 9 p0) 0 10 (sp_X5_detailOf S1 p0 p1 p2)) ++ wPlant k (subA a0 1) S1) := hD
  exact z_vret hx hb hr hlocks hP hS dX7_keepReason_29 rfl (Nat.le_refl _) (Nat.le_refl _)
set_option maxHeartbeats 4000000 in
set_option maxRecDepth 100000 in
theorem c_X7_keepReason_n (l : Launch) (D : va_G) (k : Nat → ClassId) (a0 : Nat → Nat) (S0 : Nat → Nat → Int) (S1 : Nat → Nat → Int) (p0 : Int) (p1 : Int) (p2 : Int) (hp : pOK S1) (h0 : 6 ≤ p0 ∧ p0 ≤ 7) (h1 : 0 ≤ p1 ∧ p1 < 65536) (h2 : -2147483648 ≤ p2 ∧ p2 < 2147483648) : zMv l yX7_keepReason wsX7_keepReason ({ frames := 0, cells := 0, slots := 0, locals := 0 } : Room) D k [.ref (a0 0), .int (iI p0), .int (iI p1), .int (iI p2)] (wFac k a0 S0 ++ wPlant k (subA a0 1) S1) (wFac k a0 S0 ++ wPlant k (subA a0 1) S1) 0 0 := by
  refine zMv_of (cc := cX7_keepReason) (maxL := 4) (ret := none) (by decide) rfl (Nat.le_of_ble_eq_true rfl) ?_
  intro p e s m args below meth c A ls hx hb hr hml hown hts hlocks hK hP hD hG hA hS hl
  have hown : s.vm.findClass RX7 = some m.cls := hown
  have hl : lv_has ls 4 [(0, .ref (a0 0)), (1, .int (iI p0)), (2, .int (iI p1)), (3, .int (iI p2))] := hl
  obtain ⟨H, hH⟩ : ∃ z, z = s.heap := ⟨_, rfl⟩
  obtain ⟨locs, hlc⟩ : ∃ z : List Loc, z = [] := ⟨_, rfl⟩
  rw [← hH] at hP
  have hS : va_S A s.heap H locs := by rw [hH, hlc]; exact hS
  rw [← hlc, ← hH]
  clear hlc hH
  have kp := hp.2
  refine lv_iload_n hx hb dX7_keepReason_0 rfl (lv_at hl 1 rfl) ?_
  refine lv_iconst (v := iI 1) hx hb dX7_keepReason_1 rfl ?_
  refine zi_icmp_lt (tgt := 29) hx hb dX7_keepReason_2 (by decide) ⟨by omega, by omega⟩ ⟨by omega, by omega⟩ (fun c_1 => absurd c_1 (by omega)) (fun _ => ?_)
  refine lv_iload_n hx hb dX7_keepReason_5 rfl (lv_at hl 1 rfl) ?_
  refine lv_iconst (v := iI 5) hx hb dX7_keepReason_6 rfl ?_
  refine zi_icmp_gt (tgt := 29) hx hb dX7_keepReason_7 (by decide) ⟨by omega, by omega⟩ ⟨by omega, by omega⟩ (fun _ => ?_) (fun c_2 => absurd c_2 (by omega))
  exact z_vret hx hb hr hlocks hP hS dX7_keepReason_29 rfl (Nat.le_refl _) (Nat.le_refl _)
set_option maxHeartbeats 4000000 in
set_option maxRecDepth 100000 in
theorem c_X7_change_ok (l : Launch) (D : va_G) (k : Nat → ClassId) (a0 : Nat → Nat) (S0 : Nat → Nat → Int) (S1 : Nat → Nat → Int) (S2 : Nat → Nat → Int) (S3 : Nat → Nat → Int) (i0 : Nat) (p0 : Int) (p1 : Int) (p2 : Int) (p3 : Int) (hp : pOK S1) (h0 : 0 ≤ p0 ∧ p0 < 65536) (h1 : -2147483648 ≤ p1 ∧ p1 < 2147483648) (h2 : -2147483648 ≤ p2 ∧ p2 < 2147483648) (h3 : -2147483648 ≤ p3 ∧ p3 < 2147483648) (hv : sp_X5_verdictOn S1 p0 p1 p2 p3 = 0) (hi : S2 0 1 = (i0 : Int) ∧ i0 < 8) (hcn : 0 ≤ S2 0 2 ∧ S2 0 2 ≤ 8) : zMi l yX7_change wsX7_change ({ frames := 5, cells := 0, slots := 0, locals := 130 } : Room) D k [.ref (a0 0), .int (iI p0), .int (iI p1), .int (iI p2), .int (iI p3)] (wFac k a0 S0 ++ (wPlant k (subA a0 1) S1 ++ (wHist k (subA a0 61) S2 ++ wPlant k (subA (subA a0 61) (2 + 15 * i0)) S3))) (sp_X5_carryOut S1 p0 p1 p2 p3) (wFac k a0 S0 ++ (wPlant k (subA a0 1) ((wCarry S1 p0 p1 p2 p3)) ++ (wHist k (subA a0 61) (up2 (up2 S2 0 1 (((S2 0 1) + 1) % 8)) 0 2 (min ((S2 0 2) + 1) 8)) ++ wPlant k (subA (subA a0 61) (2 + 15 * i0)) ((wCopy S3 S1))))) 0 0 := by
  refine zMi_of (cc := cX7_change) (maxL := 6) (ret := (some .int)) (by decide) rfl (Nat.le_of_ble_eq_true rfl) ?_
  intro p e s m args below meth c A ls hx hb hr hml hown hts hlocks hK hP hD hG hA hS hl
  have hown : s.vm.findClass RX7 = some m.cls := hown
  have hl : lv_has ls 6 [(0, .ref (a0 0)), (1, .int (iI p0)), (2, .int (iI p1)), (3, .int (iI p2)), (4, .int (iI p3))] := hl
  obtain ⟨H, hH⟩ : ∃ z, z = s.heap := ⟨_, rfl⟩
  obtain ⟨locs, hlc⟩ : ∃ z : List Loc, z = [] := ⟨_, rfl⟩
  rw [← hH] at hP
  have hS : va_S A s.heap H locs := by rw [hH, hlc]; exact hS
  rw [← hlc, ← hH]
  clear hlc hH
  have kp := hp.2
  refine lv_aload_n hx hb dX7_change_0 rfl (lv_at hl 0 rfl) ?_
  refine va_get (D := D) (ci := 9) (v := .ref ((subA a0 1) 0)) (C := RX7) (T := TX7) (N := 11) hx hb hts (fun w h => List.mem_cons_of_mem _ (List.mem_append_left _ (List.mem_append_left _ (List.mem_append_left _ (List.mem_append_left _ (List.mem_append_left _ (List.mem_append_left _ (List.mem_append_left _ (List.mem_append_left _ (List.mem_append_left _ (List.mem_append_right _ h))))))))))) hown hK hP 0 rfl rfl 0 (by decide) (hts (.fieldLink RX7 10 "MondayFactory" "plant" "LMondayFactory$Plant;") (List.mem_of_getElem? (i := 7) rfl)) (fun _ h9 => h9) rfl dX7_change_1 ?_
  refine lv_iload_n hx hb dX7_change_4 rfl (lv_at hl 1 rfl) ?_
  refine lv_iload_n hx hb dX7_change_5 rfl (lv_at hl 2 rfl) ?_
  refine lv_iload_n hx hb dX7_change_6 rfl (lv_at hl 3 rfl) ?_
  refine lv_iload hx hb dX7_change_7 (lv_at hl 4 rfl) ?_
  refine z_ai0 (va_runV (As := [.int (iI p0), .int (iI p1), .int (iI p2), .int (iI p3)]) (rest := []) ⟨hx, hb, hml, hown, hts⟩ (c_X5_verdictOn l D k ((subA a0 1)) S1  p0 p1 p2 p3 (pOK_b hp 0 (by decide)) (pOK_b hp 2 (by decide)) (pOK_b hp 5 (by decide)) (pOK_b hp 8 (by decide)) (by omega) (by omega) (by omega) (by omega) (pOK_b hp 12 (by decide)) (by omega) (by omega) (by omega) (by omega) (by omega) _) (cwV 4 hts gX7_change_X5_verdictOn rfl rfl rfl (by decide +kernel) ⟨(Nat.le_of_ble_eq_true rfl), (Nat.le_of_ble_eq_true rfl)⟩) (z_preV hK hG hA hP hD hS (zrg 1 15) (z_sk (n := 1) (off := 0) (m := 15) rfl (z_hd (n := 15) rfl)) (by decide +kernel) 7 rfl rfl) rfl rfl hl.1 rfl (lv_room (Nat.le_of_ble_eq_true rfl)) dX7_change_9 ⟨(Nat.le_of_ble_eq_true rfl), (Nat.le_of_ble_eq_true rfl)⟩) hA hP hD hS (zrg 1 15) (z_sk (n := 1) (off := 0) (m := 15) rfl (z_hd (n := 15) rfl)) (fun H locs hP hS => ?_)
  have q_1 : 0 ≤ sp_X5_verdictOn S1 p0 p1 p2 p3 ∧ sp_X5_verdictOn S1 p0 p1 p2 p3 ≤ 7 := ver_rng S1 p0 p1 p2 p3 (by omega) (by omega) (by omega) (by omega)
  refine lv_istore (lv' := [(5, .int (iI (sp_X5_verdictOn S1 p0 p1 p2 p3))), (0, .ref (a0 0)), (1, .int (iI p0)), (2, .int (iI p1)), (3, .int (iI p2)), (4, .int (iI p3))]) hx hb dX7_change_12 hl (by decide) rfl (fun ls hl => ?_)
  refine lv_iload hx hb dX7_change_14 (lv_at hl 0 rfl) ?_
  refine lv_bipush (v := iI 6) hx hb dX7_change_16 (by decide) ?_
  refine zi_icmp_ne (tgt := 32) hx hb dX7_change_18 (by decide) ⟨by omega, by omega⟩ ⟨by omega, by omega⟩ (fun _ => ?_) (fun c_2 => absurd c_2 (by omega))
  refine lv_iload hx hb dX7_change_32 (lv_at hl 0 rfl) ?_
  refine lv_bipush (v := iI 7) hx hb dX7_change_34 (by decide) ?_
  refine zi_icmp_ne (tgt := 50) hx hb dX7_change_36 (by decide) ⟨by omega, by omega⟩ ⟨by omega, by omega⟩ (fun _ => ?_) (fun c_3 => absurd c_3 (by omega))
  refine lv_iload hx hb dX7_change_50 (lv_at hl 0 rfl) ?_
  refine zi_if_eq (tgt := 74) hx hb dX7_change_52 (by decide) ⟨by omega, by omega⟩ (fun _ => ?_) (fun c_4 => absurd c_4 (by omega))
  have qf := (ver_f S1 p0 p1 p2 p3 (by omega) (by omega) (by omega) (by omega)).2.2 hv
  have h97 := (hp.1 0 (by decide)) 9
  refine lv_aload_n hx hb dX7_change_74 rfl (lv_at hl 1 rfl) ?_
  refine va_get (D := D) (ci := 9) (v := .ref ((subA a0 61) 0)) (C := RX7) (T := TX7) (N := 11) hx hb hts (fun w h => List.mem_cons_of_mem _ (List.mem_append_left _ (List.mem_append_left _ (List.mem_append_left _ (List.mem_append_left _ (List.mem_append_left _ (List.mem_append_left _ (List.mem_append_left _ (List.mem_append_left _ (List.mem_append_left _ (List.mem_append_right _ h))))))))))) hown hK hP 0 rfl rfl 4 (by decide) (hts (.fieldLink RX7 28 "MondayFactory" "history" "LMondayFactory$History;") (List.mem_of_getElem? (i := 8) rfl)) (fun _ h9 => h9) rfl dX7_change_75 ?_
  refine lv_aload_n hx hb dX7_change_78 rfl (lv_at hl 1 rfl) ?_
  refine va_get (D := D) (ci := 9) (v := .ref ((subA a0 1) 0)) (C := RX7) (T := TX7) (N := 11) hx hb hts (fun w h => List.mem_cons_of_mem _ (List.mem_append_left _ (List.mem_append_left _ (List.mem_append_left _ (List.mem_append_left _ (List.mem_append_left _ (List.mem_append_left _ (List.mem_append_left _ (List.mem_append_left _ (List.mem_append_left _ (List.mem_append_right _ h))))))))))) hown hK hP 0 rfl rfl 0 (by decide) (hts (.fieldLink RX7 10 "MondayFactory" "plant" "LMondayFactory$Plant;") (List.mem_of_getElem? (i := 7) rfl)) (fun _ h9 => h9) rfl dX7_change_79 ?_
  refine z_av (va_runV (As := [.ref ((subA a0 1) 0)]) (rest := []) ⟨hx, hb, hml, hown, hts⟩ (c_X2_remember l D k ((subA a0 61)) ((subA a0 1)) S2 S3 S1 i0  (by omega) (by omega) (by omega) (by omega) (by omega) (by omega) _) (cwV 1 hts gX7_change_X2_remember rfl rfl rfl (by decide +kernel) ⟨(Nat.le_of_ble_eq_true rfl), (Nat.le_of_ble_eq_true rfl)⟩) (z_preV hK hG hA hP hD hS (zrg 16 2 ++ (zrg 18 15 ++ zrg 1 15)) (z_mcat (z_sk (n := 1) (off := 15) (m := 2) rfl (z_sk (n := 15) (off := 0) (m := 2) rfl (z_hd (n := 2) rfl))) (z_mcat (z_sk (n := 1) (off := 17) (m := 15) rfl (z_sk (n := 15) (off := 2) (m := 15) rfl (z_sk (n := 2) (off := 0) (m := 15) rfl (z_hdl (n := 15) rfl)))) (z_sk (n := 1) (off := 0) (m := 15) rfl (z_hd (n := 15) rfl)))) (by decide +kernel) 4 rfl rfl) rfl rfl hl.1 rfl (lv_room (Nat.le_of_ble_eq_true rfl)) dX7_change_82 ⟨(Nat.le_of_ble_eq_true rfl), (Nat.le_of_ble_eq_true rfl)⟩) hA hP hD hS (zrg 16 2 ++ (zrg 18 15 ++ zrg 1 15)) (z_mcat (z_sk (n := 1) (off := 15) (m := 2) rfl (z_sk (n := 15) (off := 0) (m := 2) rfl (z_hd (n := 2) rfl))) (z_mcat (z_sk (n := 1) (off := 17) (m := 15) rfl (z_sk (n := 15) (off := 2) (m := 15) rfl (z_sk (n := 2) (off := 0) (m := 15) rfl (z_hdl (n := 15) rfl)))) (z_sk (n := 1) (off := 0) (m := 15) rfl (z_hd (n := 15) rfl)))) (z_mfst rfl (z_mfst rfl rfl)) (fun H locs hP hD hS => ?_)
  have hz_6 : zset (wFac k a0 S0 ++ (wPlant k (subA a0 1) S1 ++ (wHist k (subA a0 61) S2 ++ wPlant k (subA (subA a0 61) (2 + 15 * i0)) S3))) (zrg 16 2) (wHist k (subA a0 61) (up2 (up2 S2 0 1 (((S2 0 1) + 1) % 8)) 0 2 (min ((S2 0 2) + 1) 8))) = wFac k a0 S0 ++ (wPlant k (subA a0 1) S1 ++ (wHist k (subA a0 61) (up2 (up2 S2 0 1 (((S2 0 1) + 1) % 8)) 0 2 (min ((S2 0 2) + 1) 8)) ++ wPlant k (subA (subA a0 61) (2 + 15 * i0)) S3)) := (z_zsk (n := 1) (off := 15) (m := 2) rfl (z_zsk (n := 15) (off := 0) (m := 2) rfl (z_zhd (n := 2) rfl rfl)))
  have hz_7 : zset (wFac k a0 S0 ++ (wPlant k (subA a0 1) S1 ++ (wHist k (subA a0 61) (up2 (up2 S2 0 1 (((S2 0 1) + 1) % 8)) 0 2 (min ((S2 0 2) + 1) 8)) ++ wPlant k (subA (subA a0 61) (2 + 15 * i0)) S3))) (zrg 18 15) (wPlant k (subA (subA a0 61) (2 + 15 * i0)) ((wCopy S3 S1))) = wFac k a0 S0 ++ (wPlant k (subA a0 1) S1 ++ (wHist k (subA a0 61) (up2 (up2 S2 0 1 (((S2 0 1) + 1) % 8)) 0 2 (min ((S2 0 2) + 1) 8)) ++ wPlant k (subA (subA a0 61) (2 + 15 * i0)) ((wCopy S3 S1)))) := (z_zsk (n := 1) (off := 17) (m := 15) rfl (z_zsk (n := 15) (off := 2) (m := 15) rfl (z_zsk (n := 2) (off := 0) (m := 15) rfl (z_zhl (n := 15) rfl rfl))))
  have hz_8 : zset (wFac k a0 S0 ++ (wPlant k (subA a0 1) S1 ++ (wHist k (subA a0 61) (up2 (up2 S2 0 1 (((S2 0 1) + 1) % 8)) 0 2 (min ((S2 0 2) + 1) 8)) ++ wPlant k (subA (subA a0 61) (2 + 15 * i0)) ((wCopy S3 S1))))) (zrg 1 15) (wPlant k (subA a0 1) S1) = wFac k a0 S0 ++ (wPlant k (subA a0 1) S1 ++ (wHist k (subA a0 61) (up2 (up2 S2 0 1 (((S2 0 1) + 1) % 8)) 0 2 (min ((S2 0 2) + 1) 8)) ++ wPlant k (subA (subA a0 61) (2 + 15 * i0)) ((wCopy S3 S1)))) := (z_zsk (n := 1) (off := 0) (m := 15) rfl (z_zhd (n := 15) rfl rfl))
  have hE_5 : zset (wFac k a0 S0 ++ (wPlant k (subA a0 1) S1 ++ (wHist k (subA a0 61) S2 ++ wPlant k (subA (subA a0 61) (2 + 15 * i0)) S3))) (zrg 16 2 ++ (zrg 18 15 ++ zrg 1 15)) (wHist k (subA a0 61) (up2 (up2 S2 0 1 (((S2 0 1) + 1) % 8)) 0 2 (min ((S2 0 2) + 1) 8)) ++ (wPlant k (subA (subA a0 61) (2 + 15 * i0)) ((wCopy S3 S1)) ++ wPlant k (subA a0 1) S1)) = wFac k a0 S0 ++ (wPlant k (subA a0 1) S1 ++ (wHist k (subA a0 61) (up2 (up2 S2 0 1 (((S2 0 1) + 1) % 8)) 0 2 (min ((S2 0 2) + 1) 8)) ++ wPlant k (subA (subA a0 61) (2 + 15 * i0)) ((wCopy S3 S1)))) := (z_zcat rfl hz_6 (z_zcat rfl hz_7 hz_8))
  have hP : va_P D vwCl (wFac k a0 S0 ++ (wPlant k (subA a0 1) S1 ++ (wHist k (subA a0 61) (up2 (up2 S2 0 1 (((S2 0 1) + 1) % 8)) 0 2 (min ((S2 0 2) + 1) 8)) ++ wPlant k (subA (subA a0 61) (2 + 15 * i0)) ((wCopy S3 S1))))) H := z_to hE_5 hP
  have hD : va_D A (wFac k a0 S0 ++ (wPlant k (subA a0 1) S1 ++ (wHist k (subA a0 61) (up2 (up2 S2 0 1 (((S2 0 1) + 1) % 8)) 0 2 (min ((S2 0 2) + 1) 8)) ++ wPlant k (subA (subA a0 61) (2 + 15 * i0)) ((wCopy S3 S1))))) := z_to2 hE_5 hD
  refine lv_aload_n hx hb dX7_change_85 rfl (lv_at hl 1 rfl) ?_
  refine va_get (D := D) (ci := 9) (v := .ref ((subA a0 1) 0)) (C := RX7) (T := TX7) (N := 11) hx hb hts (fun w h => List.mem_cons_of_mem _ (List.mem_append_left _ (List.mem_append_left _ (List.mem_append_left _ (List.mem_append_left _ (List.mem_append_left _ (List.mem_append_left _ (List.mem_append_left _ (List.mem_append_left _ (List.mem_append_left _ (List.mem_append_right _ h))))))))))) hown hK hP 0 rfl rfl 0 (by decide) (hts (.fieldLink RX7 10 "MondayFactory" "plant" "LMondayFactory$Plant;") (List.mem_of_getElem? (i := 7) rfl)) (fun _ h9 => h9) rfl dX7_change_86 ?_
  refine lv_iload_n hx hb dX7_change_89 rfl (lv_at hl 2 rfl) ?_
  refine lv_iload_n hx hb dX7_change_90 rfl (lv_at hl 3 rfl) ?_
  refine lv_iload_n hx hb dX7_change_91 rfl (lv_at hl 4 rfl) ?_
  refine lv_iload hx hb dX7_change_92 (lv_at hl 5 rfl) ?_
  refine z_ai (va_runV (As := [.int (iI p0), .int (iI p1), .int (iI p2), .int (iI p3)]) (rest := []) ⟨hx, hb, hml, hown, hts⟩ (c_X5_carryW l D k ((subA a0 1)) S1  p0 p1 p2 p3 (pOK_b hp 2 (by decide)) (pOK_b hp 4 (by decide)) (pOK_b hp 5 (by decide)) (pOK_b hp 7 (by decide)) (pOK_b hp 8 (by decide)) (pOK_b hp 10 (by decide)) (pOK_b hp 12 (by decide)) (pOK_b hp 14 (by decide)) (by omega) (by omega) (by omega) (by omega) (by omega) (by omega) (by omega) (by omega) (by omega) (by omega) (by omega) (by omega) (by omega) (by omega) (by omega) (by omega) (by omega) _) (cwV 4 hts gX7_change_X5_carryOut rfl rfl rfl (by decide +kernel) ⟨(Nat.le_of_ble_eq_true rfl), (Nat.le_of_ble_eq_true rfl)⟩) (z_preV hK hG hA hP hD hS (zrg 1 15) (z_sk (n := 1) (off := 0) (m := 15) rfl (z_hd (n := 15) rfl)) (by decide +kernel) 7 rfl rfl) rfl rfl hl.1 rfl (lv_room (Nat.le_of_ble_eq_true rfl)) dX7_change_94 ⟨(Nat.le_of_ble_eq_true rfl), (Nat.le_of_ble_eq_true rfl)⟩) hA hP hD hS (zrg 1 15) (z_sk (n := 1) (off := 0) (m := 15) rfl (z_hd (n := 15) rfl)) rfl (fun H locs hP hD hS => ?_)
  have hz_10 : zset (wFac k a0 S0 ++ (wPlant k (subA a0 1) S1 ++ (wHist k (subA a0 61) (up2 (up2 S2 0 1 (((S2 0 1) + 1) % 8)) 0 2 (min ((S2 0 2) + 1) 8)) ++ wPlant k (subA (subA a0 61) (2 + 15 * i0)) ((wCopy S3 S1))))) (zrg 1 15) (wPlant k (subA a0 1) ((wCarry S1 p0 p1 p2 p3))) = wFac k a0 S0 ++ (wPlant k (subA a0 1) ((wCarry S1 p0 p1 p2 p3)) ++ (wHist k (subA a0 61) (up2 (up2 S2 0 1 (((S2 0 1) + 1) % 8)) 0 2 (min ((S2 0 2) + 1) 8)) ++ wPlant k (subA (subA a0 61) (2 + 15 * i0)) ((wCopy S3 S1)))) := (z_zsk (n := 1) (off := 0) (m := 15) rfl (z_zhd (n := 15) rfl rfl))
  have hE_9 : zset (wFac k a0 S0 ++ (wPlant k (subA a0 1) S1 ++ (wHist k (subA a0 61) (up2 (up2 S2 0 1 (((S2 0 1) + 1) % 8)) 0 2 (min ((S2 0 2) + 1) 8)) ++ wPlant k (subA (subA a0 61) (2 + 15 * i0)) ((wCopy S3 S1))))) (zrg 1 15) (wPlant k (subA a0 1) ((wCarry S1 p0 p1 p2 p3))) = wFac k a0 S0 ++ (wPlant k (subA a0 1) ((wCarry S1 p0 p1 p2 p3)) ++ (wHist k (subA a0 61) (up2 (up2 S2 0 1 (((S2 0 1) + 1) % 8)) 0 2 (min ((S2 0 2) + 1) 8)) ++ wPlant k (subA (subA a0 61) (2 + 15 * i0)) ((wCopy S3 S1)))) := hz_10
  have hP : va_P D vwCl (wFac k a0 S0 ++ (wPlant k (subA a0 1) ((wCarry S1 p0 p1 p2 p3)) ++ (wHist k (subA a0 61) (up2 (up2 S2 0 1 (((S2 0 1) + 1) % 8)) 0 2 (min ((S2 0 2) + 1) 8)) ++ wPlant k (subA (subA a0 61) (2 + 15 * i0)) ((wCopy S3 S1))))) H := z_to hE_9 hP
  have hD : va_D A (wFac k a0 S0 ++ (wPlant k (subA a0 1) ((wCarry S1 p0 p1 p2 p3)) ++ (wHist k (subA a0 61) (up2 (up2 S2 0 1 (((S2 0 1) + 1) % 8)) 0 2 (min ((S2 0 2) + 1) 8)) ++ wPlant k (subA (subA a0 61) (2 + 15 * i0)) ((wCopy S3 S1))))) := z_to2 hE_9 hD
  exact z_iret hx hb hr hlocks hP hS dX7_change_97 rfl rfl (Nat.le_refl _) (Nat.le_refl _)
set_option maxHeartbeats 4000000 in
set_option maxRecDepth 100000 in
theorem c_X7_change_6 (l : Launch) (hst : l.stackTraces = false) (D : va_G) (k : Nat → ClassId) (a0 : Nat → Nat) (S0 : Nat → Nat → Int) (S1 : Nat → Nat → Int) (p0 : Int) (p1 : Int) (p2 : Int) (p3 : Int) (hp : pOK S1) (h0 : 0 ≤ p0 ∧ p0 < 65536) (h1 : -2147483648 ≤ p1 ∧ p1 < 2147483648) (h2 : -2147483648 ≤ p2 ∧ p2 < 2147483648) (h3 : -2147483648 ≤ p3 ∧ p3 < 2147483648) (hv : sp_X5_verdictOn S1 p0 p1 p2 p3 = 6) : zMx l yX7_change wsX7_change ({ frames := 6, cells := 1, slots := 6, locals := 89 } : Room) D k [.ref (a0 0), .int (iI p0), .int (iI p1), .int (iI p2), .int (iI p3)] (wFac k a0 S0 ++ wPlant k (subA a0 1) S1) "java/lang/IndexOutOfBoundsException" (wFac k a0 S0 ++ wPlant k (subA a0 1) S1) 1 6 := by
  refine zMx_of (cc := cX7_change) (maxL := 6) (ret := (some .int)) (by decide) rfl (Nat.le_of_ble_eq_true rfl) ?_
  intro p e s m args below meth c A ls hx hb hr hml hown hts hlocks hK hP hD hG hE ht hA hS hl
  have hown : s.vm.findClass RX7 = some m.cls := hown
  have hl : lv_has ls 6 [(0, .ref (a0 0)), (1, .int (iI p0)), (2, .int (iI p1)), (3, .int (iI p2)), (4, .int (iI p3))] := hl
  obtain ⟨H, hH⟩ : ∃ z, z = s.heap := ⟨_, rfl⟩
  obtain ⟨locs, hlc⟩ : ∃ z : List Loc, z = [] := ⟨_, rfl⟩
  rw [← hH] at hP
  have hS : va_S A s.heap H locs := by rw [hH, hlc]; exact hS
  rw [← hlc, ← hH]
  clear hlc hH
  have kp := hp.2
  refine lv_aload_n hx hb dX7_change_0 rfl (lv_at hl 0 rfl) ?_
  refine va_get (D := D) (ci := 9) (v := .ref ((subA a0 1) 0)) (C := RX7) (T := TX7) (N := 11) hx hb hts (fun w h => List.mem_cons_of_mem _ (List.mem_append_left _ (List.mem_append_left _ (List.mem_append_left _ (List.mem_append_left _ (List.mem_append_left _ (List.mem_append_left _ (List.mem_append_left _ (List.mem_append_left _ (List.mem_append_left _ (List.mem_append_right _ h))))))))))) hown hK hP 0 rfl rfl 0 (by decide) (hts (.fieldLink RX7 10 "MondayFactory" "plant" "LMondayFactory$Plant;") (List.mem_of_getElem? (i := 7) rfl)) (fun _ h9 => h9) rfl dX7_change_1 ?_
  refine lv_iload_n hx hb dX7_change_4 rfl (lv_at hl 1 rfl) ?_
  refine lv_iload_n hx hb dX7_change_5 rfl (lv_at hl 2 rfl) ?_
  refine lv_iload_n hx hb dX7_change_6 rfl (lv_at hl 3 rfl) ?_
  refine lv_iload hx hb dX7_change_7 (lv_at hl 4 rfl) ?_
  refine z_ai0 (va_runV (As := [.int (iI p0), .int (iI p1), .int (iI p2), .int (iI p3)]) (rest := []) ⟨hx, hb, hml, hown, hts⟩ (c_X5_verdictOn l D k ((subA a0 1)) S1  p0 p1 p2 p3 (pOK_b hp 0 (by decide)) (pOK_b hp 2 (by decide)) (pOK_b hp 5 (by decide)) (pOK_b hp 8 (by decide)) (by omega) (by omega) (by omega) (by omega) (pOK_b hp 12 (by decide)) (by omega) (by omega) (by omega) (by omega) (by omega) _) (cwV 4 hts gX7_change_X5_verdictOn rfl rfl rfl (by decide +kernel) ⟨(Nat.le_of_ble_eq_true rfl), (Nat.le_of_ble_eq_true rfl)⟩) (z_preV hK hG hA hP hD hS (zrg 1 15) (z_sk (n := 1) (off := 0) (m := 15) rfl (z_hdl (n := 15) rfl)) (by decide +kernel) 7 rfl rfl) rfl rfl hl.1 rfl (lv_room (Nat.le_of_ble_eq_true rfl)) dX7_change_9 ⟨(Nat.le_of_ble_eq_true rfl), (Nat.le_of_ble_eq_true rfl)⟩) hA hP hD hS (zrg 1 15) (z_sk (n := 1) (off := 0) (m := 15) rfl (z_hdl (n := 15) rfl)) (fun H locs hP hS => ?_)
  have q_1 : 0 ≤ sp_X5_verdictOn S1 p0 p1 p2 p3 ∧ sp_X5_verdictOn S1 p0 p1 p2 p3 ≤ 7 := ver_rng S1 p0 p1 p2 p3 (by omega) (by omega) (by omega) (by omega)
  refine lv_istore (lv' := [(5, .int (iI (sp_X5_verdictOn S1 p0 p1 p2 p3))), (0, .ref (a0 0)), (1, .int (iI p0)), (2, .int (iI p1)), (3, .int (iI p2)), (4, .int (iI p3))]) hx hb dX7_change_12 hl (by decide) rfl (fun ls hl => ?_)
  refine lv_iload hx hb dX7_change_14 (lv_at hl 0 rfl) ?_
  refine lv_bipush (v := iI 6) hx hb dX7_change_16 (by decide) ?_
  refine zi_icmp_ne (tgt := 32) hx hb dX7_change_18 (by decide) ⟨by omega, by omega⟩ ⟨by omega, by omega⟩ (fun c_2 => absurd c_2 (by omega)) (fun _ => ?_)
  exact z_thrW (cls := "java/lang/IndexOutOfBoundsException") hx hb hst hown zXf_ioob zXm_ioob (hts (.classLink RX7 126 "java/lang/IndexOutOfBoundsException") (List.mem_of_getElem? (i := 1) rfl)) (hts (.initialized "java/lang/IndexOutOfBoundsException") (List.mem_of_getElem? (i := 2) rfl)) (show (314, "there is no such belt, inspector or reject") ∈ zStrs by decide +kernel) hG hE (fun w h => hts w ((fun w h => List.mem_cons_of_mem _ (List.mem_append_left _ (List.mem_append_left _ (List.mem_append_left _ (List.mem_append_right _ h))))) w h)) zXn_ioob zXg_ioob hS (hl.1.trans hml.symm) dX7_change_21 dX7_change_24 dX7_change_25 dX7_change_28 dX7_change_31 ht (Nat.le_of_ble_eq_true rfl) (Nat.le_of_ble_eq_true rfl) (Nat.le_of_ble_eq_true rfl) (Nat.le_of_ble_eq_true rfl) hlocks (z_to (Eq.symm rfl) hP) (Nat.le_of_ble_eq_true rfl) (Nat.le_of_ble_eq_true rfl)
set_option maxHeartbeats 4000000 in
set_option maxRecDepth 100000 in
theorem c_X7_change_7 (l : Launch) (hst : l.stackTraces = false) (D : va_G) (k : Nat → ClassId) (a0 : Nat → Nat) (S0 : Nat → Nat → Int) (S1 : Nat → Nat → Int) (p0 : Int) (p1 : Int) (p2 : Int) (p3 : Int) (hp : pOK S1) (h0 : 0 ≤ p0 ∧ p0 < 65536) (h1 : -2147483648 ≤ p1 ∧ p1 < 2147483648) (h2 : -2147483648 ≤ p2 ∧ p2 < 2147483648) (h3 : -2147483648 ≤ p3 ∧ p3 < 2147483648) (hv : sp_X5_verdictOn S1 p0 p1 p2 p3 = 7) : zMx l yX7_change wsX7_change ({ frames := 6, cells := 1, slots := 6, locals := 89 } : Room) D k [.ref (a0 0), .int (iI p0), .int (iI p1), .int (iI p2), .int (iI p3)] (wFac k a0 S0 ++ wPlant k (subA a0 1) S1) "java/lang/IllegalArgumentException" (wFac k a0 S0 ++ wPlant k (subA a0 1) S1) 1 6 := by
  refine zMx_of (cc := cX7_change) (maxL := 6) (ret := (some .int)) (by decide) rfl (Nat.le_of_ble_eq_true rfl) ?_
  intro p e s m args below meth c A ls hx hb hr hml hown hts hlocks hK hP hD hG hE ht hA hS hl
  have hown : s.vm.findClass RX7 = some m.cls := hown
  have hl : lv_has ls 6 [(0, .ref (a0 0)), (1, .int (iI p0)), (2, .int (iI p1)), (3, .int (iI p2)), (4, .int (iI p3))] := hl
  obtain ⟨H, hH⟩ : ∃ z, z = s.heap := ⟨_, rfl⟩
  obtain ⟨locs, hlc⟩ : ∃ z : List Loc, z = [] := ⟨_, rfl⟩
  rw [← hH] at hP
  have hS : va_S A s.heap H locs := by rw [hH, hlc]; exact hS
  rw [← hlc, ← hH]
  clear hlc hH
  have kp := hp.2
  refine lv_aload_n hx hb dX7_change_0 rfl (lv_at hl 0 rfl) ?_
  refine va_get (D := D) (ci := 9) (v := .ref ((subA a0 1) 0)) (C := RX7) (T := TX7) (N := 11) hx hb hts (fun w h => List.mem_cons_of_mem _ (List.mem_append_left _ (List.mem_append_left _ (List.mem_append_left _ (List.mem_append_left _ (List.mem_append_left _ (List.mem_append_left _ (List.mem_append_left _ (List.mem_append_left _ (List.mem_append_left _ (List.mem_append_right _ h))))))))))) hown hK hP 0 rfl rfl 0 (by decide) (hts (.fieldLink RX7 10 "MondayFactory" "plant" "LMondayFactory$Plant;") (List.mem_of_getElem? (i := 7) rfl)) (fun _ h9 => h9) rfl dX7_change_1 ?_
  refine lv_iload_n hx hb dX7_change_4 rfl (lv_at hl 1 rfl) ?_
  refine lv_iload_n hx hb dX7_change_5 rfl (lv_at hl 2 rfl) ?_
  refine lv_iload_n hx hb dX7_change_6 rfl (lv_at hl 3 rfl) ?_
  refine lv_iload hx hb dX7_change_7 (lv_at hl 4 rfl) ?_
  refine z_ai0 (va_runV (As := [.int (iI p0), .int (iI p1), .int (iI p2), .int (iI p3)]) (rest := []) ⟨hx, hb, hml, hown, hts⟩ (c_X5_verdictOn l D k ((subA a0 1)) S1  p0 p1 p2 p3 (pOK_b hp 0 (by decide)) (pOK_b hp 2 (by decide)) (pOK_b hp 5 (by decide)) (pOK_b hp 8 (by decide)) (by omega) (by omega) (by omega) (by omega) (pOK_b hp 12 (by decide)) (by omega) (by omega) (by omega) (by omega) (by omega) _) (cwV 4 hts gX7_change_X5_verdictOn rfl rfl rfl (by decide +kernel) ⟨(Nat.le_of_ble_eq_true rfl), (Nat.le_of_ble_eq_true rfl)⟩) (z_preV hK hG hA hP hD hS (zrg 1 15) (z_sk (n := 1) (off := 0) (m := 15) rfl (z_hdl (n := 15) rfl)) (by decide +kernel) 7 rfl rfl) rfl rfl hl.1 rfl (lv_room (Nat.le_of_ble_eq_true rfl)) dX7_change_9 ⟨(Nat.le_of_ble_eq_true rfl), (Nat.le_of_ble_eq_true rfl)⟩) hA hP hD hS (zrg 1 15) (z_sk (n := 1) (off := 0) (m := 15) rfl (z_hdl (n := 15) rfl)) (fun H locs hP hS => ?_)
  have q_1 : 0 ≤ sp_X5_verdictOn S1 p0 p1 p2 p3 ∧ sp_X5_verdictOn S1 p0 p1 p2 p3 ≤ 7 := ver_rng S1 p0 p1 p2 p3 (by omega) (by omega) (by omega) (by omega)
  refine lv_istore (lv' := [(5, .int (iI (sp_X5_verdictOn S1 p0 p1 p2 p3))), (0, .ref (a0 0)), (1, .int (iI p0)), (2, .int (iI p1)), (3, .int (iI p2)), (4, .int (iI p3))]) hx hb dX7_change_12 hl (by decide) rfl (fun ls hl => ?_)
  refine lv_iload hx hb dX7_change_14 (lv_at hl 0 rfl) ?_
  refine lv_bipush (v := iI 6) hx hb dX7_change_16 (by decide) ?_
  refine zi_icmp_ne (tgt := 32) hx hb dX7_change_18 (by decide) ⟨by omega, by omega⟩ ⟨by omega, by omega⟩ (fun _ => ?_) (fun c_2 => absurd c_2 (by omega))
  refine lv_iload hx hb dX7_change_32 (lv_at hl 0 rfl) ?_
  refine lv_bipush (v := iI 7) hx hb dX7_change_34 (by decide) ?_
  refine zi_icmp_ne (tgt := 50) hx hb dX7_change_36 (by decide) ⟨by omega, by omega⟩ ⟨by omega, by omega⟩ (fun c_3 => absurd c_3 (by omega)) (fun _ => ?_)
  exact z_thrW (cls := "java/lang/IllegalArgumentException") hx hb hst hown zXf_iarg zXm_iarg (hts (.classLink RX7 137 "java/lang/IllegalArgumentException") (List.mem_of_getElem? (i := 3) rfl)) (hts (.initialized "java/lang/IllegalArgumentException") (List.mem_of_getElem? (i := 4) rfl)) (show (316, "a number is out of range") ∈ zStrs by decide +kernel) hG hE (fun w h => hts w ((fun w h => List.mem_cons_of_mem _ (List.mem_append_left _ (List.mem_append_left _ (List.mem_append_right _ h)))) w h)) zXn_iarg zXg_iarg hS (hl.1.trans hml.symm) dX7_change_39 dX7_change_42 dX7_change_43 dX7_change_46 dX7_change_49 ht (Nat.le_of_ble_eq_true rfl) (Nat.le_of_ble_eq_true rfl) (Nat.le_of_ble_eq_true rfl) (Nat.le_of_ble_eq_true rfl) hlocks (z_to (Eq.symm rfl) hP) (Nat.le_of_ble_eq_true rfl) (Nat.le_of_ble_eq_true rfl)
set_option maxHeartbeats 4000000 in
set_option maxRecDepth 100000 in
theorem c_X7_change_r (l : Launch) (hst : l.stackTraces = false) (D : va_G) (k : Nat → ClassId) (a0 : Nat → Nat) (S0 : Nat → Nat → Int) (S1 : Nat → Nat → Int) (p0 : Int) (p1 : Int) (p2 : Int) (p3 : Int) (hp : pOK S1) (h0 : 0 ≤ p0 ∧ p0 < 65536) (h1 : -2147483648 ≤ p1 ∧ p1 < 2147483648) (h2 : -2147483648 ≤ p2 ∧ p2 < 2147483648) (h3 : -2147483648 ≤ p3 ∧ p3 < 2147483648) (hv : 1 ≤ sp_X5_verdictOn S1 p0 p1 p2 p3 ∧ sp_X5_verdictOn S1 p0 p1 p2 p3 ≤ 5) : zMx l yX7_change wsX7_change ({ frames := 6, cells := 1, slots := 6, locals := 90 } : Room) D k [.ref (a0 0), .int (iI p0), .int (iI p1), .int (iI p2), .int (iI p3)] (wFac k a0 S0 ++ wPlant k (subA a0 1) S1) "java/lang/UnsupportedOperationException" (wFac k a0 (up2 (up2 S0 0 9 ((sp_X5_verdictOn S1 p0 p1 p2 p3))) 0 10 (sp_X5_detailOf S1 (sp_X5_verdictOn S1 p0 p1 p2 p3) p0 p1)) ++ wPlant k (subA a0 1) S1) 1 6 := by
  refine zMx_of (cc := cX7_change) (maxL := 6) (ret := (some .int)) (by decide) rfl (Nat.le_of_ble_eq_true rfl) ?_
  intro p e s m args below meth c A ls hx hb hr hml hown hts hlocks hK hP hD hG hE ht hA hS hl
  have hown : s.vm.findClass RX7 = some m.cls := hown
  have hl : lv_has ls 6 [(0, .ref (a0 0)), (1, .int (iI p0)), (2, .int (iI p1)), (3, .int (iI p2)), (4, .int (iI p3))] := hl
  obtain ⟨H, hH⟩ : ∃ z, z = s.heap := ⟨_, rfl⟩
  obtain ⟨locs, hlc⟩ : ∃ z : List Loc, z = [] := ⟨_, rfl⟩
  rw [← hH] at hP
  have hS : va_S A s.heap H locs := by rw [hH, hlc]; exact hS
  rw [← hlc, ← hH]
  clear hlc hH
  have kp := hp.2
  refine lv_aload_n hx hb dX7_change_0 rfl (lv_at hl 0 rfl) ?_
  refine va_get (D := D) (ci := 9) (v := .ref ((subA a0 1) 0)) (C := RX7) (T := TX7) (N := 11) hx hb hts (fun w h => List.mem_cons_of_mem _ (List.mem_append_left _ (List.mem_append_left _ (List.mem_append_left _ (List.mem_append_left _ (List.mem_append_left _ (List.mem_append_left _ (List.mem_append_left _ (List.mem_append_left _ (List.mem_append_left _ (List.mem_append_right _ h))))))))))) hown hK hP 0 rfl rfl 0 (by decide) (hts (.fieldLink RX7 10 "MondayFactory" "plant" "LMondayFactory$Plant;") (List.mem_of_getElem? (i := 7) rfl)) (fun _ h9 => h9) rfl dX7_change_1 ?_
  refine lv_iload_n hx hb dX7_change_4 rfl (lv_at hl 1 rfl) ?_
  refine lv_iload_n hx hb dX7_change_5 rfl (lv_at hl 2 rfl) ?_
  refine lv_iload_n hx hb dX7_change_6 rfl (lv_at hl 3 rfl) ?_
  refine lv_iload hx hb dX7_change_7 (lv_at hl 4 rfl) ?_
  refine z_ai0 (va_runV (As := [.int (iI p0), .int (iI p1), .int (iI p2), .int (iI p3)]) (rest := []) ⟨hx, hb, hml, hown, hts⟩ (c_X5_verdictOn l D k ((subA a0 1)) S1  p0 p1 p2 p3 (pOK_b hp 0 (by decide)) (pOK_b hp 2 (by decide)) (pOK_b hp 5 (by decide)) (pOK_b hp 8 (by decide)) (by omega) (by omega) (by omega) (by omega) (pOK_b hp 12 (by decide)) (by omega) (by omega) (by omega) (by omega) (by omega) _) (cwV 4 hts gX7_change_X5_verdictOn rfl rfl rfl (by decide +kernel) ⟨(Nat.le_of_ble_eq_true rfl), (Nat.le_of_ble_eq_true rfl)⟩) (z_preV hK hG hA hP hD hS (zrg 1 15) (z_sk (n := 1) (off := 0) (m := 15) rfl (z_hdl (n := 15) rfl)) (by decide +kernel) 7 rfl rfl) rfl rfl hl.1 rfl (lv_room (Nat.le_of_ble_eq_true rfl)) dX7_change_9 ⟨(Nat.le_of_ble_eq_true rfl), (Nat.le_of_ble_eq_true rfl)⟩) hA hP hD hS (zrg 1 15) (z_sk (n := 1) (off := 0) (m := 15) rfl (z_hdl (n := 15) rfl)) (fun H locs hP hS => ?_)
  have q_1 : 0 ≤ sp_X5_verdictOn S1 p0 p1 p2 p3 ∧ sp_X5_verdictOn S1 p0 p1 p2 p3 ≤ 7 := ver_rng S1 p0 p1 p2 p3 (by omega) (by omega) (by omega) (by omega)
  refine lv_istore (lv' := [(5, .int (iI (sp_X5_verdictOn S1 p0 p1 p2 p3))), (0, .ref (a0 0)), (1, .int (iI p0)), (2, .int (iI p1)), (3, .int (iI p2)), (4, .int (iI p3))]) hx hb dX7_change_12 hl (by decide) rfl (fun ls hl => ?_)
  refine lv_iload hx hb dX7_change_14 (lv_at hl 0 rfl) ?_
  refine lv_bipush (v := iI 6) hx hb dX7_change_16 (by decide) ?_
  refine zi_icmp_ne (tgt := 32) hx hb dX7_change_18 (by decide) ⟨by omega, by omega⟩ ⟨by omega, by omega⟩ (fun _ => ?_) (fun c_2 => absurd c_2 (by omega))
  refine lv_iload hx hb dX7_change_32 (lv_at hl 0 rfl) ?_
  refine lv_bipush (v := iI 7) hx hb dX7_change_34 (by decide) ?_
  refine zi_icmp_ne (tgt := 50) hx hb dX7_change_36 (by decide) ⟨by omega, by omega⟩ ⟨by omega, by omega⟩ (fun _ => ?_) (fun c_3 => absurd c_3 (by omega))
  refine lv_iload hx hb dX7_change_50 (lv_at hl 0 rfl) ?_
  refine zi_if_eq (tgt := 74) hx hb dX7_change_52 (by decide) ⟨by omega, by omega⟩ (fun c_4 => absurd c_4 (by omega)) (fun _ => ?_)
  have qf := (ver_f S1 p0 p1 p2 p3 (by omega) (by omega) (by omega) (by omega)).2.1
  refine lv_aload_n hx hb dX7_change_55 rfl (lv_at hl 1 rfl) ?_
  refine lv_iload hx hb dX7_change_56 (lv_at hl 0 rfl) ?_
  refine lv_iload_n hx hb dX7_change_58 rfl (lv_at hl 2 rfl) ?_
  refine lv_iload_n hx hb dX7_change_59 rfl (lv_at hl 3 rfl) ?_
  refine z_av (va_runV (As := [.int (iI (sp_X5_verdictOn S1 p0 p1 p2 p3)), .int (iI p0), .int (iI p1)]) (rest := []) ⟨hx, hb, hml, hown, hts⟩ (c_X7_keepReason_k l D k a0 S0 S1  (sp_X5_verdictOn S1 p0 p1 p2 p3) p0 p1 hp (by omega) (by omega) (by omega) (by omega) _) (cwV 3 hts gX7_change_X7_keepReason rfl rfl rfl (by decide +kernel) ⟨(Nat.le_of_ble_eq_true rfl), (Nat.le_of_ble_eq_true rfl)⟩) (z_preV hK hG hA hP hD hS (zrg 0 1 ++ zrg 1 15) (z_mcat (z_hd (n := 1) rfl) (z_sk (n := 1) (off := 0) (m := 15) rfl (z_hdl (n := 15) rfl))) (by decide +kernel) 9 rfl rfl) rfl rfl hl.1 rfl (lv_room (Nat.le_of_ble_eq_true rfl)) dX7_change_60 ⟨(Nat.le_of_ble_eq_true rfl), (Nat.le_of_ble_eq_true rfl)⟩) hA hP hD hS (zrg 0 1 ++ zrg 1 15) (z_mcat (z_hd (n := 1) rfl) (z_sk (n := 1) (off := 0) (m := 15) rfl (z_hdl (n := 15) rfl))) (z_mfst rfl rfl) (fun H locs hP hD hS => ?_)
  have hz_6 : zset (wFac k a0 S0 ++ wPlant k (subA a0 1) S1) (zrg 0 1) (wFac k a0 (up2 (up2 S0 0 9 ((sp_X5_verdictOn S1 p0 p1 p2 p3))) 0 10 (sp_X5_detailOf S1 (sp_X5_verdictOn S1 p0 p1 p2 p3) p0 p1))) = wFac k a0 (up2 (up2 S0 0 9 ((sp_X5_verdictOn S1 p0 p1 p2 p3))) 0 10 (sp_X5_detailOf S1 (sp_X5_verdictOn S1 p0 p1 p2 p3) p0 p1)) ++ wPlant k (subA a0 1) S1 := (z_zhd (n := 1) rfl rfl)
  have hz_7 : zset (wFac k a0 (up2 (up2 S0 0 9 ((sp_X5_verdictOn S1 p0 p1 p2 p3))) 0 10 (sp_X5_detailOf S1 (sp_X5_verdictOn S1 p0 p1 p2 p3) p0 p1)) ++ wPlant k (subA a0 1) S1) (zrg 1 15) (wPlant k (subA a0 1) S1) = wFac k a0 (up2 (up2 S0 0 9 ((sp_X5_verdictOn S1 p0 p1 p2 p3))) 0 10 (sp_X5_detailOf S1 (sp_X5_verdictOn S1 p0 p1 p2 p3) p0 p1)) ++ wPlant k (subA a0 1) S1 := (z_zsk (n := 1) (off := 0) (m := 15) rfl (z_zhl (n := 15) rfl rfl))
  have hE_5 : zset (wFac k a0 S0 ++ wPlant k (subA a0 1) S1) (zrg 0 1 ++ zrg 1 15) (wFac k a0 (up2 (up2 S0 0 9 ((sp_X5_verdictOn S1 p0 p1 p2 p3))) 0 10 (sp_X5_detailOf S1 (sp_X5_verdictOn S1 p0 p1 p2 p3) p0 p1)) ++ wPlant k (subA a0 1) S1) = wFac k a0 (up2 (up2 S0 0 9 ((sp_X5_verdictOn S1 p0 p1 p2 p3))) 0 10 (sp_X5_detailOf S1 (sp_X5_verdictOn S1 p0 p1 p2 p3) p0 p1)) ++ wPlant k (subA a0 1) S1 := (z_zcat rfl hz_6 hz_7)
  have hP : va_P D vwCl (wFac k a0 (up2 (up2 S0 0 9 ((sp_X5_verdictOn S1 p0 p1 p2 p3))) 0 10 (sp_X5_detailOf S1 (sp_X5_verdictOn S1 p0 p1 p2 p3) p0 p1)) ++ wPlant k (subA a0 1) S1) H := z_to hE_5 hP
  have hD : va_D A (wFac k a0 (up2 (up2 S0 0 9 ((sp_X5_verdictOn S1 p0 p1 p2 p3))) 0 10 (sp_X5_detailOf S1 (sp_X5_verdictOn S1 p0 p1 p2 p3) p0 p1)) ++ wPlant k (subA a0 1) S1) := z_to2 hE_5 hD
  exact z_thrW (cls := "java/lang/UnsupportedOperationException") hx hb hst hown zXf_unsu zXm_unsu (hts (.classLink RX7 254 "java/lang/UnsupportedOperationException") (List.mem_of_getElem? (i := 5) rfl)) (hts (.initialized "java/lang/UnsupportedOperationException") (List.mem_of_getElem? (i := 6) rfl)) (show (322, "it is refused") ∈ zStrs by decide +kernel) hG hE (fun w h => hts w ((fun w h => List.mem_cons_of_mem _ (List.mem_append_left _ (List.mem_append_right _ h))) w h)) zXn_unsu zXg_unsu hS (hl.1.trans hml.symm) dX7_change_63 dX7_change_66 dX7_change_67 dX7_change_70 dX7_change_73 ht (Nat.le_of_ble_eq_true rfl) (Nat.le_of_ble_eq_true rfl) (Nat.le_of_ble_eq_true rfl) (Nat.le_of_ble_eq_true rfl) hlocks (z_to (Eq.symm rfl) hP) (Nat.le_of_ble_eq_true rfl) (Nat.le_of_ble_eq_true rfl)
set_option maxHeartbeats 4000000 in
set_option maxRecDepth 100000 in
theorem c_X7_make_ok (l : Launch) (D : va_G) (k : Nat → ClassId) (a0 : Nat → Nat) (S0 : Nat → Nat → Int) (S1 : Nat → Nat → Int) (S2 : Nat → Nat → Int) (S3 : Nat → Nat → Int) (i0 : Nat) (p0 : Int) (p1 : Int) (p2 : Int) (hp : pOK S1) (h0 : -2147483648 ≤ p0 ∧ p0 < 2147483648) (h1 : -2147483648 ≤ p1 ∧ p1 < 2147483648) (h2 : -2147483648 ≤ p2 ∧ p2 < 2147483648) (hv : sp_X5_verdictOn S1 109 p0 p1 p2 = 0) (hi : S2 0 1 = (i0 : Int) ∧ i0 < 8) (hcn : 0 ≤ S2 0 2 ∧ S2 0 2 ≤ 8) : zMi l yX7_make wsX7_make ({ frames := 6, cells := 0, slots := 0, locals := 155 } : Room) D k [.ref (a0 0), .int (iI p0), .int (iI p1), .int (iI p2)] (wFac k a0 S0 ++ (wPlant k (subA a0 1) S1 ++ (wHist k (subA a0 61) S2 ++ wPlant k (subA (subA a0 61) (2 + 15 * i0)) S3))) (sp_X5_carryOut S1 109 p0 p1 p2) (wFac k a0 S0 ++ (wPlant k (subA a0 1) ((wCarry S1 109 p0 p1 p2)) ++ (wHist k (subA a0 61) (up2 (up2 S2 0 1 (((S2 0 1) + 1) % 8)) 0 2 (min ((S2 0 2) + 1) 8)) ++ wPlant k (subA (subA a0 61) (2 + 15 * i0)) ((wCopy S3 S1))))) 0 0 := by
  refine zMi_of (cc := cX7_make) (maxL := 4) (ret := (some .int)) (by decide) rfl (Nat.le_of_ble_eq_true rfl) ?_
  intro p e s m args below meth c A ls hx hb hr hml hown hts hlocks hK hP hD hG hA hS hl
  have hown : s.vm.findClass RX7 = some m.cls := hown
  have hl : lv_has ls 4 [(0, .ref (a0 0)), (1, .int (iI p0)), (2, .int (iI p1)), (3, .int (iI p2))] := hl
  obtain ⟨H, hH⟩ : ∃ z, z = s.heap := ⟨_, rfl⟩
  obtain ⟨locs, hlc⟩ : ∃ z : List Loc, z = [] := ⟨_, rfl⟩
  rw [← hH] at hP
  have hS : va_S A s.heap H locs := by rw [hH, hlc]; exact hS
  rw [← hlc, ← hH]
  clear hlc hH
  have kp := hp.2
  refine lv_aload_n hx hb dX7_make_0 rfl (lv_at hl 0 rfl) ?_
  refine lv_bipush (v := iI 109) hx hb dX7_make_1 (by decide) ?_
  refine lv_iload_n hx hb dX7_make_3 rfl (lv_at hl 1 rfl) ?_
  refine lv_iload_n hx hb dX7_make_4 rfl (lv_at hl 2 rfl) ?_
  refine lv_iload_n hx hb dX7_make_5 rfl (lv_at hl 3 rfl) ?_
  refine z_ai (va_runV (As := [.int (iI 109), .int (iI p0), .int (iI p1), .int (iI p2)]) (rest := []) ⟨hx, hb, hml, hown, hts⟩ (c_X7_change_ok l D k a0 S0 S1 S2 S3 i0 109 p0 p1 p2 hp (by omega) (by omega) (by omega) (by omega) hv hi hcn _) (cwV 4 hts gX7_make_X7_change rfl rfl rfl (by decide +kernel) ⟨(Nat.le_of_ble_eq_true rfl), (Nat.le_of_ble_eq_true rfl)⟩) (z_preV hK hG hA hP hD hS (zrg 0 1 ++ (zrg 1 15 ++ (zrg 16 2 ++ zrg 18 15))) (z_mcat (z_hd (n := 1) rfl) (z_mcat (z_sk (n := 1) (off := 0) (m := 15) rfl (z_hd (n := 15) rfl)) (z_mcat (z_sk (n := 1) (off := 15) (m := 2) rfl (z_sk (n := 15) (off := 0) (m := 2) rfl (z_hd (n := 2) rfl))) (z_sk (n := 1) (off := 17) (m := 15) rfl (z_sk (n := 15) (off := 2) (m := 15) rfl (z_sk (n := 2) (off := 0) (m := 15) rfl (z_hdl (n := 15) rfl))))))) (by decide +kernel) 9 rfl rfl) rfl rfl hl.1 rfl (lv_room (Nat.le_of_ble_eq_true rfl)) dX7_make_6 ⟨(Nat.le_of_ble_eq_true rfl), (Nat.le_of_ble_eq_true rfl)⟩) hA hP hD hS (zrg 0 1 ++ (zrg 1 15 ++ (zrg 16 2 ++ zrg 18 15))) (z_mcat (z_hd (n := 1) rfl) (z_mcat (z_sk (n := 1) (off := 0) (m := 15) rfl (z_hd (n := 15) rfl)) (z_mcat (z_sk (n := 1) (off := 15) (m := 2) rfl (z_sk (n := 15) (off := 0) (m := 2) rfl (z_hd (n := 2) rfl))) (z_sk (n := 1) (off := 17) (m := 15) rfl (z_sk (n := 15) (off := 2) (m := 15) rfl (z_sk (n := 2) (off := 0) (m := 15) rfl (z_hdl (n := 15) rfl))))))) (z_mfst rfl (z_mfst rfl (z_mfst rfl rfl))) (fun H locs hP hD hS => ?_)
  have hz_2 : zset (wFac k a0 S0 ++ (wPlant k (subA a0 1) S1 ++ (wHist k (subA a0 61) S2 ++ wPlant k (subA (subA a0 61) (2 + 15 * i0)) S3))) (zrg 0 1) (wFac k a0 S0) = wFac k a0 S0 ++ (wPlant k (subA a0 1) S1 ++ (wHist k (subA a0 61) S2 ++ wPlant k (subA (subA a0 61) (2 + 15 * i0)) S3)) := (z_zhd (n := 1) rfl rfl)
  have hz_3 : zset (wFac k a0 S0 ++ (wPlant k (subA a0 1) S1 ++ (wHist k (subA a0 61) S2 ++ wPlant k (subA (subA a0 61) (2 + 15 * i0)) S3))) (zrg 1 15) (wPlant k (subA a0 1) ((wCarry S1 109 p0 p1 p2))) = wFac k a0 S0 ++ (wPlant k (subA a0 1) ((wCarry S1 109 p0 p1 p2)) ++ (wHist k (subA a0 61) S2 ++ wPlant k (subA (subA a0 61) (2 + 15 * i0)) S3)) := (z_zsk (n := 1) (off := 0) (m := 15) rfl (z_zhd (n := 15) rfl rfl))
  have hz_4 : zset (wFac k a0 S0 ++ (wPlant k (subA a0 1) ((wCarry S1 109 p0 p1 p2)) ++ (wHist k (subA a0 61) S2 ++ wPlant k (subA (subA a0 61) (2 + 15 * i0)) S3))) (zrg 16 2) (wHist k (subA a0 61) (up2 (up2 S2 0 1 (((S2 0 1) + 1) % 8)) 0 2 (min ((S2 0 2) + 1) 8))) = wFac k a0 S0 ++ (wPlant k (subA a0 1) ((wCarry S1 109 p0 p1 p2)) ++ (wHist k (subA a0 61) (up2 (up2 S2 0 1 (((S2 0 1) + 1) % 8)) 0 2 (min ((S2 0 2) + 1) 8)) ++ wPlant k (subA (subA a0 61) (2 + 15 * i0)) S3)) := (z_zsk (n := 1) (off := 15) (m := 2) rfl (z_zsk (n := 15) (off := 0) (m := 2) rfl (z_zhd (n := 2) rfl rfl)))
  have hz_5 : zset (wFac k a0 S0 ++ (wPlant k (subA a0 1) ((wCarry S1 109 p0 p1 p2)) ++ (wHist k (subA a0 61) (up2 (up2 S2 0 1 (((S2 0 1) + 1) % 8)) 0 2 (min ((S2 0 2) + 1) 8)) ++ wPlant k (subA (subA a0 61) (2 + 15 * i0)) S3))) (zrg 18 15) (wPlant k (subA (subA a0 61) (2 + 15 * i0)) ((wCopy S3 S1))) = wFac k a0 S0 ++ (wPlant k (subA a0 1) ((wCarry S1 109 p0 p1 p2)) ++ (wHist k (subA a0 61) (up2 (up2 S2 0 1 (((S2 0 1) + 1) % 8)) 0 2 (min ((S2 0 2) + 1) 8)) ++ wPlant k (subA (subA a0 61) (2 + 15 * i0)) ((wCopy S3 S1)))) := (z_zsk (n := 1) (off := 17) (m := 15) rfl (z_zsk (n := 15) (off := 2) (m := 15) rfl (z_zsk (n := 2) (off := 0) (m := 15) rfl (z_zhl (n := 15) rfl rfl))))
  have hE_1 : zset (wFac k a0 S0 ++ (wPlant k (subA a0 1) S1 ++ (wHist k (subA a0 61) S2 ++ wPlant k (subA (subA a0 61) (2 + 15 * i0)) S3))) (zrg 0 1 ++ (zrg 1 15 ++ (zrg 16 2 ++ zrg 18 15))) (wFac k a0 S0 ++ (wPlant k (subA a0 1) ((wCarry S1 109 p0 p1 p2)) ++ (wHist k (subA a0 61) (up2 (up2 S2 0 1 (((S2 0 1) + 1) % 8)) 0 2 (min ((S2 0 2) + 1) 8)) ++ wPlant k (subA (subA a0 61) (2 + 15 * i0)) ((wCopy S3 S1))))) = wFac k a0 S0 ++ (wPlant k (subA a0 1) ((wCarry S1 109 p0 p1 p2)) ++ (wHist k (subA a0 61) (up2 (up2 S2 0 1 (((S2 0 1) + 1) % 8)) 0 2 (min ((S2 0 2) + 1) 8)) ++ wPlant k (subA (subA a0 61) (2 + 15 * i0)) ((wCopy S3 S1)))) := (z_zcat rfl hz_2 (z_zcat rfl hz_3 (z_zcat rfl hz_4 hz_5)))
  have hP : va_P D vwCl (wFac k a0 S0 ++ (wPlant k (subA a0 1) ((wCarry S1 109 p0 p1 p2)) ++ (wHist k (subA a0 61) (up2 (up2 S2 0 1 (((S2 0 1) + 1) % 8)) 0 2 (min ((S2 0 2) + 1) 8)) ++ wPlant k (subA (subA a0 61) (2 + 15 * i0)) ((wCopy S3 S1))))) H := z_to hE_1 hP
  have hD : va_D A (wFac k a0 S0 ++ (wPlant k (subA a0 1) ((wCarry S1 109 p0 p1 p2)) ++ (wHist k (subA a0 61) (up2 (up2 S2 0 1 (((S2 0 1) + 1) % 8)) 0 2 (min ((S2 0 2) + 1) 8)) ++ wPlant k (subA (subA a0 61) (2 + 15 * i0)) ((wCopy S3 S1))))) := z_to2 hE_1 hD
  exact z_iret hx hb hr hlocks hP hS dX7_make_9 rfl rfl (Nat.le_refl _) (Nat.le_refl _)
set_option maxHeartbeats 4000000 in
set_option maxRecDepth 100000 in
theorem c_X7_make_6 (l : Launch) (hst : l.stackTraces = false) (D : va_G) (k : Nat → ClassId) (a0 : Nat → Nat) (S0 : Nat → Nat → Int) (S1 : Nat → Nat → Int) (p0 : Int) (p1 : Int) (p2 : Int) (hp : pOK S1) (h0 : -2147483648 ≤ p0 ∧ p0 < 2147483648) (h1 : -2147483648 ≤ p1 ∧ p1 < 2147483648) (h2 : -2147483648 ≤ p2 ∧ p2 < 2147483648) (hv : sp_X5_verdictOn S1 109 p0 p1 p2 = 6) : zMx l yX7_make wsX7_make ({ frames := 7, cells := 1, slots := 6, locals := 114 } : Room) D k [.ref (a0 0), .int (iI p0), .int (iI p1), .int (iI p2)] (wFac k a0 S0 ++ wPlant k (subA a0 1) S1) "java/lang/IndexOutOfBoundsException" (wFac k a0 S0 ++ wPlant k (subA a0 1) S1) 1 6 := by
  refine zMx_of (cc := cX7_make) (maxL := 4) (ret := (some .int)) (by decide) rfl (Nat.le_of_ble_eq_true rfl) ?_
  intro p e s m args below meth c A ls hx hb hr hml hown hts hlocks hK hP hD hG hE ht hA hS hl
  have hown : s.vm.findClass RX7 = some m.cls := hown
  have hl : lv_has ls 4 [(0, .ref (a0 0)), (1, .int (iI p0)), (2, .int (iI p1)), (3, .int (iI p2))] := hl
  obtain ⟨H, hH⟩ : ∃ z, z = s.heap := ⟨_, rfl⟩
  obtain ⟨locs, hlc⟩ : ∃ z : List Loc, z = [] := ⟨_, rfl⟩
  rw [← hH] at hP
  have hS : va_S A s.heap H locs := by rw [hH, hlc]; exact hS
  rw [← hlc, ← hH]
  clear hlc hH
  have kp := hp.2
  refine lv_aload_n hx hb dX7_make_0 rfl (lv_at hl 0 rfl) ?_
  refine lv_bipush (v := iI 109) hx hb dX7_make_1 (by decide) ?_
  refine lv_iload_n hx hb dX7_make_3 rfl (lv_at hl 1 rfl) ?_
  refine lv_iload_n hx hb dX7_make_4 rfl (lv_at hl 2 rfl) ?_
  refine lv_iload_n hx hb dX7_make_5 rfl (lv_at hl 3 rfl) ?_
  exact z_axo (vx_runV (As := [.int (iI 109), .int (iI p0), .int (iI p1), .int (iI p2)]) (rest := []) ⟨hx, hb, hml, hown, hts⟩ (c_X7_change_6 l hst D k a0 S0 S1  109 p0 p1 p2 hp (by omega) (by omega) (by omega) (by omega) hv _) (cwV 4 hts gX7_make_X7_change rfl rfl rfl (by decide +kernel) ⟨(Nat.le_of_ble_eq_true rfl), (Nat.le_of_ble_eq_true rfl)⟩) (z_preVx hK hG hE hA hP hD hS (zrg 0 1 ++ zrg 1 15) (z_mcat (z_hd (n := 1) rfl) (z_sk (n := 1) (off := 0) (m := 15) rfl (z_hdl (n := 15) rfl))) (by decide +kernel) 9 rfl rfl) rfl rfl hl.1 rfl (lv_room (Nat.le_of_ble_eq_true rfl)) dX7_make_6 ⟨(Nat.le_of_ble_eq_true rfl), (Nat.le_of_ble_eq_true rfl)⟩) hA hP hD hS (zrg 0 1 ++ zrg 1 15) (z_mcat (z_hd (n := 1) rfl) (z_sk (n := 1) (off := 0) (m := 15) rfl (z_hdl (n := 15) rfl))) (z_mfst rfl rfl) ht hlocks (Eq.trans rfl (Eq.symm (zset_same (z_mcat (z_hd (n := 1) rfl) (z_sk (n := 1) (off := 0) (m := 15) rfl (z_hdl (n := 15) rfl)))))) (Nat.le_of_ble_eq_true rfl) (Nat.le_of_ble_eq_true rfl)
set_option maxHeartbeats 4000000 in
set_option maxRecDepth 100000 in
theorem c_X7_make_7 (l : Launch) (hst : l.stackTraces = false) (D : va_G) (k : Nat → ClassId) (a0 : Nat → Nat) (S0 : Nat → Nat → Int) (S1 : Nat → Nat → Int) (p0 : Int) (p1 : Int) (p2 : Int) (hp : pOK S1) (h0 : -2147483648 ≤ p0 ∧ p0 < 2147483648) (h1 : -2147483648 ≤ p1 ∧ p1 < 2147483648) (h2 : -2147483648 ≤ p2 ∧ p2 < 2147483648) (hv : sp_X5_verdictOn S1 109 p0 p1 p2 = 7) : zMx l yX7_make wsX7_make ({ frames := 7, cells := 1, slots := 6, locals := 114 } : Room) D k [.ref (a0 0), .int (iI p0), .int (iI p1), .int (iI p2)] (wFac k a0 S0 ++ wPlant k (subA a0 1) S1) "java/lang/IllegalArgumentException" (wFac k a0 S0 ++ wPlant k (subA a0 1) S1) 1 6 := by
  refine zMx_of (cc := cX7_make) (maxL := 4) (ret := (some .int)) (by decide) rfl (Nat.le_of_ble_eq_true rfl) ?_
  intro p e s m args below meth c A ls hx hb hr hml hown hts hlocks hK hP hD hG hE ht hA hS hl
  have hown : s.vm.findClass RX7 = some m.cls := hown
  have hl : lv_has ls 4 [(0, .ref (a0 0)), (1, .int (iI p0)), (2, .int (iI p1)), (3, .int (iI p2))] := hl
  obtain ⟨H, hH⟩ : ∃ z, z = s.heap := ⟨_, rfl⟩
  obtain ⟨locs, hlc⟩ : ∃ z : List Loc, z = [] := ⟨_, rfl⟩
  rw [← hH] at hP
  have hS : va_S A s.heap H locs := by rw [hH, hlc]; exact hS
  rw [← hlc, ← hH]
  clear hlc hH
  have kp := hp.2
  refine lv_aload_n hx hb dX7_make_0 rfl (lv_at hl 0 rfl) ?_
  refine lv_bipush (v := iI 109) hx hb dX7_make_1 (by decide) ?_
  refine lv_iload_n hx hb dX7_make_3 rfl (lv_at hl 1 rfl) ?_
  refine lv_iload_n hx hb dX7_make_4 rfl (lv_at hl 2 rfl) ?_
  refine lv_iload_n hx hb dX7_make_5 rfl (lv_at hl 3 rfl) ?_
  exact z_axo (vx_runV (As := [.int (iI 109), .int (iI p0), .int (iI p1), .int (iI p2)]) (rest := []) ⟨hx, hb, hml, hown, hts⟩ (c_X7_change_7 l hst D k a0 S0 S1  109 p0 p1 p2 hp (by omega) (by omega) (by omega) (by omega) hv _) (cwV 4 hts gX7_make_X7_change rfl rfl rfl (by decide +kernel) ⟨(Nat.le_of_ble_eq_true rfl), (Nat.le_of_ble_eq_true rfl)⟩) (z_preVx hK hG hE hA hP hD hS (zrg 0 1 ++ zrg 1 15) (z_mcat (z_hd (n := 1) rfl) (z_sk (n := 1) (off := 0) (m := 15) rfl (z_hdl (n := 15) rfl))) (by decide +kernel) 9 rfl rfl) rfl rfl hl.1 rfl (lv_room (Nat.le_of_ble_eq_true rfl)) dX7_make_6 ⟨(Nat.le_of_ble_eq_true rfl), (Nat.le_of_ble_eq_true rfl)⟩) hA hP hD hS (zrg 0 1 ++ zrg 1 15) (z_mcat (z_hd (n := 1) rfl) (z_sk (n := 1) (off := 0) (m := 15) rfl (z_hdl (n := 15) rfl))) (z_mfst rfl rfl) ht hlocks (Eq.trans rfl (Eq.symm (zset_same (z_mcat (z_hd (n := 1) rfl) (z_sk (n := 1) (off := 0) (m := 15) rfl (z_hdl (n := 15) rfl)))))) (Nat.le_of_ble_eq_true rfl) (Nat.le_of_ble_eq_true rfl)
set_option maxHeartbeats 4000000 in
set_option maxRecDepth 100000 in
theorem c_X7_make_r (l : Launch) (hst : l.stackTraces = false) (D : va_G) (k : Nat → ClassId) (a0 : Nat → Nat) (S0 : Nat → Nat → Int) (S1 : Nat → Nat → Int) (p0 : Int) (p1 : Int) (p2 : Int) (hp : pOK S1) (h0 : -2147483648 ≤ p0 ∧ p0 < 2147483648) (h1 : -2147483648 ≤ p1 ∧ p1 < 2147483648) (h2 : -2147483648 ≤ p2 ∧ p2 < 2147483648) (hv : 1 ≤ sp_X5_verdictOn S1 109 p0 p1 p2 ∧ sp_X5_verdictOn S1 109 p0 p1 p2 ≤ 5) : zMx l yX7_make wsX7_make ({ frames := 7, cells := 1, slots := 6, locals := 115 } : Room) D k [.ref (a0 0), .int (iI p0), .int (iI p1), .int (iI p2)] (wFac k a0 S0 ++ wPlant k (subA a0 1) S1) "java/lang/UnsupportedOperationException" (wFac k a0 (up2 (up2 S0 0 9 ((sp_X5_verdictOn S1 109 p0 p1 p2))) 0 10 (sp_X5_detailOf S1 (sp_X5_verdictOn S1 109 p0 p1 p2) 109 p0)) ++ wPlant k (subA a0 1) S1) 1 6 := by
  refine zMx_of (cc := cX7_make) (maxL := 4) (ret := (some .int)) (by decide) rfl (Nat.le_of_ble_eq_true rfl) ?_
  intro p e s m args below meth c A ls hx hb hr hml hown hts hlocks hK hP hD hG hE ht hA hS hl
  have hown : s.vm.findClass RX7 = some m.cls := hown
  have hl : lv_has ls 4 [(0, .ref (a0 0)), (1, .int (iI p0)), (2, .int (iI p1)), (3, .int (iI p2))] := hl
  obtain ⟨H, hH⟩ : ∃ z, z = s.heap := ⟨_, rfl⟩
  obtain ⟨locs, hlc⟩ : ∃ z : List Loc, z = [] := ⟨_, rfl⟩
  rw [← hH] at hP
  have hS : va_S A s.heap H locs := by rw [hH, hlc]; exact hS
  rw [← hlc, ← hH]
  clear hlc hH
  have kp := hp.2
  refine lv_aload_n hx hb dX7_make_0 rfl (lv_at hl 0 rfl) ?_
  refine lv_bipush (v := iI 109) hx hb dX7_make_1 (by decide) ?_
  refine lv_iload_n hx hb dX7_make_3 rfl (lv_at hl 1 rfl) ?_
  refine lv_iload_n hx hb dX7_make_4 rfl (lv_at hl 2 rfl) ?_
  refine lv_iload_n hx hb dX7_make_5 rfl (lv_at hl 3 rfl) ?_
  have hz_2 : zset (wFac k a0 S0 ++ wPlant k (subA a0 1) S1) (zrg 0 1) (wFac k a0 (up2 (up2 S0 0 9 ((sp_X5_verdictOn S1 109 p0 p1 p2))) 0 10 (sp_X5_detailOf S1 (sp_X5_verdictOn S1 109 p0 p1 p2) 109 p0))) = wFac k a0 (up2 (up2 S0 0 9 ((sp_X5_verdictOn S1 109 p0 p1 p2))) 0 10 (sp_X5_detailOf S1 (sp_X5_verdictOn S1 109 p0 p1 p2) 109 p0)) ++ wPlant k (subA a0 1) S1 := (z_zhd (n := 1) rfl rfl)
  have hz_3 : zset (wFac k a0 (up2 (up2 S0 0 9 ((sp_X5_verdictOn S1 109 p0 p1 p2))) 0 10 (sp_X5_detailOf S1 (sp_X5_verdictOn S1 109 p0 p1 p2) 109 p0)) ++ wPlant k (subA a0 1) S1) (zrg 1 15) (wPlant k (subA a0 1) S1) = wFac k a0 (up2 (up2 S0 0 9 ((sp_X5_verdictOn S1 109 p0 p1 p2))) 0 10 (sp_X5_detailOf S1 (sp_X5_verdictOn S1 109 p0 p1 p2) 109 p0)) ++ wPlant k (subA a0 1) S1 := (z_zsk (n := 1) (off := 0) (m := 15) rfl (z_zhl (n := 15) rfl rfl))
  have hE_1 : zset (wFac k a0 S0 ++ wPlant k (subA a0 1) S1) (zrg 0 1 ++ zrg 1 15) (wFac k a0 (up2 (up2 S0 0 9 ((sp_X5_verdictOn S1 109 p0 p1 p2))) 0 10 (sp_X5_detailOf S1 (sp_X5_verdictOn S1 109 p0 p1 p2) 109 p0)) ++ wPlant k (subA a0 1) S1) = wFac k a0 (up2 (up2 S0 0 9 ((sp_X5_verdictOn S1 109 p0 p1 p2))) 0 10 (sp_X5_detailOf S1 (sp_X5_verdictOn S1 109 p0 p1 p2) 109 p0)) ++ wPlant k (subA a0 1) S1 := (z_zcat rfl hz_2 hz_3)
  exact z_axo (vx_runV (As := [.int (iI 109), .int (iI p0), .int (iI p1), .int (iI p2)]) (rest := []) ⟨hx, hb, hml, hown, hts⟩ (c_X7_change_r l hst D k a0 S0 S1  109 p0 p1 p2 hp (by omega) (by omega) (by omega) (by omega) hv _) (cwV 4 hts gX7_make_X7_change rfl rfl rfl (by decide +kernel) ⟨(Nat.le_of_ble_eq_true rfl), (Nat.le_of_ble_eq_true rfl)⟩) (z_preVx hK hG hE hA hP hD hS (zrg 0 1 ++ zrg 1 15) (z_mcat (z_hd (n := 1) rfl) (z_sk (n := 1) (off := 0) (m := 15) rfl (z_hdl (n := 15) rfl))) (by decide +kernel) 9 rfl rfl) rfl rfl hl.1 rfl (lv_room (Nat.le_of_ble_eq_true rfl)) dX7_make_6 ⟨(Nat.le_of_ble_eq_true rfl), (Nat.le_of_ble_eq_true rfl)⟩) hA hP hD hS (zrg 0 1 ++ zrg 1 15) (z_mcat (z_hd (n := 1) rfl) (z_sk (n := 1) (off := 0) (m := 15) rfl (z_hdl (n := 15) rfl))) (z_mfst rfl rfl) ht hlocks (Eq.trans rfl (Eq.symm hE_1)) (Nat.le_of_ble_eq_true rfl) (Nat.le_of_ble_eq_true rfl)
set_option maxHeartbeats 4000000 in
set_option maxRecDepth 100000 in
theorem c_X7_blank_ok (l : Launch) (D : va_G) (k : Nat → ClassId) (a0 : Nat → Nat) (S0 : Nat → Nat → Int) (S1 : Nat → Nat → Int) (S2 : Nat → Nat → Int) (S3 : Nat → Nat → Int) (i0 : Nat) (p0 : Int) (hp : pOK S1) (h0 : -2147483648 ≤ p0 ∧ p0 < 2147483648) (hv : sp_X5_verdictOn S1 98 p0 0 0 = 0) (hi : S2 0 1 = (i0 : Int) ∧ i0 < 8) (hcn : 0 ≤ S2 0 2 ∧ S2 0 2 ≤ 8) : zMi l yX7_blank wsX7_blank ({ frames := 6, cells := 0, slots := 0, locals := 155 } : Room) D k [.ref (a0 0), .int (iI p0)] (wFac k a0 S0 ++ (wPlant k (subA a0 1) S1 ++ (wHist k (subA a0 61) S2 ++ wPlant k (subA (subA a0 61) (2 + 15 * i0)) S3))) (sp_X5_carryOut S1 98 p0 0 0) (wFac k a0 S0 ++ (wPlant k (subA a0 1) ((wCarry S1 98 p0 0 0)) ++ (wHist k (subA a0 61) (up2 (up2 S2 0 1 (((S2 0 1) + 1) % 8)) 0 2 (min ((S2 0 2) + 1) 8)) ++ wPlant k (subA (subA a0 61) (2 + 15 * i0)) ((wCopy S3 S1))))) 0 0 := by
  refine zMi_of (cc := cX7_blank) (maxL := 2) (ret := (some .int)) (by decide) rfl (Nat.le_of_ble_eq_true rfl) ?_
  intro p e s m args below meth c A ls hx hb hr hml hown hts hlocks hK hP hD hG hA hS hl
  have hown : s.vm.findClass RX7 = some m.cls := hown
  have hl : lv_has ls 2 [(0, .ref (a0 0)), (1, .int (iI p0))] := hl
  obtain ⟨H, hH⟩ : ∃ z, z = s.heap := ⟨_, rfl⟩
  obtain ⟨locs, hlc⟩ : ∃ z : List Loc, z = [] := ⟨_, rfl⟩
  rw [← hH] at hP
  have hS : va_S A s.heap H locs := by rw [hH, hlc]; exact hS
  rw [← hlc, ← hH]
  clear hlc hH
  have kp := hp.2
  refine lv_aload_n hx hb dX7_blank_0 rfl (lv_at hl 0 rfl) ?_
  refine lv_bipush (v := iI 98) hx hb dX7_blank_1 (by decide) ?_
  refine lv_iload_n hx hb dX7_blank_3 rfl (lv_at hl 1 rfl) ?_
  refine lv_iconst (v := iI 0) hx hb dX7_blank_4 rfl ?_
  refine lv_iconst (v := iI 0) hx hb dX7_blank_5 rfl ?_
  refine z_ai (va_runV (As := [.int (iI 98), .int (iI p0), .int (iI 0), .int (iI 0)]) (rest := []) ⟨hx, hb, hml, hown, hts⟩ (c_X7_change_ok l D k a0 S0 S1 S2 S3 i0 98 p0 0 0 hp (by omega) (by omega) (by omega) (by omega) hv hi hcn _) (cwV 4 hts gX7_blank_X7_change rfl rfl rfl (by decide +kernel) ⟨(Nat.le_of_ble_eq_true rfl), (Nat.le_of_ble_eq_true rfl)⟩) (z_preV hK hG hA hP hD hS (zrg 0 1 ++ (zrg 1 15 ++ (zrg 16 2 ++ zrg 18 15))) (z_mcat (z_hd (n := 1) rfl) (z_mcat (z_sk (n := 1) (off := 0) (m := 15) rfl (z_hd (n := 15) rfl)) (z_mcat (z_sk (n := 1) (off := 15) (m := 2) rfl (z_sk (n := 15) (off := 0) (m := 2) rfl (z_hd (n := 2) rfl))) (z_sk (n := 1) (off := 17) (m := 15) rfl (z_sk (n := 15) (off := 2) (m := 15) rfl (z_sk (n := 2) (off := 0) (m := 15) rfl (z_hdl (n := 15) rfl))))))) (by decide +kernel) 9 rfl rfl) rfl rfl hl.1 rfl (lv_room (Nat.le_of_ble_eq_true rfl)) dX7_blank_6 ⟨(Nat.le_of_ble_eq_true rfl), (Nat.le_of_ble_eq_true rfl)⟩) hA hP hD hS (zrg 0 1 ++ (zrg 1 15 ++ (zrg 16 2 ++ zrg 18 15))) (z_mcat (z_hd (n := 1) rfl) (z_mcat (z_sk (n := 1) (off := 0) (m := 15) rfl (z_hd (n := 15) rfl)) (z_mcat (z_sk (n := 1) (off := 15) (m := 2) rfl (z_sk (n := 15) (off := 0) (m := 2) rfl (z_hd (n := 2) rfl))) (z_sk (n := 1) (off := 17) (m := 15) rfl (z_sk (n := 15) (off := 2) (m := 15) rfl (z_sk (n := 2) (off := 0) (m := 15) rfl (z_hdl (n := 15) rfl))))))) (z_mfst rfl (z_mfst rfl (z_mfst rfl rfl))) (fun H locs hP hD hS => ?_)
  have hz_2 : zset (wFac k a0 S0 ++ (wPlant k (subA a0 1) S1 ++ (wHist k (subA a0 61) S2 ++ wPlant k (subA (subA a0 61) (2 + 15 * i0)) S3))) (zrg 0 1) (wFac k a0 S0) = wFac k a0 S0 ++ (wPlant k (subA a0 1) S1 ++ (wHist k (subA a0 61) S2 ++ wPlant k (subA (subA a0 61) (2 + 15 * i0)) S3)) := (z_zhd (n := 1) rfl rfl)
  have hz_3 : zset (wFac k a0 S0 ++ (wPlant k (subA a0 1) S1 ++ (wHist k (subA a0 61) S2 ++ wPlant k (subA (subA a0 61) (2 + 15 * i0)) S3))) (zrg 1 15) (wPlant k (subA a0 1) ((wCarry S1 98 p0 0 0))) = wFac k a0 S0 ++ (wPlant k (subA a0 1) ((wCarry S1 98 p0 0 0)) ++ (wHist k (subA a0 61) S2 ++ wPlant k (subA (subA a0 61) (2 + 15 * i0)) S3)) := (z_zsk (n := 1) (off := 0) (m := 15) rfl (z_zhd (n := 15) rfl rfl))
  have hz_4 : zset (wFac k a0 S0 ++ (wPlant k (subA a0 1) ((wCarry S1 98 p0 0 0)) ++ (wHist k (subA a0 61) S2 ++ wPlant k (subA (subA a0 61) (2 + 15 * i0)) S3))) (zrg 16 2) (wHist k (subA a0 61) (up2 (up2 S2 0 1 (((S2 0 1) + 1) % 8)) 0 2 (min ((S2 0 2) + 1) 8))) = wFac k a0 S0 ++ (wPlant k (subA a0 1) ((wCarry S1 98 p0 0 0)) ++ (wHist k (subA a0 61) (up2 (up2 S2 0 1 (((S2 0 1) + 1) % 8)) 0 2 (min ((S2 0 2) + 1) 8)) ++ wPlant k (subA (subA a0 61) (2 + 15 * i0)) S3)) := (z_zsk (n := 1) (off := 15) (m := 2) rfl (z_zsk (n := 15) (off := 0) (m := 2) rfl (z_zhd (n := 2) rfl rfl)))
  have hz_5 : zset (wFac k a0 S0 ++ (wPlant k (subA a0 1) ((wCarry S1 98 p0 0 0)) ++ (wHist k (subA a0 61) (up2 (up2 S2 0 1 (((S2 0 1) + 1) % 8)) 0 2 (min ((S2 0 2) + 1) 8)) ++ wPlant k (subA (subA a0 61) (2 + 15 * i0)) S3))) (zrg 18 15) (wPlant k (subA (subA a0 61) (2 + 15 * i0)) ((wCopy S3 S1))) = wFac k a0 S0 ++ (wPlant k (subA a0 1) ((wCarry S1 98 p0 0 0)) ++ (wHist k (subA a0 61) (up2 (up2 S2 0 1 (((S2 0 1) + 1) % 8)) 0 2 (min ((S2 0 2) + 1) 8)) ++ wPlant k (subA (subA a0 61) (2 + 15 * i0)) ((wCopy S3 S1)))) := (z_zsk (n := 1) (off := 17) (m := 15) rfl (z_zsk (n := 15) (off := 2) (m := 15) rfl (z_zsk (n := 2) (off := 0) (m := 15) rfl (z_zhl (n := 15) rfl rfl))))
  have hE_1 : zset (wFac k a0 S0 ++ (wPlant k (subA a0 1) S1 ++ (wHist k (subA a0 61) S2 ++ wPlant k (subA (subA a0 61) (2 + 15 * i0)) S3))) (zrg 0 1 ++ (zrg 1 15 ++ (zrg 16 2 ++ zrg 18 15))) (wFac k a0 S0 ++ (wPlant k (subA a0 1) ((wCarry S1 98 p0 0 0)) ++ (wHist k (subA a0 61) (up2 (up2 S2 0 1 (((S2 0 1) + 1) % 8)) 0 2 (min ((S2 0 2) + 1) 8)) ++ wPlant k (subA (subA a0 61) (2 + 15 * i0)) ((wCopy S3 S1))))) = wFac k a0 S0 ++ (wPlant k (subA a0 1) ((wCarry S1 98 p0 0 0)) ++ (wHist k (subA a0 61) (up2 (up2 S2 0 1 (((S2 0 1) + 1) % 8)) 0 2 (min ((S2 0 2) + 1) 8)) ++ wPlant k (subA (subA a0 61) (2 + 15 * i0)) ((wCopy S3 S1)))) := (z_zcat rfl hz_2 (z_zcat rfl hz_3 (z_zcat rfl hz_4 hz_5)))
  have hP : va_P D vwCl (wFac k a0 S0 ++ (wPlant k (subA a0 1) ((wCarry S1 98 p0 0 0)) ++ (wHist k (subA a0 61) (up2 (up2 S2 0 1 (((S2 0 1) + 1) % 8)) 0 2 (min ((S2 0 2) + 1) 8)) ++ wPlant k (subA (subA a0 61) (2 + 15 * i0)) ((wCopy S3 S1))))) H := z_to hE_1 hP
  have hD : va_D A (wFac k a0 S0 ++ (wPlant k (subA a0 1) ((wCarry S1 98 p0 0 0)) ++ (wHist k (subA a0 61) (up2 (up2 S2 0 1 (((S2 0 1) + 1) % 8)) 0 2 (min ((S2 0 2) + 1) 8)) ++ wPlant k (subA (subA a0 61) (2 + 15 * i0)) ((wCopy S3 S1))))) := z_to2 hE_1 hD
  exact z_iret hx hb hr hlocks hP hS dX7_blank_9 rfl rfl (Nat.le_refl _) (Nat.le_refl _)
set_option maxHeartbeats 4000000 in
set_option maxRecDepth 100000 in
theorem c_X7_blank_6 (l : Launch) (hst : l.stackTraces = false) (D : va_G) (k : Nat → ClassId) (a0 : Nat → Nat) (S0 : Nat → Nat → Int) (S1 : Nat → Nat → Int) (p0 : Int) (hp : pOK S1) (h0 : -2147483648 ≤ p0 ∧ p0 < 2147483648) (hv : sp_X5_verdictOn S1 98 p0 0 0 = 6) : zMx l yX7_blank wsX7_blank ({ frames := 7, cells := 1, slots := 6, locals := 114 } : Room) D k [.ref (a0 0), .int (iI p0)] (wFac k a0 S0 ++ wPlant k (subA a0 1) S1) "java/lang/IndexOutOfBoundsException" (wFac k a0 S0 ++ wPlant k (subA a0 1) S1) 1 6 := by
  refine zMx_of (cc := cX7_blank) (maxL := 2) (ret := (some .int)) (by decide) rfl (Nat.le_of_ble_eq_true rfl) ?_
  intro p e s m args below meth c A ls hx hb hr hml hown hts hlocks hK hP hD hG hE ht hA hS hl
  have hown : s.vm.findClass RX7 = some m.cls := hown
  have hl : lv_has ls 2 [(0, .ref (a0 0)), (1, .int (iI p0))] := hl
  obtain ⟨H, hH⟩ : ∃ z, z = s.heap := ⟨_, rfl⟩
  obtain ⟨locs, hlc⟩ : ∃ z : List Loc, z = [] := ⟨_, rfl⟩
  rw [← hH] at hP
  have hS : va_S A s.heap H locs := by rw [hH, hlc]; exact hS
  rw [← hlc, ← hH]
  clear hlc hH
  have kp := hp.2
  refine lv_aload_n hx hb dX7_blank_0 rfl (lv_at hl 0 rfl) ?_
  refine lv_bipush (v := iI 98) hx hb dX7_blank_1 (by decide) ?_
  refine lv_iload_n hx hb dX7_blank_3 rfl (lv_at hl 1 rfl) ?_
  refine lv_iconst (v := iI 0) hx hb dX7_blank_4 rfl ?_
  refine lv_iconst (v := iI 0) hx hb dX7_blank_5 rfl ?_
  exact z_axo (vx_runV (As := [.int (iI 98), .int (iI p0), .int (iI 0), .int (iI 0)]) (rest := []) ⟨hx, hb, hml, hown, hts⟩ (c_X7_change_6 l hst D k a0 S0 S1  98 p0 0 0 hp (by omega) (by omega) (by omega) (by omega) hv _) (cwV 4 hts gX7_blank_X7_change rfl rfl rfl (by decide +kernel) ⟨(Nat.le_of_ble_eq_true rfl), (Nat.le_of_ble_eq_true rfl)⟩) (z_preVx hK hG hE hA hP hD hS (zrg 0 1 ++ zrg 1 15) (z_mcat (z_hd (n := 1) rfl) (z_sk (n := 1) (off := 0) (m := 15) rfl (z_hdl (n := 15) rfl))) (by decide +kernel) 9 rfl rfl) rfl rfl hl.1 rfl (lv_room (Nat.le_of_ble_eq_true rfl)) dX7_blank_6 ⟨(Nat.le_of_ble_eq_true rfl), (Nat.le_of_ble_eq_true rfl)⟩) hA hP hD hS (zrg 0 1 ++ zrg 1 15) (z_mcat (z_hd (n := 1) rfl) (z_sk (n := 1) (off := 0) (m := 15) rfl (z_hdl (n := 15) rfl))) (z_mfst rfl rfl) ht hlocks (Eq.trans rfl (Eq.symm (zset_same (z_mcat (z_hd (n := 1) rfl) (z_sk (n := 1) (off := 0) (m := 15) rfl (z_hdl (n := 15) rfl)))))) (Nat.le_of_ble_eq_true rfl) (Nat.le_of_ble_eq_true rfl)
set_option maxHeartbeats 4000000 in
set_option maxRecDepth 100000 in
theorem c_X7_blank_r (l : Launch) (hst : l.stackTraces = false) (D : va_G) (k : Nat → ClassId) (a0 : Nat → Nat) (S0 : Nat → Nat → Int) (S1 : Nat → Nat → Int) (p0 : Int) (hp : pOK S1) (h0 : -2147483648 ≤ p0 ∧ p0 < 2147483648) (hv : 1 ≤ sp_X5_verdictOn S1 98 p0 0 0 ∧ sp_X5_verdictOn S1 98 p0 0 0 ≤ 5) : zMx l yX7_blank wsX7_blank ({ frames := 7, cells := 1, slots := 6, locals := 115 } : Room) D k [.ref (a0 0), .int (iI p0)] (wFac k a0 S0 ++ wPlant k (subA a0 1) S1) "java/lang/UnsupportedOperationException" (wFac k a0 (up2 (up2 S0 0 9 ((sp_X5_verdictOn S1 98 p0 0 0))) 0 10 (sp_X5_detailOf S1 (sp_X5_verdictOn S1 98 p0 0 0) 98 p0)) ++ wPlant k (subA a0 1) S1) 1 6 := by
  refine zMx_of (cc := cX7_blank) (maxL := 2) (ret := (some .int)) (by decide) rfl (Nat.le_of_ble_eq_true rfl) ?_
  intro p e s m args below meth c A ls hx hb hr hml hown hts hlocks hK hP hD hG hE ht hA hS hl
  have hown : s.vm.findClass RX7 = some m.cls := hown
  have hl : lv_has ls 2 [(0, .ref (a0 0)), (1, .int (iI p0))] := hl
  obtain ⟨H, hH⟩ : ∃ z, z = s.heap := ⟨_, rfl⟩
  obtain ⟨locs, hlc⟩ : ∃ z : List Loc, z = [] := ⟨_, rfl⟩
  rw [← hH] at hP
  have hS : va_S A s.heap H locs := by rw [hH, hlc]; exact hS
  rw [← hlc, ← hH]
  clear hlc hH
  have kp := hp.2
  refine lv_aload_n hx hb dX7_blank_0 rfl (lv_at hl 0 rfl) ?_
  refine lv_bipush (v := iI 98) hx hb dX7_blank_1 (by decide) ?_
  refine lv_iload_n hx hb dX7_blank_3 rfl (lv_at hl 1 rfl) ?_
  refine lv_iconst (v := iI 0) hx hb dX7_blank_4 rfl ?_
  refine lv_iconst (v := iI 0) hx hb dX7_blank_5 rfl ?_
  have hz_2 : zset (wFac k a0 S0 ++ wPlant k (subA a0 1) S1) (zrg 0 1) (wFac k a0 (up2 (up2 S0 0 9 ((sp_X5_verdictOn S1 98 p0 0 0))) 0 10 (sp_X5_detailOf S1 (sp_X5_verdictOn S1 98 p0 0 0) 98 p0))) = wFac k a0 (up2 (up2 S0 0 9 ((sp_X5_verdictOn S1 98 p0 0 0))) 0 10 (sp_X5_detailOf S1 (sp_X5_verdictOn S1 98 p0 0 0) 98 p0)) ++ wPlant k (subA a0 1) S1 := (z_zhd (n := 1) rfl rfl)
  have hz_3 : zset (wFac k a0 (up2 (up2 S0 0 9 ((sp_X5_verdictOn S1 98 p0 0 0))) 0 10 (sp_X5_detailOf S1 (sp_X5_verdictOn S1 98 p0 0 0) 98 p0)) ++ wPlant k (subA a0 1) S1) (zrg 1 15) (wPlant k (subA a0 1) S1) = wFac k a0 (up2 (up2 S0 0 9 ((sp_X5_verdictOn S1 98 p0 0 0))) 0 10 (sp_X5_detailOf S1 (sp_X5_verdictOn S1 98 p0 0 0) 98 p0)) ++ wPlant k (subA a0 1) S1 := (z_zsk (n := 1) (off := 0) (m := 15) rfl (z_zhl (n := 15) rfl rfl))
  have hE_1 : zset (wFac k a0 S0 ++ wPlant k (subA a0 1) S1) (zrg 0 1 ++ zrg 1 15) (wFac k a0 (up2 (up2 S0 0 9 ((sp_X5_verdictOn S1 98 p0 0 0))) 0 10 (sp_X5_detailOf S1 (sp_X5_verdictOn S1 98 p0 0 0) 98 p0)) ++ wPlant k (subA a0 1) S1) = wFac k a0 (up2 (up2 S0 0 9 ((sp_X5_verdictOn S1 98 p0 0 0))) 0 10 (sp_X5_detailOf S1 (sp_X5_verdictOn S1 98 p0 0 0) 98 p0)) ++ wPlant k (subA a0 1) S1 := (z_zcat rfl hz_2 hz_3)
  exact z_axo (vx_runV (As := [.int (iI 98), .int (iI p0), .int (iI 0), .int (iI 0)]) (rest := []) ⟨hx, hb, hml, hown, hts⟩ (c_X7_change_r l hst D k a0 S0 S1  98 p0 0 0 hp (by omega) (by omega) (by omega) (by omega) hv _) (cwV 4 hts gX7_blank_X7_change rfl rfl rfl (by decide +kernel) ⟨(Nat.le_of_ble_eq_true rfl), (Nat.le_of_ble_eq_true rfl)⟩) (z_preVx hK hG hE hA hP hD hS (zrg 0 1 ++ zrg 1 15) (z_mcat (z_hd (n := 1) rfl) (z_sk (n := 1) (off := 0) (m := 15) rfl (z_hdl (n := 15) rfl))) (by decide +kernel) 9 rfl rfl) rfl rfl hl.1 rfl (lv_room (Nat.le_of_ble_eq_true rfl)) dX7_blank_6 ⟨(Nat.le_of_ble_eq_true rfl), (Nat.le_of_ble_eq_true rfl)⟩) hA hP hD hS (zrg 0 1 ++ zrg 1 15) (z_mcat (z_hd (n := 1) rfl) (z_sk (n := 1) (off := 0) (m := 15) rfl (z_hdl (n := 15) rfl))) (z_mfst rfl rfl) ht hlocks (Eq.trans rfl (Eq.symm hE_1)) (Nat.le_of_ble_eq_true rfl) (Nat.le_of_ble_eq_true rfl)
set_option maxHeartbeats 4000000 in
set_option maxRecDepth 100000 in
theorem c_X7_tell_ok (l : Launch) (D : va_G) (k : Nat → ClassId) (a0 : Nat → Nat) (S0 : Nat → Nat → Int) (S1 : Nat → Nat → Int) (S2 : Nat → Nat → Int) (S3 : Nat → Nat → Int) (i0 : Nat) (p0 : Int) (p1 : Int) (p2 : Int) (hp : pOK S1) (h0 : -2147483648 ≤ p0 ∧ p0 < 2147483648) (h1 : -2147483648 ≤ p1 ∧ p1 < 2147483648) (h2 : -2147483648 ≤ p2 ∧ p2 < 2147483648) (hv : sp_X5_verdictOn S1 116 p0 p1 p2 = 0) (hi : S2 0 1 = (i0 : Int) ∧ i0 < 8) (hcn : 0 ≤ S2 0 2 ∧ S2 0 2 ≤ 8) : zMi l yX7_tell wsX7_tell ({ frames := 6, cells := 0, slots := 0, locals := 155 } : Room) D k [.ref (a0 0), .int (iI p0), .int (iI p1), .int (iI p2)] (wFac k a0 S0 ++ (wPlant k (subA a0 1) S1 ++ (wHist k (subA a0 61) S2 ++ wPlant k (subA (subA a0 61) (2 + 15 * i0)) S3))) (sp_X5_carryOut S1 116 p0 p1 p2) (wFac k a0 S0 ++ (wPlant k (subA a0 1) ((wCarry S1 116 p0 p1 p2)) ++ (wHist k (subA a0 61) (up2 (up2 S2 0 1 (((S2 0 1) + 1) % 8)) 0 2 (min ((S2 0 2) + 1) 8)) ++ wPlant k (subA (subA a0 61) (2 + 15 * i0)) ((wCopy S3 S1))))) 0 0 := by
  refine zMi_of (cc := cX7_tell) (maxL := 4) (ret := (some .int)) (by decide) rfl (Nat.le_of_ble_eq_true rfl) ?_
  intro p e s m args below meth c A ls hx hb hr hml hown hts hlocks hK hP hD hG hA hS hl
  have hown : s.vm.findClass RX7 = some m.cls := hown
  have hl : lv_has ls 4 [(0, .ref (a0 0)), (1, .int (iI p0)), (2, .int (iI p1)), (3, .int (iI p2))] := hl
  obtain ⟨H, hH⟩ : ∃ z, z = s.heap := ⟨_, rfl⟩
  obtain ⟨locs, hlc⟩ : ∃ z : List Loc, z = [] := ⟨_, rfl⟩
  rw [← hH] at hP
  have hS : va_S A s.heap H locs := by rw [hH, hlc]; exact hS
  rw [← hlc, ← hH]
  clear hlc hH
  have kp := hp.2
  refine lv_aload_n hx hb dX7_tell_0 rfl (lv_at hl 0 rfl) ?_
  refine lv_bipush (v := iI 116) hx hb dX7_tell_1 (by decide) ?_
  refine lv_iload_n hx hb dX7_tell_3 rfl (lv_at hl 1 rfl) ?_
  refine lv_iload_n hx hb dX7_tell_4 rfl (lv_at hl 2 rfl) ?_
  refine lv_iload_n hx hb dX7_tell_5 rfl (lv_at hl 3 rfl) ?_
  refine z_ai (va_runV (As := [.int (iI 116), .int (iI p0), .int (iI p1), .int (iI p2)]) (rest := []) ⟨hx, hb, hml, hown, hts⟩ (c_X7_change_ok l D k a0 S0 S1 S2 S3 i0 116 p0 p1 p2 hp (by omega) (by omega) (by omega) (by omega) hv hi hcn _) (cwV 4 hts gX7_tell_X7_change rfl rfl rfl (by decide +kernel) ⟨(Nat.le_of_ble_eq_true rfl), (Nat.le_of_ble_eq_true rfl)⟩) (z_preV hK hG hA hP hD hS (zrg 0 1 ++ (zrg 1 15 ++ (zrg 16 2 ++ zrg 18 15))) (z_mcat (z_hd (n := 1) rfl) (z_mcat (z_sk (n := 1) (off := 0) (m := 15) rfl (z_hd (n := 15) rfl)) (z_mcat (z_sk (n := 1) (off := 15) (m := 2) rfl (z_sk (n := 15) (off := 0) (m := 2) rfl (z_hd (n := 2) rfl))) (z_sk (n := 1) (off := 17) (m := 15) rfl (z_sk (n := 15) (off := 2) (m := 15) rfl (z_sk (n := 2) (off := 0) (m := 15) rfl (z_hdl (n := 15) rfl))))))) (by decide +kernel) 9 rfl rfl) rfl rfl hl.1 rfl (lv_room (Nat.le_of_ble_eq_true rfl)) dX7_tell_6 ⟨(Nat.le_of_ble_eq_true rfl), (Nat.le_of_ble_eq_true rfl)⟩) hA hP hD hS (zrg 0 1 ++ (zrg 1 15 ++ (zrg 16 2 ++ zrg 18 15))) (z_mcat (z_hd (n := 1) rfl) (z_mcat (z_sk (n := 1) (off := 0) (m := 15) rfl (z_hd (n := 15) rfl)) (z_mcat (z_sk (n := 1) (off := 15) (m := 2) rfl (z_sk (n := 15) (off := 0) (m := 2) rfl (z_hd (n := 2) rfl))) (z_sk (n := 1) (off := 17) (m := 15) rfl (z_sk (n := 15) (off := 2) (m := 15) rfl (z_sk (n := 2) (off := 0) (m := 15) rfl (z_hdl (n := 15) rfl))))))) (z_mfst rfl (z_mfst rfl (z_mfst rfl rfl))) (fun H locs hP hD hS => ?_)
  have hz_2 : zset (wFac k a0 S0 ++ (wPlant k (subA a0 1) S1 ++ (wHist k (subA a0 61) S2 ++ wPlant k (subA (subA a0 61) (2 + 15 * i0)) S3))) (zrg 0 1) (wFac k a0 S0) = wFac k a0 S0 ++ (wPlant k (subA a0 1) S1 ++ (wHist k (subA a0 61) S2 ++ wPlant k (subA (subA a0 61) (2 + 15 * i0)) S3)) := (z_zhd (n := 1) rfl rfl)
  have hz_3 : zset (wFac k a0 S0 ++ (wPlant k (subA a0 1) S1 ++ (wHist k (subA a0 61) S2 ++ wPlant k (subA (subA a0 61) (2 + 15 * i0)) S3))) (zrg 1 15) (wPlant k (subA a0 1) ((wCarry S1 116 p0 p1 p2))) = wFac k a0 S0 ++ (wPlant k (subA a0 1) ((wCarry S1 116 p0 p1 p2)) ++ (wHist k (subA a0 61) S2 ++ wPlant k (subA (subA a0 61) (2 + 15 * i0)) S3)) := (z_zsk (n := 1) (off := 0) (m := 15) rfl (z_zhd (n := 15) rfl rfl))
  have hz_4 : zset (wFac k a0 S0 ++ (wPlant k (subA a0 1) ((wCarry S1 116 p0 p1 p2)) ++ (wHist k (subA a0 61) S2 ++ wPlant k (subA (subA a0 61) (2 + 15 * i0)) S3))) (zrg 16 2) (wHist k (subA a0 61) (up2 (up2 S2 0 1 (((S2 0 1) + 1) % 8)) 0 2 (min ((S2 0 2) + 1) 8))) = wFac k a0 S0 ++ (wPlant k (subA a0 1) ((wCarry S1 116 p0 p1 p2)) ++ (wHist k (subA a0 61) (up2 (up2 S2 0 1 (((S2 0 1) + 1) % 8)) 0 2 (min ((S2 0 2) + 1) 8)) ++ wPlant k (subA (subA a0 61) (2 + 15 * i0)) S3)) := (z_zsk (n := 1) (off := 15) (m := 2) rfl (z_zsk (n := 15) (off := 0) (m := 2) rfl (z_zhd (n := 2) rfl rfl)))
  have hz_5 : zset (wFac k a0 S0 ++ (wPlant k (subA a0 1) ((wCarry S1 116 p0 p1 p2)) ++ (wHist k (subA a0 61) (up2 (up2 S2 0 1 (((S2 0 1) + 1) % 8)) 0 2 (min ((S2 0 2) + 1) 8)) ++ wPlant k (subA (subA a0 61) (2 + 15 * i0)) S3))) (zrg 18 15) (wPlant k (subA (subA a0 61) (2 + 15 * i0)) ((wCopy S3 S1))) = wFac k a0 S0 ++ (wPlant k (subA a0 1) ((wCarry S1 116 p0 p1 p2)) ++ (wHist k (subA a0 61) (up2 (up2 S2 0 1 (((S2 0 1) + 1) % 8)) 0 2 (min ((S2 0 2) + 1) 8)) ++ wPlant k (subA (subA a0 61) (2 + 15 * i0)) ((wCopy S3 S1)))) := (z_zsk (n := 1) (off := 17) (m := 15) rfl (z_zsk (n := 15) (off := 2) (m := 15) rfl (z_zsk (n := 2) (off := 0) (m := 15) rfl (z_zhl (n := 15) rfl rfl))))
  have hE_1 : zset (wFac k a0 S0 ++ (wPlant k (subA a0 1) S1 ++ (wHist k (subA a0 61) S2 ++ wPlant k (subA (subA a0 61) (2 + 15 * i0)) S3))) (zrg 0 1 ++ (zrg 1 15 ++ (zrg 16 2 ++ zrg 18 15))) (wFac k a0 S0 ++ (wPlant k (subA a0 1) ((wCarry S1 116 p0 p1 p2)) ++ (wHist k (subA a0 61) (up2 (up2 S2 0 1 (((S2 0 1) + 1) % 8)) 0 2 (min ((S2 0 2) + 1) 8)) ++ wPlant k (subA (subA a0 61) (2 + 15 * i0)) ((wCopy S3 S1))))) = wFac k a0 S0 ++ (wPlant k (subA a0 1) ((wCarry S1 116 p0 p1 p2)) ++ (wHist k (subA a0 61) (up2 (up2 S2 0 1 (((S2 0 1) + 1) % 8)) 0 2 (min ((S2 0 2) + 1) 8)) ++ wPlant k (subA (subA a0 61) (2 + 15 * i0)) ((wCopy S3 S1)))) := (z_zcat rfl hz_2 (z_zcat rfl hz_3 (z_zcat rfl hz_4 hz_5)))
  have hP : va_P D vwCl (wFac k a0 S0 ++ (wPlant k (subA a0 1) ((wCarry S1 116 p0 p1 p2)) ++ (wHist k (subA a0 61) (up2 (up2 S2 0 1 (((S2 0 1) + 1) % 8)) 0 2 (min ((S2 0 2) + 1) 8)) ++ wPlant k (subA (subA a0 61) (2 + 15 * i0)) ((wCopy S3 S1))))) H := z_to hE_1 hP
  have hD : va_D A (wFac k a0 S0 ++ (wPlant k (subA a0 1) ((wCarry S1 116 p0 p1 p2)) ++ (wHist k (subA a0 61) (up2 (up2 S2 0 1 (((S2 0 1) + 1) % 8)) 0 2 (min ((S2 0 2) + 1) 8)) ++ wPlant k (subA (subA a0 61) (2 + 15 * i0)) ((wCopy S3 S1))))) := z_to2 hE_1 hD
  exact z_iret hx hb hr hlocks hP hS dX7_tell_9 rfl rfl (Nat.le_refl _) (Nat.le_refl _)
set_option maxHeartbeats 4000000 in
set_option maxRecDepth 100000 in
theorem c_X7_tell_6 (l : Launch) (hst : l.stackTraces = false) (D : va_G) (k : Nat → ClassId) (a0 : Nat → Nat) (S0 : Nat → Nat → Int) (S1 : Nat → Nat → Int) (p0 : Int) (p1 : Int) (p2 : Int) (hp : pOK S1) (h0 : -2147483648 ≤ p0 ∧ p0 < 2147483648) (h1 : -2147483648 ≤ p1 ∧ p1 < 2147483648) (h2 : -2147483648 ≤ p2 ∧ p2 < 2147483648) (hv : sp_X5_verdictOn S1 116 p0 p1 p2 = 6) : zMx l yX7_tell wsX7_tell ({ frames := 7, cells := 1, slots := 6, locals := 114 } : Room) D k [.ref (a0 0), .int (iI p0), .int (iI p1), .int (iI p2)] (wFac k a0 S0 ++ wPlant k (subA a0 1) S1) "java/lang/IndexOutOfBoundsException" (wFac k a0 S0 ++ wPlant k (subA a0 1) S1) 1 6 := by
  refine zMx_of (cc := cX7_tell) (maxL := 4) (ret := (some .int)) (by decide) rfl (Nat.le_of_ble_eq_true rfl) ?_
  intro p e s m args below meth c A ls hx hb hr hml hown hts hlocks hK hP hD hG hE ht hA hS hl
  have hown : s.vm.findClass RX7 = some m.cls := hown
  have hl : lv_has ls 4 [(0, .ref (a0 0)), (1, .int (iI p0)), (2, .int (iI p1)), (3, .int (iI p2))] := hl
  obtain ⟨H, hH⟩ : ∃ z, z = s.heap := ⟨_, rfl⟩
  obtain ⟨locs, hlc⟩ : ∃ z : List Loc, z = [] := ⟨_, rfl⟩
  rw [← hH] at hP
  have hS : va_S A s.heap H locs := by rw [hH, hlc]; exact hS
  rw [← hlc, ← hH]
  clear hlc hH
  have kp := hp.2
  refine lv_aload_n hx hb dX7_tell_0 rfl (lv_at hl 0 rfl) ?_
  refine lv_bipush (v := iI 116) hx hb dX7_tell_1 (by decide) ?_
  refine lv_iload_n hx hb dX7_tell_3 rfl (lv_at hl 1 rfl) ?_
  refine lv_iload_n hx hb dX7_tell_4 rfl (lv_at hl 2 rfl) ?_
  refine lv_iload_n hx hb dX7_tell_5 rfl (lv_at hl 3 rfl) ?_
  exact z_axo (vx_runV (As := [.int (iI 116), .int (iI p0), .int (iI p1), .int (iI p2)]) (rest := []) ⟨hx, hb, hml, hown, hts⟩ (c_X7_change_6 l hst D k a0 S0 S1  116 p0 p1 p2 hp (by omega) (by omega) (by omega) (by omega) hv _) (cwV 4 hts gX7_tell_X7_change rfl rfl rfl (by decide +kernel) ⟨(Nat.le_of_ble_eq_true rfl), (Nat.le_of_ble_eq_true rfl)⟩) (z_preVx hK hG hE hA hP hD hS (zrg 0 1 ++ zrg 1 15) (z_mcat (z_hd (n := 1) rfl) (z_sk (n := 1) (off := 0) (m := 15) rfl (z_hdl (n := 15) rfl))) (by decide +kernel) 9 rfl rfl) rfl rfl hl.1 rfl (lv_room (Nat.le_of_ble_eq_true rfl)) dX7_tell_6 ⟨(Nat.le_of_ble_eq_true rfl), (Nat.le_of_ble_eq_true rfl)⟩) hA hP hD hS (zrg 0 1 ++ zrg 1 15) (z_mcat (z_hd (n := 1) rfl) (z_sk (n := 1) (off := 0) (m := 15) rfl (z_hdl (n := 15) rfl))) (z_mfst rfl rfl) ht hlocks (Eq.trans rfl (Eq.symm (zset_same (z_mcat (z_hd (n := 1) rfl) (z_sk (n := 1) (off := 0) (m := 15) rfl (z_hdl (n := 15) rfl)))))) (Nat.le_of_ble_eq_true rfl) (Nat.le_of_ble_eq_true rfl)
set_option maxHeartbeats 4000000 in
set_option maxRecDepth 100000 in
theorem c_X7_tell_7 (l : Launch) (hst : l.stackTraces = false) (D : va_G) (k : Nat → ClassId) (a0 : Nat → Nat) (S0 : Nat → Nat → Int) (S1 : Nat → Nat → Int) (p0 : Int) (p1 : Int) (p2 : Int) (hp : pOK S1) (h0 : -2147483648 ≤ p0 ∧ p0 < 2147483648) (h1 : -2147483648 ≤ p1 ∧ p1 < 2147483648) (h2 : -2147483648 ≤ p2 ∧ p2 < 2147483648) (hv : sp_X5_verdictOn S1 116 p0 p1 p2 = 7) : zMx l yX7_tell wsX7_tell ({ frames := 7, cells := 1, slots := 6, locals := 114 } : Room) D k [.ref (a0 0), .int (iI p0), .int (iI p1), .int (iI p2)] (wFac k a0 S0 ++ wPlant k (subA a0 1) S1) "java/lang/IllegalArgumentException" (wFac k a0 S0 ++ wPlant k (subA a0 1) S1) 1 6 := by
  refine zMx_of (cc := cX7_tell) (maxL := 4) (ret := (some .int)) (by decide) rfl (Nat.le_of_ble_eq_true rfl) ?_
  intro p e s m args below meth c A ls hx hb hr hml hown hts hlocks hK hP hD hG hE ht hA hS hl
  have hown : s.vm.findClass RX7 = some m.cls := hown
  have hl : lv_has ls 4 [(0, .ref (a0 0)), (1, .int (iI p0)), (2, .int (iI p1)), (3, .int (iI p2))] := hl
  obtain ⟨H, hH⟩ : ∃ z, z = s.heap := ⟨_, rfl⟩
  obtain ⟨locs, hlc⟩ : ∃ z : List Loc, z = [] := ⟨_, rfl⟩
  rw [← hH] at hP
  have hS : va_S A s.heap H locs := by rw [hH, hlc]; exact hS
  rw [← hlc, ← hH]
  clear hlc hH
  have kp := hp.2
  refine lv_aload_n hx hb dX7_tell_0 rfl (lv_at hl 0 rfl) ?_
  refine lv_bipush (v := iI 116) hx hb dX7_tell_1 (by decide) ?_
  refine lv_iload_n hx hb dX7_tell_3 rfl (lv_at hl 1 rfl) ?_
  refine lv_iload_n hx hb dX7_tell_4 rfl (lv_at hl 2 rfl) ?_
  refine lv_iload_n hx hb dX7_tell_5 rfl (lv_at hl 3 rfl) ?_
  exact z_axo (vx_runV (As := [.int (iI 116), .int (iI p0), .int (iI p1), .int (iI p2)]) (rest := []) ⟨hx, hb, hml, hown, hts⟩ (c_X7_change_7 l hst D k a0 S0 S1  116 p0 p1 p2 hp (by omega) (by omega) (by omega) (by omega) hv _) (cwV 4 hts gX7_tell_X7_change rfl rfl rfl (by decide +kernel) ⟨(Nat.le_of_ble_eq_true rfl), (Nat.le_of_ble_eq_true rfl)⟩) (z_preVx hK hG hE hA hP hD hS (zrg 0 1 ++ zrg 1 15) (z_mcat (z_hd (n := 1) rfl) (z_sk (n := 1) (off := 0) (m := 15) rfl (z_hdl (n := 15) rfl))) (by decide +kernel) 9 rfl rfl) rfl rfl hl.1 rfl (lv_room (Nat.le_of_ble_eq_true rfl)) dX7_tell_6 ⟨(Nat.le_of_ble_eq_true rfl), (Nat.le_of_ble_eq_true rfl)⟩) hA hP hD hS (zrg 0 1 ++ zrg 1 15) (z_mcat (z_hd (n := 1) rfl) (z_sk (n := 1) (off := 0) (m := 15) rfl (z_hdl (n := 15) rfl))) (z_mfst rfl rfl) ht hlocks (Eq.trans rfl (Eq.symm (zset_same (z_mcat (z_hd (n := 1) rfl) (z_sk (n := 1) (off := 0) (m := 15) rfl (z_hdl (n := 15) rfl)))))) (Nat.le_of_ble_eq_true rfl) (Nat.le_of_ble_eq_true rfl)
set_option maxHeartbeats 4000000 in
set_option maxRecDepth 100000 in
theorem c_X7_tell_r (l : Launch) (hst : l.stackTraces = false) (D : va_G) (k : Nat → ClassId) (a0 : Nat → Nat) (S0 : Nat → Nat → Int) (S1 : Nat → Nat → Int) (p0 : Int) (p1 : Int) (p2 : Int) (hp : pOK S1) (h0 : -2147483648 ≤ p0 ∧ p0 < 2147483648) (h1 : -2147483648 ≤ p1 ∧ p1 < 2147483648) (h2 : -2147483648 ≤ p2 ∧ p2 < 2147483648) (hv : 1 ≤ sp_X5_verdictOn S1 116 p0 p1 p2 ∧ sp_X5_verdictOn S1 116 p0 p1 p2 ≤ 5) : zMx l yX7_tell wsX7_tell ({ frames := 7, cells := 1, slots := 6, locals := 115 } : Room) D k [.ref (a0 0), .int (iI p0), .int (iI p1), .int (iI p2)] (wFac k a0 S0 ++ wPlant k (subA a0 1) S1) "java/lang/UnsupportedOperationException" (wFac k a0 (up2 (up2 S0 0 9 ((sp_X5_verdictOn S1 116 p0 p1 p2))) 0 10 (sp_X5_detailOf S1 (sp_X5_verdictOn S1 116 p0 p1 p2) 116 p0)) ++ wPlant k (subA a0 1) S1) 1 6 := by
  refine zMx_of (cc := cX7_tell) (maxL := 4) (ret := (some .int)) (by decide) rfl (Nat.le_of_ble_eq_true rfl) ?_
  intro p e s m args below meth c A ls hx hb hr hml hown hts hlocks hK hP hD hG hE ht hA hS hl
  have hown : s.vm.findClass RX7 = some m.cls := hown
  have hl : lv_has ls 4 [(0, .ref (a0 0)), (1, .int (iI p0)), (2, .int (iI p1)), (3, .int (iI p2))] := hl
  obtain ⟨H, hH⟩ : ∃ z, z = s.heap := ⟨_, rfl⟩
  obtain ⟨locs, hlc⟩ : ∃ z : List Loc, z = [] := ⟨_, rfl⟩
  rw [← hH] at hP
  have hS : va_S A s.heap H locs := by rw [hH, hlc]; exact hS
  rw [← hlc, ← hH]
  clear hlc hH
  have kp := hp.2
  refine lv_aload_n hx hb dX7_tell_0 rfl (lv_at hl 0 rfl) ?_
  refine lv_bipush (v := iI 116) hx hb dX7_tell_1 (by decide) ?_
  refine lv_iload_n hx hb dX7_tell_3 rfl (lv_at hl 1 rfl) ?_
  refine lv_iload_n hx hb dX7_tell_4 rfl (lv_at hl 2 rfl) ?_
  refine lv_iload_n hx hb dX7_tell_5 rfl (lv_at hl 3 rfl) ?_
  have hz_2 : zset (wFac k a0 S0 ++ wPlant k (subA a0 1) S1) (zrg 0 1) (wFac k a0 (up2 (up2 S0 0 9 ((sp_X5_verdictOn S1 116 p0 p1 p2))) 0 10 (sp_X5_detailOf S1 (sp_X5_verdictOn S1 116 p0 p1 p2) 116 p0))) = wFac k a0 (up2 (up2 S0 0 9 ((sp_X5_verdictOn S1 116 p0 p1 p2))) 0 10 (sp_X5_detailOf S1 (sp_X5_verdictOn S1 116 p0 p1 p2) 116 p0)) ++ wPlant k (subA a0 1) S1 := (z_zhd (n := 1) rfl rfl)
  have hz_3 : zset (wFac k a0 (up2 (up2 S0 0 9 ((sp_X5_verdictOn S1 116 p0 p1 p2))) 0 10 (sp_X5_detailOf S1 (sp_X5_verdictOn S1 116 p0 p1 p2) 116 p0)) ++ wPlant k (subA a0 1) S1) (zrg 1 15) (wPlant k (subA a0 1) S1) = wFac k a0 (up2 (up2 S0 0 9 ((sp_X5_verdictOn S1 116 p0 p1 p2))) 0 10 (sp_X5_detailOf S1 (sp_X5_verdictOn S1 116 p0 p1 p2) 116 p0)) ++ wPlant k (subA a0 1) S1 := (z_zsk (n := 1) (off := 0) (m := 15) rfl (z_zhl (n := 15) rfl rfl))
  have hE_1 : zset (wFac k a0 S0 ++ wPlant k (subA a0 1) S1) (zrg 0 1 ++ zrg 1 15) (wFac k a0 (up2 (up2 S0 0 9 ((sp_X5_verdictOn S1 116 p0 p1 p2))) 0 10 (sp_X5_detailOf S1 (sp_X5_verdictOn S1 116 p0 p1 p2) 116 p0)) ++ wPlant k (subA a0 1) S1) = wFac k a0 (up2 (up2 S0 0 9 ((sp_X5_verdictOn S1 116 p0 p1 p2))) 0 10 (sp_X5_detailOf S1 (sp_X5_verdictOn S1 116 p0 p1 p2) 116 p0)) ++ wPlant k (subA a0 1) S1 := (z_zcat rfl hz_2 hz_3)
  exact z_axo (vx_runV (As := [.int (iI 116), .int (iI p0), .int (iI p1), .int (iI p2)]) (rest := []) ⟨hx, hb, hml, hown, hts⟩ (c_X7_change_r l hst D k a0 S0 S1  116 p0 p1 p2 hp (by omega) (by omega) (by omega) (by omega) hv _) (cwV 4 hts gX7_tell_X7_change rfl rfl rfl (by decide +kernel) ⟨(Nat.le_of_ble_eq_true rfl), (Nat.le_of_ble_eq_true rfl)⟩) (z_preVx hK hG hE hA hP hD hS (zrg 0 1 ++ zrg 1 15) (z_mcat (z_hd (n := 1) rfl) (z_sk (n := 1) (off := 0) (m := 15) rfl (z_hdl (n := 15) rfl))) (by decide +kernel) 9 rfl rfl) rfl rfl hl.1 rfl (lv_room (Nat.le_of_ble_eq_true rfl)) dX7_tell_6 ⟨(Nat.le_of_ble_eq_true rfl), (Nat.le_of_ble_eq_true rfl)⟩) hA hP hD hS (zrg 0 1 ++ zrg 1 15) (z_mcat (z_hd (n := 1) rfl) (z_sk (n := 1) (off := 0) (m := 15) rfl (z_hdl (n := 15) rfl))) (z_mfst rfl rfl) ht hlocks (Eq.trans rfl (Eq.symm hE_1)) (Nat.le_of_ble_eq_true rfl) (Nat.le_of_ble_eq_true rfl)
set_option maxHeartbeats 4000000 in
set_option maxRecDepth 100000 in
theorem c_X7_inspect_ok (l : Launch) (D : va_G) (k : Nat → ClassId) (a0 : Nat → Nat) (S0 : Nat → Nat → Int) (S1 : Nat → Nat → Int) (S2 : Nat → Nat → Int) (S3 : Nat → Nat → Int) (i0 : Nat) (p0 : Int) (hp : pOK S1) (h0 : -2147483648 ≤ p0 ∧ p0 < 2147483648) (hv : sp_X5_verdictOn S1 105 p0 0 0 = 0) (hi : S2 0 1 = (i0 : Int) ∧ i0 < 8) (hcn : 0 ≤ S2 0 2 ∧ S2 0 2 ≤ 8) : zMi l yX7_inspect wsX7_inspect ({ frames := 6, cells := 0, slots := 0, locals := 155 } : Room) D k [.ref (a0 0), .int (iI p0)] (wFac k a0 S0 ++ (wPlant k (subA a0 1) S1 ++ (wHist k (subA a0 61) S2 ++ wPlant k (subA (subA a0 61) (2 + 15 * i0)) S3))) (sp_X5_carryOut S1 105 p0 0 0) (wFac k a0 S0 ++ (wPlant k (subA a0 1) ((wCarry S1 105 p0 0 0)) ++ (wHist k (subA a0 61) (up2 (up2 S2 0 1 (((S2 0 1) + 1) % 8)) 0 2 (min ((S2 0 2) + 1) 8)) ++ wPlant k (subA (subA a0 61) (2 + 15 * i0)) ((wCopy S3 S1))))) 0 0 := by
  refine zMi_of (cc := cX7_inspect) (maxL := 2) (ret := (some .int)) (by decide) rfl (Nat.le_of_ble_eq_true rfl) ?_
  intro p e s m args below meth c A ls hx hb hr hml hown hts hlocks hK hP hD hG hA hS hl
  have hown : s.vm.findClass RX7 = some m.cls := hown
  have hl : lv_has ls 2 [(0, .ref (a0 0)), (1, .int (iI p0))] := hl
  obtain ⟨H, hH⟩ : ∃ z, z = s.heap := ⟨_, rfl⟩
  obtain ⟨locs, hlc⟩ : ∃ z : List Loc, z = [] := ⟨_, rfl⟩
  rw [← hH] at hP
  have hS : va_S A s.heap H locs := by rw [hH, hlc]; exact hS
  rw [← hlc, ← hH]
  clear hlc hH
  have kp := hp.2
  refine lv_aload_n hx hb dX7_inspect_0 rfl (lv_at hl 0 rfl) ?_
  refine lv_bipush (v := iI 105) hx hb dX7_inspect_1 (by decide) ?_
  refine lv_iload_n hx hb dX7_inspect_3 rfl (lv_at hl 1 rfl) ?_
  refine lv_iconst (v := iI 0) hx hb dX7_inspect_4 rfl ?_
  refine lv_iconst (v := iI 0) hx hb dX7_inspect_5 rfl ?_
  refine z_ai (va_runV (As := [.int (iI 105), .int (iI p0), .int (iI 0), .int (iI 0)]) (rest := []) ⟨hx, hb, hml, hown, hts⟩ (c_X7_change_ok l D k a0 S0 S1 S2 S3 i0 105 p0 0 0 hp (by omega) (by omega) (by omega) (by omega) hv hi hcn _) (cwV 4 hts gX7_inspect_X7_change rfl rfl rfl (by decide +kernel) ⟨(Nat.le_of_ble_eq_true rfl), (Nat.le_of_ble_eq_true rfl)⟩) (z_preV hK hG hA hP hD hS (zrg 0 1 ++ (zrg 1 15 ++ (zrg 16 2 ++ zrg 18 15))) (z_mcat (z_hd (n := 1) rfl) (z_mcat (z_sk (n := 1) (off := 0) (m := 15) rfl (z_hd (n := 15) rfl)) (z_mcat (z_sk (n := 1) (off := 15) (m := 2) rfl (z_sk (n := 15) (off := 0) (m := 2) rfl (z_hd (n := 2) rfl))) (z_sk (n := 1) (off := 17) (m := 15) rfl (z_sk (n := 15) (off := 2) (m := 15) rfl (z_sk (n := 2) (off := 0) (m := 15) rfl (z_hdl (n := 15) rfl))))))) (by decide +kernel) 9 rfl rfl) rfl rfl hl.1 rfl (lv_room (Nat.le_of_ble_eq_true rfl)) dX7_inspect_6 ⟨(Nat.le_of_ble_eq_true rfl), (Nat.le_of_ble_eq_true rfl)⟩) hA hP hD hS (zrg 0 1 ++ (zrg 1 15 ++ (zrg 16 2 ++ zrg 18 15))) (z_mcat (z_hd (n := 1) rfl) (z_mcat (z_sk (n := 1) (off := 0) (m := 15) rfl (z_hd (n := 15) rfl)) (z_mcat (z_sk (n := 1) (off := 15) (m := 2) rfl (z_sk (n := 15) (off := 0) (m := 2) rfl (z_hd (n := 2) rfl))) (z_sk (n := 1) (off := 17) (m := 15) rfl (z_sk (n := 15) (off := 2) (m := 15) rfl (z_sk (n := 2) (off := 0) (m := 15) rfl (z_hdl (n := 15) rfl))))))) (z_mfst rfl (z_mfst rfl (z_mfst rfl rfl))) (fun H locs hP hD hS => ?_)
  have hz_2 : zset (wFac k a0 S0 ++ (wPlant k (subA a0 1) S1 ++ (wHist k (subA a0 61) S2 ++ wPlant k (subA (subA a0 61) (2 + 15 * i0)) S3))) (zrg 0 1) (wFac k a0 S0) = wFac k a0 S0 ++ (wPlant k (subA a0 1) S1 ++ (wHist k (subA a0 61) S2 ++ wPlant k (subA (subA a0 61) (2 + 15 * i0)) S3)) := (z_zhd (n := 1) rfl rfl)
  have hz_3 : zset (wFac k a0 S0 ++ (wPlant k (subA a0 1) S1 ++ (wHist k (subA a0 61) S2 ++ wPlant k (subA (subA a0 61) (2 + 15 * i0)) S3))) (zrg 1 15) (wPlant k (subA a0 1) ((wCarry S1 105 p0 0 0))) = wFac k a0 S0 ++ (wPlant k (subA a0 1) ((wCarry S1 105 p0 0 0)) ++ (wHist k (subA a0 61) S2 ++ wPlant k (subA (subA a0 61) (2 + 15 * i0)) S3)) := (z_zsk (n := 1) (off := 0) (m := 15) rfl (z_zhd (n := 15) rfl rfl))
  have hz_4 : zset (wFac k a0 S0 ++ (wPlant k (subA a0 1) ((wCarry S1 105 p0 0 0)) ++ (wHist k (subA a0 61) S2 ++ wPlant k (subA (subA a0 61) (2 + 15 * i0)) S3))) (zrg 16 2) (wHist k (subA a0 61) (up2 (up2 S2 0 1 (((S2 0 1) + 1) % 8)) 0 2 (min ((S2 0 2) + 1) 8))) = wFac k a0 S0 ++ (wPlant k (subA a0 1) ((wCarry S1 105 p0 0 0)) ++ (wHist k (subA a0 61) (up2 (up2 S2 0 1 (((S2 0 1) + 1) % 8)) 0 2 (min ((S2 0 2) + 1) 8)) ++ wPlant k (subA (subA a0 61) (2 + 15 * i0)) S3)) := (z_zsk (n := 1) (off := 15) (m := 2) rfl (z_zsk (n := 15) (off := 0) (m := 2) rfl (z_zhd (n := 2) rfl rfl)))
  have hz_5 : zset (wFac k a0 S0 ++ (wPlant k (subA a0 1) ((wCarry S1 105 p0 0 0)) ++ (wHist k (subA a0 61) (up2 (up2 S2 0 1 (((S2 0 1) + 1) % 8)) 0 2 (min ((S2 0 2) + 1) 8)) ++ wPlant k (subA (subA a0 61) (2 + 15 * i0)) S3))) (zrg 18 15) (wPlant k (subA (subA a0 61) (2 + 15 * i0)) ((wCopy S3 S1))) = wFac k a0 S0 ++ (wPlant k (subA a0 1) ((wCarry S1 105 p0 0 0)) ++ (wHist k (subA a0 61) (up2 (up2 S2 0 1 (((S2 0 1) + 1) % 8)) 0 2 (min ((S2 0 2) + 1) 8)) ++ wPlant k (subA (subA a0 61) (2 + 15 * i0)) ((wCopy S3 S1)))) := (z_zsk (n := 1) (off := 17) (m := 15) rfl (z_zsk (n := 15) (off := 2) (m := 15) rfl (z_zsk (n := 2) (off := 0) (m := 15) rfl (z_zhl (n := 15) rfl rfl))))
  have hE_1 : zset (wFac k a0 S0 ++ (wPlant k (subA a0 1) S1 ++ (wHist k (subA a0 61) S2 ++ wPlant k (subA (subA a0 61) (2 + 15 * i0)) S3))) (zrg 0 1 ++ (zrg 1 15 ++ (zrg 16 2 ++ zrg 18 15))) (wFac k a0 S0 ++ (wPlant k (subA a0 1) ((wCarry S1 105 p0 0 0)) ++ (wHist k (subA a0 61) (up2 (up2 S2 0 1 (((S2 0 1) + 1) % 8)) 0 2 (min ((S2 0 2) + 1) 8)) ++ wPlant k (subA (subA a0 61) (2 + 15 * i0)) ((wCopy S3 S1))))) = wFac k a0 S0 ++ (wPlant k (subA a0 1) ((wCarry S1 105 p0 0 0)) ++ (wHist k (subA a0 61) (up2 (up2 S2 0 1 (((S2 0 1) + 1) % 8)) 0 2 (min ((S2 0 2) + 1) 8)) ++ wPlant k (subA (subA a0 61) (2 + 15 * i0)) ((wCopy S3 S1)))) := (z_zcat rfl hz_2 (z_zcat rfl hz_3 (z_zcat rfl hz_4 hz_5)))
  have hP : va_P D vwCl (wFac k a0 S0 ++ (wPlant k (subA a0 1) ((wCarry S1 105 p0 0 0)) ++ (wHist k (subA a0 61) (up2 (up2 S2 0 1 (((S2 0 1) + 1) % 8)) 0 2 (min ((S2 0 2) + 1) 8)) ++ wPlant k (subA (subA a0 61) (2 + 15 * i0)) ((wCopy S3 S1))))) H := z_to hE_1 hP
  have hD : va_D A (wFac k a0 S0 ++ (wPlant k (subA a0 1) ((wCarry S1 105 p0 0 0)) ++ (wHist k (subA a0 61) (up2 (up2 S2 0 1 (((S2 0 1) + 1) % 8)) 0 2 (min ((S2 0 2) + 1) 8)) ++ wPlant k (subA (subA a0 61) (2 + 15 * i0)) ((wCopy S3 S1))))) := z_to2 hE_1 hD
  exact z_iret hx hb hr hlocks hP hS dX7_inspect_9 rfl rfl (Nat.le_refl _) (Nat.le_refl _)
set_option maxHeartbeats 4000000 in
set_option maxRecDepth 100000 in
theorem c_X7_inspect_6 (l : Launch) (hst : l.stackTraces = false) (D : va_G) (k : Nat → ClassId) (a0 : Nat → Nat) (S0 : Nat → Nat → Int) (S1 : Nat → Nat → Int) (p0 : Int) (hp : pOK S1) (h0 : -2147483648 ≤ p0 ∧ p0 < 2147483648) (hv : sp_X5_verdictOn S1 105 p0 0 0 = 6) : zMx l yX7_inspect wsX7_inspect ({ frames := 7, cells := 1, slots := 6, locals := 114 } : Room) D k [.ref (a0 0), .int (iI p0)] (wFac k a0 S0 ++ wPlant k (subA a0 1) S1) "java/lang/IndexOutOfBoundsException" (wFac k a0 S0 ++ wPlant k (subA a0 1) S1) 1 6 := by
  refine zMx_of (cc := cX7_inspect) (maxL := 2) (ret := (some .int)) (by decide) rfl (Nat.le_of_ble_eq_true rfl) ?_
  intro p e s m args below meth c A ls hx hb hr hml hown hts hlocks hK hP hD hG hE ht hA hS hl
  have hown : s.vm.findClass RX7 = some m.cls := hown
  have hl : lv_has ls 2 [(0, .ref (a0 0)), (1, .int (iI p0))] := hl
  obtain ⟨H, hH⟩ : ∃ z, z = s.heap := ⟨_, rfl⟩
  obtain ⟨locs, hlc⟩ : ∃ z : List Loc, z = [] := ⟨_, rfl⟩
  rw [← hH] at hP
  have hS : va_S A s.heap H locs := by rw [hH, hlc]; exact hS
  rw [← hlc, ← hH]
  clear hlc hH
  have kp := hp.2
  refine lv_aload_n hx hb dX7_inspect_0 rfl (lv_at hl 0 rfl) ?_
  refine lv_bipush (v := iI 105) hx hb dX7_inspect_1 (by decide) ?_
  refine lv_iload_n hx hb dX7_inspect_3 rfl (lv_at hl 1 rfl) ?_
  refine lv_iconst (v := iI 0) hx hb dX7_inspect_4 rfl ?_
  refine lv_iconst (v := iI 0) hx hb dX7_inspect_5 rfl ?_
  exact z_axo (vx_runV (As := [.int (iI 105), .int (iI p0), .int (iI 0), .int (iI 0)]) (rest := []) ⟨hx, hb, hml, hown, hts⟩ (c_X7_change_6 l hst D k a0 S0 S1  105 p0 0 0 hp (by omega) (by omega) (by omega) (by omega) hv _) (cwV 4 hts gX7_inspect_X7_change rfl rfl rfl (by decide +kernel) ⟨(Nat.le_of_ble_eq_true rfl), (Nat.le_of_ble_eq_true rfl)⟩) (z_preVx hK hG hE hA hP hD hS (zrg 0 1 ++ zrg 1 15) (z_mcat (z_hd (n := 1) rfl) (z_sk (n := 1) (off := 0) (m := 15) rfl (z_hdl (n := 15) rfl))) (by decide +kernel) 9 rfl rfl) rfl rfl hl.1 rfl (lv_room (Nat.le_of_ble_eq_true rfl)) dX7_inspect_6 ⟨(Nat.le_of_ble_eq_true rfl), (Nat.le_of_ble_eq_true rfl)⟩) hA hP hD hS (zrg 0 1 ++ zrg 1 15) (z_mcat (z_hd (n := 1) rfl) (z_sk (n := 1) (off := 0) (m := 15) rfl (z_hdl (n := 15) rfl))) (z_mfst rfl rfl) ht hlocks (Eq.trans rfl (Eq.symm (zset_same (z_mcat (z_hd (n := 1) rfl) (z_sk (n := 1) (off := 0) (m := 15) rfl (z_hdl (n := 15) rfl)))))) (Nat.le_of_ble_eq_true rfl) (Nat.le_of_ble_eq_true rfl)
set_option maxHeartbeats 4000000 in
set_option maxRecDepth 100000 in
theorem c_X7_inspect_r (l : Launch) (hst : l.stackTraces = false) (D : va_G) (k : Nat → ClassId) (a0 : Nat → Nat) (S0 : Nat → Nat → Int) (S1 : Nat → Nat → Int) (p0 : Int) (hp : pOK S1) (h0 : -2147483648 ≤ p0 ∧ p0 < 2147483648) (hv : 1 ≤ sp_X5_verdictOn S1 105 p0 0 0 ∧ sp_X5_verdictOn S1 105 p0 0 0 ≤ 5) : zMx l yX7_inspect wsX7_inspect ({ frames := 7, cells := 1, slots := 6, locals := 115 } : Room) D k [.ref (a0 0), .int (iI p0)] (wFac k a0 S0 ++ wPlant k (subA a0 1) S1) "java/lang/UnsupportedOperationException" (wFac k a0 (up2 (up2 S0 0 9 ((sp_X5_verdictOn S1 105 p0 0 0))) 0 10 (sp_X5_detailOf S1 (sp_X5_verdictOn S1 105 p0 0 0) 105 p0)) ++ wPlant k (subA a0 1) S1) 1 6 := by
  refine zMx_of (cc := cX7_inspect) (maxL := 2) (ret := (some .int)) (by decide) rfl (Nat.le_of_ble_eq_true rfl) ?_
  intro p e s m args below meth c A ls hx hb hr hml hown hts hlocks hK hP hD hG hE ht hA hS hl
  have hown : s.vm.findClass RX7 = some m.cls := hown
  have hl : lv_has ls 2 [(0, .ref (a0 0)), (1, .int (iI p0))] := hl
  obtain ⟨H, hH⟩ : ∃ z, z = s.heap := ⟨_, rfl⟩
  obtain ⟨locs, hlc⟩ : ∃ z : List Loc, z = [] := ⟨_, rfl⟩
  rw [← hH] at hP
  have hS : va_S A s.heap H locs := by rw [hH, hlc]; exact hS
  rw [← hlc, ← hH]
  clear hlc hH
  have kp := hp.2
  refine lv_aload_n hx hb dX7_inspect_0 rfl (lv_at hl 0 rfl) ?_
  refine lv_bipush (v := iI 105) hx hb dX7_inspect_1 (by decide) ?_
  refine lv_iload_n hx hb dX7_inspect_3 rfl (lv_at hl 1 rfl) ?_
  refine lv_iconst (v := iI 0) hx hb dX7_inspect_4 rfl ?_
  refine lv_iconst (v := iI 0) hx hb dX7_inspect_5 rfl ?_
  have hz_2 : zset (wFac k a0 S0 ++ wPlant k (subA a0 1) S1) (zrg 0 1) (wFac k a0 (up2 (up2 S0 0 9 ((sp_X5_verdictOn S1 105 p0 0 0))) 0 10 (sp_X5_detailOf S1 (sp_X5_verdictOn S1 105 p0 0 0) 105 p0))) = wFac k a0 (up2 (up2 S0 0 9 ((sp_X5_verdictOn S1 105 p0 0 0))) 0 10 (sp_X5_detailOf S1 (sp_X5_verdictOn S1 105 p0 0 0) 105 p0)) ++ wPlant k (subA a0 1) S1 := (z_zhd (n := 1) rfl rfl)
  have hz_3 : zset (wFac k a0 (up2 (up2 S0 0 9 ((sp_X5_verdictOn S1 105 p0 0 0))) 0 10 (sp_X5_detailOf S1 (sp_X5_verdictOn S1 105 p0 0 0) 105 p0)) ++ wPlant k (subA a0 1) S1) (zrg 1 15) (wPlant k (subA a0 1) S1) = wFac k a0 (up2 (up2 S0 0 9 ((sp_X5_verdictOn S1 105 p0 0 0))) 0 10 (sp_X5_detailOf S1 (sp_X5_verdictOn S1 105 p0 0 0) 105 p0)) ++ wPlant k (subA a0 1) S1 := (z_zsk (n := 1) (off := 0) (m := 15) rfl (z_zhl (n := 15) rfl rfl))
  have hE_1 : zset (wFac k a0 S0 ++ wPlant k (subA a0 1) S1) (zrg 0 1 ++ zrg 1 15) (wFac k a0 (up2 (up2 S0 0 9 ((sp_X5_verdictOn S1 105 p0 0 0))) 0 10 (sp_X5_detailOf S1 (sp_X5_verdictOn S1 105 p0 0 0) 105 p0)) ++ wPlant k (subA a0 1) S1) = wFac k a0 (up2 (up2 S0 0 9 ((sp_X5_verdictOn S1 105 p0 0 0))) 0 10 (sp_X5_detailOf S1 (sp_X5_verdictOn S1 105 p0 0 0) 105 p0)) ++ wPlant k (subA a0 1) S1 := (z_zcat rfl hz_2 hz_3)
  exact z_axo (vx_runV (As := [.int (iI 105), .int (iI p0), .int (iI 0), .int (iI 0)]) (rest := []) ⟨hx, hb, hml, hown, hts⟩ (c_X7_change_r l hst D k a0 S0 S1  105 p0 0 0 hp (by omega) (by omega) (by omega) (by omega) hv _) (cwV 4 hts gX7_inspect_X7_change rfl rfl rfl (by decide +kernel) ⟨(Nat.le_of_ble_eq_true rfl), (Nat.le_of_ble_eq_true rfl)⟩) (z_preVx hK hG hE hA hP hD hS (zrg 0 1 ++ zrg 1 15) (z_mcat (z_hd (n := 1) rfl) (z_sk (n := 1) (off := 0) (m := 15) rfl (z_hdl (n := 15) rfl))) (by decide +kernel) 9 rfl rfl) rfl rfl hl.1 rfl (lv_room (Nat.le_of_ble_eq_true rfl)) dX7_inspect_6 ⟨(Nat.le_of_ble_eq_true rfl), (Nat.le_of_ble_eq_true rfl)⟩) hA hP hD hS (zrg 0 1 ++ zrg 1 15) (z_mcat (z_hd (n := 1) rfl) (z_sk (n := 1) (off := 0) (m := 15) rfl (z_hdl (n := 15) rfl))) (z_mfst rfl rfl) ht hlocks (Eq.trans rfl (Eq.symm hE_1)) (Nat.le_of_ble_eq_true rfl) (Nat.le_of_ble_eq_true rfl)
set_option maxHeartbeats 4000000 in
set_option maxRecDepth 100000 in
theorem c_X7_hire_ok (l : Launch) (D : va_G) (k : Nat → ClassId) (a0 : Nat → Nat) (S0 : Nat → Nat → Int) (S1 : Nat → Nat → Int) (S2 : Nat → Nat → Int) (S3 : Nat → Nat → Int) (i0 : Nat) (hp : pOK S1) (hv : sp_X5_verdictOn S1 104 0 0 0 = 0) (hi : S2 0 1 = (i0 : Int) ∧ i0 < 8) (hcn : 0 ≤ S2 0 2 ∧ S2 0 2 ≤ 8) : zMi l yX7_hire wsX7_hire ({ frames := 6, cells := 0, slots := 0, locals := 155 } : Room) D k [.ref (a0 0)] (wFac k a0 S0 ++ (wPlant k (subA a0 1) S1 ++ (wHist k (subA a0 61) S2 ++ wPlant k (subA (subA a0 61) (2 + 15 * i0)) S3))) (sp_X5_carryOut S1 104 0 0 0) (wFac k a0 S0 ++ (wPlant k (subA a0 1) ((wCarry S1 104 0 0 0)) ++ (wHist k (subA a0 61) (up2 (up2 S2 0 1 (((S2 0 1) + 1) % 8)) 0 2 (min ((S2 0 2) + 1) 8)) ++ wPlant k (subA (subA a0 61) (2 + 15 * i0)) ((wCopy S3 S1))))) 0 0 := by
  refine zMi_of (cc := cX7_hire) (maxL := 1) (ret := (some .int)) (by decide) rfl (Nat.le_of_ble_eq_true rfl) ?_
  intro p e s m args below meth c A ls hx hb hr hml hown hts hlocks hK hP hD hG hA hS hl
  have hown : s.vm.findClass RX7 = some m.cls := hown
  have hl : lv_has ls 1 [(0, .ref (a0 0))] := hl
  obtain ⟨H, hH⟩ : ∃ z, z = s.heap := ⟨_, rfl⟩
  obtain ⟨locs, hlc⟩ : ∃ z : List Loc, z = [] := ⟨_, rfl⟩
  rw [← hH] at hP
  have hS : va_S A s.heap H locs := by rw [hH, hlc]; exact hS
  rw [← hlc, ← hH]
  clear hlc hH
  have kp := hp.2
  refine lv_aload_n hx hb dX7_hire_0 rfl (lv_at hl 0 rfl) ?_
  refine lv_bipush (v := iI 104) hx hb dX7_hire_1 (by decide) ?_
  refine lv_iconst (v := iI 0) hx hb dX7_hire_3 rfl ?_
  refine lv_iconst (v := iI 0) hx hb dX7_hire_4 rfl ?_
  refine lv_iconst (v := iI 0) hx hb dX7_hire_5 rfl ?_
  refine z_ai (va_runV (As := [.int (iI 104), .int (iI 0), .int (iI 0), .int (iI 0)]) (rest := []) ⟨hx, hb, hml, hown, hts⟩ (c_X7_change_ok l D k a0 S0 S1 S2 S3 i0 104 0 0 0 hp (by omega) (by omega) (by omega) (by omega) hv hi hcn _) (cwV 4 hts gX7_hire_X7_change rfl rfl rfl (by decide +kernel) ⟨(Nat.le_of_ble_eq_true rfl), (Nat.le_of_ble_eq_true rfl)⟩) (z_preV hK hG hA hP hD hS (zrg 0 1 ++ (zrg 1 15 ++ (zrg 16 2 ++ zrg 18 15))) (z_mcat (z_hd (n := 1) rfl) (z_mcat (z_sk (n := 1) (off := 0) (m := 15) rfl (z_hd (n := 15) rfl)) (z_mcat (z_sk (n := 1) (off := 15) (m := 2) rfl (z_sk (n := 15) (off := 0) (m := 2) rfl (z_hd (n := 2) rfl))) (z_sk (n := 1) (off := 17) (m := 15) rfl (z_sk (n := 15) (off := 2) (m := 15) rfl (z_sk (n := 2) (off := 0) (m := 15) rfl (z_hdl (n := 15) rfl))))))) (by decide +kernel) 9 rfl rfl) rfl rfl hl.1 rfl (lv_room (Nat.le_of_ble_eq_true rfl)) dX7_hire_6 ⟨(Nat.le_of_ble_eq_true rfl), (Nat.le_of_ble_eq_true rfl)⟩) hA hP hD hS (zrg 0 1 ++ (zrg 1 15 ++ (zrg 16 2 ++ zrg 18 15))) (z_mcat (z_hd (n := 1) rfl) (z_mcat (z_sk (n := 1) (off := 0) (m := 15) rfl (z_hd (n := 15) rfl)) (z_mcat (z_sk (n := 1) (off := 15) (m := 2) rfl (z_sk (n := 15) (off := 0) (m := 2) rfl (z_hd (n := 2) rfl))) (z_sk (n := 1) (off := 17) (m := 15) rfl (z_sk (n := 15) (off := 2) (m := 15) rfl (z_sk (n := 2) (off := 0) (m := 15) rfl (z_hdl (n := 15) rfl))))))) (z_mfst rfl (z_mfst rfl (z_mfst rfl rfl))) (fun H locs hP hD hS => ?_)
  have hz_2 : zset (wFac k a0 S0 ++ (wPlant k (subA a0 1) S1 ++ (wHist k (subA a0 61) S2 ++ wPlant k (subA (subA a0 61) (2 + 15 * i0)) S3))) (zrg 0 1) (wFac k a0 S0) = wFac k a0 S0 ++ (wPlant k (subA a0 1) S1 ++ (wHist k (subA a0 61) S2 ++ wPlant k (subA (subA a0 61) (2 + 15 * i0)) S3)) := (z_zhd (n := 1) rfl rfl)
  have hz_3 : zset (wFac k a0 S0 ++ (wPlant k (subA a0 1) S1 ++ (wHist k (subA a0 61) S2 ++ wPlant k (subA (subA a0 61) (2 + 15 * i0)) S3))) (zrg 1 15) (wPlant k (subA a0 1) ((wCarry S1 104 0 0 0))) = wFac k a0 S0 ++ (wPlant k (subA a0 1) ((wCarry S1 104 0 0 0)) ++ (wHist k (subA a0 61) S2 ++ wPlant k (subA (subA a0 61) (2 + 15 * i0)) S3)) := (z_zsk (n := 1) (off := 0) (m := 15) rfl (z_zhd (n := 15) rfl rfl))
  have hz_4 : zset (wFac k a0 S0 ++ (wPlant k (subA a0 1) ((wCarry S1 104 0 0 0)) ++ (wHist k (subA a0 61) S2 ++ wPlant k (subA (subA a0 61) (2 + 15 * i0)) S3))) (zrg 16 2) (wHist k (subA a0 61) (up2 (up2 S2 0 1 (((S2 0 1) + 1) % 8)) 0 2 (min ((S2 0 2) + 1) 8))) = wFac k a0 S0 ++ (wPlant k (subA a0 1) ((wCarry S1 104 0 0 0)) ++ (wHist k (subA a0 61) (up2 (up2 S2 0 1 (((S2 0 1) + 1) % 8)) 0 2 (min ((S2 0 2) + 1) 8)) ++ wPlant k (subA (subA a0 61) (2 + 15 * i0)) S3)) := (z_zsk (n := 1) (off := 15) (m := 2) rfl (z_zsk (n := 15) (off := 0) (m := 2) rfl (z_zhd (n := 2) rfl rfl)))
  have hz_5 : zset (wFac k a0 S0 ++ (wPlant k (subA a0 1) ((wCarry S1 104 0 0 0)) ++ (wHist k (subA a0 61) (up2 (up2 S2 0 1 (((S2 0 1) + 1) % 8)) 0 2 (min ((S2 0 2) + 1) 8)) ++ wPlant k (subA (subA a0 61) (2 + 15 * i0)) S3))) (zrg 18 15) (wPlant k (subA (subA a0 61) (2 + 15 * i0)) ((wCopy S3 S1))) = wFac k a0 S0 ++ (wPlant k (subA a0 1) ((wCarry S1 104 0 0 0)) ++ (wHist k (subA a0 61) (up2 (up2 S2 0 1 (((S2 0 1) + 1) % 8)) 0 2 (min ((S2 0 2) + 1) 8)) ++ wPlant k (subA (subA a0 61) (2 + 15 * i0)) ((wCopy S3 S1)))) := (z_zsk (n := 1) (off := 17) (m := 15) rfl (z_zsk (n := 15) (off := 2) (m := 15) rfl (z_zsk (n := 2) (off := 0) (m := 15) rfl (z_zhl (n := 15) rfl rfl))))
  have hE_1 : zset (wFac k a0 S0 ++ (wPlant k (subA a0 1) S1 ++ (wHist k (subA a0 61) S2 ++ wPlant k (subA (subA a0 61) (2 + 15 * i0)) S3))) (zrg 0 1 ++ (zrg 1 15 ++ (zrg 16 2 ++ zrg 18 15))) (wFac k a0 S0 ++ (wPlant k (subA a0 1) ((wCarry S1 104 0 0 0)) ++ (wHist k (subA a0 61) (up2 (up2 S2 0 1 (((S2 0 1) + 1) % 8)) 0 2 (min ((S2 0 2) + 1) 8)) ++ wPlant k (subA (subA a0 61) (2 + 15 * i0)) ((wCopy S3 S1))))) = wFac k a0 S0 ++ (wPlant k (subA a0 1) ((wCarry S1 104 0 0 0)) ++ (wHist k (subA a0 61) (up2 (up2 S2 0 1 (((S2 0 1) + 1) % 8)) 0 2 (min ((S2 0 2) + 1) 8)) ++ wPlant k (subA (subA a0 61) (2 + 15 * i0)) ((wCopy S3 S1)))) := (z_zcat rfl hz_2 (z_zcat rfl hz_3 (z_zcat rfl hz_4 hz_5)))
  have hP : va_P D vwCl (wFac k a0 S0 ++ (wPlant k (subA a0 1) ((wCarry S1 104 0 0 0)) ++ (wHist k (subA a0 61) (up2 (up2 S2 0 1 (((S2 0 1) + 1) % 8)) 0 2 (min ((S2 0 2) + 1) 8)) ++ wPlant k (subA (subA a0 61) (2 + 15 * i0)) ((wCopy S3 S1))))) H := z_to hE_1 hP
  have hD : va_D A (wFac k a0 S0 ++ (wPlant k (subA a0 1) ((wCarry S1 104 0 0 0)) ++ (wHist k (subA a0 61) (up2 (up2 S2 0 1 (((S2 0 1) + 1) % 8)) 0 2 (min ((S2 0 2) + 1) 8)) ++ wPlant k (subA (subA a0 61) (2 + 15 * i0)) ((wCopy S3 S1))))) := z_to2 hE_1 hD
  exact z_iret hx hb hr hlocks hP hS dX7_hire_9 rfl rfl (Nat.le_refl _) (Nat.le_refl _)
set_option maxHeartbeats 4000000 in
set_option maxRecDepth 100000 in
theorem c_X7_hire_r (l : Launch) (hst : l.stackTraces = false) (D : va_G) (k : Nat → ClassId) (a0 : Nat → Nat) (S0 : Nat → Nat → Int) (S1 : Nat → Nat → Int) (hp : pOK S1) (hv : 1 ≤ sp_X5_verdictOn S1 104 0 0 0 ∧ sp_X5_verdictOn S1 104 0 0 0 ≤ 5) : zMx l yX7_hire wsX7_hire ({ frames := 7, cells := 1, slots := 6, locals := 115 } : Room) D k [.ref (a0 0)] (wFac k a0 S0 ++ wPlant k (subA a0 1) S1) "java/lang/UnsupportedOperationException" (wFac k a0 (up2 (up2 S0 0 9 ((sp_X5_verdictOn S1 104 0 0 0))) 0 10 (sp_X5_detailOf S1 (sp_X5_verdictOn S1 104 0 0 0) 104 0)) ++ wPlant k (subA a0 1) S1) 1 6 := by
  refine zMx_of (cc := cX7_hire) (maxL := 1) (ret := (some .int)) (by decide) rfl (Nat.le_of_ble_eq_true rfl) ?_
  intro p e s m args below meth c A ls hx hb hr hml hown hts hlocks hK hP hD hG hE ht hA hS hl
  have hown : s.vm.findClass RX7 = some m.cls := hown
  have hl : lv_has ls 1 [(0, .ref (a0 0))] := hl
  obtain ⟨H, hH⟩ : ∃ z, z = s.heap := ⟨_, rfl⟩
  obtain ⟨locs, hlc⟩ : ∃ z : List Loc, z = [] := ⟨_, rfl⟩
  rw [← hH] at hP
  have hS : va_S A s.heap H locs := by rw [hH, hlc]; exact hS
  rw [← hlc, ← hH]
  clear hlc hH
  have kp := hp.2
  refine lv_aload_n hx hb dX7_hire_0 rfl (lv_at hl 0 rfl) ?_
  refine lv_bipush (v := iI 104) hx hb dX7_hire_1 (by decide) ?_
  refine lv_iconst (v := iI 0) hx hb dX7_hire_3 rfl ?_
  refine lv_iconst (v := iI 0) hx hb dX7_hire_4 rfl ?_
  refine lv_iconst (v := iI 0) hx hb dX7_hire_5 rfl ?_
  have hz_2 : zset (wFac k a0 S0 ++ wPlant k (subA a0 1) S1) (zrg 0 1) (wFac k a0 (up2 (up2 S0 0 9 ((sp_X5_verdictOn S1 104 0 0 0))) 0 10 (sp_X5_detailOf S1 (sp_X5_verdictOn S1 104 0 0 0) 104 0))) = wFac k a0 (up2 (up2 S0 0 9 ((sp_X5_verdictOn S1 104 0 0 0))) 0 10 (sp_X5_detailOf S1 (sp_X5_verdictOn S1 104 0 0 0) 104 0)) ++ wPlant k (subA a0 1) S1 := (z_zhd (n := 1) rfl rfl)
  have hz_3 : zset (wFac k a0 (up2 (up2 S0 0 9 ((sp_X5_verdictOn S1 104 0 0 0))) 0 10 (sp_X5_detailOf S1 (sp_X5_verdictOn S1 104 0 0 0) 104 0)) ++ wPlant k (subA a0 1) S1) (zrg 1 15) (wPlant k (subA a0 1) S1) = wFac k a0 (up2 (up2 S0 0 9 ((sp_X5_verdictOn S1 104 0 0 0))) 0 10 (sp_X5_detailOf S1 (sp_X5_verdictOn S1 104 0 0 0) 104 0)) ++ wPlant k (subA a0 1) S1 := (z_zsk (n := 1) (off := 0) (m := 15) rfl (z_zhl (n := 15) rfl rfl))
  have hE_1 : zset (wFac k a0 S0 ++ wPlant k (subA a0 1) S1) (zrg 0 1 ++ zrg 1 15) (wFac k a0 (up2 (up2 S0 0 9 ((sp_X5_verdictOn S1 104 0 0 0))) 0 10 (sp_X5_detailOf S1 (sp_X5_verdictOn S1 104 0 0 0) 104 0)) ++ wPlant k (subA a0 1) S1) = wFac k a0 (up2 (up2 S0 0 9 ((sp_X5_verdictOn S1 104 0 0 0))) 0 10 (sp_X5_detailOf S1 (sp_X5_verdictOn S1 104 0 0 0) 104 0)) ++ wPlant k (subA a0 1) S1 := (z_zcat rfl hz_2 hz_3)
  exact z_axo (vx_runV (As := [.int (iI 104), .int (iI 0), .int (iI 0), .int (iI 0)]) (rest := []) ⟨hx, hb, hml, hown, hts⟩ (c_X7_change_r l hst D k a0 S0 S1  104 0 0 0 hp (by omega) (by omega) (by omega) (by omega) hv _) (cwV 4 hts gX7_hire_X7_change rfl rfl rfl (by decide +kernel) ⟨(Nat.le_of_ble_eq_true rfl), (Nat.le_of_ble_eq_true rfl)⟩) (z_preVx hK hG hE hA hP hD hS (zrg 0 1 ++ zrg 1 15) (z_mcat (z_hd (n := 1) rfl) (z_sk (n := 1) (off := 0) (m := 15) rfl (z_hdl (n := 15) rfl))) (by decide +kernel) 9 rfl rfl) rfl rfl hl.1 rfl (lv_room (Nat.le_of_ble_eq_true rfl)) dX7_hire_6 ⟨(Nat.le_of_ble_eq_true rfl), (Nat.le_of_ble_eq_true rfl)⟩) hA hP hD hS (zrg 0 1 ++ zrg 1 15) (z_mcat (z_hd (n := 1) rfl) (z_sk (n := 1) (off := 0) (m := 15) rfl (z_hdl (n := 15) rfl))) (z_mfst rfl rfl) ht hlocks (Eq.trans rfl (Eq.symm hE_1)) (Nat.le_of_ble_eq_true rfl) (Nat.le_of_ble_eq_true rfl)
set_option maxHeartbeats 4000000 in
set_option maxRecDepth 100000 in
theorem c_X7_leave_ok (l : Launch) (D : va_G) (k : Nat → ClassId) (a0 : Nat → Nat) (S0 : Nat → Nat → Int) (S1 : Nat → Nat → Int) (S2 : Nat → Nat → Int) (S3 : Nat → Nat → Int) (i0 : Nat) (p0 : Int) (hp : pOK S1) (h0 : -2147483648 ≤ p0 ∧ p0 < 2147483648) (hv : sp_X5_verdictOn S1 111 p0 0 0 = 0) (hi : S2 0 1 = (i0 : Int) ∧ i0 < 8) (hcn : 0 ≤ S2 0 2 ∧ S2 0 2 ≤ 8) : zMi l yX7_leave wsX7_leave ({ frames := 6, cells := 0, slots := 0, locals := 155 } : Room) D k [.ref (a0 0), .int (iI p0)] (wFac k a0 S0 ++ (wPlant k (subA a0 1) S1 ++ (wHist k (subA a0 61) S2 ++ wPlant k (subA (subA a0 61) (2 + 15 * i0)) S3))) (sp_X5_carryOut S1 111 p0 0 0) (wFac k a0 S0 ++ (wPlant k (subA a0 1) ((wCarry S1 111 p0 0 0)) ++ (wHist k (subA a0 61) (up2 (up2 S2 0 1 (((S2 0 1) + 1) % 8)) 0 2 (min ((S2 0 2) + 1) 8)) ++ wPlant k (subA (subA a0 61) (2 + 15 * i0)) ((wCopy S3 S1))))) 0 0 := by
  refine zMi_of (cc := cX7_leave) (maxL := 2) (ret := (some .int)) (by decide) rfl (Nat.le_of_ble_eq_true rfl) ?_
  intro p e s m args below meth c A ls hx hb hr hml hown hts hlocks hK hP hD hG hA hS hl
  have hown : s.vm.findClass RX7 = some m.cls := hown
  have hl : lv_has ls 2 [(0, .ref (a0 0)), (1, .int (iI p0))] := hl
  obtain ⟨H, hH⟩ : ∃ z, z = s.heap := ⟨_, rfl⟩
  obtain ⟨locs, hlc⟩ : ∃ z : List Loc, z = [] := ⟨_, rfl⟩
  rw [← hH] at hP
  have hS : va_S A s.heap H locs := by rw [hH, hlc]; exact hS
  rw [← hlc, ← hH]
  clear hlc hH
  have kp := hp.2
  refine lv_aload_n hx hb dX7_leave_0 rfl (lv_at hl 0 rfl) ?_
  refine lv_bipush (v := iI 111) hx hb dX7_leave_1 (by decide) ?_
  refine lv_iload_n hx hb dX7_leave_3 rfl (lv_at hl 1 rfl) ?_
  refine lv_iconst (v := iI 0) hx hb dX7_leave_4 rfl ?_
  refine lv_iconst (v := iI 0) hx hb dX7_leave_5 rfl ?_
  refine z_ai (va_runV (As := [.int (iI 111), .int (iI p0), .int (iI 0), .int (iI 0)]) (rest := []) ⟨hx, hb, hml, hown, hts⟩ (c_X7_change_ok l D k a0 S0 S1 S2 S3 i0 111 p0 0 0 hp (by omega) (by omega) (by omega) (by omega) hv hi hcn _) (cwV 4 hts gX7_leave_X7_change rfl rfl rfl (by decide +kernel) ⟨(Nat.le_of_ble_eq_true rfl), (Nat.le_of_ble_eq_true rfl)⟩) (z_preV hK hG hA hP hD hS (zrg 0 1 ++ (zrg 1 15 ++ (zrg 16 2 ++ zrg 18 15))) (z_mcat (z_hd (n := 1) rfl) (z_mcat (z_sk (n := 1) (off := 0) (m := 15) rfl (z_hd (n := 15) rfl)) (z_mcat (z_sk (n := 1) (off := 15) (m := 2) rfl (z_sk (n := 15) (off := 0) (m := 2) rfl (z_hd (n := 2) rfl))) (z_sk (n := 1) (off := 17) (m := 15) rfl (z_sk (n := 15) (off := 2) (m := 15) rfl (z_sk (n := 2) (off := 0) (m := 15) rfl (z_hdl (n := 15) rfl))))))) (by decide +kernel) 9 rfl rfl) rfl rfl hl.1 rfl (lv_room (Nat.le_of_ble_eq_true rfl)) dX7_leave_6 ⟨(Nat.le_of_ble_eq_true rfl), (Nat.le_of_ble_eq_true rfl)⟩) hA hP hD hS (zrg 0 1 ++ (zrg 1 15 ++ (zrg 16 2 ++ zrg 18 15))) (z_mcat (z_hd (n := 1) rfl) (z_mcat (z_sk (n := 1) (off := 0) (m := 15) rfl (z_hd (n := 15) rfl)) (z_mcat (z_sk (n := 1) (off := 15) (m := 2) rfl (z_sk (n := 15) (off := 0) (m := 2) rfl (z_hd (n := 2) rfl))) (z_sk (n := 1) (off := 17) (m := 15) rfl (z_sk (n := 15) (off := 2) (m := 15) rfl (z_sk (n := 2) (off := 0) (m := 15) rfl (z_hdl (n := 15) rfl))))))) (z_mfst rfl (z_mfst rfl (z_mfst rfl rfl))) (fun H locs hP hD hS => ?_)
  have hz_2 : zset (wFac k a0 S0 ++ (wPlant k (subA a0 1) S1 ++ (wHist k (subA a0 61) S2 ++ wPlant k (subA (subA a0 61) (2 + 15 * i0)) S3))) (zrg 0 1) (wFac k a0 S0) = wFac k a0 S0 ++ (wPlant k (subA a0 1) S1 ++ (wHist k (subA a0 61) S2 ++ wPlant k (subA (subA a0 61) (2 + 15 * i0)) S3)) := (z_zhd (n := 1) rfl rfl)
  have hz_3 : zset (wFac k a0 S0 ++ (wPlant k (subA a0 1) S1 ++ (wHist k (subA a0 61) S2 ++ wPlant k (subA (subA a0 61) (2 + 15 * i0)) S3))) (zrg 1 15) (wPlant k (subA a0 1) ((wCarry S1 111 p0 0 0))) = wFac k a0 S0 ++ (wPlant k (subA a0 1) ((wCarry S1 111 p0 0 0)) ++ (wHist k (subA a0 61) S2 ++ wPlant k (subA (subA a0 61) (2 + 15 * i0)) S3)) := (z_zsk (n := 1) (off := 0) (m := 15) rfl (z_zhd (n := 15) rfl rfl))
  have hz_4 : zset (wFac k a0 S0 ++ (wPlant k (subA a0 1) ((wCarry S1 111 p0 0 0)) ++ (wHist k (subA a0 61) S2 ++ wPlant k (subA (subA a0 61) (2 + 15 * i0)) S3))) (zrg 16 2) (wHist k (subA a0 61) (up2 (up2 S2 0 1 (((S2 0 1) + 1) % 8)) 0 2 (min ((S2 0 2) + 1) 8))) = wFac k a0 S0 ++ (wPlant k (subA a0 1) ((wCarry S1 111 p0 0 0)) ++ (wHist k (subA a0 61) (up2 (up2 S2 0 1 (((S2 0 1) + 1) % 8)) 0 2 (min ((S2 0 2) + 1) 8)) ++ wPlant k (subA (subA a0 61) (2 + 15 * i0)) S3)) := (z_zsk (n := 1) (off := 15) (m := 2) rfl (z_zsk (n := 15) (off := 0) (m := 2) rfl (z_zhd (n := 2) rfl rfl)))
  have hz_5 : zset (wFac k a0 S0 ++ (wPlant k (subA a0 1) ((wCarry S1 111 p0 0 0)) ++ (wHist k (subA a0 61) (up2 (up2 S2 0 1 (((S2 0 1) + 1) % 8)) 0 2 (min ((S2 0 2) + 1) 8)) ++ wPlant k (subA (subA a0 61) (2 + 15 * i0)) S3))) (zrg 18 15) (wPlant k (subA (subA a0 61) (2 + 15 * i0)) ((wCopy S3 S1))) = wFac k a0 S0 ++ (wPlant k (subA a0 1) ((wCarry S1 111 p0 0 0)) ++ (wHist k (subA a0 61) (up2 (up2 S2 0 1 (((S2 0 1) + 1) % 8)) 0 2 (min ((S2 0 2) + 1) 8)) ++ wPlant k (subA (subA a0 61) (2 + 15 * i0)) ((wCopy S3 S1)))) := (z_zsk (n := 1) (off := 17) (m := 15) rfl (z_zsk (n := 15) (off := 2) (m := 15) rfl (z_zsk (n := 2) (off := 0) (m := 15) rfl (z_zhl (n := 15) rfl rfl))))
  have hE_1 : zset (wFac k a0 S0 ++ (wPlant k (subA a0 1) S1 ++ (wHist k (subA a0 61) S2 ++ wPlant k (subA (subA a0 61) (2 + 15 * i0)) S3))) (zrg 0 1 ++ (zrg 1 15 ++ (zrg 16 2 ++ zrg 18 15))) (wFac k a0 S0 ++ (wPlant k (subA a0 1) ((wCarry S1 111 p0 0 0)) ++ (wHist k (subA a0 61) (up2 (up2 S2 0 1 (((S2 0 1) + 1) % 8)) 0 2 (min ((S2 0 2) + 1) 8)) ++ wPlant k (subA (subA a0 61) (2 + 15 * i0)) ((wCopy S3 S1))))) = wFac k a0 S0 ++ (wPlant k (subA a0 1) ((wCarry S1 111 p0 0 0)) ++ (wHist k (subA a0 61) (up2 (up2 S2 0 1 (((S2 0 1) + 1) % 8)) 0 2 (min ((S2 0 2) + 1) 8)) ++ wPlant k (subA (subA a0 61) (2 + 15 * i0)) ((wCopy S3 S1)))) := (z_zcat rfl hz_2 (z_zcat rfl hz_3 (z_zcat rfl hz_4 hz_5)))
  have hP : va_P D vwCl (wFac k a0 S0 ++ (wPlant k (subA a0 1) ((wCarry S1 111 p0 0 0)) ++ (wHist k (subA a0 61) (up2 (up2 S2 0 1 (((S2 0 1) + 1) % 8)) 0 2 (min ((S2 0 2) + 1) 8)) ++ wPlant k (subA (subA a0 61) (2 + 15 * i0)) ((wCopy S3 S1))))) H := z_to hE_1 hP
  have hD : va_D A (wFac k a0 S0 ++ (wPlant k (subA a0 1) ((wCarry S1 111 p0 0 0)) ++ (wHist k (subA a0 61) (up2 (up2 S2 0 1 (((S2 0 1) + 1) % 8)) 0 2 (min ((S2 0 2) + 1) 8)) ++ wPlant k (subA (subA a0 61) (2 + 15 * i0)) ((wCopy S3 S1))))) := z_to2 hE_1 hD
  exact z_iret hx hb hr hlocks hP hS dX7_leave_9 rfl rfl (Nat.le_refl _) (Nat.le_refl _)
set_option maxHeartbeats 4000000 in
set_option maxRecDepth 100000 in
theorem c_X7_leave_6 (l : Launch) (hst : l.stackTraces = false) (D : va_G) (k : Nat → ClassId) (a0 : Nat → Nat) (S0 : Nat → Nat → Int) (S1 : Nat → Nat → Int) (p0 : Int) (hp : pOK S1) (h0 : -2147483648 ≤ p0 ∧ p0 < 2147483648) (hv : sp_X5_verdictOn S1 111 p0 0 0 = 6) : zMx l yX7_leave wsX7_leave ({ frames := 7, cells := 1, slots := 6, locals := 114 } : Room) D k [.ref (a0 0), .int (iI p0)] (wFac k a0 S0 ++ wPlant k (subA a0 1) S1) "java/lang/IndexOutOfBoundsException" (wFac k a0 S0 ++ wPlant k (subA a0 1) S1) 1 6 := by
  refine zMx_of (cc := cX7_leave) (maxL := 2) (ret := (some .int)) (by decide) rfl (Nat.le_of_ble_eq_true rfl) ?_
  intro p e s m args below meth c A ls hx hb hr hml hown hts hlocks hK hP hD hG hE ht hA hS hl
  have hown : s.vm.findClass RX7 = some m.cls := hown
  have hl : lv_has ls 2 [(0, .ref (a0 0)), (1, .int (iI p0))] := hl
  obtain ⟨H, hH⟩ : ∃ z, z = s.heap := ⟨_, rfl⟩
  obtain ⟨locs, hlc⟩ : ∃ z : List Loc, z = [] := ⟨_, rfl⟩
  rw [← hH] at hP
  have hS : va_S A s.heap H locs := by rw [hH, hlc]; exact hS
  rw [← hlc, ← hH]
  clear hlc hH
  have kp := hp.2
  refine lv_aload_n hx hb dX7_leave_0 rfl (lv_at hl 0 rfl) ?_
  refine lv_bipush (v := iI 111) hx hb dX7_leave_1 (by decide) ?_
  refine lv_iload_n hx hb dX7_leave_3 rfl (lv_at hl 1 rfl) ?_
  refine lv_iconst (v := iI 0) hx hb dX7_leave_4 rfl ?_
  refine lv_iconst (v := iI 0) hx hb dX7_leave_5 rfl ?_
  exact z_axo (vx_runV (As := [.int (iI 111), .int (iI p0), .int (iI 0), .int (iI 0)]) (rest := []) ⟨hx, hb, hml, hown, hts⟩ (c_X7_change_6 l hst D k a0 S0 S1  111 p0 0 0 hp (by omega) (by omega) (by omega) (by omega) hv _) (cwV 4 hts gX7_leave_X7_change rfl rfl rfl (by decide +kernel) ⟨(Nat.le_of_ble_eq_true rfl), (Nat.le_of_ble_eq_true rfl)⟩) (z_preVx hK hG hE hA hP hD hS (zrg 0 1 ++ zrg 1 15) (z_mcat (z_hd (n := 1) rfl) (z_sk (n := 1) (off := 0) (m := 15) rfl (z_hdl (n := 15) rfl))) (by decide +kernel) 9 rfl rfl) rfl rfl hl.1 rfl (lv_room (Nat.le_of_ble_eq_true rfl)) dX7_leave_6 ⟨(Nat.le_of_ble_eq_true rfl), (Nat.le_of_ble_eq_true rfl)⟩) hA hP hD hS (zrg 0 1 ++ zrg 1 15) (z_mcat (z_hd (n := 1) rfl) (z_sk (n := 1) (off := 0) (m := 15) rfl (z_hdl (n := 15) rfl))) (z_mfst rfl rfl) ht hlocks (Eq.trans rfl (Eq.symm (zset_same (z_mcat (z_hd (n := 1) rfl) (z_sk (n := 1) (off := 0) (m := 15) rfl (z_hdl (n := 15) rfl)))))) (Nat.le_of_ble_eq_true rfl) (Nat.le_of_ble_eq_true rfl)
set_option maxHeartbeats 4000000 in
set_option maxRecDepth 100000 in
theorem c_X7_sell_ok (l : Launch) (D : va_G) (k : Nat → ClassId) (a0 : Nat → Nat) (S0 : Nat → Nat → Int) (S1 : Nat → Nat → Int) (S2 : Nat → Nat → Int) (S3 : Nat → Nat → Int) (i0 : Nat) (p0 : Int) (hp : pOK S1) (h0 : -2147483648 ≤ p0 ∧ p0 < 2147483648) (hv : sp_X5_verdictOn S1 115 p0 0 0 = 0) (hi : S2 0 1 = (i0 : Int) ∧ i0 < 8) (hcn : 0 ≤ S2 0 2 ∧ S2 0 2 ≤ 8) : zMi l yX7_sell wsX7_sell ({ frames := 6, cells := 0, slots := 0, locals := 155 } : Room) D k [.ref (a0 0), .int (iI p0)] (wFac k a0 S0 ++ (wPlant k (subA a0 1) S1 ++ (wHist k (subA a0 61) S2 ++ wPlant k (subA (subA a0 61) (2 + 15 * i0)) S3))) (sp_X5_carryOut S1 115 p0 0 0) (wFac k a0 S0 ++ (wPlant k (subA a0 1) ((wCarry S1 115 p0 0 0)) ++ (wHist k (subA a0 61) (up2 (up2 S2 0 1 (((S2 0 1) + 1) % 8)) 0 2 (min ((S2 0 2) + 1) 8)) ++ wPlant k (subA (subA a0 61) (2 + 15 * i0)) ((wCopy S3 S1))))) 0 0 := by
  refine zMi_of (cc := cX7_sell) (maxL := 2) (ret := (some .int)) (by decide) rfl (Nat.le_of_ble_eq_true rfl) ?_
  intro p e s m args below meth c A ls hx hb hr hml hown hts hlocks hK hP hD hG hA hS hl
  have hown : s.vm.findClass RX7 = some m.cls := hown
  have hl : lv_has ls 2 [(0, .ref (a0 0)), (1, .int (iI p0))] := hl
  obtain ⟨H, hH⟩ : ∃ z, z = s.heap := ⟨_, rfl⟩
  obtain ⟨locs, hlc⟩ : ∃ z : List Loc, z = [] := ⟨_, rfl⟩
  rw [← hH] at hP
  have hS : va_S A s.heap H locs := by rw [hH, hlc]; exact hS
  rw [← hlc, ← hH]
  clear hlc hH
  have kp := hp.2
  refine lv_aload_n hx hb dX7_sell_0 rfl (lv_at hl 0 rfl) ?_
  refine lv_bipush (v := iI 115) hx hb dX7_sell_1 (by decide) ?_
  refine lv_iload_n hx hb dX7_sell_3 rfl (lv_at hl 1 rfl) ?_
  refine lv_iconst (v := iI 0) hx hb dX7_sell_4 rfl ?_
  refine lv_iconst (v := iI 0) hx hb dX7_sell_5 rfl ?_
  refine z_ai (va_runV (As := [.int (iI 115), .int (iI p0), .int (iI 0), .int (iI 0)]) (rest := []) ⟨hx, hb, hml, hown, hts⟩ (c_X7_change_ok l D k a0 S0 S1 S2 S3 i0 115 p0 0 0 hp (by omega) (by omega) (by omega) (by omega) hv hi hcn _) (cwV 4 hts gX7_sell_X7_change rfl rfl rfl (by decide +kernel) ⟨(Nat.le_of_ble_eq_true rfl), (Nat.le_of_ble_eq_true rfl)⟩) (z_preV hK hG hA hP hD hS (zrg 0 1 ++ (zrg 1 15 ++ (zrg 16 2 ++ zrg 18 15))) (z_mcat (z_hd (n := 1) rfl) (z_mcat (z_sk (n := 1) (off := 0) (m := 15) rfl (z_hd (n := 15) rfl)) (z_mcat (z_sk (n := 1) (off := 15) (m := 2) rfl (z_sk (n := 15) (off := 0) (m := 2) rfl (z_hd (n := 2) rfl))) (z_sk (n := 1) (off := 17) (m := 15) rfl (z_sk (n := 15) (off := 2) (m := 15) rfl (z_sk (n := 2) (off := 0) (m := 15) rfl (z_hdl (n := 15) rfl))))))) (by decide +kernel) 9 rfl rfl) rfl rfl hl.1 rfl (lv_room (Nat.le_of_ble_eq_true rfl)) dX7_sell_6 ⟨(Nat.le_of_ble_eq_true rfl), (Nat.le_of_ble_eq_true rfl)⟩) hA hP hD hS (zrg 0 1 ++ (zrg 1 15 ++ (zrg 16 2 ++ zrg 18 15))) (z_mcat (z_hd (n := 1) rfl) (z_mcat (z_sk (n := 1) (off := 0) (m := 15) rfl (z_hd (n := 15) rfl)) (z_mcat (z_sk (n := 1) (off := 15) (m := 2) rfl (z_sk (n := 15) (off := 0) (m := 2) rfl (z_hd (n := 2) rfl))) (z_sk (n := 1) (off := 17) (m := 15) rfl (z_sk (n := 15) (off := 2) (m := 15) rfl (z_sk (n := 2) (off := 0) (m := 15) rfl (z_hdl (n := 15) rfl))))))) (z_mfst rfl (z_mfst rfl (z_mfst rfl rfl))) (fun H locs hP hD hS => ?_)
  have hz_2 : zset (wFac k a0 S0 ++ (wPlant k (subA a0 1) S1 ++ (wHist k (subA a0 61) S2 ++ wPlant k (subA (subA a0 61) (2 + 15 * i0)) S3))) (zrg 0 1) (wFac k a0 S0) = wFac k a0 S0 ++ (wPlant k (subA a0 1) S1 ++ (wHist k (subA a0 61) S2 ++ wPlant k (subA (subA a0 61) (2 + 15 * i0)) S3)) := (z_zhd (n := 1) rfl rfl)
  have hz_3 : zset (wFac k a0 S0 ++ (wPlant k (subA a0 1) S1 ++ (wHist k (subA a0 61) S2 ++ wPlant k (subA (subA a0 61) (2 + 15 * i0)) S3))) (zrg 1 15) (wPlant k (subA a0 1) ((wCarry S1 115 p0 0 0))) = wFac k a0 S0 ++ (wPlant k (subA a0 1) ((wCarry S1 115 p0 0 0)) ++ (wHist k (subA a0 61) S2 ++ wPlant k (subA (subA a0 61) (2 + 15 * i0)) S3)) := (z_zsk (n := 1) (off := 0) (m := 15) rfl (z_zhd (n := 15) rfl rfl))
  have hz_4 : zset (wFac k a0 S0 ++ (wPlant k (subA a0 1) ((wCarry S1 115 p0 0 0)) ++ (wHist k (subA a0 61) S2 ++ wPlant k (subA (subA a0 61) (2 + 15 * i0)) S3))) (zrg 16 2) (wHist k (subA a0 61) (up2 (up2 S2 0 1 (((S2 0 1) + 1) % 8)) 0 2 (min ((S2 0 2) + 1) 8))) = wFac k a0 S0 ++ (wPlant k (subA a0 1) ((wCarry S1 115 p0 0 0)) ++ (wHist k (subA a0 61) (up2 (up2 S2 0 1 (((S2 0 1) + 1) % 8)) 0 2 (min ((S2 0 2) + 1) 8)) ++ wPlant k (subA (subA a0 61) (2 + 15 * i0)) S3)) := (z_zsk (n := 1) (off := 15) (m := 2) rfl (z_zsk (n := 15) (off := 0) (m := 2) rfl (z_zhd (n := 2) rfl rfl)))
  have hz_5 : zset (wFac k a0 S0 ++ (wPlant k (subA a0 1) ((wCarry S1 115 p0 0 0)) ++ (wHist k (subA a0 61) (up2 (up2 S2 0 1 (((S2 0 1) + 1) % 8)) 0 2 (min ((S2 0 2) + 1) 8)) ++ wPlant k (subA (subA a0 61) (2 + 15 * i0)) S3))) (zrg 18 15) (wPlant k (subA (subA a0 61) (2 + 15 * i0)) ((wCopy S3 S1))) = wFac k a0 S0 ++ (wPlant k (subA a0 1) ((wCarry S1 115 p0 0 0)) ++ (wHist k (subA a0 61) (up2 (up2 S2 0 1 (((S2 0 1) + 1) % 8)) 0 2 (min ((S2 0 2) + 1) 8)) ++ wPlant k (subA (subA a0 61) (2 + 15 * i0)) ((wCopy S3 S1)))) := (z_zsk (n := 1) (off := 17) (m := 15) rfl (z_zsk (n := 15) (off := 2) (m := 15) rfl (z_zsk (n := 2) (off := 0) (m := 15) rfl (z_zhl (n := 15) rfl rfl))))
  have hE_1 : zset (wFac k a0 S0 ++ (wPlant k (subA a0 1) S1 ++ (wHist k (subA a0 61) S2 ++ wPlant k (subA (subA a0 61) (2 + 15 * i0)) S3))) (zrg 0 1 ++ (zrg 1 15 ++ (zrg 16 2 ++ zrg 18 15))) (wFac k a0 S0 ++ (wPlant k (subA a0 1) ((wCarry S1 115 p0 0 0)) ++ (wHist k (subA a0 61) (up2 (up2 S2 0 1 (((S2 0 1) + 1) % 8)) 0 2 (min ((S2 0 2) + 1) 8)) ++ wPlant k (subA (subA a0 61) (2 + 15 * i0)) ((wCopy S3 S1))))) = wFac k a0 S0 ++ (wPlant k (subA a0 1) ((wCarry S1 115 p0 0 0)) ++ (wHist k (subA a0 61) (up2 (up2 S2 0 1 (((S2 0 1) + 1) % 8)) 0 2 (min ((S2 0 2) + 1) 8)) ++ wPlant k (subA (subA a0 61) (2 + 15 * i0)) ((wCopy S3 S1)))) := (z_zcat rfl hz_2 (z_zcat rfl hz_3 (z_zcat rfl hz_4 hz_5)))
  have hP : va_P D vwCl (wFac k a0 S0 ++ (wPlant k (subA a0 1) ((wCarry S1 115 p0 0 0)) ++ (wHist k (subA a0 61) (up2 (up2 S2 0 1 (((S2 0 1) + 1) % 8)) 0 2 (min ((S2 0 2) + 1) 8)) ++ wPlant k (subA (subA a0 61) (2 + 15 * i0)) ((wCopy S3 S1))))) H := z_to hE_1 hP
  have hD : va_D A (wFac k a0 S0 ++ (wPlant k (subA a0 1) ((wCarry S1 115 p0 0 0)) ++ (wHist k (subA a0 61) (up2 (up2 S2 0 1 (((S2 0 1) + 1) % 8)) 0 2 (min ((S2 0 2) + 1) 8)) ++ wPlant k (subA (subA a0 61) (2 + 15 * i0)) ((wCopy S3 S1))))) := z_to2 hE_1 hD
  exact z_iret hx hb hr hlocks hP hS dX7_sell_9 rfl rfl (Nat.le_refl _) (Nat.le_refl _)
set_option maxHeartbeats 4000000 in
set_option maxRecDepth 100000 in
theorem c_X7_sell_6 (l : Launch) (hst : l.stackTraces = false) (D : va_G) (k : Nat → ClassId) (a0 : Nat → Nat) (S0 : Nat → Nat → Int) (S1 : Nat → Nat → Int) (p0 : Int) (hp : pOK S1) (h0 : -2147483648 ≤ p0 ∧ p0 < 2147483648) (hv : sp_X5_verdictOn S1 115 p0 0 0 = 6) : zMx l yX7_sell wsX7_sell ({ frames := 7, cells := 1, slots := 6, locals := 114 } : Room) D k [.ref (a0 0), .int (iI p0)] (wFac k a0 S0 ++ wPlant k (subA a0 1) S1) "java/lang/IndexOutOfBoundsException" (wFac k a0 S0 ++ wPlant k (subA a0 1) S1) 1 6 := by
  refine zMx_of (cc := cX7_sell) (maxL := 2) (ret := (some .int)) (by decide) rfl (Nat.le_of_ble_eq_true rfl) ?_
  intro p e s m args below meth c A ls hx hb hr hml hown hts hlocks hK hP hD hG hE ht hA hS hl
  have hown : s.vm.findClass RX7 = some m.cls := hown
  have hl : lv_has ls 2 [(0, .ref (a0 0)), (1, .int (iI p0))] := hl
  obtain ⟨H, hH⟩ : ∃ z, z = s.heap := ⟨_, rfl⟩
  obtain ⟨locs, hlc⟩ : ∃ z : List Loc, z = [] := ⟨_, rfl⟩
  rw [← hH] at hP
  have hS : va_S A s.heap H locs := by rw [hH, hlc]; exact hS
  rw [← hlc, ← hH]
  clear hlc hH
  have kp := hp.2
  refine lv_aload_n hx hb dX7_sell_0 rfl (lv_at hl 0 rfl) ?_
  refine lv_bipush (v := iI 115) hx hb dX7_sell_1 (by decide) ?_
  refine lv_iload_n hx hb dX7_sell_3 rfl (lv_at hl 1 rfl) ?_
  refine lv_iconst (v := iI 0) hx hb dX7_sell_4 rfl ?_
  refine lv_iconst (v := iI 0) hx hb dX7_sell_5 rfl ?_
  exact z_axo (vx_runV (As := [.int (iI 115), .int (iI p0), .int (iI 0), .int (iI 0)]) (rest := []) ⟨hx, hb, hml, hown, hts⟩ (c_X7_change_6 l hst D k a0 S0 S1  115 p0 0 0 hp (by omega) (by omega) (by omega) (by omega) hv _) (cwV 4 hts gX7_sell_X7_change rfl rfl rfl (by decide +kernel) ⟨(Nat.le_of_ble_eq_true rfl), (Nat.le_of_ble_eq_true rfl)⟩) (z_preVx hK hG hE hA hP hD hS (zrg 0 1 ++ zrg 1 15) (z_mcat (z_hd (n := 1) rfl) (z_sk (n := 1) (off := 0) (m := 15) rfl (z_hdl (n := 15) rfl))) (by decide +kernel) 9 rfl rfl) rfl rfl hl.1 rfl (lv_room (Nat.le_of_ble_eq_true rfl)) dX7_sell_6 ⟨(Nat.le_of_ble_eq_true rfl), (Nat.le_of_ble_eq_true rfl)⟩) hA hP hD hS (zrg 0 1 ++ zrg 1 15) (z_mcat (z_hd (n := 1) rfl) (z_sk (n := 1) (off := 0) (m := 15) rfl (z_hdl (n := 15) rfl))) (z_mfst rfl rfl) ht hlocks (Eq.trans rfl (Eq.symm (zset_same (z_mcat (z_hd (n := 1) rfl) (z_sk (n := 1) (off := 0) (m := 15) rfl (z_hdl (n := 15) rfl)))))) (Nat.le_of_ble_eq_true rfl) (Nat.le_of_ble_eq_true rfl)
set_option maxHeartbeats 4000000 in
set_option maxRecDepth 100000 in
theorem c_X7_repair_ok (l : Launch) (D : va_G) (k : Nat → ClassId) (a0 : Nat → Nat) (S0 : Nat → Nat → Int) (S1 : Nat → Nat → Int) (S2 : Nat → Nat → Int) (S3 : Nat → Nat → Int) (i0 : Nat) (p0 : Int) (hp : pOK S1) (h0 : -2147483648 ≤ p0 ∧ p0 < 2147483648) (hv : sp_X5_verdictOn S1 114 p0 0 0 = 0) (hi : S2 0 1 = (i0 : Int) ∧ i0 < 8) (hcn : 0 ≤ S2 0 2 ∧ S2 0 2 ≤ 8) : zMi l yX7_repair wsX7_repair ({ frames := 6, cells := 0, slots := 0, locals := 155 } : Room) D k [.ref (a0 0), .int (iI p0)] (wFac k a0 S0 ++ (wPlant k (subA a0 1) S1 ++ (wHist k (subA a0 61) S2 ++ wPlant k (subA (subA a0 61) (2 + 15 * i0)) S3))) (sp_X5_carryOut S1 114 p0 0 0) (wFac k a0 S0 ++ (wPlant k (subA a0 1) ((wCarry S1 114 p0 0 0)) ++ (wHist k (subA a0 61) (up2 (up2 S2 0 1 (((S2 0 1) + 1) % 8)) 0 2 (min ((S2 0 2) + 1) 8)) ++ wPlant k (subA (subA a0 61) (2 + 15 * i0)) ((wCopy S3 S1))))) 0 0 := by
  refine zMi_of (cc := cX7_repair) (maxL := 2) (ret := (some .int)) (by decide) rfl (Nat.le_of_ble_eq_true rfl) ?_
  intro p e s m args below meth c A ls hx hb hr hml hown hts hlocks hK hP hD hG hA hS hl
  have hown : s.vm.findClass RX7 = some m.cls := hown
  have hl : lv_has ls 2 [(0, .ref (a0 0)), (1, .int (iI p0))] := hl
  obtain ⟨H, hH⟩ : ∃ z, z = s.heap := ⟨_, rfl⟩
  obtain ⟨locs, hlc⟩ : ∃ z : List Loc, z = [] := ⟨_, rfl⟩
  rw [← hH] at hP
  have hS : va_S A s.heap H locs := by rw [hH, hlc]; exact hS
  rw [← hlc, ← hH]
  clear hlc hH
  have kp := hp.2
  refine lv_aload_n hx hb dX7_repair_0 rfl (lv_at hl 0 rfl) ?_
  refine lv_bipush (v := iI 114) hx hb dX7_repair_1 (by decide) ?_
  refine lv_iload_n hx hb dX7_repair_3 rfl (lv_at hl 1 rfl) ?_
  refine lv_iconst (v := iI 0) hx hb dX7_repair_4 rfl ?_
  refine lv_iconst (v := iI 0) hx hb dX7_repair_5 rfl ?_
  refine z_ai (va_runV (As := [.int (iI 114), .int (iI p0), .int (iI 0), .int (iI 0)]) (rest := []) ⟨hx, hb, hml, hown, hts⟩ (c_X7_change_ok l D k a0 S0 S1 S2 S3 i0 114 p0 0 0 hp (by omega) (by omega) (by omega) (by omega) hv hi hcn _) (cwV 4 hts gX7_repair_X7_change rfl rfl rfl (by decide +kernel) ⟨(Nat.le_of_ble_eq_true rfl), (Nat.le_of_ble_eq_true rfl)⟩) (z_preV hK hG hA hP hD hS (zrg 0 1 ++ (zrg 1 15 ++ (zrg 16 2 ++ zrg 18 15))) (z_mcat (z_hd (n := 1) rfl) (z_mcat (z_sk (n := 1) (off := 0) (m := 15) rfl (z_hd (n := 15) rfl)) (z_mcat (z_sk (n := 1) (off := 15) (m := 2) rfl (z_sk (n := 15) (off := 0) (m := 2) rfl (z_hd (n := 2) rfl))) (z_sk (n := 1) (off := 17) (m := 15) rfl (z_sk (n := 15) (off := 2) (m := 15) rfl (z_sk (n := 2) (off := 0) (m := 15) rfl (z_hdl (n := 15) rfl))))))) (by decide +kernel) 9 rfl rfl) rfl rfl hl.1 rfl (lv_room (Nat.le_of_ble_eq_true rfl)) dX7_repair_6 ⟨(Nat.le_of_ble_eq_true rfl), (Nat.le_of_ble_eq_true rfl)⟩) hA hP hD hS (zrg 0 1 ++ (zrg 1 15 ++ (zrg 16 2 ++ zrg 18 15))) (z_mcat (z_hd (n := 1) rfl) (z_mcat (z_sk (n := 1) (off := 0) (m := 15) rfl (z_hd (n := 15) rfl)) (z_mcat (z_sk (n := 1) (off := 15) (m := 2) rfl (z_sk (n := 15) (off := 0) (m := 2) rfl (z_hd (n := 2) rfl))) (z_sk (n := 1) (off := 17) (m := 15) rfl (z_sk (n := 15) (off := 2) (m := 15) rfl (z_sk (n := 2) (off := 0) (m := 15) rfl (z_hdl (n := 15) rfl))))))) (z_mfst rfl (z_mfst rfl (z_mfst rfl rfl))) (fun H locs hP hD hS => ?_)
  have hz_2 : zset (wFac k a0 S0 ++ (wPlant k (subA a0 1) S1 ++ (wHist k (subA a0 61) S2 ++ wPlant k (subA (subA a0 61) (2 + 15 * i0)) S3))) (zrg 0 1) (wFac k a0 S0) = wFac k a0 S0 ++ (wPlant k (subA a0 1) S1 ++ (wHist k (subA a0 61) S2 ++ wPlant k (subA (subA a0 61) (2 + 15 * i0)) S3)) := (z_zhd (n := 1) rfl rfl)
  have hz_3 : zset (wFac k a0 S0 ++ (wPlant k (subA a0 1) S1 ++ (wHist k (subA a0 61) S2 ++ wPlant k (subA (subA a0 61) (2 + 15 * i0)) S3))) (zrg 1 15) (wPlant k (subA a0 1) ((wCarry S1 114 p0 0 0))) = wFac k a0 S0 ++ (wPlant k (subA a0 1) ((wCarry S1 114 p0 0 0)) ++ (wHist k (subA a0 61) S2 ++ wPlant k (subA (subA a0 61) (2 + 15 * i0)) S3)) := (z_zsk (n := 1) (off := 0) (m := 15) rfl (z_zhd (n := 15) rfl rfl))
  have hz_4 : zset (wFac k a0 S0 ++ (wPlant k (subA a0 1) ((wCarry S1 114 p0 0 0)) ++ (wHist k (subA a0 61) S2 ++ wPlant k (subA (subA a0 61) (2 + 15 * i0)) S3))) (zrg 16 2) (wHist k (subA a0 61) (up2 (up2 S2 0 1 (((S2 0 1) + 1) % 8)) 0 2 (min ((S2 0 2) + 1) 8))) = wFac k a0 S0 ++ (wPlant k (subA a0 1) ((wCarry S1 114 p0 0 0)) ++ (wHist k (subA a0 61) (up2 (up2 S2 0 1 (((S2 0 1) + 1) % 8)) 0 2 (min ((S2 0 2) + 1) 8)) ++ wPlant k (subA (subA a0 61) (2 + 15 * i0)) S3)) := (z_zsk (n := 1) (off := 15) (m := 2) rfl (z_zsk (n := 15) (off := 0) (m := 2) rfl (z_zhd (n := 2) rfl rfl)))
  have hz_5 : zset (wFac k a0 S0 ++ (wPlant k (subA a0 1) ((wCarry S1 114 p0 0 0)) ++ (wHist k (subA a0 61) (up2 (up2 S2 0 1 (((S2 0 1) + 1) % 8)) 0 2 (min ((S2 0 2) + 1) 8)) ++ wPlant k (subA (subA a0 61) (2 + 15 * i0)) S3))) (zrg 18 15) (wPlant k (subA (subA a0 61) (2 + 15 * i0)) ((wCopy S3 S1))) = wFac k a0 S0 ++ (wPlant k (subA a0 1) ((wCarry S1 114 p0 0 0)) ++ (wHist k (subA a0 61) (up2 (up2 S2 0 1 (((S2 0 1) + 1) % 8)) 0 2 (min ((S2 0 2) + 1) 8)) ++ wPlant k (subA (subA a0 61) (2 + 15 * i0)) ((wCopy S3 S1)))) := (z_zsk (n := 1) (off := 17) (m := 15) rfl (z_zsk (n := 15) (off := 2) (m := 15) rfl (z_zsk (n := 2) (off := 0) (m := 15) rfl (z_zhl (n := 15) rfl rfl))))
  have hE_1 : zset (wFac k a0 S0 ++ (wPlant k (subA a0 1) S1 ++ (wHist k (subA a0 61) S2 ++ wPlant k (subA (subA a0 61) (2 + 15 * i0)) S3))) (zrg 0 1 ++ (zrg 1 15 ++ (zrg 16 2 ++ zrg 18 15))) (wFac k a0 S0 ++ (wPlant k (subA a0 1) ((wCarry S1 114 p0 0 0)) ++ (wHist k (subA a0 61) (up2 (up2 S2 0 1 (((S2 0 1) + 1) % 8)) 0 2 (min ((S2 0 2) + 1) 8)) ++ wPlant k (subA (subA a0 61) (2 + 15 * i0)) ((wCopy S3 S1))))) = wFac k a0 S0 ++ (wPlant k (subA a0 1) ((wCarry S1 114 p0 0 0)) ++ (wHist k (subA a0 61) (up2 (up2 S2 0 1 (((S2 0 1) + 1) % 8)) 0 2 (min ((S2 0 2) + 1) 8)) ++ wPlant k (subA (subA a0 61) (2 + 15 * i0)) ((wCopy S3 S1)))) := (z_zcat rfl hz_2 (z_zcat rfl hz_3 (z_zcat rfl hz_4 hz_5)))
  have hP : va_P D vwCl (wFac k a0 S0 ++ (wPlant k (subA a0 1) ((wCarry S1 114 p0 0 0)) ++ (wHist k (subA a0 61) (up2 (up2 S2 0 1 (((S2 0 1) + 1) % 8)) 0 2 (min ((S2 0 2) + 1) 8)) ++ wPlant k (subA (subA a0 61) (2 + 15 * i0)) ((wCopy S3 S1))))) H := z_to hE_1 hP
  have hD : va_D A (wFac k a0 S0 ++ (wPlant k (subA a0 1) ((wCarry S1 114 p0 0 0)) ++ (wHist k (subA a0 61) (up2 (up2 S2 0 1 (((S2 0 1) + 1) % 8)) 0 2 (min ((S2 0 2) + 1) 8)) ++ wPlant k (subA (subA a0 61) (2 + 15 * i0)) ((wCopy S3 S1))))) := z_to2 hE_1 hD
  exact z_iret hx hb hr hlocks hP hS dX7_repair_9 rfl rfl (Nat.le_refl _) (Nat.le_refl _)
set_option maxHeartbeats 4000000 in
set_option maxRecDepth 100000 in
theorem c_X7_repair_6 (l : Launch) (hst : l.stackTraces = false) (D : va_G) (k : Nat → ClassId) (a0 : Nat → Nat) (S0 : Nat → Nat → Int) (S1 : Nat → Nat → Int) (p0 : Int) (hp : pOK S1) (h0 : -2147483648 ≤ p0 ∧ p0 < 2147483648) (hv : sp_X5_verdictOn S1 114 p0 0 0 = 6) : zMx l yX7_repair wsX7_repair ({ frames := 7, cells := 1, slots := 6, locals := 114 } : Room) D k [.ref (a0 0), .int (iI p0)] (wFac k a0 S0 ++ wPlant k (subA a0 1) S1) "java/lang/IndexOutOfBoundsException" (wFac k a0 S0 ++ wPlant k (subA a0 1) S1) 1 6 := by
  refine zMx_of (cc := cX7_repair) (maxL := 2) (ret := (some .int)) (by decide) rfl (Nat.le_of_ble_eq_true rfl) ?_
  intro p e s m args below meth c A ls hx hb hr hml hown hts hlocks hK hP hD hG hE ht hA hS hl
  have hown : s.vm.findClass RX7 = some m.cls := hown
  have hl : lv_has ls 2 [(0, .ref (a0 0)), (1, .int (iI p0))] := hl
  obtain ⟨H, hH⟩ : ∃ z, z = s.heap := ⟨_, rfl⟩
  obtain ⟨locs, hlc⟩ : ∃ z : List Loc, z = [] := ⟨_, rfl⟩
  rw [← hH] at hP
  have hS : va_S A s.heap H locs := by rw [hH, hlc]; exact hS
  rw [← hlc, ← hH]
  clear hlc hH
  have kp := hp.2
  refine lv_aload_n hx hb dX7_repair_0 rfl (lv_at hl 0 rfl) ?_
  refine lv_bipush (v := iI 114) hx hb dX7_repair_1 (by decide) ?_
  refine lv_iload_n hx hb dX7_repair_3 rfl (lv_at hl 1 rfl) ?_
  refine lv_iconst (v := iI 0) hx hb dX7_repair_4 rfl ?_
  refine lv_iconst (v := iI 0) hx hb dX7_repair_5 rfl ?_
  exact z_axo (vx_runV (As := [.int (iI 114), .int (iI p0), .int (iI 0), .int (iI 0)]) (rest := []) ⟨hx, hb, hml, hown, hts⟩ (c_X7_change_6 l hst D k a0 S0 S1  114 p0 0 0 hp (by omega) (by omega) (by omega) (by omega) hv _) (cwV 4 hts gX7_repair_X7_change rfl rfl rfl (by decide +kernel) ⟨(Nat.le_of_ble_eq_true rfl), (Nat.le_of_ble_eq_true rfl)⟩) (z_preVx hK hG hE hA hP hD hS (zrg 0 1 ++ zrg 1 15) (z_mcat (z_hd (n := 1) rfl) (z_sk (n := 1) (off := 0) (m := 15) rfl (z_hdl (n := 15) rfl))) (by decide +kernel) 9 rfl rfl) rfl rfl hl.1 rfl (lv_room (Nat.le_of_ble_eq_true rfl)) dX7_repair_6 ⟨(Nat.le_of_ble_eq_true rfl), (Nat.le_of_ble_eq_true rfl)⟩) hA hP hD hS (zrg 0 1 ++ zrg 1 15) (z_mcat (z_hd (n := 1) rfl) (z_sk (n := 1) (off := 0) (m := 15) rfl (z_hdl (n := 15) rfl))) (z_mfst rfl rfl) ht hlocks (Eq.trans rfl (Eq.symm (zset_same (z_mcat (z_hd (n := 1) rfl) (z_sk (n := 1) (off := 0) (m := 15) rfl (z_hdl (n := 15) rfl)))))) (Nat.le_of_ble_eq_true rfl) (Nat.le_of_ble_eq_true rfl)
set_option maxHeartbeats 4000000 in
set_option maxRecDepth 100000 in
theorem c_X7_repair_r (l : Launch) (hst : l.stackTraces = false) (D : va_G) (k : Nat → ClassId) (a0 : Nat → Nat) (S0 : Nat → Nat → Int) (S1 : Nat → Nat → Int) (p0 : Int) (hp : pOK S1) (h0 : -2147483648 ≤ p0 ∧ p0 < 2147483648) (hv : 1 ≤ sp_X5_verdictOn S1 114 p0 0 0 ∧ sp_X5_verdictOn S1 114 p0 0 0 ≤ 5) : zMx l yX7_repair wsX7_repair ({ frames := 7, cells := 1, slots := 6, locals := 115 } : Room) D k [.ref (a0 0), .int (iI p0)] (wFac k a0 S0 ++ wPlant k (subA a0 1) S1) "java/lang/UnsupportedOperationException" (wFac k a0 (up2 (up2 S0 0 9 ((sp_X5_verdictOn S1 114 p0 0 0))) 0 10 (sp_X5_detailOf S1 (sp_X5_verdictOn S1 114 p0 0 0) 114 p0)) ++ wPlant k (subA a0 1) S1) 1 6 := by
  refine zMx_of (cc := cX7_repair) (maxL := 2) (ret := (some .int)) (by decide) rfl (Nat.le_of_ble_eq_true rfl) ?_
  intro p e s m args below meth c A ls hx hb hr hml hown hts hlocks hK hP hD hG hE ht hA hS hl
  have hown : s.vm.findClass RX7 = some m.cls := hown
  have hl : lv_has ls 2 [(0, .ref (a0 0)), (1, .int (iI p0))] := hl
  obtain ⟨H, hH⟩ : ∃ z, z = s.heap := ⟨_, rfl⟩
  obtain ⟨locs, hlc⟩ : ∃ z : List Loc, z = [] := ⟨_, rfl⟩
  rw [← hH] at hP
  have hS : va_S A s.heap H locs := by rw [hH, hlc]; exact hS
  rw [← hlc, ← hH]
  clear hlc hH
  have kp := hp.2
  refine lv_aload_n hx hb dX7_repair_0 rfl (lv_at hl 0 rfl) ?_
  refine lv_bipush (v := iI 114) hx hb dX7_repair_1 (by decide) ?_
  refine lv_iload_n hx hb dX7_repair_3 rfl (lv_at hl 1 rfl) ?_
  refine lv_iconst (v := iI 0) hx hb dX7_repair_4 rfl ?_
  refine lv_iconst (v := iI 0) hx hb dX7_repair_5 rfl ?_
  have hz_2 : zset (wFac k a0 S0 ++ wPlant k (subA a0 1) S1) (zrg 0 1) (wFac k a0 (up2 (up2 S0 0 9 ((sp_X5_verdictOn S1 114 p0 0 0))) 0 10 (sp_X5_detailOf S1 (sp_X5_verdictOn S1 114 p0 0 0) 114 p0))) = wFac k a0 (up2 (up2 S0 0 9 ((sp_X5_verdictOn S1 114 p0 0 0))) 0 10 (sp_X5_detailOf S1 (sp_X5_verdictOn S1 114 p0 0 0) 114 p0)) ++ wPlant k (subA a0 1) S1 := (z_zhd (n := 1) rfl rfl)
  have hz_3 : zset (wFac k a0 (up2 (up2 S0 0 9 ((sp_X5_verdictOn S1 114 p0 0 0))) 0 10 (sp_X5_detailOf S1 (sp_X5_verdictOn S1 114 p0 0 0) 114 p0)) ++ wPlant k (subA a0 1) S1) (zrg 1 15) (wPlant k (subA a0 1) S1) = wFac k a0 (up2 (up2 S0 0 9 ((sp_X5_verdictOn S1 114 p0 0 0))) 0 10 (sp_X5_detailOf S1 (sp_X5_verdictOn S1 114 p0 0 0) 114 p0)) ++ wPlant k (subA a0 1) S1 := (z_zsk (n := 1) (off := 0) (m := 15) rfl (z_zhl (n := 15) rfl rfl))
  have hE_1 : zset (wFac k a0 S0 ++ wPlant k (subA a0 1) S1) (zrg 0 1 ++ zrg 1 15) (wFac k a0 (up2 (up2 S0 0 9 ((sp_X5_verdictOn S1 114 p0 0 0))) 0 10 (sp_X5_detailOf S1 (sp_X5_verdictOn S1 114 p0 0 0) 114 p0)) ++ wPlant k (subA a0 1) S1) = wFac k a0 (up2 (up2 S0 0 9 ((sp_X5_verdictOn S1 114 p0 0 0))) 0 10 (sp_X5_detailOf S1 (sp_X5_verdictOn S1 114 p0 0 0) 114 p0)) ++ wPlant k (subA a0 1) S1 := (z_zcat rfl hz_2 hz_3)
  exact z_axo (vx_runV (As := [.int (iI 114), .int (iI p0), .int (iI 0), .int (iI 0)]) (rest := []) ⟨hx, hb, hml, hown, hts⟩ (c_X7_change_r l hst D k a0 S0 S1  114 p0 0 0 hp (by omega) (by omega) (by omega) (by omega) hv _) (cwV 4 hts gX7_repair_X7_change rfl rfl rfl (by decide +kernel) ⟨(Nat.le_of_ble_eq_true rfl), (Nat.le_of_ble_eq_true rfl)⟩) (z_preVx hK hG hE hA hP hD hS (zrg 0 1 ++ zrg 1 15) (z_mcat (z_hd (n := 1) rfl) (z_sk (n := 1) (off := 0) (m := 15) rfl (z_hdl (n := 15) rfl))) (by decide +kernel) 9 rfl rfl) rfl rfl hl.1 rfl (lv_room (Nat.le_of_ble_eq_true rfl)) dX7_repair_6 ⟨(Nat.le_of_ble_eq_true rfl), (Nat.le_of_ble_eq_true rfl)⟩) hA hP hD hS (zrg 0 1 ++ zrg 1 15) (z_mcat (z_hd (n := 1) rfl) (z_sk (n := 1) (off := 0) (m := 15) rfl (z_hdl (n := 15) rfl))) (z_mfst rfl rfl) ht hlocks (Eq.trans rfl (Eq.symm hE_1)) (Nat.le_of_ble_eq_true rfl) (Nat.le_of_ble_eq_true rfl)
set_option maxHeartbeats 4000000 in
set_option maxRecDepth 100000 in
theorem c_X7_week_ok (l : Launch) (D : va_G) (k : Nat → ClassId) (a0 : Nat → Nat) (S0 : Nat → Nat → Int) (S1 : Nat → Nat → Int) (S2 : Nat → Nat → Int) (S3 : Nat → Nat → Int) (i0 : Nat) (hp : pOK S1) (hv : sp_X5_verdictOn S1 119 0 0 0 = 0) (hi : S2 0 1 = (i0 : Int) ∧ i0 < 8) (hcn : 0 ≤ S2 0 2 ∧ S2 0 2 ≤ 8) : zMi l yX7_week wsX7_week ({ frames := 6, cells := 0, slots := 0, locals := 155 } : Room) D k [.ref (a0 0)] (wFac k a0 S0 ++ (wPlant k (subA a0 1) S1 ++ (wHist k (subA a0 61) S2 ++ wPlant k (subA (subA a0 61) (2 + 15 * i0)) S3))) (sp_X5_carryOut S1 119 0 0 0) (wFac k a0 S0 ++ (wPlant k (subA a0 1) ((wCarry S1 119 0 0 0)) ++ (wHist k (subA a0 61) (up2 (up2 S2 0 1 (((S2 0 1) + 1) % 8)) 0 2 (min ((S2 0 2) + 1) 8)) ++ wPlant k (subA (subA a0 61) (2 + 15 * i0)) ((wCopy S3 S1))))) 0 0 := by
  refine zMi_of (cc := cX7_week) (maxL := 1) (ret := (some .int)) (by decide) rfl (Nat.le_of_ble_eq_true rfl) ?_
  intro p e s m args below meth c A ls hx hb hr hml hown hts hlocks hK hP hD hG hA hS hl
  have hown : s.vm.findClass RX7 = some m.cls := hown
  have hl : lv_has ls 1 [(0, .ref (a0 0))] := hl
  obtain ⟨H, hH⟩ : ∃ z, z = s.heap := ⟨_, rfl⟩
  obtain ⟨locs, hlc⟩ : ∃ z : List Loc, z = [] := ⟨_, rfl⟩
  rw [← hH] at hP
  have hS : va_S A s.heap H locs := by rw [hH, hlc]; exact hS
  rw [← hlc, ← hH]
  clear hlc hH
  have kp := hp.2
  refine lv_aload_n hx hb dX7_week_0 rfl (lv_at hl 0 rfl) ?_
  refine lv_bipush (v := iI 119) hx hb dX7_week_1 (by decide) ?_
  refine lv_iconst (v := iI 0) hx hb dX7_week_3 rfl ?_
  refine lv_iconst (v := iI 0) hx hb dX7_week_4 rfl ?_
  refine lv_iconst (v := iI 0) hx hb dX7_week_5 rfl ?_
  refine z_ai (va_runV (As := [.int (iI 119), .int (iI 0), .int (iI 0), .int (iI 0)]) (rest := []) ⟨hx, hb, hml, hown, hts⟩ (c_X7_change_ok l D k a0 S0 S1 S2 S3 i0 119 0 0 0 hp (by omega) (by omega) (by omega) (by omega) hv hi hcn _) (cwV 4 hts gX7_week_X7_change rfl rfl rfl (by decide +kernel) ⟨(Nat.le_of_ble_eq_true rfl), (Nat.le_of_ble_eq_true rfl)⟩) (z_preV hK hG hA hP hD hS (zrg 0 1 ++ (zrg 1 15 ++ (zrg 16 2 ++ zrg 18 15))) (z_mcat (z_hd (n := 1) rfl) (z_mcat (z_sk (n := 1) (off := 0) (m := 15) rfl (z_hd (n := 15) rfl)) (z_mcat (z_sk (n := 1) (off := 15) (m := 2) rfl (z_sk (n := 15) (off := 0) (m := 2) rfl (z_hd (n := 2) rfl))) (z_sk (n := 1) (off := 17) (m := 15) rfl (z_sk (n := 15) (off := 2) (m := 15) rfl (z_sk (n := 2) (off := 0) (m := 15) rfl (z_hdl (n := 15) rfl))))))) (by decide +kernel) 9 rfl rfl) rfl rfl hl.1 rfl (lv_room (Nat.le_of_ble_eq_true rfl)) dX7_week_6 ⟨(Nat.le_of_ble_eq_true rfl), (Nat.le_of_ble_eq_true rfl)⟩) hA hP hD hS (zrg 0 1 ++ (zrg 1 15 ++ (zrg 16 2 ++ zrg 18 15))) (z_mcat (z_hd (n := 1) rfl) (z_mcat (z_sk (n := 1) (off := 0) (m := 15) rfl (z_hd (n := 15) rfl)) (z_mcat (z_sk (n := 1) (off := 15) (m := 2) rfl (z_sk (n := 15) (off := 0) (m := 2) rfl (z_hd (n := 2) rfl))) (z_sk (n := 1) (off := 17) (m := 15) rfl (z_sk (n := 15) (off := 2) (m := 15) rfl (z_sk (n := 2) (off := 0) (m := 15) rfl (z_hdl (n := 15) rfl))))))) (z_mfst rfl (z_mfst rfl (z_mfst rfl rfl))) (fun H locs hP hD hS => ?_)
  have hz_2 : zset (wFac k a0 S0 ++ (wPlant k (subA a0 1) S1 ++ (wHist k (subA a0 61) S2 ++ wPlant k (subA (subA a0 61) (2 + 15 * i0)) S3))) (zrg 0 1) (wFac k a0 S0) = wFac k a0 S0 ++ (wPlant k (subA a0 1) S1 ++ (wHist k (subA a0 61) S2 ++ wPlant k (subA (subA a0 61) (2 + 15 * i0)) S3)) := (z_zhd (n := 1) rfl rfl)
  have hz_3 : zset (wFac k a0 S0 ++ (wPlant k (subA a0 1) S1 ++ (wHist k (subA a0 61) S2 ++ wPlant k (subA (subA a0 61) (2 + 15 * i0)) S3))) (zrg 1 15) (wPlant k (subA a0 1) ((wCarry S1 119 0 0 0))) = wFac k a0 S0 ++ (wPlant k (subA a0 1) ((wCarry S1 119 0 0 0)) ++ (wHist k (subA a0 61) S2 ++ wPlant k (subA (subA a0 61) (2 + 15 * i0)) S3)) := (z_zsk (n := 1) (off := 0) (m := 15) rfl (z_zhd (n := 15) rfl rfl))
  have hz_4 : zset (wFac k a0 S0 ++ (wPlant k (subA a0 1) ((wCarry S1 119 0 0 0)) ++ (wHist k (subA a0 61) S2 ++ wPlant k (subA (subA a0 61) (2 + 15 * i0)) S3))) (zrg 16 2) (wHist k (subA a0 61) (up2 (up2 S2 0 1 (((S2 0 1) + 1) % 8)) 0 2 (min ((S2 0 2) + 1) 8))) = wFac k a0 S0 ++ (wPlant k (subA a0 1) ((wCarry S1 119 0 0 0)) ++ (wHist k (subA a0 61) (up2 (up2 S2 0 1 (((S2 0 1) + 1) % 8)) 0 2 (min ((S2 0 2) + 1) 8)) ++ wPlant k (subA (subA a0 61) (2 + 15 * i0)) S3)) := (z_zsk (n := 1) (off := 15) (m := 2) rfl (z_zsk (n := 15) (off := 0) (m := 2) rfl (z_zhd (n := 2) rfl rfl)))
  have hz_5 : zset (wFac k a0 S0 ++ (wPlant k (subA a0 1) ((wCarry S1 119 0 0 0)) ++ (wHist k (subA a0 61) (up2 (up2 S2 0 1 (((S2 0 1) + 1) % 8)) 0 2 (min ((S2 0 2) + 1) 8)) ++ wPlant k (subA (subA a0 61) (2 + 15 * i0)) S3))) (zrg 18 15) (wPlant k (subA (subA a0 61) (2 + 15 * i0)) ((wCopy S3 S1))) = wFac k a0 S0 ++ (wPlant k (subA a0 1) ((wCarry S1 119 0 0 0)) ++ (wHist k (subA a0 61) (up2 (up2 S2 0 1 (((S2 0 1) + 1) % 8)) 0 2 (min ((S2 0 2) + 1) 8)) ++ wPlant k (subA (subA a0 61) (2 + 15 * i0)) ((wCopy S3 S1)))) := (z_zsk (n := 1) (off := 17) (m := 15) rfl (z_zsk (n := 15) (off := 2) (m := 15) rfl (z_zsk (n := 2) (off := 0) (m := 15) rfl (z_zhl (n := 15) rfl rfl))))
  have hE_1 : zset (wFac k a0 S0 ++ (wPlant k (subA a0 1) S1 ++ (wHist k (subA a0 61) S2 ++ wPlant k (subA (subA a0 61) (2 + 15 * i0)) S3))) (zrg 0 1 ++ (zrg 1 15 ++ (zrg 16 2 ++ zrg 18 15))) (wFac k a0 S0 ++ (wPlant k (subA a0 1) ((wCarry S1 119 0 0 0)) ++ (wHist k (subA a0 61) (up2 (up2 S2 0 1 (((S2 0 1) + 1) % 8)) 0 2 (min ((S2 0 2) + 1) 8)) ++ wPlant k (subA (subA a0 61) (2 + 15 * i0)) ((wCopy S3 S1))))) = wFac k a0 S0 ++ (wPlant k (subA a0 1) ((wCarry S1 119 0 0 0)) ++ (wHist k (subA a0 61) (up2 (up2 S2 0 1 (((S2 0 1) + 1) % 8)) 0 2 (min ((S2 0 2) + 1) 8)) ++ wPlant k (subA (subA a0 61) (2 + 15 * i0)) ((wCopy S3 S1)))) := (z_zcat rfl hz_2 (z_zcat rfl hz_3 (z_zcat rfl hz_4 hz_5)))
  have hP : va_P D vwCl (wFac k a0 S0 ++ (wPlant k (subA a0 1) ((wCarry S1 119 0 0 0)) ++ (wHist k (subA a0 61) (up2 (up2 S2 0 1 (((S2 0 1) + 1) % 8)) 0 2 (min ((S2 0 2) + 1) 8)) ++ wPlant k (subA (subA a0 61) (2 + 15 * i0)) ((wCopy S3 S1))))) H := z_to hE_1 hP
  have hD : va_D A (wFac k a0 S0 ++ (wPlant k (subA a0 1) ((wCarry S1 119 0 0 0)) ++ (wHist k (subA a0 61) (up2 (up2 S2 0 1 (((S2 0 1) + 1) % 8)) 0 2 (min ((S2 0 2) + 1) 8)) ++ wPlant k (subA (subA a0 61) (2 + 15 * i0)) ((wCopy S3 S1))))) := z_to2 hE_1 hD
  exact z_iret hx hb hr hlocks hP hS dX7_week_9 rfl rfl (Nat.le_refl _) (Nat.le_refl _)
set_option maxHeartbeats 4000000 in
set_option maxRecDepth 100000 in
theorem c_X7_undo_ok (l : Launch) (D : va_G) (k : Nat → ClassId) (a0 : Nat → Nat) (S0 : Nat → Nat → Int) (S1 : Nat → Nat → Int) (S2 : Nat → Nat → Int) (S3 : Nat → Nat → Int) (i0 : Nat) (hi : (S2 0 1 + 8 - 1) % 8 = (i0 : Int) ∧ i0 < 8) (hcn : 1 ≤ S2 0 2 ∧ S2 0 2 ≤ 8) (hat : 0 ≤ S2 0 1 ∧ S2 0 1 < 8) (hk33 : 0 ≤ S3 3 1 ∧ S3 3 1 ≤ 8) (hk36 : 0 ≤ S3 6 1 ∧ S3 6 1 ≤ 8) (hk39 : 0 ≤ S3 9 1 ∧ S3 9 1 ≤ 8) (hk311 : 0 ≤ S3 11 1 ∧ S3 11 1 ≤ 8) : zMi l yX7_undo wsX7_undo ({ frames := 5, cells := 0, slots := 0, locals := 125 } : Room) D k [.ref (a0 0)] (wFac k a0 S0 ++ (wPlant k (subA a0 1) S1 ++ (wHist k (subA a0 61) S2 ++ wPlant k (subA (subA a0 61) (2 + 15 * i0)) S3))) ((S2 0 2) - 1) (wFac k a0 S0 ++ (wPlant k (subA a0 1) ((wCopy S1 S3)) ++ (wHist k (subA a0 61) (up2 (up2 S2 0 1 ((((S2 0 1) + 8) - 1) % 8)) 0 2 ((S2 0 2) - 1)) ++ wPlant k (subA (subA a0 61) (2 + 15 * i0)) S3))) 0 0 := by
  refine zMi_of (cc := cX7_undo) (maxL := 1) (ret := (some .int)) (by decide) rfl (Nat.le_of_ble_eq_true rfl) ?_
  intro p e s m args below meth c A ls hx hb hr hml hown hts hlocks hK hP hD hG hA hS hl
  have hown : s.vm.findClass RX7 = some m.cls := hown
  have hl : lv_has ls 1 [(0, .ref (a0 0))] := hl
  obtain ⟨H, hH⟩ : ∃ z, z = s.heap := ⟨_, rfl⟩
  obtain ⟨locs, hlc⟩ : ∃ z : List Loc, z = [] := ⟨_, rfl⟩
  rw [← hH] at hP
  have hS : va_S A s.heap H locs := by rw [hH, hlc]; exact hS
  rw [← hlc, ← hH]
  clear hlc hH
  refine lv_aload_n hx hb dX7_undo_0 rfl (lv_at hl 0 rfl) ?_
  refine va_get (D := D) (ci := 9) (v := .ref ((subA a0 61) 0)) (C := RX7) (T := TX7) (N := 11) hx hb hts (fun w h => List.mem_cons_of_mem _ (List.mem_append_left _ (List.mem_append_left _ (List.mem_append_left _ (List.mem_append_left _ (List.mem_append_left _ (List.mem_append_left _ (List.mem_append_right _ h)))))))) hown hK hP 0 rfl rfl 4 (by decide) (hts (.fieldLink RX7 28 "MondayFactory" "history" "LMondayFactory$History;") (List.mem_of_getElem? (i := 3) rfl)) (fun _ h9 => h9) rfl dX7_undo_1 ?_
  refine va_get (D := D) (ci := 4) (v := .int (iI (S2 0 2))) (C := RX2) (T := TX2) (N := 3) hx hb hts (fun w h => List.mem_cons_of_mem _ (List.mem_append_left _ (List.mem_append_left _ (List.mem_append_left _ (List.mem_append_left _ (List.mem_append_left _ (List.mem_append_right _ h))))))) hown hK hP 16 rfl rfl 2 (by decide) (hts (.fieldLink RX7 267 "MondayFactory$History" "count" "I") (List.mem_of_getElem? (i := 4) rfl)) (fun _ h9 => h9) rfl dX7_undo_4 ?_
  refine zi_if_ne (tgt := 21) hx hb dX7_undo_7 (by decide) ⟨by omega, by omega⟩ (fun c_1 => ?_) (fun c_1 => ?_)
  · refine lv_aload_n hx hb dX7_undo_21 rfl (lv_at hl 0 rfl) ?_
    refine va_get (D := D) (ci := 9) (v := .ref ((subA a0 61) 0)) (C := RX7) (T := TX7) (N := 11) hx hb hts (fun w h => List.mem_cons_of_mem _ (List.mem_append_left _ (List.mem_append_left _ (List.mem_append_left _ (List.mem_append_left _ (List.mem_append_left _ (List.mem_append_left _ (List.mem_append_right _ h)))))))) hown hK hP 0 rfl rfl 4 (by decide) (hts (.fieldLink RX7 28 "MondayFactory" "history" "LMondayFactory$History;") (List.mem_of_getElem? (i := 3) rfl)) (fun _ h9 => h9) rfl dX7_undo_22 ?_
    refine lv_aload_n hx hb dX7_undo_25 rfl (lv_at hl 0 rfl) ?_
    refine va_get (D := D) (ci := 9) (v := .ref ((subA a0 1) 0)) (C := RX7) (T := TX7) (N := 11) hx hb hts (fun w h => List.mem_cons_of_mem _ (List.mem_append_left _ (List.mem_append_left _ (List.mem_append_left _ (List.mem_append_left _ (List.mem_append_left _ (List.mem_append_left _ (List.mem_append_right _ h)))))))) hown hK hP 0 rfl rfl 0 (by decide) (hts (.fieldLink RX7 10 "MondayFactory" "plant" "LMondayFactory$Plant;") (List.mem_of_getElem? (i := 5) rfl)) (fun _ h9 => h9) rfl dX7_undo_26 ?_
    refine z_av (va_runV (As := [.ref ((subA a0 1) 0)]) (rest := []) ⟨hx, hb, hml, hown, hts⟩ (c_X2_takeBack l D k ((subA a0 61)) ((subA a0 1)) S2 S3 S1 i0  (by omega) (by omega) (by omega) (by omega) (by omega) (by omega) (by omega) _) (cwV 1 hts gX7_undo_X2_takeBack rfl rfl rfl (by decide +kernel) ⟨(Nat.le_of_ble_eq_true rfl), (Nat.le_of_ble_eq_true rfl)⟩) (z_preV hK hG hA hP hD hS (zrg 16 2 ++ (zrg 18 15 ++ zrg 1 15)) (z_mcat (z_sk (n := 1) (off := 15) (m := 2) rfl (z_sk (n := 15) (off := 0) (m := 2) rfl (z_hd (n := 2) rfl))) (z_mcat (z_sk (n := 1) (off := 17) (m := 15) rfl (z_sk (n := 15) (off := 2) (m := 15) rfl (z_sk (n := 2) (off := 0) (m := 15) rfl (z_hdl (n := 15) rfl)))) (z_sk (n := 1) (off := 0) (m := 15) rfl (z_hd (n := 15) rfl)))) (by decide +kernel) 4 rfl rfl) rfl rfl hl.1 rfl (lv_room (Nat.le_of_ble_eq_true rfl)) dX7_undo_29 ⟨(Nat.le_of_ble_eq_true rfl), (Nat.le_of_ble_eq_true rfl)⟩) hA hP hD hS (zrg 16 2 ++ (zrg 18 15 ++ zrg 1 15)) (z_mcat (z_sk (n := 1) (off := 15) (m := 2) rfl (z_sk (n := 15) (off := 0) (m := 2) rfl (z_hd (n := 2) rfl))) (z_mcat (z_sk (n := 1) (off := 17) (m := 15) rfl (z_sk (n := 15) (off := 2) (m := 15) rfl (z_sk (n := 2) (off := 0) (m := 15) rfl (z_hdl (n := 15) rfl)))) (z_sk (n := 1) (off := 0) (m := 15) rfl (z_hd (n := 15) rfl)))) (z_mfst rfl (z_mfst rfl rfl)) (fun H locs hP hD hS => ?_)
    have hz_3 : zset (wFac k a0 S0 ++ (wPlant k (subA a0 1) S1 ++ (wHist k (subA a0 61) S2 ++ wPlant k (subA (subA a0 61) (2 + 15 * i0)) S3))) (zrg 16 2) (wHist k (subA a0 61) (up2 (up2 S2 0 1 ((((S2 0 1) + 8) - 1) % 8)) 0 2 ((S2 0 2) - 1))) = wFac k a0 S0 ++ (wPlant k (subA a0 1) S1 ++ (wHist k (subA a0 61) (up2 (up2 S2 0 1 ((((S2 0 1) + 8) - 1) % 8)) 0 2 ((S2 0 2) - 1)) ++ wPlant k (subA (subA a0 61) (2 + 15 * i0)) S3)) := (z_zsk (n := 1) (off := 15) (m := 2) rfl (z_zsk (n := 15) (off := 0) (m := 2) rfl (z_zhd (n := 2) rfl rfl)))
    have hz_4 : zset (wFac k a0 S0 ++ (wPlant k (subA a0 1) S1 ++ (wHist k (subA a0 61) (up2 (up2 S2 0 1 ((((S2 0 1) + 8) - 1) % 8)) 0 2 ((S2 0 2) - 1)) ++ wPlant k (subA (subA a0 61) (2 + 15 * i0)) S3))) (zrg 18 15) (wPlant k (subA (subA a0 61) (2 + 15 * i0)) S3) = wFac k a0 S0 ++ (wPlant k (subA a0 1) S1 ++ (wHist k (subA a0 61) (up2 (up2 S2 0 1 ((((S2 0 1) + 8) - 1) % 8)) 0 2 ((S2 0 2) - 1)) ++ wPlant k (subA (subA a0 61) (2 + 15 * i0)) S3)) := (z_zsk (n := 1) (off := 17) (m := 15) rfl (z_zsk (n := 15) (off := 2) (m := 15) rfl (z_zsk (n := 2) (off := 0) (m := 15) rfl (z_zhl (n := 15) rfl rfl))))
    have hz_5 : zset (wFac k a0 S0 ++ (wPlant k (subA a0 1) S1 ++ (wHist k (subA a0 61) (up2 (up2 S2 0 1 ((((S2 0 1) + 8) - 1) % 8)) 0 2 ((S2 0 2) - 1)) ++ wPlant k (subA (subA a0 61) (2 + 15 * i0)) S3))) (zrg 1 15) (wPlant k (subA a0 1) ((wCopy S1 S3))) = wFac k a0 S0 ++ (wPlant k (subA a0 1) ((wCopy S1 S3)) ++ (wHist k (subA a0 61) (up2 (up2 S2 0 1 ((((S2 0 1) + 8) - 1) % 8)) 0 2 ((S2 0 2) - 1)) ++ wPlant k (subA (subA a0 61) (2 + 15 * i0)) S3)) := (z_zsk (n := 1) (off := 0) (m := 15) rfl (z_zhd (n := 15) rfl rfl))
    have hE_2 : zset (wFac k a0 S0 ++ (wPlant k (subA a0 1) S1 ++ (wHist k (subA a0 61) S2 ++ wPlant k (subA (subA a0 61) (2 + 15 * i0)) S3))) (zrg 16 2 ++ (zrg 18 15 ++ zrg 1 15)) (wHist k (subA a0 61) (up2 (up2 S2 0 1 ((((S2 0 1) + 8) - 1) % 8)) 0 2 ((S2 0 2) - 1)) ++ (wPlant k (subA (subA a0 61) (2 + 15 * i0)) S3 ++ wPlant k (subA a0 1) ((wCopy S1 S3)))) = wFac k a0 S0 ++ (wPlant k (subA a0 1) ((wCopy S1 S3)) ++ (wHist k (subA a0 61) (up2 (up2 S2 0 1 ((((S2 0 1) + 8) - 1) % 8)) 0 2 ((S2 0 2) - 1)) ++ wPlant k (subA (subA a0 61) (2 + 15 * i0)) S3)) := (z_zcat rfl hz_3 (z_zcat rfl hz_4 hz_5))
    have hP : va_P D vwCl (wFac k a0 S0 ++ (wPlant k (subA a0 1) ((wCopy S1 S3)) ++ (wHist k (subA a0 61) (up2 (up2 S2 0 1 ((((S2 0 1) + 8) - 1) % 8)) 0 2 ((S2 0 2) - 1)) ++ wPlant k (subA (subA a0 61) (2 + 15 * i0)) S3))) H := z_to hE_2 hP
    have hD : va_D A (wFac k a0 S0 ++ (wPlant k (subA a0 1) ((wCopy S1 S3)) ++ (wHist k (subA a0 61) (up2 (up2 S2 0 1 ((((S2 0 1) + 8) - 1) % 8)) 0 2 ((S2 0 2) - 1)) ++ wPlant k (subA (subA a0 61) (2 + 15 * i0)) S3))) := z_to2 hE_2 hD
    refine lv_aload_n hx hb dX7_undo_32 rfl (lv_at hl 0 rfl) ?_
    refine va_get (D := D) (ci := 9) (v := .ref ((subA a0 61) 0)) (C := RX7) (T := TX7) (N := 11) hx hb hts (fun w h => List.mem_cons_of_mem _ (List.mem_append_left _ (List.mem_append_left _ (List.mem_append_left _ (List.mem_append_left _ (List.mem_append_left _ (List.mem_append_left _ (List.mem_append_right _ h)))))))) hown hK hP 0 rfl rfl 4 (by decide) (hts (.fieldLink RX7 28 "MondayFactory" "history" "LMondayFactory$History;") (List.mem_of_getElem? (i := 3) rfl)) (fun _ h9 => h9) rfl dX7_undo_33 ?_
    refine va_get (D := D) (ci := 4) (v := .int (iI ((S2 0 2) - 1))) (C := RX2) (T := TX2) (N := 3) hx hb hts (fun w h => List.mem_cons_of_mem _ (List.mem_append_left _ (List.mem_append_left _ (List.mem_append_left _ (List.mem_append_left _ (List.mem_append_left _ (List.mem_append_right _ h))))))) hown hK hP 16 rfl rfl 2 (by decide) (hts (.fieldLink RX7 267 "MondayFactory$History" "count" "I") (List.mem_of_getElem? (i := 4) rfl)) (fun _ h9 => h9) rfl dX7_undo_36 ?_
    exact z_iret hx hb hr hlocks hP hS dX7_undo_39 rfl rfl (Nat.le_refl _) (Nat.le_refl _)
  · exfalso; omega
set_option maxHeartbeats 4000000 in
set_option maxRecDepth 100000 in
theorem c_X7_undo_x (l : Launch) (hst : l.stackTraces = false) (D : va_G) (k : Nat → ClassId) (a0 : Nat → Nat) (S0 : Nat → Nat → Int) (S1 : Nat → Nat → Int) (hc : S1 0 2 = 0) : zMx l yX7_undo wsX7_undo ({ frames := 6, cells := 1, slots := 6, locals := 82 } : Room) D k [.ref (a0 0)] (wFac k a0 S0 ++ wHist k (subA a0 61) S1) "java/lang/IllegalStateException" (wFac k a0 S0 ++ wHist k (subA a0 61) S1) 1 6 := by
  refine zMx_of (cc := cX7_undo) (maxL := 1) (ret := (some .int)) (by decide) rfl (Nat.le_of_ble_eq_true rfl) ?_
  intro p e s m args below meth c A ls hx hb hr hml hown hts hlocks hK hP hD hG hE ht hA hS hl
  have hown : s.vm.findClass RX7 = some m.cls := hown
  have hl : lv_has ls 1 [(0, .ref (a0 0))] := hl
  obtain ⟨H, hH⟩ : ∃ z, z = s.heap := ⟨_, rfl⟩
  obtain ⟨locs, hlc⟩ : ∃ z : List Loc, z = [] := ⟨_, rfl⟩
  rw [← hH] at hP
  have hS : va_S A s.heap H locs := by rw [hH, hlc]; exact hS
  rw [← hlc, ← hH]
  clear hlc hH
  refine lv_aload_n hx hb dX7_undo_0 rfl (lv_at hl 0 rfl) ?_
  refine va_get (D := D) (ci := 9) (v := .ref ((subA a0 61) 0)) (C := RX7) (T := TX7) (N := 11) hx hb hts (fun w h => List.mem_cons_of_mem _ (List.mem_append_left _ (List.mem_append_left _ (List.mem_append_left _ (List.mem_append_left _ (List.mem_append_left _ (List.mem_append_left _ (List.mem_append_right _ h)))))))) hown hK hP 0 rfl rfl 4 (by decide) (hts (.fieldLink RX7 28 "MondayFactory" "history" "LMondayFactory$History;") (List.mem_of_getElem? (i := 3) rfl)) (fun _ h9 => h9) rfl dX7_undo_1 ?_
  refine va_get (D := D) (ci := 4) (v := .int (iI (S1 0 2))) (C := RX2) (T := TX2) (N := 3) hx hb hts (fun w h => List.mem_cons_of_mem _ (List.mem_append_left _ (List.mem_append_left _ (List.mem_append_left _ (List.mem_append_left _ (List.mem_append_left _ (List.mem_append_right _ h))))))) hown hK hP 1 rfl rfl 2 (by decide) (hts (.fieldLink RX7 267 "MondayFactory$History" "count" "I") (List.mem_of_getElem? (i := 4) rfl)) (fun _ h9 => h9) rfl dX7_undo_4 ?_
  refine zi_if_ne (tgt := 21) hx hb dX7_undo_7 (by decide) ⟨by omega, by omega⟩ (fun c_1 => absurd c_1 (by omega)) (fun _ => ?_)
  exact z_thrW (cls := "java/lang/IllegalStateException") hx hb hst hown zXf_ista zXm_ista (hts (.classLink RX7 235 "java/lang/IllegalStateException") (List.mem_of_getElem? (i := 1) rfl)) (hts (.initialized "java/lang/IllegalStateException") (List.mem_of_getElem? (i := 2) rfl)) (show (301, "no change can be undone") ∈ zStrs by decide +kernel) hG hE (fun w h => hts w ((fun w h => List.mem_cons_of_mem _ (List.mem_append_right _ h)) w h)) zXn_ista zXg_ista hS (hl.1.trans hml.symm) dX7_undo_10 dX7_undo_13 dX7_undo_14 dX7_undo_17 dX7_undo_20 ht (Nat.le_of_ble_eq_true rfl) (Nat.le_of_ble_eq_true rfl) (Nat.le_of_ble_eq_true rfl) (Nat.le_of_ble_eq_true rfl) hlocks (z_to (Eq.symm rfl) hP) (Nat.le_of_ble_eq_true rfl) (Nat.le_of_ble_eq_true rfl)
set_option maxHeartbeats 4000000 in
set_option maxRecDepth 100000 in
theorem c_X7_save (l : Launch) (D : va_G) (k : Nat → ClassId) (a0 : Nat → Nat) (S0 : Nat → Nat → Int) (S1 : Nat → Nat → Int) (S2 : Nat → Nat → Int) (hp : pOK S1) : zMi l yX7_save wsX7_save ({ frames := 4, cells := 0, slots := 0, locals := 104 } : Room) D k [.ref (a0 0)] (wFac k a0 S0 ++ (wPlant k (subA a0 1) S1 ++ wPlant k (subA a0 46) S2)) (S1 3 1 + S1 6 1 + S1 9 1) (wFac k a0 (up2 S0 0 7 1) ++ (wPlant k (subA a0 1) S1 ++ wPlant k (subA a0 46) ((wCopy S2 S1)))) 0 0 := by
  refine zMi_of (cc := cX7_save) (maxL := 1) (ret := (some .int)) (by decide) rfl (Nat.le_of_ble_eq_true rfl) ?_
  intro p e s m args below meth c A ls hx hb hr hml hown hts hlocks hK hP hD hG hA hS hl
  have hown : s.vm.findClass RX7 = some m.cls := hown
  have hl : lv_has ls 1 [(0, .ref (a0 0))] := hl
  obtain ⟨H, hH⟩ : ∃ z, z = s.heap := ⟨_, rfl⟩
  obtain ⟨locs, hlc⟩ : ∃ z : List Loc, z = [] := ⟨_, rfl⟩
  rw [← hH] at hP
  have hS : va_S A s.heap H locs := by rw [hH, hlc]; exact hS
  rw [← hlc, ← hH]
  clear hlc hH
  have kp := hp.2
  refine lv_aload_n hx hb dX7_save_0 rfl (lv_at hl 0 rfl) ?_
  refine va_get (D := D) (ci := 9) (v := .ref ((subA a0 46) 0)) (C := RX7) (T := TX7) (N := 11) hx hb hts (fun w h => List.mem_cons_of_mem _ (List.mem_append_left _ (List.mem_append_left _ (List.mem_append_left _ (List.mem_append_left _ (List.mem_append_right _ h)))))) hown hK hP 0 rfl rfl 3 (by decide) (hts (.fieldLink RX7 22 "MondayFactory" "snapshot" "LMondayFactory$Plant;") (List.mem_of_getElem? (i := 1) rfl)) (fun _ h9 => h9) rfl dX7_save_1 ?_
  refine lv_aload_n hx hb dX7_save_4 rfl (lv_at hl 0 rfl) ?_
  refine va_get (D := D) (ci := 9) (v := .ref ((subA a0 1) 0)) (C := RX7) (T := TX7) (N := 11) hx hb hts (fun w h => List.mem_cons_of_mem _ (List.mem_append_left _ (List.mem_append_left _ (List.mem_append_left _ (List.mem_append_left _ (List.mem_append_right _ h)))))) hown hK hP 0 rfl rfl 0 (by decide) (hts (.fieldLink RX7 10 "MondayFactory" "plant" "LMondayFactory$Plant;") (List.mem_of_getElem? (i := 2) rfl)) (fun _ h9 => h9) rfl dX7_save_5 ?_
  refine z_av (va_runV (As := [.ref ((subA a0 1) 0)]) (rest := []) ⟨hx, hb, hml, hown, hts⟩ (c_X5_copyW l D k ((subA a0 46)) S2 ((subA a0 1)) S1   (by omega) (by omega) (by omega) (by omega) _) (cwV 1 hts gX7_save_X5_copyFrom rfl rfl rfl (by decide +kernel) ⟨(Nat.le_of_ble_eq_true rfl), (Nat.le_of_ble_eq_true rfl)⟩) (z_preV hK hG hA hP hD hS (zrg 16 15 ++ zrg 1 15) (z_mcat (z_sk (n := 1) (off := 15) (m := 15) rfl (z_sk (n := 15) (off := 0) (m := 15) rfl (z_hdl (n := 15) rfl))) (z_sk (n := 1) (off := 0) (m := 15) rfl (z_hd (n := 15) rfl))) (by decide +kernel) 7 rfl rfl) rfl rfl hl.1 rfl (lv_room (Nat.le_of_ble_eq_true rfl)) dX7_save_8 ⟨(Nat.le_of_ble_eq_true rfl), (Nat.le_of_ble_eq_true rfl)⟩) hA hP hD hS (zrg 16 15 ++ zrg 1 15) (z_mcat (z_sk (n := 1) (off := 15) (m := 15) rfl (z_sk (n := 15) (off := 0) (m := 15) rfl (z_hdl (n := 15) rfl))) (z_sk (n := 1) (off := 0) (m := 15) rfl (z_hd (n := 15) rfl))) (z_mfst rfl rfl) (fun H locs hP hD hS => ?_)
  have hz_2 : zset (wFac k a0 S0 ++ (wPlant k (subA a0 1) S1 ++ wPlant k (subA a0 46) S2)) (zrg 16 15) (wPlant k (subA a0 46) ((wCopy S2 S1))) = wFac k a0 S0 ++ (wPlant k (subA a0 1) S1 ++ wPlant k (subA a0 46) ((wCopy S2 S1))) := (z_zsk (n := 1) (off := 15) (m := 15) rfl (z_zsk (n := 15) (off := 0) (m := 15) rfl (z_zhl (n := 15) rfl rfl)))
  have hz_3 : zset (wFac k a0 S0 ++ (wPlant k (subA a0 1) S1 ++ wPlant k (subA a0 46) ((wCopy S2 S1)))) (zrg 1 15) (wPlant k (subA a0 1) S1) = wFac k a0 S0 ++ (wPlant k (subA a0 1) S1 ++ wPlant k (subA a0 46) ((wCopy S2 S1))) := (z_zsk (n := 1) (off := 0) (m := 15) rfl (z_zhd (n := 15) rfl rfl))
  have hE_1 : zset (wFac k a0 S0 ++ (wPlant k (subA a0 1) S1 ++ wPlant k (subA a0 46) S2)) (zrg 16 15 ++ zrg 1 15) (wPlant k (subA a0 46) ((wCopy S2 S1)) ++ wPlant k (subA a0 1) S1) = wFac k a0 S0 ++ (wPlant k (subA a0 1) S1 ++ wPlant k (subA a0 46) ((wCopy S2 S1))) := (z_zcat rfl hz_2 hz_3)
  have hP : va_P D vwCl (wFac k a0 S0 ++ (wPlant k (subA a0 1) S1 ++ wPlant k (subA a0 46) ((wCopy S2 S1)))) H := z_to hE_1 hP
  have hD : va_D A (wFac k a0 S0 ++ (wPlant k (subA a0 1) S1 ++ wPlant k (subA a0 46) ((wCopy S2 S1)))) := z_to2 hE_1 hD
  refine lv_aload_n hx hb dX7_save_11 rfl (lv_at hl 0 rfl) ?_
  refine lv_iconst (v := iI 1) hx hb dX7_save_12 rfl ?_
  refine va_put (D := D) (ci := 9) (v := .int (iI 1)) (ty := .boolean) (C := RX7) (T := TX7) (N := 11) hx hb hts (fun w h => List.mem_cons_of_mem _ (List.mem_append_left _ (List.mem_append_left _ (List.mem_append_left _ (List.mem_append_left _ (List.mem_append_right _ h)))))) tyX7 tyX7_ok nmX7 hown hK hP hD hS 0 rfl rfl 7 (by decide) (hts (.fieldLink RX7 46 "MondayFactory" "hasSnapshot" "Z") (List.mem_of_getElem? (i := 3) rfl)) (fun _ h9 => h9) rfl (by decide +kernel) rfl rfl (Nat.le_of_ble_eq_true rfl) dX7_save_13 (fun H locs hP hD hS => ?_)
  have hP : va_P D vwCl (wFac k a0 (up2 S0 0 7 1) ++ (wPlant k (subA a0 1) S1 ++ wPlant k (subA a0 46) ((wCopy S2 S1)))) H := hP
  have hD : va_D A (wFac k a0 (up2 S0 0 7 1) ++ (wPlant k (subA a0 1) S1 ++ wPlant k (subA a0 46) ((wCopy S2 S1)))) := hD
  refine lv_aload_n hx hb dX7_save_16 rfl (lv_at hl 0 rfl) ?_
  refine va_get (D := D) (ci := 9) (v := .ref ((subA a0 1) 0)) (C := RX7) (T := TX7) (N := 11) hx hb hts (fun w h => List.mem_cons_of_mem _ (List.mem_append_left _ (List.mem_append_left _ (List.mem_append_left _ (List.mem_append_left _ (List.mem_append_right _ h)))))) hown hK hP 0 rfl rfl 0 (by decide) (hts (.fieldLink RX7 10 "MondayFactory" "plant" "LMondayFactory$Plant;") (List.mem_of_getElem? (i := 2) rfl)) (fun _ h9 => h9) rfl dX7_save_17 ?_
  refine z_ai0 (va_runV (As := []) (rest := []) ⟨hx, hb, hml, hown, hts⟩ (c_X5_carriers l D k ((subA a0 1)) S1   (by omega) (by omega) (by omega) _) (cwV 0 hts gX7_save_X5_carriers rfl rfl rfl (by decide +kernel) ⟨(Nat.le_of_ble_eq_true rfl), (Nat.le_of_ble_eq_true rfl)⟩) (z_preV hK hG hA hP hD hS (zrg 1 15) (z_sk (n := 1) (off := 0) (m := 15) rfl (z_hd (n := 15) rfl)) (by decide +kernel) 7 rfl rfl) rfl rfl hl.1 rfl (lv_room (Nat.le_of_ble_eq_true rfl)) dX7_save_20 ⟨(Nat.le_of_ble_eq_true rfl), (Nat.le_of_ble_eq_true rfl)⟩) hA hP hD hS (zrg 1 15) (z_sk (n := 1) (off := 0) (m := 15) rfl (z_hd (n := 15) rfl)) (fun H locs hP hS => ?_)
  have f_4 : -1000000000 ≤ S1 3 1 ∧ S1 3 1 ≤ 1000000000 := (pOK_b hp 3 (by decide)) 1
  have f_5 : -1000000000 ≤ S1 6 1 ∧ S1 6 1 ≤ 1000000000 := (pOK_b hp 6 (by decide)) 1
  have f_6 : -1000000000 ≤ S1 9 1 ∧ S1 9 1 ≤ 1000000000 := (pOK_b hp 9 (by decide)) 1
  exact z_iret hx hb hr hlocks hP hS dX7_save_23 rfl rfl (Nat.le_refl _) (Nat.le_refl _)
set_option maxHeartbeats 4000000 in
set_option maxRecDepth 100000 in
theorem c_X7_restore_ok (l : Launch) (D : va_G) (k : Nat → ClassId) (a0 : Nat → Nat) (S0 : Nat → Nat → Int) (S1 : Nat → Nat → Int) (S2 : Nat → Nat → Int) (S3 : Nat → Nat → Int) (h7 : S0 0 7 = 1) (hk3 : 0 ≤ S2 3 1 ∧ S2 3 1 ≤ 5) (hk6 : 0 ≤ S2 6 1 ∧ S2 6 1 ≤ 5) (hk9 : 0 ≤ S2 9 1 ∧ S2 9 1 ≤ 5) (hk11 : 0 ≤ S2 11 1 ∧ S2 11 1 ≤ 8) : zMi l yX7_restore wsX7_restore ({ frames := 4, cells := 0, slots := 0, locals := 104 } : Room) D k [.ref (a0 0)] (wFac k a0 S0 ++ (wPlant k (subA a0 1) S1 ++ (wPlant k (subA a0 46) S2 ++ wHist k (subA a0 61) S3))) ((((wCopy S1 S2)) 3) 1 + (((wCopy S1 S2)) 6) 1 + (((wCopy S1 S2)) 9) 1) (wFac k a0 S0 ++ (wPlant k (subA a0 1) ((wCopy S1 S2)) ++ (wPlant k (subA a0 46) S2 ++ wHist k (subA a0 61) (up2 S3 0 2 0)))) 0 0 := by
  refine zMi_of (cc := cX7_restore) (maxL := 1) (ret := (some .int)) (by decide) rfl (Nat.le_of_ble_eq_true rfl) ?_
  intro p e s m args below meth c A ls hx hb hr hml hown hts hlocks hK hP hD hG hA hS hl
  have hown : s.vm.findClass RX7 = some m.cls := hown
  have hl : lv_has ls 1 [(0, .ref (a0 0))] := hl
  obtain ⟨H, hH⟩ : ∃ z, z = s.heap := ⟨_, rfl⟩
  obtain ⟨locs, hlc⟩ : ∃ z : List Loc, z = [] := ⟨_, rfl⟩
  rw [← hH] at hP
  have hS : va_S A s.heap H locs := by rw [hH, hlc]; exact hS
  rw [← hlc, ← hH]
  clear hlc hH
  refine lv_aload_n hx hb dX7_restore_0 rfl (lv_at hl 0 rfl) ?_
  refine va_get (D := D) (ci := 9) (v := .int (iI (S0 0 7))) (C := RX7) (T := TX7) (N := 11) hx hb hts (fun w h => List.mem_cons_of_mem _ (List.mem_append_left _ (List.mem_append_left _ (List.mem_append_left _ (List.mem_append_left _ (List.mem_append_left _ (List.mem_append_left _ (List.mem_append_right _ h)))))))) hown hK hP 0 rfl rfl 7 (by decide) (hts (.fieldLink RX7 46 "MondayFactory" "hasSnapshot" "Z") (List.mem_of_getElem? (i := 3) rfl)) (fun _ h9 => h9) rfl dX7_restore_1 ?_
  refine zi_if_ne (tgt := 18) hx hb dX7_restore_4 (by decide) ⟨by omega, by omega⟩ (fun c_1 => ?_) (fun c_1 => ?_)
  · refine lv_aload_n hx hb dX7_restore_18 rfl (lv_at hl 0 rfl) ?_
    refine va_get (D := D) (ci := 9) (v := .ref ((subA a0 1) 0)) (C := RX7) (T := TX7) (N := 11) hx hb hts (fun w h => List.mem_cons_of_mem _ (List.mem_append_left _ (List.mem_append_left _ (List.mem_append_left _ (List.mem_append_left _ (List.mem_append_left _ (List.mem_append_left _ (List.mem_append_right _ h)))))))) hown hK hP 0 rfl rfl 0 (by decide) (hts (.fieldLink RX7 10 "MondayFactory" "plant" "LMondayFactory$Plant;") (List.mem_of_getElem? (i := 4) rfl)) (fun _ h9 => h9) rfl dX7_restore_19 ?_
    refine lv_aload_n hx hb dX7_restore_22 rfl (lv_at hl 0 rfl) ?_
    refine va_get (D := D) (ci := 9) (v := .ref ((subA a0 46) 0)) (C := RX7) (T := TX7) (N := 11) hx hb hts (fun w h => List.mem_cons_of_mem _ (List.mem_append_left _ (List.mem_append_left _ (List.mem_append_left _ (List.mem_append_left _ (List.mem_append_left _ (List.mem_append_left _ (List.mem_append_right _ h)))))))) hown hK hP 0 rfl rfl 3 (by decide) (hts (.fieldLink RX7 22 "MondayFactory" "snapshot" "LMondayFactory$Plant;") (List.mem_of_getElem? (i := 5) rfl)) (fun _ h9 => h9) rfl dX7_restore_23 ?_
    refine z_av (va_runV (As := [.ref ((subA a0 46) 0)]) (rest := []) ⟨hx, hb, hml, hown, hts⟩ (c_X5_copyW l D k ((subA a0 1)) S1 ((subA a0 46)) S2   (by omega) (by omega) (by omega) (by omega) _) (cwV 1 hts gX7_restore_X5_copyFrom rfl rfl rfl (by decide +kernel) ⟨(Nat.le_of_ble_eq_true rfl), (Nat.le_of_ble_eq_true rfl)⟩) (z_preV hK hG hA hP hD hS (zrg 1 15 ++ zrg 16 15) (z_mcat (z_sk (n := 1) (off := 0) (m := 15) rfl (z_hd (n := 15) rfl)) (z_sk (n := 1) (off := 15) (m := 15) rfl (z_sk (n := 15) (off := 0) (m := 15) rfl (z_hd (n := 15) rfl)))) (by decide +kernel) 7 rfl rfl) rfl rfl hl.1 rfl (lv_room (Nat.le_of_ble_eq_true rfl)) dX7_restore_26 ⟨(Nat.le_of_ble_eq_true rfl), (Nat.le_of_ble_eq_true rfl)⟩) hA hP hD hS (zrg 1 15 ++ zrg 16 15) (z_mcat (z_sk (n := 1) (off := 0) (m := 15) rfl (z_hd (n := 15) rfl)) (z_sk (n := 1) (off := 15) (m := 15) rfl (z_sk (n := 15) (off := 0) (m := 15) rfl (z_hd (n := 15) rfl)))) (z_mfst rfl rfl) (fun H locs hP hD hS => ?_)
    have hz_3 : zset (wFac k a0 S0 ++ (wPlant k (subA a0 1) S1 ++ (wPlant k (subA a0 46) S2 ++ wHist k (subA a0 61) S3))) (zrg 1 15) (wPlant k (subA a0 1) ((wCopy S1 S2))) = wFac k a0 S0 ++ (wPlant k (subA a0 1) ((wCopy S1 S2)) ++ (wPlant k (subA a0 46) S2 ++ wHist k (subA a0 61) S3)) := (z_zsk (n := 1) (off := 0) (m := 15) rfl (z_zhd (n := 15) rfl rfl))
    have hz_4 : zset (wFac k a0 S0 ++ (wPlant k (subA a0 1) ((wCopy S1 S2)) ++ (wPlant k (subA a0 46) S2 ++ wHist k (subA a0 61) S3))) (zrg 16 15) (wPlant k (subA a0 46) S2) = wFac k a0 S0 ++ (wPlant k (subA a0 1) ((wCopy S1 S2)) ++ (wPlant k (subA a0 46) S2 ++ wHist k (subA a0 61) S3)) := (z_zsk (n := 1) (off := 15) (m := 15) rfl (z_zsk (n := 15) (off := 0) (m := 15) rfl (z_zhd (n := 15) rfl rfl)))
    have hE_2 : zset (wFac k a0 S0 ++ (wPlant k (subA a0 1) S1 ++ (wPlant k (subA a0 46) S2 ++ wHist k (subA a0 61) S3))) (zrg 1 15 ++ zrg 16 15) (wPlant k (subA a0 1) ((wCopy S1 S2)) ++ wPlant k (subA a0 46) S2) = wFac k a0 S0 ++ (wPlant k (subA a0 1) ((wCopy S1 S2)) ++ (wPlant k (subA a0 46) S2 ++ wHist k (subA a0 61) S3)) := (z_zcat rfl hz_3 hz_4)
    have hP : va_P D vwCl (wFac k a0 S0 ++ (wPlant k (subA a0 1) ((wCopy S1 S2)) ++ (wPlant k (subA a0 46) S2 ++ wHist k (subA a0 61) S3))) H := z_to hE_2 hP
    have hD : va_D A (wFac k a0 S0 ++ (wPlant k (subA a0 1) ((wCopy S1 S2)) ++ (wPlant k (subA a0 46) S2 ++ wHist k (subA a0 61) S3))) := z_to2 hE_2 hD
    refine lv_aload_n hx hb dX7_restore_29 rfl (lv_at hl 0 rfl) ?_
    refine va_get (D := D) (ci := 9) (v := .ref ((subA a0 61) 0)) (C := RX7) (T := TX7) (N := 11) hx hb hts (fun w h => List.mem_cons_of_mem _ (List.mem_append_left _ (List.mem_append_left _ (List.mem_append_left _ (List.mem_append_left _ (List.mem_append_left _ (List.mem_append_left _ (List.mem_append_right _ h)))))))) hown hK hP 0 rfl rfl 4 (by decide) (hts (.fieldLink RX7 28 "MondayFactory" "history" "LMondayFactory$History;") (List.mem_of_getElem? (i := 6) rfl)) (fun _ h9 => h9) rfl dX7_restore_30 ?_
    refine lv_iconst (v := iI 0) hx hb dX7_restore_33 rfl ?_
    refine va_put (D := D) (ci := 4) (v := .int (iI 0)) (ty := .int) (C := RX2) (T := TX2) (N := 3) hx hb hts (fun w h => List.mem_cons_of_mem _ (List.mem_append_left _ (List.mem_append_left _ (List.mem_append_left _ (List.mem_append_left _ (List.mem_append_left _ (List.mem_append_right _ h))))))) tyX2 tyX2_ok nmX2 hown hK hP hD hS 31 rfl rfl 2 (by decide) (hts (.fieldLink RX7 267 "MondayFactory$History" "count" "I") (List.mem_of_getElem? (i := 7) rfl)) (fun _ h9 => h9) rfl (by decide +kernel) rfl rfl (Nat.le_of_ble_eq_true rfl) dX7_restore_34 (fun H locs hP hD hS => ?_)
    have hP : va_P D vwCl (wFac k a0 S0 ++ (wPlant k (subA a0 1) ((wCopy S1 S2)) ++ (wPlant k (subA a0 46) S2 ++ wHist k (subA a0 61) (up2 S3 0 2 0)))) H := hP
    have hD : va_D A (wFac k a0 S0 ++ (wPlant k (subA a0 1) ((wCopy S1 S2)) ++ (wPlant k (subA a0 46) S2 ++ wHist k (subA a0 61) (up2 S3 0 2 0)))) := hD
    have wc : wCopy S1 S2 3 1 = S2 3 1 ∧ wCopy S1 S2 6 1 = S2 6 1 ∧ wCopy S1 S2 9 1 = S2 9 1 := ⟨rfl, rfl, rfl⟩
    refine lv_aload_n hx hb dX7_restore_37 rfl (lv_at hl 0 rfl) ?_
    refine va_get (D := D) (ci := 9) (v := .ref ((subA a0 1) 0)) (C := RX7) (T := TX7) (N := 11) hx hb hts (fun w h => List.mem_cons_of_mem _ (List.mem_append_left _ (List.mem_append_left _ (List.mem_append_left _ (List.mem_append_left _ (List.mem_append_left _ (List.mem_append_left _ (List.mem_append_right _ h)))))))) hown hK hP 0 rfl rfl 0 (by decide) (hts (.fieldLink RX7 10 "MondayFactory" "plant" "LMondayFactory$Plant;") (List.mem_of_getElem? (i := 4) rfl)) (fun _ h9 => h9) rfl dX7_restore_38 ?_
    refine z_ai0 (va_runV (As := []) (rest := []) ⟨hx, hb, hml, hown, hts⟩ (c_X5_carriers l D k ((subA a0 1)) ((wCopy S1 S2))   (by omega) (by omega) (by omega) _) (cwV 0 hts gX7_restore_X5_carriers rfl rfl rfl (by decide +kernel) ⟨(Nat.le_of_ble_eq_true rfl), (Nat.le_of_ble_eq_true rfl)⟩) (z_preV hK hG hA hP hD hS (zrg 1 15) (z_sk (n := 1) (off := 0) (m := 15) rfl (z_hd (n := 15) rfl)) (by decide +kernel) 7 rfl rfl) rfl rfl hl.1 rfl (lv_room (Nat.le_of_ble_eq_true rfl)) dX7_restore_41 ⟨(Nat.le_of_ble_eq_true rfl), (Nat.le_of_ble_eq_true rfl)⟩) hA hP hD hS (zrg 1 15) (z_sk (n := 1) (off := 0) (m := 15) rfl (z_hd (n := 15) rfl)) (fun H locs hP hS => ?_)
    exact z_iret hx hb hr hlocks hP hS dX7_restore_44 rfl rfl (Nat.le_refl _) (Nat.le_refl _)
  · exfalso; omega
set_option maxHeartbeats 4000000 in
set_option maxRecDepth 100000 in
theorem c_X7_restore_x (l : Launch) (hst : l.stackTraces = false) (D : va_G) (k : Nat → ClassId) (a0 : Nat → Nat) (S0 : Nat → Nat → Int) (h7 : S0 0 7 = 0) : zMx l yX7_restore wsX7_restore ({ frames := 6, cells := 1, slots := 6, locals := 82 } : Room) D k [.ref (a0 0)] (wFac k a0 S0) "java/lang/IllegalStateException" (wFac k a0 S0) 1 6 := by
  refine zMx_of (cc := cX7_restore) (maxL := 1) (ret := (some .int)) (by decide) rfl (Nat.le_of_ble_eq_true rfl) ?_
  intro p e s m args below meth c A ls hx hb hr hml hown hts hlocks hK hP hD hG hE ht hA hS hl
  have hown : s.vm.findClass RX7 = some m.cls := hown
  have hl : lv_has ls 1 [(0, .ref (a0 0))] := hl
  obtain ⟨H, hH⟩ : ∃ z, z = s.heap := ⟨_, rfl⟩
  obtain ⟨locs, hlc⟩ : ∃ z : List Loc, z = [] := ⟨_, rfl⟩
  rw [← hH] at hP
  have hS : va_S A s.heap H locs := by rw [hH, hlc]; exact hS
  rw [← hlc, ← hH]
  clear hlc hH
  refine lv_aload_n hx hb dX7_restore_0 rfl (lv_at hl 0 rfl) ?_
  refine va_get (D := D) (ci := 9) (v := .int (iI (S0 0 7))) (C := RX7) (T := TX7) (N := 11) hx hb hts (fun w h => List.mem_cons_of_mem _ (List.mem_append_left _ (List.mem_append_left _ (List.mem_append_left _ (List.mem_append_left _ (List.mem_append_left _ (List.mem_append_left _ (List.mem_append_right _ h)))))))) hown hK hP 0 rfl rfl 7 (by decide) (hts (.fieldLink RX7 46 "MondayFactory" "hasSnapshot" "Z") (List.mem_of_getElem? (i := 3) rfl)) (fun _ h9 => h9) rfl dX7_restore_1 ?_
  refine zi_if_ne (tgt := 18) hx hb dX7_restore_4 (by decide) ⟨by omega, by omega⟩ (fun c_1 => absurd c_1 (by omega)) (fun _ => ?_)
  exact z_thrW (cls := "java/lang/IllegalStateException") hx hb hst hown zXf_ista zXm_ista (hts (.classLink RX7 235 "java/lang/IllegalStateException") (List.mem_of_getElem? (i := 1) rfl)) (hts (.initialized "java/lang/IllegalStateException") (List.mem_of_getElem? (i := 2) rfl)) (show (309, "there is no snapshot") ∈ zStrs by decide +kernel) hG hE (fun w h => hts w ((fun w h => List.mem_cons_of_mem _ (List.mem_append_right _ h)) w h)) zXn_ista zXg_ista hS (hl.1.trans hml.symm) dX7_restore_7 dX7_restore_10 dX7_restore_11 dX7_restore_14 dX7_restore_17 ht (Nat.le_of_ble_eq_true rfl) (Nat.le_of_ble_eq_true rfl) (Nat.le_of_ble_eq_true rfl) (Nat.le_of_ble_eq_true rfl) hlocks (z_to (Eq.symm rfl) hP) (Nat.le_of_ble_eq_true rfl) (Nat.le_of_ble_eq_true rfl)
