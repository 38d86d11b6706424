set_option maxHeartbeats 4000000 in
set_option maxRecDepth 100000 in
theorem c_X6_init (l : Launch) (D : va_G) (k : Nat → ClassId) : zMc l yX6_init wsX6_init ({ frames := 1, cells := 1, slots := 32, locals := 12 } : Room) D k (.inr (8, [.null, .int (iI 0)]) : va_E) (fun a => wRow k a iZ) 1 32 := by
  refine zMc_of (cc := cX6_init) (maxL := 1) (ret := none) (by decide) rfl (Nat.le_of_ble_eq_true rfl) rfl ?_
  intro h0 p e s m args below meth c A ls hx hb hr hml hown hts hlocks hin hK hP hD hG hC hA hS hl
  have hown : s.vm.findClass RX6 = some m.cls := hown
  obtain ⟨H, hH⟩ : ∃ z, z = s.heap := ⟨_, rfl⟩
  obtain ⟨locs, hlc⟩ : ∃ z : List Loc, z = [] := ⟨_, rfl⟩
  rw [← hH] at hP
  have hS : va_S A s.heap H locs := by rw [hH, hlc]; exact hS
  rw [← hlc, ← hH]
  clear hlc hH
  refine lv_aload_n hx hb dX6_init_0 rfl (lv_at hl 0 rfl) ?_
  refine W.objInit hx hb hown (hts (.methodLink RX6 3 objectInit) (List.mem_of_getElem? (i := 1) rfl)) (hts (.instanceMethod objectInit) (List.mem_of_getElem? (i := 2) rfl)) (hts (.code objectInit ⟨#[0xb1]⟩ 1 none) (List.mem_of_getElem? (i := 3) rfl)) rfl (by rw [hml]; exact hl.1) rfl dX6_init_1 (Nat.le_of_ble_eq_true rfl) (Nat.le_of_ble_eq_true rfl) ?_
  refine W.eq (g2 := F0 m 4 ls []) rfl ?_
  refine lv_aload_n hx hb dX6_init_4 rfl (lv_at hl 0 rfl) ?_
  refine lv_bipush (v := iI 32) hx hb dX6_init_5 rfl ?_
  refine va_newa (atype := .int) (ty := .int) (N' := 32) (a0 := (32, .inl (fun _ => iI 0))) hx hb (hts (.arrayClass .int) (List.mem_of_getElem? (i := 4) rfl)) rfl hK hP hD hS hA (fun _ => rfl) (by decide +kernel) (by decide +kernel) (by decide) (Nat.le_of_ble_eq_true rfl) (Nat.le_of_ble_eq_true rfl) dX6_init_7 (fun q1 cA H hK2 hP hD hS => ?_)
  have eA := zK_eq hK2 0 rfl
  subst eA
  clear hK2
  have hP : va_P D vwCl (([(h0, .inr (8, [.null, .int (iI 0)]))] ++ [(q1, .inl (k 0, 32, .inl (fun _ => iI 0)))])) H := hP
  have hD : va_D A (([(h0, .inr (8, [.null, .int (iI 0)]))] ++ [(q1, .inl (k 0, 32, .inl (fun _ => iI 0)))])) := hD
  refine va_putF (D := D) (ci := 8) (v := .ref q1) (ty := .array .int) (C := RX6) (T := TX6) (N := 2) hx hb hts (fun w h => List.mem_cons_of_mem _ (List.mem_append_right _ h)) tyX6 tyX6_ok nmX6 hown hK hP hD hS 0 rfl rfl 0 (by decide) (hts (.fieldLink RX6 9 "MondayFactory$Row" "numbers" "[I") (List.mem_of_getElem? (i := 5) rfl)) (fun _ h9 => h9) rfl hin rfl (by decide +kernel) rfl rfl (Nat.le_of_ble_eq_true rfl) dX6_init_9 (fun H locs hP hD hS => ?_)
  have hP : va_P D vwCl (([(h0, .inr (8, [.ref q1, .int (iI 0)]))] ++ [(q1, .inl (k 0, 32, .inl (fun _ => iI 0)))])) H := hP
  have hD : va_D A (([(h0, .inr (8, [.ref q1, .int (iI 0)]))] ++ [(q1, .inl (k 0, 32, .inl (fun _ => iI 0)))])) := hD
  refine lv_aload_n hx hb dX6_init_12 rfl (lv_at hl 0 rfl) ?_
  refine lv_iconst (v := iI 0) hx hb dX6_init_13 rfl ?_
  refine va_put (D := D) (ci := 8) (v := .int (iI 0)) (ty := .int) (C := RX6) (T := TX6) (N := 2) hx hb hts (fun w h => List.mem_cons_of_mem _ (List.mem_append_right _ h)) tyX6 tyX6_ok nmX6 hown hK hP hD hS 0 rfl rfl 1 (by decide) (hts (.fieldLink RX6 15 "MondayFactory$Row" "count" "I") (List.mem_of_getElem? (i := 6) rfl)) (fun _ h9 => h9) rfl (by decide +kernel) rfl rfl (Nat.le_of_ble_eq_true rfl) dX6_init_14 (fun H locs hP hD hS => ?_)
  have hP : va_P D vwCl (([(h0, .inr (8, [.ref q1, .int (iI 0)]))] ++ [(q1, .inl (k 0, 32, .inl (fun _ => iI 0)))])) H := hP
  have hD : va_D A (([(h0, .inr (8, [.ref q1, .int (iI 0)]))] ++ [(q1, .inl (k 0, 32, .inl (fun _ => iI 0)))])) := hD
  exact z_cret hx hb hr hlocks hS dX6_init_17 (fun i => [h0, q1].getD i 0) rfl hP hD (Nat.le_of_ble_eq_true rfl) (Nat.le_of_ble_eq_true rfl)
set_option maxHeartbeats 4000000 in
set_option maxRecDepth 100000 in
theorem c_X1_init (l : Launch) (D : va_G) (k : Nat → ClassId) : zMc l yX1_init wsX1_init ({ frames := 1, cells := 1, slots := 4, locals := 12 } : Room) D k (.inr (3, [.null, .int (iI 0)]) : va_E) (fun a => wCrew k a iZ) 1 4 := by
  refine zMc_of (cc := cX1_init) (maxL := 1) (ret := none) (by decide) rfl (Nat.le_of_ble_eq_true rfl) rfl ?_
  intro h0 p e s m args below meth c A ls hx hb hr hml hown hts hlocks hin hK hP hD hG hC hA hS hl
  have hown : s.vm.findClass RX1 = some m.cls := hown
  obtain ⟨H, hH⟩ : ∃ z, z = s.heap := ⟨_, rfl⟩
  obtain ⟨locs, hlc⟩ : ∃ z : List Loc, z = [] := ⟨_, rfl⟩
  rw [← hH] at hP
  have hS : va_S A s.heap H locs := by rw [hH, hlc]; exact hS
  rw [← hlc, ← hH]
  clear hlc hH
  refine lv_aload_n hx hb dX1_init_0 rfl (lv_at hl 0 rfl) ?_
  refine W.objInit hx hb hown (hts (.methodLink RX1 3 objectInit) (List.mem_of_getElem? (i := 1) rfl)) (hts (.instanceMethod objectInit) (List.mem_of_getElem? (i := 2) rfl)) (hts (.code objectInit ⟨#[0xb1]⟩ 1 none) (List.mem_of_getElem? (i := 3) rfl)) rfl (by rw [hml]; exact hl.1) rfl dX1_init_1 (Nat.le_of_ble_eq_true rfl) (Nat.le_of_ble_eq_true rfl) ?_
  refine W.eq (g2 := F0 m 4 ls []) rfl ?_
  refine lv_aload_n hx hb dX1_init_4 rfl (lv_at hl 0 rfl) ?_
  refine lv_iconst (v := iI 4) hx hb dX1_init_5 rfl ?_
  refine va_newa (atype := .int) (ty := .int) (N' := 4) (a0 := (4, .inl (fun _ => iI 0))) hx hb (hts (.arrayClass .int) (List.mem_of_getElem? (i := 4) rfl)) rfl hK hP hD hS hA (fun _ => rfl) (by decide +kernel) (by decide +kernel) (by decide) (Nat.le_of_ble_eq_true rfl) (Nat.le_of_ble_eq_true rfl) dX1_init_6 (fun q1 cA H hK2 hP hD hS => ?_)
  have eA := zK_eq hK2 0 rfl
  subst eA
  clear hK2
  have hP : va_P D vwCl (([(h0, .inr (3, [.null, .int (iI 0)]))] ++ [(q1, .inl (k 0, 4, .inl (fun _ => iI 0)))])) H := hP
  have hD : va_D A (([(h0, .inr (3, [.null, .int (iI 0)]))] ++ [(q1, .inl (k 0, 4, .inl (fun _ => iI 0)))])) := hD
  refine va_putF (D := D) (ci := 3) (v := .ref q1) (ty := .array .int) (C := RX1) (T := TX1) (N := 2) hx hb hts (fun w h => List.mem_cons_of_mem _ (List.mem_append_right _ h)) tyX1 tyX1_ok nmX1 hown hK hP hD hS 0 rfl rfl 0 (by decide) (hts (.fieldLink RX1 9 "MondayFactory$Crew" "yawns" "[I") (List.mem_of_getElem? (i := 5) rfl)) (fun _ h9 => h9) rfl hin rfl (by decide +kernel) rfl rfl (Nat.le_of_ble_eq_true rfl) dX1_init_8 (fun H locs hP hD hS => ?_)
  have hP : va_P D vwCl (([(h0, .inr (3, [.ref q1, .int (iI 0)]))] ++ [(q1, .inl (k 0, 4, .inl (fun _ => iI 0)))])) H := hP
  have hD : va_D A (([(h0, .inr (3, [.ref q1, .int (iI 0)]))] ++ [(q1, .inl (k 0, 4, .inl (fun _ => iI 0)))])) := hD
  refine lv_aload_n hx hb dX1_init_11 rfl (lv_at hl 0 rfl) ?_
  refine lv_iconst (v := iI 0) hx hb dX1_init_12 rfl ?_
  refine va_put (D := D) (ci := 3) (v := .int (iI 0)) (ty := .int) (C := RX1) (T := TX1) (N := 2) hx hb hts (fun w h => List.mem_cons_of_mem _ (List.mem_append_right _ h)) tyX1 tyX1_ok nmX1 hown hK hP hD hS 0 rfl rfl 1 (by decide) (hts (.fieldLink RX1 15 "MondayFactory$Crew" "count" "I") (List.mem_of_getElem? (i := 6) rfl)) (fun _ h9 => h9) rfl (by decide +kernel) rfl rfl (Nat.le_of_ble_eq_true rfl) dX1_init_13 (fun H locs hP hD hS => ?_)
  have hP : va_P D vwCl (([(h0, .inr (3, [.ref q1, .int (iI 0)]))] ++ [(q1, .inl (k 0, 4, .inl (fun _ => iI 0)))])) H := hP
  have hD : va_D A (([(h0, .inr (3, [.ref q1, .int (iI 0)]))] ++ [(q1, .inl (k 0, 4, .inl (fun _ => iI 0)))])) := hD
  exact z_cret hx hb hr hlocks hS dX1_init_16 (fun i => [h0, q1].getD i 0) rfl hP hD (Nat.le_of_ble_eq_true rfl) (Nat.le_of_ble_eq_true rfl)
set_option maxHeartbeats 4000000 in
set_option maxRecDepth 100000 in
theorem c_X0_init (l : Launch) (D : va_G) (k : Nat → ClassId) : zMc l yX0_init wsX0_init ({ frames := 2, cells := 2, slots := 34, locals := 32 } : Room) D k (.inr (2, [.null, .int (iI 0), .int (iI 0), .int (iI 0), .int (iI 0), .int (iI 0)]) : va_E) (fun a => wBelt k a iB) 2 34 := by
  refine zMc_of (cc := cX0_init) (maxL := 1) (ret := none) (by decide) rfl (Nat.le_of_ble_eq_true rfl) rfl ?_
  intro h0 p e s m args below meth c A ls hx hb hr hml hown hts hlocks hin hK hP hD hG hC hA hS hl
  have hown : s.vm.findClass RX0 = some m.cls := hown
  obtain ⟨H, hH⟩ : ∃ z, z = s.heap := ⟨_, rfl⟩
  obtain ⟨locs, hlc⟩ : ∃ z : List Loc, z = [] := ⟨_, rfl⟩
  rw [← hH] at hP
  have hS : va_S A s.heap H locs := by rw [hH, hlc]; exact hS
  rw [← hlc, ← hH]
  clear hlc hH
  refine lv_aload_n hx hb dX0_init_0 rfl (lv_at hl 0 rfl) ?_
  refine W.objInit hx hb hown (hts (.methodLink RX0 3 objectInit) (List.mem_of_getElem? (i := 1) rfl)) (hts (.instanceMethod objectInit) (List.mem_of_getElem? (i := 2) rfl)) (hts (.code objectInit ⟨#[0xb1]⟩ 1 none) (List.mem_of_getElem? (i := 3) rfl)) rfl (by rw [hml]; exact hl.1) rfl dX0_init_1 (Nat.le_of_ble_eq_true rfl) (Nat.le_of_ble_eq_true rfl) ?_
  refine W.eq (g2 := F0 m 4 ls []) rfl ?_
  refine lv_aload_n hx hb dX0_init_4 rfl (lv_at hl 0 rfl) ?_
  refine va_new (ci := 8) (fs := [.null, .int (iI 0)]) (C := RX6) (T := TX6) (N := 2) hx hb hts (fun w h => List.mem_cons_of_mem _ (List.mem_append_left _ (List.mem_append_right _ h))) tyX6 tyX6_ok hown (hts (.classLink RX0 9 RX6) (List.mem_of_getElem? (i := 4) rfl)) (hts (.instantiable RX6 2) (List.mem_of_getElem? (i := 5) rfl)) (hts (.initialized RX6) (List.mem_of_getElem? (i := 6) rfl)) hK hP hD hS hA rfl (fun j hj => by rcases (show j = 0 ∨ j = 1 by omega) with rfl | rfl <;> rfl) (Nat.le_of_ble_eq_true rfl) (Nat.le_of_ble_eq_true rfl) dX0_init_5 (fun q1 H hP hD hS => ?_)
  have hP : va_P D vwCl (([(h0, .inr (2, [.null, .int (iI 0), .int (iI 0), .int (iI 0), .int (iI 0), .int (iI 0)]))] ++ [(q1, .inr (8, [.null, .int (iI 0)]))])) H := hP
  have hD : va_D A (([(h0, .inr (2, [.null, .int (iI 0), .int (iI 0), .int (iI 0), .int (iI 0), .int (iI 0)]))] ++ [(q1, .inr (8, [.null, .int (iI 0)]))])) := hD
  refine lv_dup hx hb dX0_init_8 rfl ?_
  refine z_acv (wr := [(h0, .inr (2, [.null, .int (iI 0), .int (iI 0), .int (iI 0), .int (iI 0), .int (iI 0)]))]) (q := q1) (va_runIN (As := []) (rest := [.ref q1, .ref h0]) ⟨hx, hb, hml, hown, hts⟩ (c_X6_init l D k q1 _) ⟨va_cnB 0 hts gX0_init_X6_init_n11 rfl rfl rfl (hG.2.2.1 (RX0, 11, yX6_init, RX7) (by decide +kernel)) (hts (.initialized RX6) (List.mem_of_getElem? (i := 6) rfl)) (by decide +kernel) ⟨(Nat.le_of_ble_eq_true rfl), (Nat.le_of_ble_eq_true rfl)⟩, rfl, (hts (.instanceMethod yX6_init) (List.mem_of_getElem? (i := 13) rfl))⟩ (z_preC (wr := [(h0, .inr (2, [.null, .int (iI 0), .int (iI 0), .int (iI 0), .int (iI 0), .int (iI 0)]))]) hK hG hC hA hP hD hS) rfl rfl hl.1 rfl (lv_room (Nat.le_of_ble_eq_true rfl)) dX0_init_9 ⟨(Nat.le_of_ble_eq_true rfl), (Nat.le_of_ble_eq_true rfl)⟩) hA hP hD hS (fun b2 H2 locs2 ha hP2 hD2 hS2 => ?_)
  clear hP hD hS
  subst ha
  have hP := hP2
  have hD := hD2
  have hS := hS2
  clear hP2 hD2 hS2
  generalize H2 = H at hP hS ⊢
  generalize locs2 = locs at hS ⊢
  have hP : va_P D vwCl (([(h0, .inr (2, [.null, .int (iI 0), .int (iI 0), .int (iI 0), .int (iI 0), .int (iI 0)]))] ++ (wRow k b2 iZ))) H := hP
  have hD : va_D A (([(h0, .inr (2, [.null, .int (iI 0), .int (iI 0), .int (iI 0), .int (iI 0), .int (iI 0)]))] ++ (wRow k b2 iZ))) := hD
  refine va_putF (D := D) (ci := 2) (v := .ref (b2 0)) (ty := .object "MondayFactory$Row") (C := RX0) (T := TX0) (N := 6) hx hb hts (fun w h => List.mem_cons_of_mem _ (List.mem_append_right _ h)) tyX0 tyX0_ok nmX0 hown hK hP hD hS 0 rfl rfl 0 (by decide) (hts (.fieldLink RX0 12 "MondayFactory$Belt" "row" "LMondayFactory$Row;") (List.mem_of_getElem? (i := 7) rfl)) (fun _ h9 => h9) rfl hin rfl (by decide +kernel) rfl rfl (Nat.le_of_ble_eq_true rfl) dX0_init_12 (fun H locs hP hD hS => ?_)
  have hP : va_P D vwCl (([(h0, .inr (2, [.ref (b2 0), .int (iI 0), .int (iI 0), .int (iI 0), .int (iI 0), .int (iI 0)]))] ++ (wRow k b2 iZ))) H := hP
  have hD : va_D A (([(h0, .inr (2, [.ref (b2 0), .int (iI 0), .int (iI 0), .int (iI 0), .int (iI 0), .int (iI 0)]))] ++ (wRow k b2 iZ))) := hD
  refine lv_aload_n hx hb dX0_init_15 rfl (lv_at hl 0 rfl) ?_
  refine lv_iconst (v := iI 5) hx hb dX0_init_16 rfl ?_
  refine va_put (D := D) (ci := 2) (v := .int (iI 5)) (ty := .int) (C := RX0) (T := TX0) (N := 6) hx hb hts (fun w h => List.mem_cons_of_mem _ (List.mem_append_right _ h)) tyX0 tyX0_ok nmX0 hown hK hP hD hS 0 rfl rfl 1 (by decide) (hts (.fieldLink RX0 18 "MondayFactory$Belt" "least" "I") (List.mem_of_getElem? (i := 8) rfl)) (fun _ h9 => h9) rfl (by decide +kernel) rfl rfl (Nat.le_of_ble_eq_true rfl) dX0_init_17 (fun H locs hP hD hS => ?_)
  have hP : va_P D vwCl (([(h0, .inr (2, [.ref (b2 0), .int (iI 5), .int (iI 0), .int (iI 0), .int (iI 0), .int (iI 0)]))] ++ (wRow k b2 iZ))) H := hP
  have hD : va_D A (([(h0, .inr (2, [.ref (b2 0), .int (iI 5), .int (iI 0), .int (iI 0), .int (iI 0), .int (iI 0)]))] ++ (wRow k b2 iZ))) := hD
  refine lv_aload_n hx hb dX0_init_20 rfl (lv_at hl 0 rfl) ?_
  refine lv_bipush (v := iI 7) hx hb dX0_init_21 rfl ?_
  refine va_put (D := D) (ci := 2) (v := .int (iI 7)) (ty := .int) (C := RX0) (T := TX0) (N := 6) hx hb hts (fun w h => List.mem_cons_of_mem _ (List.mem_append_right _ h)) tyX0 tyX0_ok nmX0 hown hK hP hD hS 0 rfl rfl 2 (by decide) (hts (.fieldLink RX0 22 "MondayFactory$Belt" "latest" "I") (List.mem_of_getElem? (i := 9) rfl)) (fun _ h9 => h9) rfl (by decide +kernel) rfl rfl (Nat.le_of_ble_eq_true rfl) dX0_init_23 (fun H locs hP hD hS => ?_)
  have hP : va_P D vwCl (([(h0, .inr (2, [.ref (b2 0), .int (iI 5), .int (iI 7), .int (iI 0), .int (iI 0), .int (iI 0)]))] ++ (wRow k b2 iZ))) H := hP
  have hD : va_D A (([(h0, .inr (2, [.ref (b2 0), .int (iI 5), .int (iI 7), .int (iI 0), .int (iI 0), .int (iI 0)]))] ++ (wRow k b2 iZ))) := hD
  refine lv_aload_n hx hb dX0_init_26 rfl (lv_at hl 0 rfl) ?_
  refine lv_iconst (v := iI (-1)) hx hb dX0_init_27 rfl ?_
  refine va_put (D := D) (ci := 2) (v := .int (iI (-1))) (ty := .int) (C := RX0) (T := TX0) (N := 6) hx hb hts (fun w h => List.mem_cons_of_mem _ (List.mem_append_right _ h)) tyX0 tyX0_ok nmX0 hown hK hP hD hS 0 rfl rfl 3 (by decide) (hts (.fieldLink RX0 25 "MondayFactory$Belt" "last" "I") (List.mem_of_getElem? (i := 10) rfl)) (fun _ h9 => h9) rfl (by decide +kernel) rfl rfl (Nat.le_of_ble_eq_true rfl) dX0_init_28 (fun H locs hP hD hS => ?_)
  have hP : va_P D vwCl (([(h0, .inr (2, [.ref (b2 0), .int (iI 5), .int (iI 7), .int (iI (-1)), .int (iI 0), .int (iI 0)]))] ++ (wRow k b2 iZ))) H := hP
  have hD : va_D A (([(h0, .inr (2, [.ref (b2 0), .int (iI 5), .int (iI 7), .int (iI (-1)), .int (iI 0), .int (iI 0)]))] ++ (wRow k b2 iZ))) := hD
  refine lv_aload_n hx hb dX0_init_31 rfl (lv_at hl 0 rfl) ?_
  refine lv_iconst (v := iI 0) hx hb dX0_init_32 rfl ?_
  refine va_put (D := D) (ci := 2) (v := .int (iI 0)) (ty := .int) (C := RX0) (T := TX0) (N := 6) hx hb hts (fun w h => List.mem_cons_of_mem _ (List.mem_append_right _ h)) tyX0 tyX0_ok nmX0 hown hK hP hD hS 0 rfl rfl 4 (by decide) (hts (.fieldLink RX0 28 "MondayFactory$Belt" "inspected" "I") (List.mem_of_getElem? (i := 11) rfl)) (fun _ h9 => h9) rfl (by decide +kernel) rfl rfl (Nat.le_of_ble_eq_true rfl) dX0_init_33 (fun H locs hP hD hS => ?_)
  have hP : va_P D vwCl (([(h0, .inr (2, [.ref (b2 0), .int (iI 5), .int (iI 7), .int (iI (-1)), .int (iI 0), .int (iI 0)]))] ++ (wRow k b2 iZ))) H := hP
  have hD : va_D A (([(h0, .inr (2, [.ref (b2 0), .int (iI 5), .int (iI 7), .int (iI (-1)), .int (iI 0), .int (iI 0)]))] ++ (wRow k b2 iZ))) := hD
  refine lv_aload_n hx hb dX0_init_36 rfl (lv_at hl 0 rfl) ?_
  refine lv_iconst (v := iI 0) hx hb dX0_init_37 rfl ?_
  refine va_put (D := D) (ci := 2) (v := .int (iI 0)) (ty := .int) (C := RX0) (T := TX0) (N := 6) hx hb hts (fun w h => List.mem_cons_of_mem _ (List.mem_append_right _ h)) tyX0 tyX0_ok nmX0 hown hK hP hD hS 0 rfl rfl 5 (by decide) (hts (.fieldLink RX0 31 "MondayFactory$Belt" "stamped" "I") (List.mem_of_getElem? (i := 12) rfl)) (fun _ h9 => h9) rfl (by decide +kernel) rfl rfl (Nat.le_of_ble_eq_true rfl) dX0_init_38 (fun H locs hP hD hS => ?_)
  have hP : va_P D vwCl (([(h0, .inr (2, [.ref (b2 0), .int (iI 5), .int (iI 7), .int (iI (-1)), .int (iI 0), .int (iI 0)]))] ++ (wRow k b2 iZ))) H := hP
  have hD : va_D A (([(h0, .inr (2, [.ref (b2 0), .int (iI 5), .int (iI 7), .int (iI (-1)), .int (iI 0), .int (iI 0)]))] ++ (wRow k b2 iZ))) := hD
  exact z_cret hx hb hr hlocks hS dX0_init_41 (zsel 1 (fun _ => h0) b2) rfl hP hD (Nat.le_of_ble_eq_true rfl) (Nat.le_of_ble_eq_true rfl)
set_option maxHeartbeats 4000000 in
set_option maxRecDepth 100000 in
theorem c_X5_init (l : Launch) (D : va_G) (k : Nat → ClassId) : zMc l yX5_init wsX5_init ({ frames := 3, cells := 14, slots := 163, locals := 52 } : Room) D k (.inr (7, [.null, .null, .null, .int (iI 0), .int (iI 0), .int (iI 0), .int (iI 0), .int (iI 0), .int (iI 0), .int (iI 0), .int (iI 0)]) : va_E) (fun a => wPlant k a iPl) 14 163 := by
  refine zMc_of (cc := cX5_init) (maxL := 1) (ret := none) (by decide) rfl (Nat.le_of_ble_eq_true rfl) rfl ?_
  intro h0 p e s m args below meth c A ls hx hb hr hml hown hts hlocks hin hK hP hD hG hC hA hS hl
  have hown : s.vm.findClass RX5 = some m.cls := hown
  obtain ⟨H, hH⟩ : ∃ z, z = s.heap := ⟨_, rfl⟩
  obtain ⟨locs, hlc⟩ : ∃ z : List Loc, z = [] := ⟨_, rfl⟩
  rw [← hH] at hP
  have hS : va_S A s.heap H locs := by rw [hH, hlc]; exact hS
  rw [← hlc, ← hH]
  clear hlc hH
  refine lv_aload_n hx hb dX5_init_0 rfl (lv_at hl 0 rfl) ?_
  refine W.objInit hx hb hown (hts (.methodLink RX5 3 objectInit) (List.mem_of_getElem? (i := 1) rfl)) (hts (.instanceMethod objectInit) (List.mem_of_getElem? (i := 2) rfl)) (hts (.code objectInit ⟨#[0xb1]⟩ 1 none) (List.mem_of_getElem? (i := 3) rfl)) rfl (by rw [hml]; exact hl.1) rfl dX5_init_1 (Nat.le_of_ble_eq_true rfl) (Nat.le_of_ble_eq_true rfl) ?_
  refine W.eq (g2 := F0 m 4 ls []) rfl ?_
  refine lv_aload_n hx hb dX5_init_4 rfl (lv_at hl 0 rfl) ?_
  refine lv_iconst (v := iI 3) hx hb dX5_init_5 rfl ?_
  refine va_newq (C := RX0) (N' := 3) hx hb hown (hts (.classLink RX5 9 RX0) (List.mem_of_getElem? (i := 4) rfl)) hC.1 hK hP hD hS hA (by decide +kernel) (by decide +kernel) (by decide) (Nat.le_of_ble_eq_true rfl) (Nat.le_of_ble_eq_true rfl) dX5_init_6 (fun q1 cA H hK2 hP hD hS => ?_)
  have eA := zK_eq hK2 2 rfl
  subst eA
  clear hK2
  have hP : va_P D vwCl (([(h0, .inr (7, [.null, .null, .null, .int (iI 0), .int (iI 0), .int (iI 0), .int (iI 0), .int (iI 0), .int (iI 0), .int (iI 0), .int (iI 0)]))] ++ [(q1, .inl (k 2, 3, .inr (.inr (.inr (.inr (fun _ => none))))))])) H := hP
  have hD : va_D A (([(h0, .inr (7, [.null, .null, .null, .int (iI 0), .int (iI 0), .int (iI 0), .int (iI 0), .int (iI 0), .int (iI 0), .int (iI 0), .int (iI 0)]))] ++ [(q1, .inl (k 2, 3, .inr (.inr (.inr (.inr (fun _ => none))))))])) := hD
  refine lv_dup hx hb dX5_init_9 rfl ?_
  refine lv_iconst (v := iI 0) hx hb dX5_init_10 rfl ?_
  refine va_new (ci := 2) (fs := [.null, .int (iI 0), .int (iI 0), .int (iI 0), .int (iI 0), .int (iI 0)]) (C := RX0) (T := TX0) (N := 6) hx hb hts (fun w h => List.mem_cons_of_mem _ (List.mem_append_left _ (List.mem_append_left _ (List.mem_append_left _ (List.mem_append_right _ h))))) tyX0 tyX0_ok hown (hts (.classLink RX5 9 RX0) (List.mem_of_getElem? (i := 4) rfl)) (hts (.instantiable RX0 6) (List.mem_of_getElem? (i := 5) rfl)) (hts (.initialized RX0) (List.mem_of_getElem? (i := 6) rfl)) hK hP hD hS hA rfl (fun j hj => by rcases (show j = 0 ∨ j = 1 ∨ j = 2 ∨ j = 3 ∨ j = 4 ∨ j = 5 by omega) with rfl | rfl | rfl | rfl | rfl | rfl <;> rfl) (Nat.le_of_ble_eq_true rfl) (Nat.le_of_ble_eq_true rfl) dX5_init_11 (fun q2 H hP hD hS => ?_)
  have hP : va_P D vwCl ((([(h0, .inr (7, [.null, .null, .null, .int (iI 0), .int (iI 0), .int (iI 0), .int (iI 0), .int (iI 0), .int (iI 0), .int (iI 0), .int (iI 0)]))] ++ [(q1, .inl (k 2, 3, .inr (.inr (.inr (.inr (fun _ => none))))))]) ++ [(q2, .inr (2, [.null, .int (iI 0), .int (iI 0), .int (iI 0), .int (iI 0), .int (iI 0)]))])) H := hP
  have hD : va_D A ((([(h0, .inr (7, [.null, .null, .null, .int (iI 0), .int (iI 0), .int (iI 0), .int (iI 0), .int (iI 0), .int (iI 0), .int (iI 0), .int (iI 0)]))] ++ [(q1, .inl (k 2, 3, .inr (.inr (.inr (.inr (fun _ => none))))))]) ++ [(q2, .inr (2, [.null, .int (iI 0), .int (iI 0), .int (iI 0), .int (iI 0), .int (iI 0)]))])) := hD
  refine lv_dup hx hb dX5_init_14 rfl ?_
  refine z_acv (wr := ([(h0, .inr (7, [.null, .null, .null, .int (iI 0), .int (iI 0), .int (iI 0), .int (iI 0), .int (iI 0), .int (iI 0), .int (iI 0), .int (iI 0)]))] ++ [(q1, .inl (k 2, 3, .inr (.inr (.inr (.inr (fun _ => none))))))])) (q := q2) (va_runIN (As := []) (rest := [.ref q2, .int (iI 0), .ref q1, .ref q1, .ref h0]) ⟨hx, hb, hml, hown, hts⟩ (c_X0_init l D k q2 _) ⟨va_cnB 0 hts gX5_init_X0_init_n11 rfl rfl rfl (hG.2.2.1 (RX5, 11, yX0_init, RX7) (by decide +kernel)) (hts (.initialized RX0) (List.mem_of_getElem? (i := 6) rfl)) (by decide +kernel) ⟨(Nat.le_of_ble_eq_true rfl), (Nat.le_of_ble_eq_true rfl)⟩, rfl, (hts (.instanceMethod yX0_init) (List.mem_of_getElem? (i := 24) rfl))⟩ (z_preC (wr := ([(h0, .inr (7, [.null, .null, .null, .int (iI 0), .int (iI 0), .int (iI 0), .int (iI 0), .int (iI 0), .int (iI 0), .int (iI 0), .int (iI 0)]))] ++ [(q1, .inl (k 2, 3, .inr (.inr (.inr (.inr (fun _ => none))))))])) hK hG hC hA hP hD hS) rfl rfl hl.1 rfl (lv_room (Nat.le_of_ble_eq_true rfl)) dX5_init_15 ⟨(Nat.le_of_ble_eq_true rfl), (Nat.le_of_ble_eq_true rfl)⟩) hA hP hD hS (fun b3 H2 locs2 ha hP2 hD2 hS2 => ?_)
  clear hP hD hS
  subst ha
  have hP := hP2
  have hD := hD2
  have hS := hS2
  clear hP2 hD2 hS2
  generalize H2 = H at hP hS ⊢
  generalize locs2 = locs at hS ⊢
  have hP : va_P D vwCl ((([(h0, .inr (7, [.null, .null, .null, .int (iI 0), .int (iI 0), .int (iI 0), .int (iI 0), .int (iI 0), .int (iI 0), .int (iI 0), .int (iI 0)]))] ++ [(q1, .inl (k 2, 3, .inr (.inr (.inr (.inr (fun _ => none))))))]) ++ (wBelt k b3 iB))) H := hP
  have hD : va_D A ((([(h0, .inr (7, [.null, .null, .null, .int (iI 0), .int (iI 0), .int (iI 0), .int (iI 0), .int (iI 0), .int (iI 0), .int (iI 0), .int (iI 0)]))] ++ [(q1, .inl (k 2, 3, .inr (.inr (.inr (.inr (fun _ => none))))))]) ++ (wBelt k b3 iB))) := hD
  refine va_astq hx hb hK hP hD hS 1 2 2 2 (r := (RX0, TX0, 6)) rfl rfl rfl rfl (i := iI 0) (z_in (by decide) (by decide) (by decide)) dX5_init_18 (fun H locs hP hD hS => ?_)
  have hP : va_P D vwCl ((([(h0, .inr (7, [.null, .null, .null, .int (iI 0), .int (iI 0), .int (iI 0), .int (iI 0), .int (iI 0), .int (iI 0), .int (iI 0), .int (iI 0)]))] ++ [(q1, .inl (k 2, 3, .inr (.inr (.inr (.inr (va_up (fun _ => none) 0 (some (b3 0))))))))]) ++ (wBelt k b3 iB))) H := hP
  have hD : va_D A ((([(h0, .inr (7, [.null, .null, .null, .int (iI 0), .int (iI 0), .int (iI 0), .int (iI 0), .int (iI 0), .int (iI 0), .int (iI 0), .int (iI 0)]))] ++ [(q1, .inl (k 2, 3, .inr (.inr (.inr (.inr (va_up (fun _ => none) 0 (some (b3 0))))))))]) ++ (wBelt k b3 iB))) := hD
  refine lv_dup hx hb dX5_init_19 rfl ?_
  refine lv_iconst (v := iI 1) hx hb dX5_init_20 rfl ?_
  refine va_new (ci := 2) (fs := [.null, .int (iI 0), .int (iI 0), .int (iI 0), .int (iI 0), .int (iI 0)]) (C := RX0) (T := TX0) (N := 6) hx hb hts (fun w h => List.mem_cons_of_mem _ (List.mem_append_left _ (List.mem_append_left _ (List.mem_append_left _ (List.mem_append_right _ h))))) tyX0 tyX0_ok hown (hts (.classLink RX5 9 RX0) (List.mem_of_getElem? (i := 4) rfl)) (hts (.instantiable RX0 6) (List.mem_of_getElem? (i := 5) rfl)) (hts (.initialized RX0) (List.mem_of_getElem? (i := 6) rfl)) hK hP hD hS hA rfl (fun j hj => by rcases (show j = 0 ∨ j = 1 ∨ j = 2 ∨ j = 3 ∨ j = 4 ∨ j = 5 by omega) with rfl | rfl | rfl | rfl | rfl | rfl <;> rfl) (Nat.le_of_ble_eq_true rfl) (Nat.le_of_ble_eq_true rfl) dX5_init_21 (fun q4 H hP hD hS => ?_)
  have hP : va_P D vwCl (((([(h0, .inr (7, [.null, .null, .null, .int (iI 0), .int (iI 0), .int (iI 0), .int (iI 0), .int (iI 0), .int (iI 0), .int (iI 0), .int (iI 0)]))] ++ [(q1, .inl (k 2, 3, .inr (.inr (.inr (.inr (va_up (fun _ => none) 0 (some (b3 0))))))))]) ++ (wBelt k b3 iB)) ++ [(q4, .inr (2, [.null, .int (iI 0), .int (iI 0), .int (iI 0), .int (iI 0), .int (iI 0)]))])) H := hP
  have hD : va_D A (((([(h0, .inr (7, [.null, .null, .null, .int (iI 0), .int (iI 0), .int (iI 0), .int (iI 0), .int (iI 0), .int (iI 0), .int (iI 0), .int (iI 0)]))] ++ [(q1, .inl (k 2, 3, .inr (.inr (.inr (.inr (va_up (fun _ => none) 0 (some (b3 0))))))))]) ++ (wBelt k b3 iB)) ++ [(q4, .inr (2, [.null, .int (iI 0), .int (iI 0), .int (iI 0), .int (iI 0), .int (iI 0)]))])) := hD
  refine lv_dup hx hb dX5_init_24 rfl ?_
  refine z_acv (wr := (([(h0, .inr (7, [.null, .null, .null, .int (iI 0), .int (iI 0), .int (iI 0), .int (iI 0), .int (iI 0), .int (iI 0), .int (iI 0), .int (iI 0)]))] ++ [(q1, .inl (k 2, 3, .inr (.inr (.inr (.inr (va_up (fun _ => none) 0 (some (b3 0))))))))]) ++ (wBelt k b3 iB))) (q := q4) (va_runIN (As := []) (rest := [.ref q4, .int (iI 1), .ref q1, .ref q1, .ref h0]) ⟨hx, hb, hml, hown, hts⟩ (c_X0_init l D k q4 _) ⟨va_cnB 0 hts gX5_init_X0_init_n11 rfl rfl rfl (hG.2.2.1 (RX5, 11, yX0_init, RX7) (by decide +kernel)) (hts (.initialized RX0) (List.mem_of_getElem? (i := 6) rfl)) (by decide +kernel) ⟨(Nat.le_of_ble_eq_true rfl), (Nat.le_of_ble_eq_true rfl)⟩, rfl, (hts (.instanceMethod yX0_init) (List.mem_of_getElem? (i := 24) rfl))⟩ (z_preC (wr := (([(h0, .inr (7, [.null, .null, .null, .int (iI 0), .int (iI 0), .int (iI 0), .int (iI 0), .int (iI 0), .int (iI 0), .int (iI 0), .int (iI 0)]))] ++ [(q1, .inl (k 2, 3, .inr (.inr (.inr (.inr (va_up (fun _ => none) 0 (some (b3 0))))))))]) ++ (wBelt k b3 iB))) hK hG hC hA hP hD hS) rfl rfl hl.1 rfl (lv_room (Nat.le_of_ble_eq_true rfl)) dX5_init_25 ⟨(Nat.le_of_ble_eq_true rfl), (Nat.le_of_ble_eq_true rfl)⟩) hA hP hD hS (fun b5 H2 locs2 ha hP2 hD2 hS2 => ?_)
  clear hP hD hS
  subst ha
  have hP := hP2
  have hD := hD2
  have hS := hS2
  clear hP2 hD2 hS2
  generalize H2 = H at hP hS ⊢
  generalize locs2 = locs at hS ⊢
  have hP : va_P D vwCl (((([(h0, .inr (7, [.null, .null, .null, .int (iI 0), .int (iI 0), .int (iI 0), .int (iI 0), .int (iI 0), .int (iI 0), .int (iI 0), .int (iI 0)]))] ++ [(q1, .inl (k 2, 3, .inr (.inr (.inr (.inr (va_up (fun _ => none) 0 (some (b3 0))))))))]) ++ (wBelt k b3 iB)) ++ (wBelt k b5 iB))) H := hP
  have hD : va_D A (((([(h0, .inr (7, [.null, .null, .null, .int (iI 0), .int (iI 0), .int (iI 0), .int (iI 0), .int (iI 0), .int (iI 0), .int (iI 0), .int (iI 0)]))] ++ [(q1, .inl (k 2, 3, .inr (.inr (.inr (.inr (va_up (fun _ => none) 0 (some (b3 0))))))))]) ++ (wBelt k b3 iB)) ++ (wBelt k b5 iB))) := hD
  refine va_astq hx hb hK hP hD hS 1 2 5 2 (r := (RX0, TX0, 6)) rfl rfl rfl rfl (i := iI 1) (z_in (by decide) (by decide) (by decide)) dX5_init_28 (fun H locs hP hD hS => ?_)
  have hP : va_P D vwCl (((([(h0, .inr (7, [.null, .null, .null, .int (iI 0), .int (iI 0), .int (iI 0), .int (iI 0), .int (iI 0), .int (iI 0), .int (iI 0), .int (iI 0)]))] ++ [(q1, .inl (k 2, 3, .inr (.inr (.inr (.inr (va_up (va_up (fun _ => none) 0 (some (b3 0))) 1 (some (b5 0))))))))]) ++ (wBelt k b3 iB)) ++ (wBelt k b5 iB))) H := hP
  have hD : va_D A (((([(h0, .inr (7, [.null, .null, .null, .int (iI 0), .int (iI 0), .int (iI 0), .int (iI 0), .int (iI 0), .int (iI 0), .int (iI 0), .int (iI 0)]))] ++ [(q1, .inl (k 2, 3, .inr (.inr (.inr (.inr (va_up (va_up (fun _ => none) 0 (some (b3 0))) 1 (some (b5 0))))))))]) ++ (wBelt k b3 iB)) ++ (wBelt k b5 iB))) := hD
  refine lv_dup hx hb dX5_init_29 rfl ?_
  refine lv_iconst (v := iI 2) hx hb dX5_init_30 rfl ?_
  refine va_new (ci := 2) (fs := [.null, .int (iI 0), .int (iI 0), .int (iI 0), .int (iI 0), .int (iI 0)]) (C := RX0) (T := TX0) (N := 6) hx hb hts (fun w h => List.mem_cons_of_mem _ (List.mem_append_left _ (List.mem_append_left _ (List.mem_append_left _ (List.mem_append_right _ h))))) tyX0 tyX0_ok hown (hts (.classLink RX5 9 RX0) (List.mem_of_getElem? (i := 4) rfl)) (hts (.instantiable RX0 6) (List.mem_of_getElem? (i := 5) rfl)) (hts (.initialized RX0) (List.mem_of_getElem? (i := 6) rfl)) hK hP hD hS hA rfl (fun j hj => by rcases (show j = 0 ∨ j = 1 ∨ j = 2 ∨ j = 3 ∨ j = 4 ∨ j = 5 by omega) with rfl | rfl | rfl | rfl | rfl | rfl <;> rfl) (Nat.le_of_ble_eq_true rfl) (Nat.le_of_ble_eq_true rfl) dX5_init_31 (fun q6 H hP hD hS => ?_)
  have hP : va_P D vwCl ((((([(h0, .inr (7, [.null, .null, .null, .int (iI 0), .int (iI 0), .int (iI 0), .int (iI 0), .int (iI 0), .int (iI 0), .int (iI 0), .int (iI 0)]))] ++ [(q1, .inl (k 2, 3, .inr (.inr (.inr (.inr (va_up (va_up (fun _ => none) 0 (some (b3 0))) 1 (some (b5 0))))))))]) ++ (wBelt k b3 iB)) ++ (wBelt k b5 iB)) ++ [(q6, .inr (2, [.null, .int (iI 0), .int (iI 0), .int (iI 0), .int (iI 0), .int (iI 0)]))])) H := hP
  have hD : va_D A ((((([(h0, .inr (7, [.null, .null, .null, .int (iI 0), .int (iI 0), .int (iI 0), .int (iI 0), .int (iI 0), .int (iI 0), .int (iI 0), .int (iI 0)]))] ++ [(q1, .inl (k 2, 3, .inr (.inr (.inr (.inr (va_up (va_up (fun _ => none) 0 (some (b3 0))) 1 (some (b5 0))))))))]) ++ (wBelt k b3 iB)) ++ (wBelt k b5 iB)) ++ [(q6, .inr (2, [.null, .int (iI 0), .int (iI 0), .int (iI 0), .int (iI 0), .int (iI 0)]))])) := hD
  refine lv_dup hx hb dX5_init_34 rfl ?_
  refine z_acv (wr := ((([(h0, .inr (7, [.null, .null, .null, .int (iI 0), .int (iI 0), .int (iI 0), .int (iI 0), .int (iI 0), .int (iI 0), .int (iI 0), .int (iI 0)]))] ++ [(q1, .inl (k 2, 3, .inr (.inr (.inr (.inr (va_up (va_up (fun _ => none) 0 (some (b3 0))) 1 (some (b5 0))))))))]) ++ (wBelt k b3 iB)) ++ (wBelt k b5 iB))) (q := q6) (va_runIN (As := []) (rest := [.ref q6, .int (iI 2), .ref q1, .ref q1, .ref h0]) ⟨hx, hb, hml, hown, hts⟩ (c_X0_init l D k q6 _) ⟨va_cnB 0 hts gX5_init_X0_init_n11 rfl rfl rfl (hG.2.2.1 (RX5, 11, yX0_init, RX7) (by decide +kernel)) (hts (.initialized RX0) (List.mem_of_getElem? (i := 6) rfl)) (by decide +kernel) ⟨(Nat.le_of_ble_eq_true rfl), (Nat.le_of_ble_eq_true rfl)⟩, rfl, (hts (.instanceMethod yX0_init) (List.mem_of_getElem? (i := 24) rfl))⟩ (z_preC (wr := ((([(h0, .inr (7, [.null, .null, .null, .int (iI 0), .int (iI 0), .int (iI 0), .int (iI 0), .int (iI 0), .int (iI 0), .int (iI 0), .int (iI 0)]))] ++ [(q1, .inl (k 2, 3, .inr (.inr (.inr (.inr (va_up (va_up (fun _ => none) 0 (some (b3 0))) 1 (some (b5 0))))))))]) ++ (wBelt k b3 iB)) ++ (wBelt k b5 iB))) hK hG hC hA hP hD hS) rfl rfl hl.1 rfl (lv_room (Nat.le_of_ble_eq_true rfl)) dX5_init_35 ⟨(Nat.le_of_ble_eq_true rfl), (Nat.le_of_ble_eq_true rfl)⟩) hA hP hD hS (fun b7 H2 locs2 ha hP2 hD2 hS2 => ?_)
  clear hP hD hS
  subst ha
  have hP := hP2
  have hD := hD2
  have hS := hS2
  clear hP2 hD2 hS2
  generalize H2 = H at hP hS ⊢
  generalize locs2 = locs at hS ⊢
  have hP : va_P D vwCl ((((([(h0, .inr (7, [.null, .null, .null, .int (iI 0), .int (iI 0), .int (iI 0), .int (iI 0), .int (iI 0), .int (iI 0), .int (iI 0), .int (iI 0)]))] ++ [(q1, .inl (k 2, 3, .inr (.inr (.inr (.inr (va_up (va_up (fun _ => none) 0 (some (b3 0))) 1 (some (b5 0))))))))]) ++ (wBelt k b3 iB)) ++ (wBelt k b5 iB)) ++ (wBelt k b7 iB))) H := hP
  have hD : va_D A ((((([(h0, .inr (7, [.null, .null, .null, .int (iI 0), .int (iI 0), .int (iI 0), .int (iI 0), .int (iI 0), .int (iI 0), .int (iI 0), .int (iI 0)]))] ++ [(q1, .inl (k 2, 3, .inr (.inr (.inr (.inr (va_up (va_up (fun _ => none) 0 (some (b3 0))) 1 (some (b5 0))))))))]) ++ (wBelt k b3 iB)) ++ (wBelt k b5 iB)) ++ (wBelt k b7 iB))) := hD
  refine va_astq hx hb hK hP hD hS 1 2 8 2 (r := (RX0, TX0, 6)) rfl rfl rfl rfl (i := iI 2) (z_in (by decide) (by decide) (by decide)) dX5_init_38 (fun H locs hP hD hS => ?_)
  have hP : va_P D vwCl ((((([(h0, .inr (7, [.null, .null, .null, .int (iI 0), .int (iI 0), .int (iI 0), .int (iI 0), .int (iI 0), .int (iI 0), .int (iI 0), .int (iI 0)]))] ++ [(q1, .inl (k 2, 3, .inr (.inr (.inr (.inr (va_up (va_up (va_up (fun _ => none) 0 (some (b3 0))) 1 (some (b5 0))) 2 (some (b7 0))))))))]) ++ (wBelt k b3 iB)) ++ (wBelt k b5 iB)) ++ (wBelt k b7 iB))) H := hP
  have hD : va_D A ((((([(h0, .inr (7, [.null, .null, .null, .int (iI 0), .int (iI 0), .int (iI 0), .int (iI 0), .int (iI 0), .int (iI 0), .int (iI 0), .int (iI 0)]))] ++ [(q1, .inl (k 2, 3, .inr (.inr (.inr (.inr (va_up (va_up (va_up (fun _ => none) 0 (some (b3 0))) 1 (some (b5 0))) 2 (some (b7 0))))))))]) ++ (wBelt k b3 iB)) ++ (wBelt k b5 iB)) ++ (wBelt k b7 iB))) := hD
  refine va_putF (D := D) (ci := 7) (v := .ref q1) (ty := .array (.object "MondayFactory$Belt")) (C := RX5) (T := TX5) (N := 11) hx hb hts (fun w h => List.mem_cons_of_mem _ (List.mem_append_left _ (List.mem_append_left _ (List.mem_append_right _ h)))) tyX5 tyX5_ok nmX5 hown hK hP hD hS 0 rfl rfl 0 (by decide) (hts (.fieldLink RX5 12 "MondayFactory$Plant" "belts" "[LMondayFactory$Belt;") (List.mem_of_getElem? (i := 7) rfl)) (fun _ h9 => h9) rfl hin rfl (by decide +kernel) rfl rfl (Nat.le_of_ble_eq_true rfl) dX5_init_39 (fun H locs hP hD hS => ?_)
  have hP : va_P D vwCl ((((([(h0, .inr (7, [.ref q1, .null, .null, .int (iI 0), .int (iI 0), .int (iI 0), .int (iI 0), .int (iI 0), .int (iI 0), .int (iI 0), .int (iI 0)]))] ++ [(q1, .inl (k 2, 3, .inr (.inr (.inr (.inr (va_up (va_up (va_up (fun _ => none) 0 (some (b3 0))) 1 (some (b5 0))) 2 (some (b7 0))))))))]) ++ (wBelt k b3 iB)) ++ (wBelt k b5 iB)) ++ (wBelt k b7 iB))) H := hP
  have hD : va_D A ((((([(h0, .inr (7, [.ref q1, .null, .null, .int (iI 0), .int (iI 0), .int (iI 0), .int (iI 0), .int (iI 0), .int (iI 0), .int (iI 0), .int (iI 0)]))] ++ [(q1, .inl (k 2, 3, .inr (.inr (.inr (.inr (va_up (va_up (va_up (fun _ => none) 0 (some (b3 0))) 1 (some (b5 0))) 2 (some (b7 0))))))))]) ++ (wBelt k b3 iB)) ++ (wBelt k b5 iB)) ++ (wBelt k b7 iB))) := hD
  refine lv_aload_n hx hb dX5_init_42 rfl (lv_at hl 0 rfl) ?_
  refine va_new (ci := 8) (fs := [.null, .int (iI 0)]) (C := RX6) (T := TX6) (N := 2) hx hb hts (fun w h => List.mem_cons_of_mem _ (List.mem_append_left _ (List.mem_append_right _ h))) tyX6 tyX6_ok hown (hts (.classLink RX5 18 RX6) (List.mem_of_getElem? (i := 8) rfl)) (hts (.instantiable RX6 2) (List.mem_of_getElem? (i := 9) rfl)) (hts (.initialized RX6) (List.mem_of_getElem? (i := 10) rfl)) hK hP hD hS hA rfl (fun j hj => by rcases (show j = 0 ∨ j = 1 by omega) with rfl | rfl <;> rfl) (Nat.le_of_ble_eq_true rfl) (Nat.le_of_ble_eq_true rfl) dX5_init_43 (fun q8 H hP hD hS => ?_)
  have hP : va_P D vwCl (((((([(h0, .inr (7, [.ref q1, .null, .null, .int (iI 0), .int (iI 0), .int (iI 0), .int (iI 0), .int (iI 0), .int (iI 0), .int (iI 0), .int (iI 0)]))] ++ [(q1, .inl (k 2, 3, .inr (.inr (.inr (.inr (va_up (va_up (va_up (fun _ => none) 0 (some (b3 0))) 1 (some (b5 0))) 2 (some (b7 0))))))))]) ++ (wBelt k b3 iB)) ++ (wBelt k b5 iB)) ++ (wBelt k b7 iB)) ++ [(q8, .inr (8, [.null, .int (iI 0)]))])) H := hP
  have hD : va_D A (((((([(h0, .inr (7, [.ref q1, .null, .null, .int (iI 0), .int (iI 0), .int (iI 0), .int (iI 0), .int (iI 0), .int (iI 0), .int (iI 0), .int (iI 0)]))] ++ [(q1, .inl (k 2, 3, .inr (.inr (.inr (.inr (va_up (va_up (va_up (fun _ => none) 0 (some (b3 0))) 1 (some (b5 0))) 2 (some (b7 0))))))))]) ++ (wBelt k b3 iB)) ++ (wBelt k b5 iB)) ++ (wBelt k b7 iB)) ++ [(q8, .inr (8, [.null, .int (iI 0)]))])) := hD
  refine lv_dup hx hb dX5_init_46 rfl ?_
  refine z_acv (wr := (((([(h0, .inr (7, [.ref q1, .null, .null, .int (iI 0), .int (iI 0), .int (iI 0), .int (iI 0), .int (iI 0), .int (iI 0), .int (iI 0), .int (iI 0)]))] ++ [(q1, .inl (k 2, 3, .inr (.inr (.inr (.inr (va_up (va_up (va_up (fun _ => none) 0 (some (b3 0))) 1 (some (b5 0))) 2 (some (b7 0))))))))]) ++ (wBelt k b3 iB)) ++ (wBelt k b5 iB)) ++ (wBelt k b7 iB))) (q := q8) (va_runIN (As := []) (rest := [.ref q8, .ref h0]) ⟨hx, hb, hml, hown, hts⟩ (c_X6_init l D k q8 _) ⟨va_cnB 0 hts gX5_init_X6_init_n20 rfl rfl rfl (hG.2.2.1 (RX5, 20, yX6_init, RX7) (by decide +kernel)) (hts (.initialized RX6) (List.mem_of_getElem? (i := 10) rfl)) (by decide +kernel) ⟨(Nat.le_of_ble_eq_true rfl), (Nat.le_of_ble_eq_true rfl)⟩, rfl, (hts (.instanceMethod yX6_init) (List.mem_of_getElem? (i := 34) rfl))⟩ (z_preC (wr := (((([(h0, .inr (7, [.ref q1, .null, .null, .int (iI 0), .int (iI 0), .int (iI 0), .int (iI 0), .int (iI 0), .int (iI 0), .int (iI 0), .int (iI 0)]))] ++ [(q1, .inl (k 2, 3, .inr (.inr (.inr (.inr (va_up (va_up (va_up (fun _ => none) 0 (some (b3 0))) 1 (some (b5 0))) 2 (some (b7 0))))))))]) ++ (wBelt k b3 iB)) ++ (wBelt k b5 iB)) ++ (wBelt k b7 iB))) hK hG hC hA hP hD hS) rfl rfl hl.1 rfl (lv_room (Nat.le_of_ble_eq_true rfl)) dX5_init_47 ⟨(Nat.le_of_ble_eq_true rfl), (Nat.le_of_ble_eq_true rfl)⟩) hA hP hD hS (fun b9 H2 locs2 ha hP2 hD2 hS2 => ?_)
  clear hP hD hS
  subst ha
  have hP := hP2
  have hD := hD2
  have hS := hS2
  clear hP2 hD2 hS2
  generalize H2 = H at hP hS ⊢
  generalize locs2 = locs at hS ⊢
  have hP : va_P D vwCl (((((([(h0, .inr (7, [.ref q1, .null, .null, .int (iI 0), .int (iI 0), .int (iI 0), .int (iI 0), .int (iI 0), .int (iI 0), .int (iI 0), .int (iI 0)]))] ++ [(q1, .inl (k 2, 3, .inr (.inr (.inr (.inr (va_up (va_up (va_up (fun _ => none) 0 (some (b3 0))) 1 (some (b5 0))) 2 (some (b7 0))))))))]) ++ (wBelt k b3 iB)) ++ (wBelt k b5 iB)) ++ (wBelt k b7 iB)) ++ (wRow k b9 iZ))) H := hP
  have hD : va_D A (((((([(h0, .inr (7, [.ref q1, .null, .null, .int (iI 0), .int (iI 0), .int (iI 0), .int (iI 0), .int (iI 0), .int (iI 0), .int (iI 0), .int (iI 0)]))] ++ [(q1, .inl (k 2, 3, .inr (.inr (.inr (.inr (va_up (va_up (va_up (fun _ => none) 0 (some (b3 0))) 1 (some (b5 0))) 2 (some (b7 0))))))))]) ++ (wBelt k b3 iB)) ++ (wBelt k b5 iB)) ++ (wBelt k b7 iB)) ++ (wRow k b9 iZ))) := hD
  refine va_putF (D := D) (ci := 7) (v := .ref (b9 0)) (ty := .object "MondayFactory$Row") (C := RX5) (T := TX5) (N := 11) hx hb hts (fun w h => List.mem_cons_of_mem _ (List.mem_append_left _ (List.mem_append_left _ (List.mem_append_right _ h)))) tyX5 tyX5_ok nmX5 hown hK hP hD hS 0 rfl rfl 1 (by decide) (hts (.fieldLink RX5 21 "MondayFactory$Plant" "shelf" "LMondayFactory$Row;") (List.mem_of_getElem? (i := 11) rfl)) (fun _ h9 => h9) rfl hin rfl (by decide +kernel) rfl rfl (Nat.le_of_ble_eq_true rfl) dX5_init_50 (fun H locs hP hD hS => ?_)
  have hP : va_P D vwCl (((((([(h0, .inr (7, [.ref q1, .ref (b9 0), .null, .int (iI 0), .int (iI 0), .int (iI 0), .int (iI 0), .int (iI 0), .int (iI 0), .int (iI 0), .int (iI 0)]))] ++ [(q1, .inl (k 2, 3, .inr (.inr (.inr (.inr (va_up (va_up (va_up (fun _ => none) 0 (some (b3 0))) 1 (some (b5 0))) 2 (some (b7 0))))))))]) ++ (wBelt k b3 iB)) ++ (wBelt k b5 iB)) ++ (wBelt k b7 iB)) ++ (wRow k b9 iZ))) H := hP
  have hD : va_D A (((((([(h0, .inr (7, [.ref q1, .ref (b9 0), .null, .int (iI 0), .int (iI 0), .int (iI 0), .int (iI 0), .int (iI 0), .int (iI 0), .int (iI 0), .int (iI 0)]))] ++ [(q1, .inl (k 2, 3, .inr (.inr (.inr (.inr (va_up (va_up (va_up (fun _ => none) 0 (some (b3 0))) 1 (some (b5 0))) 2 (some (b7 0))))))))]) ++ (wBelt k b3 iB)) ++ (wBelt k b5 iB)) ++ (wBelt k b7 iB)) ++ (wRow k b9 iZ))) := hD
  refine lv_aload_n hx hb dX5_init_53 rfl (lv_at hl 0 rfl) ?_
  refine va_new (ci := 3) (fs := [.null, .int (iI 0)]) (C := RX1) (T := TX1) (N := 2) hx hb hts (fun w h => List.mem_cons_of_mem _ (List.mem_append_right _ h)) tyX1 tyX1_ok hown (hts (.classLink RX5 25 RX1) (List.mem_of_getElem? (i := 12) rfl)) (hts (.instantiable RX1 2) (List.mem_of_getElem? (i := 13) rfl)) (hts (.initialized RX1) (List.mem_of_getElem? (i := 14) rfl)) hK hP hD hS hA rfl (fun j hj => by rcases (show j = 0 ∨ j = 1 by omega) with rfl | rfl <;> rfl) (Nat.le_of_ble_eq_true rfl) (Nat.le_of_ble_eq_true rfl) dX5_init_54 (fun q10 H hP hD hS => ?_)
  have hP : va_P D vwCl ((((((([(h0, .inr (7, [.ref q1, .ref (b9 0), .null, .int (iI 0), .int (iI 0), .int (iI 0), .int (iI 0), .int (iI 0), .int (iI 0), .int (iI 0), .int (iI 0)]))] ++ [(q1, .inl (k 2, 3, .inr (.inr (.inr (.inr (va_up (va_up (va_up (fun _ => none) 0 (some (b3 0))) 1 (some (b5 0))) 2 (some (b7 0))))))))]) ++ (wBelt k b3 iB)) ++ (wBelt k b5 iB)) ++ (wBelt k b7 iB)) ++ (wRow k b9 iZ)) ++ [(q10, .inr (3, [.null, .int (iI 0)]))])) H := hP
  have hD : va_D A ((((((([(h0, .inr (7, [.ref q1, .ref (b9 0), .null, .int (iI 0), .int (iI 0), .int (iI 0), .int (iI 0), .int (iI 0), .int (iI 0), .int (iI 0), .int (iI 0)]))] ++ [(q1, .inl (k 2, 3, .inr (.inr (.inr (.inr (va_up (va_up (va_up (fun _ => none) 0 (some (b3 0))) 1 (some (b5 0))) 2 (some (b7 0))))))))]) ++ (wBelt k b3 iB)) ++ (wBelt k b5 iB)) ++ (wBelt k b7 iB)) ++ (wRow k b9 iZ)) ++ [(q10, .inr (3, [.null, .int (iI 0)]))])) := hD
  refine lv_dup hx hb dX5_init_57 rfl ?_
  refine z_acv (wr := ((((([(h0, .inr (7, [.ref q1, .ref (b9 0), .null, .int (iI 0), .int (iI 0), .int (iI 0), .int (iI 0), .int (iI 0), .int (iI 0), .int (iI 0), .int (iI 0)]))] ++ [(q1, .inl (k 2, 3, .inr (.inr (.inr (.inr (va_up (va_up (va_up (fun _ => none) 0 (some (b3 0))) 1 (some (b5 0))) 2 (some (b7 0))))))))]) ++ (wBelt k b3 iB)) ++ (wBelt k b5 iB)) ++ (wBelt k b7 iB)) ++ (wRow k b9 iZ))) (q := q10) (va_runIN (As := []) (rest := [.ref q10, .ref h0]) ⟨hx, hb, hml, hown, hts⟩ (c_X1_init l D k q10 _) ⟨va_cnB 0 hts gX5_init_X1_init_n27 rfl rfl rfl (hG.2.2.1 (RX5, 27, yX1_init, RX7) (by decide +kernel)) (hts (.initialized RX1) (List.mem_of_getElem? (i := 14) rfl)) (by decide +kernel) ⟨(Nat.le_of_ble_eq_true rfl), (Nat.le_of_ble_eq_true rfl)⟩, rfl, (hts (.instanceMethod yX1_init) (List.mem_of_getElem? (i := 40) rfl))⟩ (z_preC (wr := ((((([(h0, .inr (7, [.ref q1, .ref (b9 0), .null, .int (iI 0), .int (iI 0), .int (iI 0), .int (iI 0), .int (iI 0), .int (iI 0), .int (iI 0), .int (iI 0)]))] ++ [(q1, .inl (k 2, 3, .inr (.inr (.inr (.inr (va_up (va_up (va_up (fun _ => none) 0 (some (b3 0))) 1 (some (b5 0))) 2 (some (b7 0))))))))]) ++ (wBelt k b3 iB)) ++ (wBelt k b5 iB)) ++ (wBelt k b7 iB)) ++ (wRow k b9 iZ))) hK hG hC hA hP hD hS) rfl rfl hl.1 rfl (lv_room (Nat.le_of_ble_eq_true rfl)) dX5_init_58 ⟨(Nat.le_of_ble_eq_true rfl), (Nat.le_of_ble_eq_true rfl)⟩) hA hP hD hS (fun b11 H2 locs2 ha hP2 hD2 hS2 => ?_)
  clear hP hD hS
  subst ha
  have hP := hP2
  have hD := hD2
  have hS := hS2
  clear hP2 hD2 hS2
  generalize H2 = H at hP hS ⊢
  generalize locs2 = locs at hS ⊢
  have hP : va_P D vwCl ((((((([(h0, .inr (7, [.ref q1, .ref (b9 0), .null, .int (iI 0), .int (iI 0), .int (iI 0), .int (iI 0), .int (iI 0), .int (iI 0), .int (iI 0), .int (iI 0)]))] ++ [(q1, .inl (k 2, 3, .inr (.inr (.inr (.inr (va_up (va_up (va_up (fun _ => none) 0 (some (b3 0))) 1 (some (b5 0))) 2 (some (b7 0))))))))]) ++ (wBelt k b3 iB)) ++ (wBelt k b5 iB)) ++ (wBelt k b7 iB)) ++ (wRow k b9 iZ)) ++ (wCrew k b11 iZ))) H := hP
  have hD : va_D A ((((((([(h0, .inr (7, [.ref q1, .ref (b9 0), .null, .int (iI 0), .int (iI 0), .int (iI 0), .int (iI 0), .int (iI 0), .int (iI 0), .int (iI 0), .int (iI 0)]))] ++ [(q1, .inl (k 2, 3, .inr (.inr (.inr (.inr (va_up (va_up (va_up (fun _ => none) 0 (some (b3 0))) 1 (some (b5 0))) 2 (some (b7 0))))))))]) ++ (wBelt k b3 iB)) ++ (wBelt k b5 iB)) ++ (wBelt k b7 iB)) ++ (wRow k b9 iZ)) ++ (wCrew k b11 iZ))) := hD
  refine va_putF (D := D) (ci := 7) (v := .ref (b11 0)) (ty := .object "MondayFactory$Crew") (C := RX5) (T := TX5) (N := 11) hx hb hts (fun w h => List.mem_cons_of_mem _ (List.mem_append_left _ (List.mem_append_left _ (List.mem_append_right _ h)))) tyX5 tyX5_ok nmX5 hown hK hP hD hS 0 rfl rfl 2 (by decide) (hts (.fieldLink RX5 28 "MondayFactory$Plant" "crew" "LMondayFactory$Crew;") (List.mem_of_getElem? (i := 15) rfl)) (fun _ h9 => h9) rfl hin rfl (by decide +kernel) rfl rfl (Nat.le_of_ble_eq_true rfl) dX5_init_61 (fun H locs hP hD hS => ?_)
  have hP : va_P D vwCl ((((((([(h0, .inr (7, [.ref q1, .ref (b9 0), .ref (b11 0), .int (iI 0), .int (iI 0), .int (iI 0), .int (iI 0), .int (iI 0), .int (iI 0), .int (iI 0), .int (iI 0)]))] ++ [(q1, .inl (k 2, 3, .inr (.inr (.inr (.inr (va_up (va_up (va_up (fun _ => none) 0 (some (b3 0))) 1 (some (b5 0))) 2 (some (b7 0))))))))]) ++ (wBelt k b3 iB)) ++ (wBelt k b5 iB)) ++ (wBelt k b7 iB)) ++ (wRow k b9 iZ)) ++ (wCrew k b11 iZ))) H := hP
  have hD : va_D A ((((((([(h0, .inr (7, [.ref q1, .ref (b9 0), .ref (b11 0), .int (iI 0), .int (iI 0), .int (iI 0), .int (iI 0), .int (iI 0), .int (iI 0), .int (iI 0), .int (iI 0)]))] ++ [(q1, .inl (k 2, 3, .inr (.inr (.inr (.inr (va_up (va_up (va_up (fun _ => none) 0 (some (b3 0))) 1 (some (b5 0))) 2 (some (b7 0))))))))]) ++ (wBelt k b3 iB)) ++ (wBelt k b5 iB)) ++ (wBelt k b7 iB)) ++ (wRow k b9 iZ)) ++ (wCrew k b11 iZ))) := hD
  refine lv_aload_n hx hb dX5_init_64 rfl (lv_at hl 0 rfl) ?_
  refine lv_iconst (v := iI 5) hx hb dX5_init_65 rfl ?_
  refine va_put (D := D) (ci := 7) (v := .int (iI 5)) (ty := .int) (C := RX5) (T := TX5) (N := 11) hx hb hts (fun w h => List.mem_cons_of_mem _ (List.mem_append_left _ (List.mem_append_left _ (List.mem_append_right _ h)))) tyX5 tyX5_ok nmX5 hown hK hP hD hS 0 rfl rfl 3 (by decide) (hts (.fieldLink RX5 32 "MondayFactory$Plant" "coins" "I") (List.mem_of_getElem? (i := 16) rfl)) (fun _ h9 => h9) rfl (by decide +kernel) rfl rfl (Nat.le_of_ble_eq_true rfl) dX5_init_66 (fun H locs hP hD hS => ?_)
  have hP : va_P D vwCl ((((((([(h0, .inr (7, [.ref q1, .ref (b9 0), .ref (b11 0), .int (iI 5), .int (iI 0), .int (iI 0), .int (iI 0), .int (iI 0), .int (iI 0), .int (iI 0), .int (iI 0)]))] ++ [(q1, .inl (k 2, 3, .inr (.inr (.inr (.inr (va_up (va_up (va_up (fun _ => none) 0 (some (b3 0))) 1 (some (b5 0))) 2 (some (b7 0))))))))]) ++ (wBelt k b3 iB)) ++ (wBelt k b5 iB)) ++ (wBelt k b7 iB)) ++ (wRow k b9 iZ)) ++ (wCrew k b11 iZ))) H := hP
  have hD : va_D A ((((((([(h0, .inr (7, [.ref q1, .ref (b9 0), .ref (b11 0), .int (iI 5), .int (iI 0), .int (iI 0), .int (iI 0), .int (iI 0), .int (iI 0), .int (iI 0), .int (iI 0)]))] ++ [(q1, .inl (k 2, 3, .inr (.inr (.inr (.inr (va_up (va_up (va_up (fun _ => none) 0 (some (b3 0))) 1 (some (b5 0))) 2 (some (b7 0))))))))]) ++ (wBelt k b3 iB)) ++ (wBelt k b5 iB)) ++ (wBelt k b7 iB)) ++ (wRow k b9 iZ)) ++ (wCrew k b11 iZ))) := hD
  refine lv_aload_n hx hb dX5_init_69 rfl (lv_at hl 0 rfl) ?_
  refine lv_iconst (v := iI 0) hx hb dX5_init_70 rfl ?_
  refine va_put (D := D) (ci := 7) (v := .int (iI 0)) (ty := .int) (C := RX5) (T := TX5) (N := 11) hx hb hts (fun w h => List.mem_cons_of_mem _ (List.mem_append_left _ (List.mem_append_left _ (List.mem_append_right _ h)))) tyX5 tyX5_ok nmX5 hown hK hP hD hS 0 rfl rfl 4 (by decide) (hts (.fieldLink RX5 36 "MondayFactory$Plant" "week" "I") (List.mem_of_getElem? (i := 17) rfl)) (fun _ h9 => h9) rfl (by decide +kernel) rfl rfl (Nat.le_of_ble_eq_true rfl) dX5_init_71 (fun H locs hP hD hS => ?_)
  have hP : va_P D vwCl ((((((([(h0, .inr (7, [.ref q1, .ref (b9 0), .ref (b11 0), .int (iI 5), .int (iI 0), .int (iI 0), .int (iI 0), .int (iI 0), .int (iI 0), .int (iI 0), .int (iI 0)]))] ++ [(q1, .inl (k 2, 3, .inr (.inr (.inr (.inr (va_up (va_up (va_up (fun _ => none) 0 (some (b3 0))) 1 (some (b5 0))) 2 (some (b7 0))))))))]) ++ (wBelt k b3 iB)) ++ (wBelt k b5 iB)) ++ (wBelt k b7 iB)) ++ (wRow k b9 iZ)) ++ (wCrew k b11 iZ))) H := hP
  have hD : va_D A ((((((([(h0, .inr (7, [.ref q1, .ref (b9 0), .ref (b11 0), .int (iI 5), .int (iI 0), .int (iI 0), .int (iI 0), .int (iI 0), .int (iI 0), .int (iI 0), .int (iI 0)]))] ++ [(q1, .inl (k 2, 3, .inr (.inr (.inr (.inr (va_up (va_up (va_up (fun _ => none) 0 (some (b3 0))) 1 (some (b5 0))) 2 (some (b7 0))))))))]) ++ (wBelt k b3 iB)) ++ (wBelt k b5 iB)) ++ (wBelt k b7 iB)) ++ (wRow k b9 iZ)) ++ (wCrew k b11 iZ))) := hD
  refine lv_aload_n hx hb dX5_init_74 rfl (lv_at hl 0 rfl) ?_
  refine lv_iconst (v := iI 0) hx hb dX5_init_75 rfl ?_
  refine va_put (D := D) (ci := 7) (v := .int (iI 0)) (ty := .int) (C := RX5) (T := TX5) (N := 11) hx hb hts (fun w h => List.mem_cons_of_mem _ (List.mem_append_left _ (List.mem_append_left _ (List.mem_append_right _ h)))) tyX5 tyX5_ok nmX5 hown hK hP hD hS 0 rfl rfl 5 (by decide) (hts (.fieldLink RX5 39 "MondayFactory$Plant" "made" "I") (List.mem_of_getElem? (i := 18) rfl)) (fun _ h9 => h9) rfl (by decide +kernel) rfl rfl (Nat.le_of_ble_eq_true rfl) dX5_init_76 (fun H locs hP hD hS => ?_)
  have hP : va_P D vwCl ((((((([(h0, .inr (7, [.ref q1, .ref (b9 0), .ref (b11 0), .int (iI 5), .int (iI 0), .int (iI 0), .int (iI 0), .int (iI 0), .int (iI 0), .int (iI 0), .int (iI 0)]))] ++ [(q1, .inl (k 2, 3, .inr (.inr (.inr (.inr (va_up (va_up (va_up (fun _ => none) 0 (some (b3 0))) 1 (some (b5 0))) 2 (some (b7 0))))))))]) ++ (wBelt k b3 iB)) ++ (wBelt k b5 iB)) ++ (wBelt k b7 iB)) ++ (wRow k b9 iZ)) ++ (wCrew k b11 iZ))) H := hP
  have hD : va_D A ((((((([(h0, .inr (7, [.ref q1, .ref (b9 0), .ref (b11 0), .int (iI 5), .int (iI 0), .int (iI 0), .int (iI 0), .int (iI 0), .int (iI 0), .int (iI 0), .int (iI 0)]))] ++ [(q1, .inl (k 2, 3, .inr (.inr (.inr (.inr (va_up (va_up (va_up (fun _ => none) 0 (some (b3 0))) 1 (some (b5 0))) 2 (some (b7 0))))))))]) ++ (wBelt k b3 iB)) ++ (wBelt k b5 iB)) ++ (wBelt k b7 iB)) ++ (wRow k b9 iZ)) ++ (wCrew k b11 iZ))) := hD
  refine lv_aload_n hx hb dX5_init_79 rfl (lv_at hl 0 rfl) ?_
  refine lv_iconst (v := iI 0) hx hb dX5_init_80 rfl ?_
  refine va_put (D := D) (ci := 7) (v := .int (iI 0)) (ty := .int) (C := RX5) (T := TX5) (N := 11) hx hb hts (fun w h => List.mem_cons_of_mem _ (List.mem_append_left _ (List.mem_append_left _ (List.mem_append_right _ h)))) tyX5 tyX5_ok nmX5 hown hK hP hD hS 0 rfl rfl 6 (by decide) (hts (.fieldLink RX5 42 "MondayFactory$Plant" "rejected" "I") (List.mem_of_getElem? (i := 19) rfl)) (fun _ h9 => h9) rfl (by decide +kernel) rfl rfl (Nat.le_of_ble_eq_true rfl) dX5_init_81 (fun H locs hP hD hS => ?_)
  have hP : va_P D vwCl ((((((([(h0, .inr (7, [.ref q1, .ref (b9 0), .ref (b11 0), .int (iI 5), .int (iI 0), .int (iI 0), .int (iI 0), .int (iI 0), .int (iI 0), .int (iI 0), .int (iI 0)]))] ++ [(q1, .inl (k 2, 3, .inr (.inr (.inr (.inr (va_up (va_up (va_up (fun _ => none) 0 (some (b3 0))) 1 (some (b5 0))) 2 (some (b7 0))))))))]) ++ (wBelt k b3 iB)) ++ (wBelt k b5 iB)) ++ (wBelt k b7 iB)) ++ (wRow k b9 iZ)) ++ (wCrew k b11 iZ))) H := hP
  have hD : va_D A ((((((([(h0, .inr (7, [.ref q1, .ref (b9 0), .ref (b11 0), .int (iI 5), .int (iI 0), .int (iI 0), .int (iI 0), .int (iI 0), .int (iI 0), .int (iI 0), .int (iI 0)]))] ++ [(q1, .inl (k 2, 3, .inr (.inr (.inr (.inr (va_up (va_up (va_up (fun _ => none) 0 (some (b3 0))) 1 (some (b5 0))) 2 (some (b7 0))))))))]) ++ (wBelt k b3 iB)) ++ (wBelt k b5 iB)) ++ (wBelt k b7 iB)) ++ (wRow k b9 iZ)) ++ (wCrew k b11 iZ))) := hD
  refine lv_aload_n hx hb dX5_init_84 rfl (lv_at hl 0 rfl) ?_
  refine lv_iconst (v := iI 0) hx hb dX5_init_85 rfl ?_
  refine va_put (D := D) (ci := 7) (v := .int (iI 0)) (ty := .int) (C := RX5) (T := TX5) (N := 11) hx hb hts (fun w h => List.mem_cons_of_mem _ (List.mem_append_left _ (List.mem_append_left _ (List.mem_append_right _ h)))) tyX5 tyX5_ok nmX5 hown hK hP hD hS 0 rfl rfl 7 (by decide) (hts (.fieldLink RX5 45 "MondayFactory$Plant" "scrap" "I") (List.mem_of_getElem? (i := 20) rfl)) (fun _ h9 => h9) rfl (by decide +kernel) rfl rfl (Nat.le_of_ble_eq_true rfl) dX5_init_86 (fun H locs hP hD hS => ?_)
  have hP : va_P D vwCl ((((((([(h0, .inr (7, [.ref q1, .ref (b9 0), .ref (b11 0), .int (iI 5), .int (iI 0), .int (iI 0), .int (iI 0), .int (iI 0), .int (iI 0), .int (iI 0), .int (iI 0)]))] ++ [(q1, .inl (k 2, 3, .inr (.inr (.inr (.inr (va_up (va_up (va_up (fun _ => none) 0 (some (b3 0))) 1 (some (b5 0))) 2 (some (b7 0))))))))]) ++ (wBelt k b3 iB)) ++ (wBelt k b5 iB)) ++ (wBelt k b7 iB)) ++ (wRow k b9 iZ)) ++ (wCrew k b11 iZ))) H := hP
  have hD : va_D A ((((((([(h0, .inr (7, [.ref q1, .ref (b9 0), .ref (b11 0), .int (iI 5), .int (iI 0), .int (iI 0), .int (iI 0), .int (iI 0), .int (iI 0), .int (iI 0), .int (iI 0)]))] ++ [(q1, .inl (k 2, 3, .inr (.inr (.inr (.inr (va_up (va_up (va_up (fun _ => none) 0 (some (b3 0))) 1 (some (b5 0))) 2 (some (b7 0))))))))]) ++ (wBelt k b3 iB)) ++ (wBelt k b5 iB)) ++ (wBelt k b7 iB)) ++ (wRow k b9 iZ)) ++ (wCrew k b11 iZ))) := hD
  refine lv_aload_n hx hb dX5_init_89 rfl (lv_at hl 0 rfl) ?_
  refine lv_iconst (v := iI 0) hx hb dX5_init_90 rfl ?_
  refine va_put (D := D) (ci := 7) (v := .int (iI 0)) (ty := .int) (C := RX5) (T := TX5) (N := 11) hx hb hts (fun w h => List.mem_cons_of_mem _ (List.mem_append_left _ (List.mem_append_left _ (List.mem_append_right _ h)))) tyX5 tyX5_ok nmX5 hown hK hP hD hS 0 rfl rfl 8 (by decide) (hts (.fieldLink RX5 48 "MondayFactory$Plant" "fridays" "I") (List.mem_of_getElem? (i := 21) rfl)) (fun _ h9 => h9) rfl (by decide +kernel) rfl rfl (Nat.le_of_ble_eq_true rfl) dX5_init_91 (fun H locs hP hD hS => ?_)
  have hP : va_P D vwCl ((((((([(h0, .inr (7, [.ref q1, .ref (b9 0), .ref (b11 0), .int (iI 5), .int (iI 0), .int (iI 0), .int (iI 0), .int (iI 0), .int (iI 0), .int (iI 0), .int (iI 0)]))] ++ [(q1, .inl (k 2, 3, .inr (.inr (.inr (.inr (va_up (va_up (va_up (fun _ => none) 0 (some (b3 0))) 1 (some (b5 0))) 2 (some (b7 0))))))))]) ++ (wBelt k b3 iB)) ++ (wBelt k b5 iB)) ++ (wBelt k b7 iB)) ++ (wRow k b9 iZ)) ++ (wCrew k b11 iZ))) H := hP
  have hD : va_D A ((((((([(h0, .inr (7, [.ref q1, .ref (b9 0), .ref (b11 0), .int (iI 5), .int (iI 0), .int (iI 0), .int (iI 0), .int (iI 0), .int (iI 0), .int (iI 0), .int (iI 0)]))] ++ [(q1, .inl (k 2, 3, .inr (.inr (.inr (.inr (va_up (va_up (va_up (fun _ => none) 0 (some (b3 0))) 1 (some (b5 0))) 2 (some (b7 0))))))))]) ++ (wBelt k b3 iB)) ++ (wBelt k b5 iB)) ++ (wBelt k b7 iB)) ++ (wRow k b9 iZ)) ++ (wCrew k b11 iZ))) := hD
  refine lv_aload_n hx hb dX5_init_94 rfl (lv_at hl 0 rfl) ?_
  refine lv_iconst (v := iI 0) hx hb dX5_init_95 rfl ?_
  refine va_put (D := D) (ci := 7) (v := .int (iI 0)) (ty := .int) (C := RX5) (T := TX5) (N := 11) hx hb hts (fun w h => List.mem_cons_of_mem _ (List.mem_append_left _ (List.mem_append_left _ (List.mem_append_right _ h)))) tyX5 tyX5_ok nmX5 hown hK hP hD hS 0 rfl rfl 9 (by decide) (hts (.fieldLink RX5 51 "MondayFactory$Plant" "fridaysOfWeek" "I") (List.mem_of_getElem? (i := 22) rfl)) (fun _ h9 => h9) rfl (by decide +kernel) rfl rfl (Nat.le_of_ble_eq_true rfl) dX5_init_96 (fun H locs hP hD hS => ?_)
  have hP : va_P D vwCl ((((((([(h0, .inr (7, [.ref q1, .ref (b9 0), .ref (b11 0), .int (iI 5), .int (iI 0), .int (iI 0), .int (iI 0), .int (iI 0), .int (iI 0), .int (iI 0), .int (iI 0)]))] ++ [(q1, .inl (k 2, 3, .inr (.inr (.inr (.inr (va_up (va_up (va_up (fun _ => none) 0 (some (b3 0))) 1 (some (b5 0))) 2 (some (b7 0))))))))]) ++ (wBelt k b3 iB)) ++ (wBelt k b5 iB)) ++ (wBelt k b7 iB)) ++ (wRow k b9 iZ)) ++ (wCrew k b11 iZ))) H := hP
  have hD : va_D A ((((((([(h0, .inr (7, [.ref q1, .ref (b9 0), .ref (b11 0), .int (iI 5), .int (iI 0), .int (iI 0), .int (iI 0), .int (iI 0), .int (iI 0), .int (iI 0), .int (iI 0)]))] ++ [(q1, .inl (k 2, 3, .inr (.inr (.inr (.inr (va_up (va_up (va_up (fun _ => none) 0 (some (b3 0))) 1 (some (b5 0))) 2 (some (b7 0))))))))]) ++ (wBelt k b3 iB)) ++ (wBelt k b5 iB)) ++ (wBelt k b7 iB)) ++ (wRow k b9 iZ)) ++ (wCrew k b11 iZ))) := hD
  refine lv_aload_n hx hb dX5_init_99 rfl (lv_at hl 0 rfl) ?_
  refine lv_iconst (v := iI 0) hx hb dX5_init_100 rfl ?_
  refine va_put (D := D) (ci := 7) (v := .int (iI 0)) (ty := .int) (C := RX5) (T := TX5) (N := 11) hx hb hts (fun w h => List.mem_cons_of_mem _ (List.mem_append_left _ (List.mem_append_left _ (List.mem_append_right _ h)))) tyX5 tyX5_ok nmX5 hown hK hP hD hS 0 rfl rfl 10 (by decide) (hts (.fieldLink RX5 54 "MondayFactory$Plant" "repairs" "I") (List.mem_of_getElem? (i := 23) rfl)) (fun _ h9 => h9) rfl (by decide +kernel) rfl rfl (Nat.le_of_ble_eq_true rfl) dX5_init_101 (fun H locs hP hD hS => ?_)
  have hP : va_P D vwCl ((((((([(h0, .inr (7, [.ref q1, .ref (b9 0), .ref (b11 0), .int (iI 5), .int (iI 0), .int (iI 0), .int (iI 0), .int (iI 0), .int (iI 0), .int (iI 0), .int (iI 0)]))] ++ [(q1, .inl (k 2, 3, .inr (.inr (.inr (.inr (va_up (va_up (va_up (fun _ => none) 0 (some (b3 0))) 1 (some (b5 0))) 2 (some (b7 0))))))))]) ++ (wBelt k b3 iB)) ++ (wBelt k b5 iB)) ++ (wBelt k b7 iB)) ++ (wRow k b9 iZ)) ++ (wCrew k b11 iZ))) H := hP
  have hD : va_D A ((((((([(h0, .inr (7, [.ref q1, .ref (b9 0), .ref (b11 0), .int (iI 5), .int (iI 0), .int (iI 0), .int (iI 0), .int (iI 0), .int (iI 0), .int (iI 0), .int (iI 0)]))] ++ [(q1, .inl (k 2, 3, .inr (.inr (.inr (.inr (va_up (va_up (va_up (fun _ => none) 0 (some (b3 0))) 1 (some (b5 0))) 2 (some (b7 0))))))))]) ++ (wBelt k b3 iB)) ++ (wBelt k b5 iB)) ++ (wBelt k b7 iB)) ++ (wRow k b9 iZ)) ++ (wCrew k b11 iZ))) := hD
  have hP := z_nrmQ hP 1 (fun j => some ((fun i => [h0, q1, b3 0, b3 1, b3 2, b5 0, b5 1, b5 2, b7 0, b7 1, b7 2, b9 0, b9 1, b11 0, b11 1].getD i 0) (2 + 3 * j))) rfl (fun j hj => by rcases (show j = 0 ∨ j = 1 ∨ j = 2 by omega) with rfl | rfl | rfl <;> rfl)
  exact z_cret hx hb hr hlocks hS dX5_init_104 (fun i => [h0, q1, b3 0, b3 1, b3 2, b5 0, b5 1, b5 2, b7 0, b7 1, b7 2, b9 0, b9 1, b11 0, b11 1].getD i 0) rfl hP (by refine z_fst ?_ hD; rfl) (Nat.le_of_ble_eq_true rfl) (Nat.le_of_ble_eq_true rfl)
set_option maxHeartbeats 4000000 in
set_option maxRecDepth 100000 in
theorem c_X3_init (l : Launch) (D : va_G) (k : Nat → ClassId) : zMc l yX3_init wsX3_init ({ frames := 1, cells := 1, slots := 60, locals := 12 } : Room) D k (.inr (5, [.null, .int (iI 0)]) : va_E) (fun a => wInput k a iZ) 1 60 := by
  refine zMc_of (cc := cX3_init) (maxL := 1) (ret := none) (by decide) rfl (Nat.le_of_ble_eq_true rfl) rfl ?_
  intro h0 p e s m args below meth c A ls hx hb hr hml hown hts hlocks hin hK hP hD hG hC hA hS hl
  have hown : s.vm.findClass RX3 = some m.cls := hown
  obtain ⟨H, hH⟩ : ∃ z, z = s.heap := ⟨_, rfl⟩
  obtain ⟨locs, hlc⟩ : ∃ z : List Loc, z = [] := ⟨_, rfl⟩
  rw [← hH] at hP
  have hS : va_S A s.heap H locs := by rw [hH, hlc]; exact hS
  rw [← hlc, ← hH]
  clear hlc hH
  refine lv_aload_n hx hb dX3_init_0 rfl (lv_at hl 0 rfl) ?_
  refine W.objInit hx hb hown (hts (.methodLink RX3 3 objectInit) (List.mem_of_getElem? (i := 1) rfl)) (hts (.instanceMethod objectInit) (List.mem_of_getElem? (i := 2) rfl)) (hts (.code objectInit ⟨#[0xb1]⟩ 1 none) (List.mem_of_getElem? (i := 3) rfl)) rfl (by rw [hml]; exact hl.1) rfl dX3_init_1 (Nat.le_of_ble_eq_true rfl) (Nat.le_of_ble_eq_true rfl) ?_
  refine W.eq (g2 := F0 m 4 ls []) rfl ?_
  refine lv_aload_n hx hb dX3_init_4 rfl (lv_at hl 0 rfl) ?_
  refine lv_bipush (v := iI 60) hx hb dX3_init_5 rfl ?_
  refine va_newa (atype := .char) (ty := .char) (N' := 60) (a0 := (60, .inl (fun _ => iI 0))) hx hb (hts (.arrayClass .char) (List.mem_of_getElem? (i := 4) rfl)) rfl hK hP hD hS hA (fun _ => rfl) (by decide +kernel) (by decide +kernel) (by decide) (Nat.le_of_ble_eq_true rfl) (Nat.le_of_ble_eq_true rfl) dX3_init_7 (fun q1 cA H hK2 hP hD hS => ?_)
  have eA := zK_eq hK2 1 rfl
  subst eA
  clear hK2
  have hP : va_P D vwCl (([(h0, .inr (5, [.null, .int (iI 0)]))] ++ [(q1, .inl (k 1, 60, .inl (fun _ => iI 0)))])) H := hP
  have hD : va_D A (([(h0, .inr (5, [.null, .int (iI 0)]))] ++ [(q1, .inl (k 1, 60, .inl (fun _ => iI 0)))])) := hD
  refine va_putF (D := D) (ci := 5) (v := .ref q1) (ty := .array .char) (C := RX3) (T := TX3) (N := 2) hx hb hts (fun w h => List.mem_cons_of_mem _ (List.mem_append_right _ h)) tyX3 tyX3_ok nmX3 hown hK hP hD hS 0 rfl rfl 0 (by decide) (hts (.fieldLink RX3 9 "MondayFactory$Input" "signs" "[C") (List.mem_of_getElem? (i := 5) rfl)) (fun _ h9 => h9) rfl hin rfl (by decide +kernel) rfl rfl (Nat.le_of_ble_eq_true rfl) dX3_init_9 (fun H locs hP hD hS => ?_)
  have hP : va_P D vwCl (([(h0, .inr (5, [.ref q1, .int (iI 0)]))] ++ [(q1, .inl (k 1, 60, .inl (fun _ => iI 0)))])) H := hP
  have hD : va_D A (([(h0, .inr (5, [.ref q1, .int (iI 0)]))] ++ [(q1, .inl (k 1, 60, .inl (fun _ => iI 0)))])) := hD
  refine lv_aload_n hx hb dX3_init_12 rfl (lv_at hl 0 rfl) ?_
  refine lv_iconst (v := iI 0) hx hb dX3_init_13 rfl ?_
  refine va_put (D := D) (ci := 5) (v := .int (iI 0)) (ty := .int) (C := RX3) (T := TX3) (N := 2) hx hb hts (fun w h => List.mem_cons_of_mem _ (List.mem_append_right _ h)) tyX3 tyX3_ok nmX3 hown hK hP hD hS 0 rfl rfl 1 (by decide) (hts (.fieldLink RX3 15 "MondayFactory$Input" "length" "I") (List.mem_of_getElem? (i := 6) rfl)) (fun _ h9 => h9) rfl (by decide +kernel) rfl rfl (Nat.le_of_ble_eq_true rfl) dX3_init_14 (fun H locs hP hD hS => ?_)
  have hP : va_P D vwCl (([(h0, .inr (5, [.ref q1, .int (iI 0)]))] ++ [(q1, .inl (k 1, 60, .inl (fun _ => iI 0)))])) H := hP
  have hD : va_D A (([(h0, .inr (5, [.ref q1, .int (iI 0)]))] ++ [(q1, .inl (k 1, 60, .inl (fun _ => iI 0)))])) := hD
  exact z_cret hx hb hr hlocks hS dX3_init_17 (fun i => [h0, q1].getD i 0) rfl hP hD (Nat.le_of_ble_eq_true rfl) (Nat.le_of_ble_eq_true rfl)
set_option maxHeartbeats 4000000 in
set_option maxRecDepth 100000 in
theorem c_X4_init (l : Launch) (D : va_G) (k : Nat → ClassId) : zMc l yX4_init wsX4_init ({ frames := 1, cells := 1, slots := 39, locals := 12 } : Room) D k (.inr (6, [.null, .int (iI 0)]) : va_E) (fun a => wLine k a iZ) 1 39 := by
  refine zMc_of (cc := cX4_init) (maxL := 1) (ret := none) (by decide) rfl (Nat.le_of_ble_eq_true rfl) rfl ?_
  intro h0 p e s m args below meth c A ls hx hb hr hml hown hts hlocks hin hK hP hD hG hC hA hS hl
  have hown : s.vm.findClass RX4 = some m.cls := hown
  obtain ⟨H, hH⟩ : ∃ z, z = s.heap := ⟨_, rfl⟩
  obtain ⟨locs, hlc⟩ : ∃ z : List Loc, z = [] := ⟨_, rfl⟩
  rw [← hH] at hP
  have hS : va_S A s.heap H locs := by rw [hH, hlc]; exact hS
  rw [← hlc, ← hH]
  clear hlc hH
  refine lv_aload_n hx hb dX4_init_0 rfl (lv_at hl 0 rfl) ?_
  refine W.objInit hx hb hown (hts (.methodLink RX4 3 objectInit) (List.mem_of_getElem? (i := 1) rfl)) (hts (.instanceMethod objectInit) (List.mem_of_getElem? (i := 2) rfl)) (hts (.code objectInit ⟨#[0xb1]⟩ 1 none) (List.mem_of_getElem? (i := 3) rfl)) rfl (by rw [hml]; exact hl.1) rfl dX4_init_1 (Nat.le_of_ble_eq_true rfl) (Nat.le_of_ble_eq_true rfl) ?_
  refine W.eq (g2 := F0 m 4 ls []) rfl ?_
  refine lv_aload_n hx hb dX4_init_4 rfl (lv_at hl 0 rfl) ?_
  refine lv_bipush (v := iI 39) hx hb dX4_init_5 rfl ?_
  refine va_newa (atype := .char) (ty := .char) (N' := 39) (a0 := (39, .inl (fun _ => iI 0))) hx hb (hts (.arrayClass .char) (List.mem_of_getElem? (i := 4) rfl)) rfl hK hP hD hS hA (fun _ => rfl) (by decide +kernel) (by decide +kernel) (by decide) (Nat.le_of_ble_eq_true rfl) (Nat.le_of_ble_eq_true rfl) dX4_init_7 (fun q1 cA H hK2 hP hD hS => ?_)
  have eA := zK_eq hK2 1 rfl
  subst eA
  clear hK2
  have hP : va_P D vwCl (([(h0, .inr (6, [.null, .int (iI 0)]))] ++ [(q1, .inl (k 1, 39, .inl (fun _ => iI 0)))])) H := hP
  have hD : va_D A (([(h0, .inr (6, [.null, .int (iI 0)]))] ++ [(q1, .inl (k 1, 39, .inl (fun _ => iI 0)))])) := hD
  refine va_putF (D := D) (ci := 6) (v := .ref q1) (ty := .array .char) (C := RX4) (T := TX4) (N := 2) hx hb hts (fun w h => List.mem_cons_of_mem _ (List.mem_append_right _ h)) tyX4 tyX4_ok nmX4 hown hK hP hD hS 0 rfl rfl 0 (by decide) (hts (.fieldLink RX4 9 "MondayFactory$Line" "signs" "[C") (List.mem_of_getElem? (i := 5) rfl)) (fun _ h9 => h9) rfl hin rfl (by decide +kernel) rfl rfl (Nat.le_of_ble_eq_true rfl) dX4_init_9 (fun H locs hP hD hS => ?_)
  have hP : va_P D vwCl (([(h0, .inr (6, [.ref q1, .int (iI 0)]))] ++ [(q1, .inl (k 1, 39, .inl (fun _ => iI 0)))])) H := hP
  have hD : va_D A (([(h0, .inr (6, [.ref q1, .int (iI 0)]))] ++ [(q1, .inl (k 1, 39, .inl (fun _ => iI 0)))])) := hD
  refine lv_aload_n hx hb dX4_init_12 rfl (lv_at hl 0 rfl) ?_
  refine lv_iconst (v := iI 0) hx hb dX4_init_13 rfl ?_
  refine va_put (D := D) (ci := 6) (v := .int (iI 0)) (ty := .int) (C := RX4) (T := TX4) (N := 2) hx hb hts (fun w h => List.mem_cons_of_mem _ (List.mem_append_right _ h)) tyX4 tyX4_ok nmX4 hown hK hP hD hS 0 rfl rfl 1 (by decide) (hts (.fieldLink RX4 15 "MondayFactory$Line" "length" "I") (List.mem_of_getElem? (i := 6) rfl)) (fun _ h9 => h9) rfl (by decide +kernel) rfl rfl (Nat.le_of_ble_eq_true rfl) dX4_init_14 (fun H locs hP hD hS => ?_)
  have hP : va_P D vwCl (([(h0, .inr (6, [.ref q1, .int (iI 0)]))] ++ [(q1, .inl (k 1, 39, .inl (fun _ => iI 0)))])) H := hP
  have hD : va_D A (([(h0, .inr (6, [.ref q1, .int (iI 0)]))] ++ [(q1, .inl (k 1, 39, .inl (fun _ => iI 0)))])) := hD
  exact z_cret hx hb hr hlocks hS dX4_init_17 (fun i => [h0, q1].getD i 0) rfl hP hD (Nat.le_of_ble_eq_true rfl) (Nat.le_of_ble_eq_true rfl)
set_option maxHeartbeats 4000000 in
set_option maxRecDepth 100000 in
theorem c_X2_init (l : Launch) (D : va_G) (k : Nat → ClassId) : zMc l yX2_init wsX2_init ({ frames := 4, cells := 121, slots := 1400, locals := 72 } : Room) D k (.inr (4, [.null, .int (iI 0), .int (iI 0)]) : va_E) (fun a => wHist k a iZ ++ wRing k a (fun _ => iPl)) 121 1400 := by
  refine zMc_of (cc := cX2_init) (maxL := 2) (ret := none) (by decide) rfl (Nat.le_of_ble_eq_true rfl) rfl ?_
  intro h0 p e s m args below meth c A ls hx hb hr hml hown hts hlocks hin hK hP hD hG hC hA hS hl
  have hown : s.vm.findClass RX2 = some m.cls := hown
  obtain ⟨H, hH⟩ : ∃ z, z = s.heap := ⟨_, rfl⟩
  obtain ⟨locs, hlc⟩ : ∃ z : List Loc, z = [] := ⟨_, rfl⟩
  rw [← hH] at hP
  have hS : va_S A s.heap H locs := by rw [hH, hlc]; exact hS
  rw [← hlc, ← hH]
  clear hlc hH
  refine lv_aload_n hx hb dX2_init_0 rfl (lv_at hl 0 rfl) ?_
  refine W.objInit hx hb hown (hts (.methodLink RX2 3 objectInit) (List.mem_of_getElem? (i := 1) rfl)) (hts (.instanceMethod objectInit) (List.mem_of_getElem? (i := 2) rfl)) (hts (.code objectInit ⟨#[0xb1]⟩ 1 none) (List.mem_of_getElem? (i := 3) rfl)) rfl (by rw [hml]; exact hl.1) rfl dX2_init_1 (Nat.le_of_ble_eq_true rfl) (Nat.le_of_ble_eq_true rfl) ?_
  refine W.eq (g2 := F0 m 4 ls []) rfl ?_
  refine lv_aload_n hx hb dX2_init_4 rfl (lv_at hl 0 rfl) ?_
  refine lv_bipush (v := iI 8) hx hb dX2_init_5 rfl ?_
  refine va_newq (C := RX5) (N' := 8) hx hb hown (hts (.classLink RX2 9 RX5) (List.mem_of_getElem? (i := 4) rfl)) hC.2 hK hP hD hS hA (by decide +kernel) (by decide +kernel) (by decide) (Nat.le_of_ble_eq_true rfl) (Nat.le_of_ble_eq_true rfl) dX2_init_7 (fun q1 cA H hK2 hP hD hS => ?_)
  have eA := zK_eq hK2 3 rfl
  subst eA
  clear hK2
  have hP : va_P D vwCl (([(h0, .inr (4, [.null, .int (iI 0), .int (iI 0)]))] ++ [(q1, .inl (k 3, 8, .inr (.inr (.inr (.inr (fun _ => none))))))])) H := hP
  have hD : va_D A (([(h0, .inr (4, [.null, .int (iI 0), .int (iI 0)]))] ++ [(q1, .inl (k 3, 8, .inr (.inr (.inr (.inr (fun _ => none))))))])) := hD
  refine va_putF (D := D) (ci := 4) (v := .ref q1) (ty := .array (.object "MondayFactory$Plant")) (C := RX2) (T := TX2) (N := 3) hx hb hts (fun w h => List.mem_cons_of_mem _ (List.mem_append_left _ (List.mem_append_left _ (List.mem_append_left _ (List.mem_append_left _ (List.mem_append_right _ h)))))) tyX2 tyX2_ok nmX2 hown hK hP hD hS 0 rfl rfl 0 (by decide) (hts (.fieldLink RX2 11 "MondayFactory$History" "plants" "[LMondayFactory$Plant;") (List.mem_of_getElem? (i := 5) rfl)) (fun _ h9 => h9) rfl hin rfl (by decide +kernel) rfl rfl (Nat.le_of_ble_eq_true rfl) dX2_init_10 (fun H locs hP hD hS => ?_)
  have hP : va_P D vwCl (([(h0, .inr (4, [.ref q1, .int (iI 0), .int (iI 0)]))] ++ [(q1, .inl (k 3, 8, .inr (.inr (.inr (.inr (fun _ => none))))))])) H := hP
  have hD : va_D A (([(h0, .inr (4, [.ref q1, .int (iI 0), .int (iI 0)]))] ++ [(q1, .inl (k 3, 8, .inr (.inr (.inr (.inr (fun _ => none))))))])) := hD
  refine lv_aload_n hx hb dX2_init_13 rfl (lv_at hl 0 rfl) ?_
  refine lv_iconst (v := iI 0) hx hb dX2_init_14 rfl ?_
  refine va_put (D := D) (ci := 4) (v := .int (iI 0)) (ty := .int) (C := RX2) (T := TX2) (N := 3) hx hb hts (fun w h => List.mem_cons_of_mem _ (List.mem_append_left _ (List.mem_append_left _ (List.mem_append_left _ (List.mem_append_left _ (List.mem_append_right _ h)))))) tyX2 tyX2_ok nmX2 hown hK hP hD hS 0 rfl rfl 1 (by decide) (hts (.fieldLink RX2 17 "MondayFactory$History" "at" "I") (List.mem_of_getElem? (i := 6) rfl)) (fun _ h9 => h9) rfl (by decide +kernel) rfl rfl (Nat.le_of_ble_eq_true rfl) dX2_init_15 (fun H locs hP hD hS => ?_)
  have hP : va_P D vwCl (([(h0, .inr (4, [.ref q1, .int (iI 0), .int (iI 0)]))] ++ [(q1, .inl (k 3, 8, .inr (.inr (.inr (.inr (fun _ => none))))))])) H := hP
  have hD : va_D A (([(h0, .inr (4, [.ref q1, .int (iI 0), .int (iI 0)]))] ++ [(q1, .inl (k 3, 8, .inr (.inr (.inr (.inr (fun _ => none))))))])) := hD
  refine lv_aload_n hx hb dX2_init_18 rfl (lv_at hl 0 rfl) ?_
  refine lv_iconst (v := iI 0) hx hb dX2_init_19 rfl ?_
  refine va_put (D := D) (ci := 4) (v := .int (iI 0)) (ty := .int) (C := RX2) (T := TX2) (N := 3) hx hb hts (fun w h => List.mem_cons_of_mem _ (List.mem_append_left _ (List.mem_append_left _ (List.mem_append_left _ (List.mem_append_left _ (List.mem_append_right _ h)))))) tyX2 tyX2_ok nmX2 hown hK hP hD hS 0 rfl rfl 2 (by decide) (hts (.fieldLink RX2 21 "MondayFactory$History" "count" "I") (List.mem_of_getElem? (i := 7) rfl)) (fun _ h9 => h9) rfl (by decide +kernel) rfl rfl (Nat.le_of_ble_eq_true rfl) dX2_init_20 (fun H locs hP hD hS => ?_)
  have hP : va_P D vwCl (([(h0, .inr (4, [.ref q1, .int (iI 0), .int (iI 0)]))] ++ [(q1, .inl (k 3, 8, .inr (.inr (.inr (.inr (fun _ => none))))))])) H := hP
  have hD : va_D A (([(h0, .inr (4, [.ref q1, .int (iI 0), .int (iI 0)]))] ++ [(q1, .inl (k 3, 8, .inr (.inr (.inr (.inr (fun _ => none))))))])) := hD
  refine lv_iconst (v := iI 0) hx hb dX2_init_23 rfl ?_
  refine lv_istore_n (lv' := [(1, .int (iI 0)), (0, .ref h0)]) hx hb dX2_init_24 rfl hl (by decide) rfl (fun ls hl => ?_)
  refine lv_iload_n hx hb dX2_init_25 rfl (lv_at hl 0 rfl) ?_
  refine lv_bipush (v := iI 8) hx hb dX2_init_26 rfl ?_
  refine zi_icmp_ge (tgt := 50) hx hb dX2_init_28 (by decide) ⟨by omega, by omega⟩ ⟨by omega, by omega⟩ (fun h9 => absurd h9 (by decide)) (fun _ => ?_)
  refine lv_aload_n hx hb dX2_init_31 rfl (lv_at hl 1 rfl) ?_
  refine va_get (D := D) (ci := 4) (v := .ref q1) (C := RX2) (T := TX2) (N := 3) hx hb hts (fun w h => List.mem_cons_of_mem _ (List.mem_append_left _ (List.mem_append_left _ (List.mem_append_left _ (List.mem_append_left _ (List.mem_append_right _ h)))))) hown hK hP 0 rfl rfl 0 (by decide) (hts (.fieldLink RX2 11 "MondayFactory$History" "plants" "[LMondayFactory$Plant;") (List.mem_of_getElem? (i := 5) rfl)) (fun _ h9 => h9) rfl dX2_init_32 ?_
  refine lv_iload_n hx hb dX2_init_35 rfl (lv_at hl 0 rfl) ?_
  refine va_new (ci := 7) (fs := [.null, .null, .null, .int (iI 0), .int (iI 0), .int (iI 0), .int (iI 0), .int (iI 0), .int (iI 0), .int (iI 0), .int (iI 0)]) (C := RX5) (T := TX5) (N := 11) hx hb hts (fun w h => List.mem_cons_of_mem _ (List.mem_append_left _ (List.mem_append_left _ (List.mem_append_left _ (List.mem_append_right _ h))))) tyX5 tyX5_ok hown (hts (.classLink RX2 9 RX5) (List.mem_of_getElem? (i := 4) rfl)) (hts (.instantiable RX5 11) (List.mem_of_getElem? (i := 8) rfl)) (hts (.initialized RX5) (List.mem_of_getElem? (i := 9) rfl)) hK hP hD hS hA rfl (fun j hj => by rcases (show j = 0 ∨ j = 1 ∨ j = 2 ∨ j = 3 ∨ j = 4 ∨ j = 5 ∨ j = 6 ∨ j = 7 ∨ j = 8 ∨ j = 9 ∨ j = 10 by omega) with rfl | rfl | rfl | rfl | rfl | rfl | rfl | rfl | rfl | rfl | rfl <;> rfl) (Nat.le_of_ble_eq_true rfl) (Nat.le_of_ble_eq_true rfl) dX2_init_36 (fun q2 H hP hD hS => ?_)
  have hP : va_P D vwCl ((([(h0, .inr (4, [.ref q1, .int (iI 0), .int (iI 0)]))] ++ [(q1, .inl (k 3, 8, .inr (.inr (.inr (.inr (fun _ => none))))))]) ++ [(q2, .inr (7, [.null, .null, .null, .int (iI 0), .int (iI 0), .int (iI 0), .int (iI 0), .int (iI 0), .int (iI 0), .int (iI 0), .int (iI 0)]))])) H := hP
  have hD : va_D A ((([(h0, .inr (4, [.ref q1, .int (iI 0), .int (iI 0)]))] ++ [(q1, .inl (k 3, 8, .inr (.inr (.inr (.inr (fun _ => none))))))]) ++ [(q2, .inr (7, [.null, .null, .null, .int (iI 0), .int (iI 0), .int (iI 0), .int (iI 0), .int (iI 0), .int (iI 0), .int (iI 0), .int (iI 0)]))])) := hD
  refine lv_dup hx hb dX2_init_39 rfl ?_
  refine z_acv (wr := ([(h0, .inr (4, [.ref q1, .int (iI 0), .int (iI 0)]))] ++ [(q1, .inl (k 3, 8, .inr (.inr (.inr (.inr (fun _ => none))))))])) (q := q2) (va_runIN (As := []) (rest := [.ref q2, .int (iI 0), .ref q1]) ⟨hx, hb, hml, hown, hts⟩ (c_X5_init l D k q2 _) ⟨va_cnB 0 hts gX2_init_X5_init_n24 rfl rfl rfl (hG.2.2.1 (RX2, 24, yX5_init, RX7) (by decide +kernel)) (hts (.initialized RX5) (List.mem_of_getElem? (i := 9) rfl)) (by decide +kernel) ⟨(Nat.le_of_ble_eq_true rfl), (Nat.le_of_ble_eq_true rfl)⟩, rfl, (hts (.instanceMethod yX5_init) (List.mem_of_getElem? (i := 10) rfl))⟩ (z_preC (wr := ([(h0, .inr (4, [.ref q1, .int (iI 0), .int (iI 0)]))] ++ [(q1, .inl (k 3, 8, .inr (.inr (.inr (.inr (fun _ => none))))))])) hK hG hC hA hP hD hS) rfl rfl hl.1 rfl (lv_room (Nat.le_of_ble_eq_true rfl)) dX2_init_40 ⟨(Nat.le_of_ble_eq_true rfl), (Nat.le_of_ble_eq_true rfl)⟩) hA hP hD hS (fun b3 H2 locs2 ha hP2 hD2 hS2 => ?_)
  clear hP hD hS
  subst ha
  have hP := hP2
  have hD := hD2
  have hS := hS2
  clear hP2 hD2 hS2
  generalize H2 = H at hP hS ⊢
  generalize locs2 = locs at hS ⊢
  have hP : va_P D vwCl ((([(h0, .inr (4, [.ref q1, .int (iI 0), .int (iI 0)]))] ++ [(q1, .inl (k 3, 8, .inr (.inr (.inr (.inr (fun _ => none))))))]) ++ (wPlant k b3 iPl))) H := hP
  have hD : va_D A ((([(h0, .inr (4, [.ref q1, .int (iI 0), .int (iI 0)]))] ++ [(q1, .inl (k 3, 8, .inr (.inr (.inr (.inr (fun _ => none))))))]) ++ (wPlant k b3 iPl))) := hD
  refine va_astq hx hb hK hP hD hS 1 3 2 7 (r := (RX5, TX5, 11)) rfl rfl rfl rfl (i := iI 0) (z_in (by decide) (by decide) (by decide)) dX2_init_43 (fun H locs hP hD hS => ?_)
  have hP : va_P D vwCl ((([(h0, .inr (4, [.ref q1, .int (iI 0), .int (iI 0)]))] ++ [(q1, .inl (k 3, 8, .inr (.inr (.inr (.inr (va_up (fun _ => none) 0 (some (b3 0))))))))]) ++ (wPlant k b3 iPl))) H := hP
  have hD : va_D A ((([(h0, .inr (4, [.ref q1, .int (iI 0), .int (iI 0)]))] ++ [(q1, .inl (k 3, 8, .inr (.inr (.inr (.inr (va_up (fun _ => none) 0 (some (b3 0))))))))]) ++ (wPlant k b3 iPl))) := hD
  refine lv_iinc (v := iI 1) (lv' := [(1, .int (iI 1)), (0, .ref h0)]) hx hb dX2_init_44 hl (k := 0) rfl (by decide +kernel) (by decide) rfl (fun ls hl => ?_)
  refine lv_goto (tgt := 25) hx hb dX2_init_47 (by decide) ?_
  refine lv_iload_n hx hb dX2_init_25 rfl (lv_at hl 0 rfl) ?_
  refine lv_bipush (v := iI 8) hx hb dX2_init_26 rfl ?_
  refine zi_icmp_ge (tgt := 50) hx hb dX2_init_28 (by decide) ⟨by omega, by omega⟩ ⟨by omega, by omega⟩ (fun h9 => absurd h9 (by decide)) (fun _ => ?_)
  refine lv_aload_n hx hb dX2_init_31 rfl (lv_at hl 1 rfl) ?_
  refine va_get (D := D) (ci := 4) (v := .ref q1) (C := RX2) (T := TX2) (N := 3) hx hb hts (fun w h => List.mem_cons_of_mem _ (List.mem_append_left _ (List.mem_append_left _ (List.mem_append_left _ (List.mem_append_left _ (List.mem_append_right _ h)))))) hown hK hP 0 rfl rfl 0 (by decide) (hts (.fieldLink RX2 11 "MondayFactory$History" "plants" "[LMondayFactory$Plant;") (List.mem_of_getElem? (i := 5) rfl)) (fun _ h9 => h9) rfl dX2_init_32 ?_
  refine lv_iload_n hx hb dX2_init_35 rfl (lv_at hl 0 rfl) ?_
  refine va_new (ci := 7) (fs := [.null, .null, .null, .int (iI 0), .int (iI 0), .int (iI 0), .int (iI 0), .int (iI 0), .int (iI 0), .int (iI 0), .int (iI 0)]) (C := RX5) (T := TX5) (N := 11) hx hb hts (fun w h => List.mem_cons_of_mem _ (List.mem_append_left _ (List.mem_append_left _ (List.mem_append_left _ (List.mem_append_right _ h))))) tyX5 tyX5_ok hown (hts (.classLink RX2 9 RX5) (List.mem_of_getElem? (i := 4) rfl)) (hts (.instantiable RX5 11) (List.mem_of_getElem? (i := 8) rfl)) (hts (.initialized RX5) (List.mem_of_getElem? (i := 9) rfl)) hK hP hD hS hA rfl (fun j hj => by rcases (show j = 0 ∨ j = 1 ∨ j = 2 ∨ j = 3 ∨ j = 4 ∨ j = 5 ∨ j = 6 ∨ j = 7 ∨ j = 8 ∨ j = 9 ∨ j = 10 by omega) with rfl | rfl | rfl | rfl | rfl | rfl | rfl | rfl | rfl | rfl | rfl <;> rfl) (Nat.le_of_ble_eq_true rfl) (Nat.le_of_ble_eq_true rfl) dX2_init_36 (fun q4 H hP hD hS => ?_)
  have hP : va_P D vwCl (((([(h0, .inr (4, [.ref q1, .int (iI 0), .int (iI 0)]))] ++ [(q1, .inl (k 3, 8, .inr (.inr (.inr (.inr (va_up (fun _ => none) 0 (some (b3 0))))))))]) ++ (wPlant k b3 iPl)) ++ [(q4, .inr (7, [.null, .null, .null, .int (iI 0), .int (iI 0), .int (iI 0), .int (iI 0), .int (iI 0), .int (iI 0), .int (iI 0), .int (iI 0)]))])) H := hP
  have hD : va_D A (((([(h0, .inr (4, [.ref q1, .int (iI 0), .int (iI 0)]))] ++ [(q1, .inl (k 3, 8, .inr (.inr (.inr (.inr (va_up (fun _ => none) 0 (some (b3 0))))))))]) ++ (wPlant k b3 iPl)) ++ [(q4, .inr (7, [.null, .null, .null, .int (iI 0), .int (iI 0), .int (iI 0), .int (iI 0), .int (iI 0), .int (iI 0), .int (iI 0), .int (iI 0)]))])) := hD
  refine lv_dup hx hb dX2_init_39 rfl ?_
  refine z_acv (wr := (([(h0, .inr (4, [.ref q1, .int (iI 0), .int (iI 0)]))] ++ [(q1, .inl (k 3, 8, .inr (.inr (.inr (.inr (va_up (fun _ => none) 0 (some (b3 0))))))))]) ++ (wPlant k b3 iPl))) (q := q4) (va_runIN (As := []) (rest := [.ref q4, .int (iI 1), .ref q1]) ⟨hx, hb, hml, hown, hts⟩ (c_X5_init l D k q4 _) ⟨va_cnB 0 hts gX2_init_X5_init_n24 rfl rfl rfl (hG.2.2.1 (RX2, 24, yX5_init, RX7) (by decide +kernel)) (hts (.initialized RX5) (List.mem_of_getElem? (i := 9) rfl)) (by decide +kernel) ⟨(Nat.le_of_ble_eq_true rfl), (Nat.le_of_ble_eq_true rfl)⟩, rfl, (hts (.instanceMethod yX5_init) (List.mem_of_getElem? (i := 10) rfl))⟩ (z_preC (wr := (([(h0, .inr (4, [.ref q1, .int (iI 0), .int (iI 0)]))] ++ [(q1, .inl (k 3, 8, .inr (.inr (.inr (.inr (va_up (fun _ => none) 0 (some (b3 0))))))))]) ++ (wPlant k b3 iPl))) hK hG hC hA hP hD hS) rfl rfl hl.1 rfl (lv_room (Nat.le_of_ble_eq_true rfl)) dX2_init_40 ⟨(Nat.le_of_ble_eq_true rfl), (Nat.le_of_ble_eq_true rfl)⟩) hA hP hD hS (fun b5 H2 locs2 ha hP2 hD2 hS2 => ?_)
  clear hP hD hS
  subst ha
  have hP := hP2
  have hD := hD2
  have hS := hS2
  clear hP2 hD2 hS2
  generalize H2 = H at hP hS ⊢
  generalize locs2 = locs at hS ⊢
  have hP : va_P D vwCl (((([(h0, .inr (4, [.ref q1, .int (iI 0), .int (iI 0)]))] ++ [(q1, .inl (k 3, 8, .inr (.inr (.inr (.inr (va_up (fun _ => none) 0 (some (b3 0))))))))]) ++ (wPlant k b3 iPl)) ++ (wPlant k b5 iPl))) H := hP
  have hD : va_D A (((([(h0, .inr (4, [.ref q1, .int (iI 0), .int (iI 0)]))] ++ [(q1, .inl (k 3, 8, .inr (.inr (.inr (.inr (va_up (fun _ => none) 0 (some (b3 0))))))))]) ++ (wPlant k b3 iPl)) ++ (wPlant k b5 iPl))) := hD
  refine va_astq hx hb hK hP hD hS 1 3 17 7 (r := (RX5, TX5, 11)) rfl rfl rfl rfl (i := iI 1) (z_in (by decide) (by decide) (by decide)) dX2_init_43 (fun H locs hP hD hS => ?_)
  have hP : va_P D vwCl (((([(h0, .inr (4, [.ref q1, .int (iI 0), .int (iI 0)]))] ++ [(q1, .inl (k 3, 8, .inr (.inr (.inr (.inr (va_up (va_up (fun _ => none) 0 (some (b3 0))) 1 (some (b5 0))))))))]) ++ (wPlant k b3 iPl)) ++ (wPlant k b5 iPl))) H := hP
  have hD : va_D A (((([(h0, .inr (4, [.ref q1, .int (iI 0), .int (iI 0)]))] ++ [(q1, .inl (k 3, 8, .inr (.inr (.inr (.inr (va_up (va_up (fun _ => none) 0 (some (b3 0))) 1 (some (b5 0))))))))]) ++ (wPlant k b3 iPl)) ++ (wPlant k b5 iPl))) := hD
  refine lv_iinc (v := iI 2) (lv' := [(1, .int (iI 2)), (0, .ref h0)]) hx hb dX2_init_44 hl (k := 0) rfl (by decide +kernel) (by decide) rfl (fun ls hl => ?_)
  refine lv_goto (tgt := 25) hx hb dX2_init_47 (by decide) ?_
  refine lv_iload_n hx hb dX2_init_25 rfl (lv_at hl 0 rfl) ?_
  refine lv_bipush (v := iI 8) hx hb dX2_init_26 rfl ?_
  refine zi_icmp_ge (tgt := 50) hx hb dX2_init_28 (by decide) ⟨by omega, by omega⟩ ⟨by omega, by omega⟩ (fun h9 => absurd h9 (by decide)) (fun _ => ?_)
  refine lv_aload_n hx hb dX2_init_31 rfl (lv_at hl 1 rfl) ?_
  refine va_get (D := D) (ci := 4) (v := .ref q1) (C := RX2) (T := TX2) (N := 3) hx hb hts (fun w h => List.mem_cons_of_mem _ (List.mem_append_left _ (List.mem_append_left _ (List.mem_append_left _ (List.mem_append_left _ (List.mem_append_right _ h)))))) hown hK hP 0 rfl rfl 0 (by decide) (hts (.fieldLink RX2 11 "MondayFactory$History" "plants" "[LMondayFactory$Plant;") (List.mem_of_getElem? (i := 5) rfl)) (fun _ h9 => h9) rfl dX2_init_32 ?_
  refine lv_iload_n hx hb dX2_init_35 rfl (lv_at hl 0 rfl) ?_
  refine va_new (ci := 7) (fs := [.null, .null, .null, .int (iI 0), .int (iI 0), .int (iI 0), .int (iI 0), .int (iI 0), .int (iI 0), .int (iI 0), .int (iI 0)]) (C := RX5) (T := TX5) (N := 11) hx hb hts (fun w h => List.mem_cons_of_mem _ (List.mem_append_left _ (List.mem_append_left _ (List.mem_append_left _ (List.mem_append_right _ h))))) tyX5 tyX5_ok hown (hts (.classLink RX2 9 RX5) (List.mem_of_getElem? (i := 4) rfl)) (hts (.instantiable RX5 11) (List.mem_of_getElem? (i := 8) rfl)) (hts (.initialized RX5) (List.mem_of_getElem? (i := 9) rfl)) hK hP hD hS hA rfl (fun j hj => by rcases (show j = 0 ∨ j = 1 ∨ j = 2 ∨ j = 3 ∨ j = 4 ∨ j = 5 ∨ j = 6 ∨ j = 7 ∨ j = 8 ∨ j = 9 ∨ j = 10 by omega) with rfl | rfl | rfl | rfl | rfl | rfl | rfl | rfl | rfl | rfl | rfl <;> rfl) (Nat.le_of_ble_eq_true rfl) (Nat.le_of_ble_eq_true rfl) dX2_init_36 (fun q6 H hP hD hS => ?_)
  have hP : va_P D vwCl ((((([(h0, .inr (4, [.ref q1, .int (iI 0), .int (iI 0)]))] ++ [(q1, .inl (k 3, 8, .inr (.inr (.inr (.inr (va_up (va_up (fun _ => none) 0 (some (b3 0))) 1 (some (b5 0))))))))]) ++ (wPlant k b3 iPl)) ++ (wPlant k b5 iPl)) ++ [(q6, .inr (7, [.null, .null, .null, .int (iI 0), .int (iI 0), .int (iI 0), .int (iI 0), .int (iI 0), .int (iI 0), .int (iI 0), .int (iI 0)]))])) H := hP
  have hD : va_D A ((((([(h0, .inr (4, [.ref q1, .int (iI 0), .int (iI 0)]))] ++ [(q1, .inl (k 3, 8, .inr (.inr (.inr (.inr (va_up (va_up (fun _ => none) 0 (some (b3 0))) 1 (some (b5 0))))))))]) ++ (wPlant k b3 iPl)) ++ (wPlant k b5 iPl)) ++ [(q6, .inr (7, [.null, .null, .null, .int (iI 0), .int (iI 0), .int (iI 0), .int (iI 0), .int (iI 0), .int (iI 0), .int (iI 0), .int (iI 0)]))])) := hD
  refine lv_dup hx hb dX2_init_39 rfl ?_
  refine z_acv (wr := ((([(h0, .inr (4, [.ref q1, .int (iI 0), .int (iI 0)]))] ++ [(q1, .inl (k 3, 8, .inr (.inr (.inr (.inr (va_up (va_up (fun _ => none) 0 (some (b3 0))) 1 (some (b5 0))))))))]) ++ (wPlant k b3 iPl)) ++ (wPlant k b5 iPl))) (q := q6) (va_runIN (As := []) (rest := [.ref q6, .int (iI 2), .ref q1]) ⟨hx, hb, hml, hown, hts⟩ (c_X5_init l D k q6 _) ⟨va_cnB 0 hts gX2_init_X5_init_n24 rfl rfl rfl (hG.2.2.1 (RX2, 24, yX5_init, RX7) (by decide +kernel)) (hts (.initialized RX5) (List.mem_of_getElem? (i := 9) rfl)) (by decide +kernel) ⟨(Nat.le_of_ble_eq_true rfl), (Nat.le_of_ble_eq_true rfl)⟩, rfl, (hts (.instanceMethod yX5_init) (List.mem_of_getElem? (i := 10) rfl))⟩ (z_preC (wr := ((([(h0, .inr (4, [.ref q1, .int (iI 0), .int (iI 0)]))] ++ [(q1, .inl (k 3, 8, .inr (.inr (.inr (.inr (va_up (va_up (fun _ => none) 0 (some (b3 0))) 1 (some (b5 0))))))))]) ++ (wPlant k b3 iPl)) ++ (wPlant k b5 iPl))) hK hG hC hA hP hD hS) rfl rfl hl.1 rfl (lv_room (Nat.le_of_ble_eq_true rfl)) dX2_init_40 ⟨(Nat.le_of_ble_eq_true rfl), (Nat.le_of_ble_eq_true rfl)⟩) hA hP hD hS (fun b7 H2 locs2 ha hP2 hD2 hS2 => ?_)
  clear hP hD hS
  subst ha
  have hP := hP2
  have hD := hD2
  have hS := hS2
  clear hP2 hD2 hS2
  generalize H2 = H at hP hS ⊢
  generalize locs2 = locs at hS ⊢
  have hP : va_P D vwCl ((((([(h0, .inr (4, [.ref q1, .int (iI 0), .int (iI 0)]))] ++ [(q1, .inl (k 3, 8, .inr (.inr (.inr (.inr (va_up (va_up (fun _ => none) 0 (some (b3 0))) 1 (some (b5 0))))))))]) ++ (wPlant k b3 iPl)) ++ (wPlant k b5 iPl)) ++ (wPlant k b7 iPl))) H := hP
  have hD : va_D A ((((([(h0, .inr (4, [.ref q1, .int (iI 0), .int (iI 0)]))] ++ [(q1, .inl (k 3, 8, .inr (.inr (.inr (.inr (va_up (va_up (fun _ => none) 0 (some (b3 0))) 1 (some (b5 0))))))))]) ++ (wPlant k b3 iPl)) ++ (wPlant k b5 iPl)) ++ (wPlant k b7 iPl))) := hD
  refine va_astq hx hb hK hP hD hS 1 3 32 7 (r := (RX5, TX5, 11)) rfl rfl rfl rfl (i := iI 2) (z_in (by decide) (by decide) (by decide)) dX2_init_43 (fun H locs hP hD hS => ?_)
  have hP : va_P D vwCl ((((([(h0, .inr (4, [.ref q1, .int (iI 0), .int (iI 0)]))] ++ [(q1, .inl (k 3, 8, .inr (.inr (.inr (.inr (va_up (va_up (va_up (fun _ => none) 0 (some (b3 0))) 1 (some (b5 0))) 2 (some (b7 0))))))))]) ++ (wPlant k b3 iPl)) ++ (wPlant k b5 iPl)) ++ (wPlant k b7 iPl))) H := hP
  have hD : va_D A ((((([(h0, .inr (4, [.ref q1, .int (iI 0), .int (iI 0)]))] ++ [(q1, .inl (k 3, 8, .inr (.inr (.inr (.inr (va_up (va_up (va_up (fun _ => none) 0 (some (b3 0))) 1 (some (b5 0))) 2 (some (b7 0))))))))]) ++ (wPlant k b3 iPl)) ++ (wPlant k b5 iPl)) ++ (wPlant k b7 iPl))) := hD
  refine lv_iinc (v := iI 3) (lv' := [(1, .int (iI 3)), (0, .ref h0)]) hx hb dX2_init_44 hl (k := 0) rfl (by decide +kernel) (by decide) rfl (fun ls hl => ?_)
  refine lv_goto (tgt := 25) hx hb dX2_init_47 (by decide) ?_
  refine lv_iload_n hx hb dX2_init_25 rfl (lv_at hl 0 rfl) ?_
  refine lv_bipush (v := iI 8) hx hb dX2_init_26 rfl ?_
  refine zi_icmp_ge (tgt := 50) hx hb dX2_init_28 (by decide) ⟨by omega, by omega⟩ ⟨by omega, by omega⟩ (fun h9 => absurd h9 (by decide)) (fun _ => ?_)
  refine lv_aload_n hx hb dX2_init_31 rfl (lv_at hl 1 rfl) ?_
  refine va_get (D := D) (ci := 4) (v := .ref q1) (C := RX2) (T := TX2) (N := 3) hx hb hts (fun w h => List.mem_cons_of_mem _ (List.mem_append_left _ (List.mem_append_left _ (List.mem_append_left _ (List.mem_append_left _ (List.mem_append_right _ h)))))) hown hK hP 0 rfl rfl 0 (by decide) (hts (.fieldLink RX2 11 "MondayFactory$History" "plants" "[LMondayFactory$Plant;") (List.mem_of_getElem? (i := 5) rfl)) (fun _ h9 => h9) rfl dX2_init_32 ?_
  refine lv_iload_n hx hb dX2_init_35 rfl (lv_at hl 0 rfl) ?_
  refine va_new (ci := 7) (fs := [.null, .null, .null, .int (iI 0), .int (iI 0), .int (iI 0), .int (iI 0), .int (iI 0), .int (iI 0), .int (iI 0), .int (iI 0)]) (C := RX5) (T := TX5) (N := 11) hx hb hts (fun w h => List.mem_cons_of_mem _ (List.mem_append_left _ (List.mem_append_left _ (List.mem_append_left _ (List.mem_append_right _ h))))) tyX5 tyX5_ok hown (hts (.classLink RX2 9 RX5) (List.mem_of_getElem? (i := 4) rfl)) (hts (.instantiable RX5 11) (List.mem_of_getElem? (i := 8) rfl)) (hts (.initialized RX5) (List.mem_of_getElem? (i := 9) rfl)) hK hP hD hS hA rfl (fun j hj => by rcases (show j = 0 ∨ j = 1 ∨ j = 2 ∨ j = 3 ∨ j = 4 ∨ j = 5 ∨ j = 6 ∨ j = 7 ∨ j = 8 ∨ j = 9 ∨ j = 10 by omega) with rfl | rfl | rfl | rfl | rfl | rfl | rfl | rfl | rfl | rfl | rfl <;> rfl) (Nat.le_of_ble_eq_true rfl) (Nat.le_of_ble_eq_true rfl) dX2_init_36 (fun q8 H hP hD hS => ?_)
  have hP : va_P D vwCl (((((([(h0, .inr (4, [.ref q1, .int (iI 0), .int (iI 0)]))] ++ [(q1, .inl (k 3, 8, .inr (.inr (.inr (.inr (va_up (va_up (va_up (fun _ => none) 0 (some (b3 0))) 1 (some (b5 0))) 2 (some (b7 0))))))))]) ++ (wPlant k b3 iPl)) ++ (wPlant k b5 iPl)) ++ (wPlant k b7 iPl)) ++ [(q8, .inr (7, [.null, .null, .null, .int (iI 0), .int (iI 0), .int (iI 0), .int (iI 0), .int (iI 0), .int (iI 0), .int (iI 0), .int (iI 0)]))])) H := hP
  have hD : va_D A (((((([(h0, .inr (4, [.ref q1, .int (iI 0), .int (iI 0)]))] ++ [(q1, .inl (k 3, 8, .inr (.inr (.inr (.inr (va_up (va_up (va_up (fun _ => none) 0 (some (b3 0))) 1 (some (b5 0))) 2 (some (b7 0))))))))]) ++ (wPlant k b3 iPl)) ++ (wPlant k b5 iPl)) ++ (wPlant k b7 iPl)) ++ [(q8, .inr (7, [.null, .null, .null, .int (iI 0), .int (iI 0), .int (iI 0), .int (iI 0), .int (iI 0), .int (iI 0), .int (iI 0), .int (iI 0)]))])) := hD
  refine lv_dup hx hb dX2_init_39 rfl ?_
  refine z_acv (wr := (((([(h0, .inr (4, [.ref q1, .int (iI 0), .int (iI 0)]))] ++ [(q1, .inl (k 3, 8, .inr (.inr (.inr (.inr (va_up (va_up (va_up (fun _ => none) 0 (some (b3 0))) 1 (some (b5 0))) 2 (some (b7 0))))))))]) ++ (wPlant k b3 iPl)) ++ (wPlant k b5 iPl)) ++ (wPlant k b7 iPl))) (q := q8) (va_runIN (As := []) (rest := [.ref q8, .int (iI 3), .ref q1]) ⟨hx, hb, hml, hown, hts⟩ (c_X5_init l D k q8 _) ⟨va_cnB 0 hts gX2_init_X5_init_n24 rfl rfl rfl (hG.2.2.1 (RX2, 24, yX5_init, RX7) (by decide +kernel)) (hts (.initialized RX5) (List.mem_of_getElem? (i := 9) rfl)) (by decide +kernel) ⟨(Nat.le_of_ble_eq_true rfl), (Nat.le_of_ble_eq_true rfl)⟩, rfl, (hts (.instanceMethod yX5_init) (List.mem_of_getElem? (i := 10) rfl))⟩ (z_preC (wr := (((([(h0, .inr (4, [.ref q1, .int (iI 0), .int (iI 0)]))] ++ [(q1, .inl (k 3, 8, .inr (.inr (.inr (.inr (va_up (va_up (va_up (fun _ => none) 0 (some (b3 0))) 1 (some (b5 0))) 2 (some (b7 0))))))))]) ++ (wPlant k b3 iPl)) ++ (wPlant k b5 iPl)) ++ (wPlant k b7 iPl))) hK hG hC hA hP hD hS) rfl rfl hl.1 rfl (lv_room (Nat.le_of_ble_eq_true rfl)) dX2_init_40 ⟨(Nat.le_of_ble_eq_true rfl), (Nat.le_of_ble_eq_true rfl)⟩) hA hP hD hS (fun b9 H2 locs2 ha hP2 hD2 hS2 => ?_)
  clear hP hD hS
  subst ha
  have hP := hP2
  have hD := hD2
  have hS := hS2
  clear hP2 hD2 hS2
  generalize H2 = H at hP hS ⊢
  generalize locs2 = locs at hS ⊢
  have hP : va_P D vwCl (((((([(h0, .inr (4, [.ref q1, .int (iI 0), .int (iI 0)]))] ++ [(q1, .inl (k 3, 8, .inr (.inr (.inr (.inr (va_up (va_up (va_up (fun _ => none) 0 (some (b3 0))) 1 (some (b5 0))) 2 (some (b7 0))))))))]) ++ (wPlant k b3 iPl)) ++ (wPlant k b5 iPl)) ++ (wPlant k b7 iPl)) ++ (wPlant k b9 iPl))) H := hP
  have hD : va_D A (((((([(h0, .inr (4, [.ref q1, .int (iI 0), .int (iI 0)]))] ++ [(q1, .inl (k 3, 8, .inr (.inr (.inr (.inr (va_up (va_up (va_up (fun _ => none) 0 (some (b3 0))) 1 (some (b5 0))) 2 (some (b7 0))))))))]) ++ (wPlant k b3 iPl)) ++ (wPlant k b5 iPl)) ++ (wPlant k b7 iPl)) ++ (wPlant k b9 iPl))) := hD
  refine va_astq hx hb hK hP hD hS 1 3 47 7 (r := (RX5, TX5, 11)) rfl rfl rfl rfl (i := iI 3) (z_in (by decide) (by decide) (by decide)) dX2_init_43 (fun H locs hP hD hS => ?_)
  have hP : va_P D vwCl (((((([(h0, .inr (4, [.ref q1, .int (iI 0), .int (iI 0)]))] ++ [(q1, .inl (k 3, 8, .inr (.inr (.inr (.inr (va_up (va_up (va_up (va_up (fun _ => none) 0 (some (b3 0))) 1 (some (b5 0))) 2 (some (b7 0))) 3 (some (b9 0))))))))]) ++ (wPlant k b3 iPl)) ++ (wPlant k b5 iPl)) ++ (wPlant k b7 iPl)) ++ (wPlant k b9 iPl))) H := hP
  have hD : va_D A (((((([(h0, .inr (4, [.ref q1, .int (iI 0), .int (iI 0)]))] ++ [(q1, .inl (k 3, 8, .inr (.inr (.inr (.inr (va_up (va_up (va_up (va_up (fun _ => none) 0 (some (b3 0))) 1 (some (b5 0))) 2 (some (b7 0))) 3 (some (b9 0))))))))]) ++ (wPlant k b3 iPl)) ++ (wPlant k b5 iPl)) ++ (wPlant k b7 iPl)) ++ (wPlant k b9 iPl))) := hD
  refine lv_iinc (v := iI 4) (lv' := [(1, .int (iI 4)), (0, .ref h0)]) hx hb dX2_init_44 hl (k := 0) rfl (by decide +kernel) (by decide) rfl (fun ls hl => ?_)
  refine lv_goto (tgt := 25) hx hb dX2_init_47 (by decide) ?_
  refine lv_iload_n hx hb dX2_init_25 rfl (lv_at hl 0 rfl) ?_
  refine lv_bipush (v := iI 8) hx hb dX2_init_26 rfl ?_
  refine zi_icmp_ge (tgt := 50) hx hb dX2_init_28 (by decide) ⟨by omega, by omega⟩ ⟨by omega, by omega⟩ (fun h9 => absurd h9 (by decide)) (fun _ => ?_)
  refine lv_aload_n hx hb dX2_init_31 rfl (lv_at hl 1 rfl) ?_
  refine va_get (D := D) (ci := 4) (v := .ref q1) (C := RX2) (T := TX2) (N := 3) hx hb hts (fun w h => List.mem_cons_of_mem _ (List.mem_append_left _ (List.mem_append_left _ (List.mem_append_left _ (List.mem_append_left _ (List.mem_append_right _ h)))))) hown hK hP 0 rfl rfl 0 (by decide) (hts (.fieldLink RX2 11 "MondayFactory$History" "plants" "[LMondayFactory$Plant;") (List.mem_of_getElem? (i := 5) rfl)) (fun _ h9 => h9) rfl dX2_init_32 ?_
  refine lv_iload_n hx hb dX2_init_35 rfl (lv_at hl 0 rfl) ?_
  refine va_new (ci := 7) (fs := [.null, .null, .null, .int (iI 0), .int (iI 0), .int (iI 0), .int (iI 0), .int (iI 0), .int (iI 0), .int (iI 0), .int (iI 0)]) (C := RX5) (T := TX5) (N := 11) hx hb hts (fun w h => List.mem_cons_of_mem _ (List.mem_append_left _ (List.mem_append_left _ (List.mem_append_left _ (List.mem_append_right _ h))))) tyX5 tyX5_ok hown (hts (.classLink RX2 9 RX5) (List.mem_of_getElem? (i := 4) rfl)) (hts (.instantiable RX5 11) (List.mem_of_getElem? (i := 8) rfl)) (hts (.initialized RX5) (List.mem_of_getElem? (i := 9) rfl)) hK hP hD hS hA rfl (fun j hj => by rcases (show j = 0 ∨ j = 1 ∨ j = 2 ∨ j = 3 ∨ j = 4 ∨ j = 5 ∨ j = 6 ∨ j = 7 ∨ j = 8 ∨ j = 9 ∨ j = 10 by omega) with rfl | rfl | rfl | rfl | rfl | rfl | rfl | rfl | rfl | rfl | rfl <;> rfl) (Nat.le_of_ble_eq_true rfl) (Nat.le_of_ble_eq_true rfl) dX2_init_36 (fun q10 H hP hD hS => ?_)
  have hP : va_P D vwCl ((((((([(h0, .inr (4, [.ref q1, .int (iI 0), .int (iI 0)]))] ++ [(q1, .inl (k 3, 8, .inr (.inr (.inr (.inr (va_up (va_up (va_up (va_up (fun _ => none) 0 (some (b3 0))) 1 (some (b5 0))) 2 (some (b7 0))) 3 (some (b9 0))))))))]) ++ (wPlant k b3 iPl)) ++ (wPlant k b5 iPl)) ++ (wPlant k b7 iPl)) ++ (wPlant k b9 iPl)) ++ [(q10, .inr (7, [.null, .null, .null, .int (iI 0), .int (iI 0), .int (iI 0), .int (iI 0), .int (iI 0), .int (iI 0), .int (iI 0), .int (iI 0)]))])) H := hP
  have hD : va_D A ((((((([(h0, .inr (4, [.ref q1, .int (iI 0), .int (iI 0)]))] ++ [(q1, .inl (k 3, 8, .inr (.inr (.inr (.inr (va_up (va_up (va_up (va_up (fun _ => none) 0 (some (b3 0))) 1 (some (b5 0))) 2 (some (b7 0))) 3 (some (b9 0))))))))]) ++ (wPlant k b3 iPl)) ++ (wPlant k b5 iPl)) ++ (wPlant k b7 iPl)) ++ (wPlant k b9 iPl)) ++ [(q10, .inr (7, [.null, .null, .null, .int (iI 0), .int (iI 0), .int (iI 0), .int (iI 0), .int (iI 0), .int (iI 0), .int (iI 0), .int (iI 0)]))])) := hD
  refine lv_dup hx hb dX2_init_39 rfl ?_
  refine z_acv (wr := ((((([(h0, .inr (4, [.ref q1, .int (iI 0), .int (iI 0)]))] ++ [(q1, .inl (k 3, 8, .inr (.inr (.inr (.inr (va_up (va_up (va_up (va_up (fun _ => none) 0 (some (b3 0))) 1 (some (b5 0))) 2 (some (b7 0))) 3 (some (b9 0))))))))]) ++ (wPlant k b3 iPl)) ++ (wPlant k b5 iPl)) ++ (wPlant k b7 iPl)) ++ (wPlant k b9 iPl))) (q := q10) (va_runIN (As := []) (rest := [.ref q10, .int (iI 4), .ref q1]) ⟨hx, hb, hml, hown, hts⟩ (c_X5_init l D k q10 _) ⟨va_cnB 0 hts gX2_init_X5_init_n24 rfl rfl rfl (hG.2.2.1 (RX2, 24, yX5_init, RX7) (by decide +kernel)) (hts (.initialized RX5) (List.mem_of_getElem? (i := 9) rfl)) (by decide +kernel) ⟨(Nat.le_of_ble_eq_true rfl), (Nat.le_of_ble_eq_true rfl)⟩, rfl, (hts (.instanceMethod yX5_init) (List.mem_of_getElem? (i := 10) rfl))⟩ (z_preC (wr := ((((([(h0, .inr (4, [.ref q1, .int (iI 0), .int (iI 0)]))] ++ [(q1, .inl (k 3, 8, .inr (.inr (.inr (.inr (va_up (va_up (va_up (va_up (fun _ => none) 0 (some (b3 0))) 1 (some (b5 0))) 2 (some (b7 0))) 3 (some (b9 0))))))))]) ++ (wPlant k b3 iPl)) ++ (wPlant k b5 iPl)) ++ (wPlant k b7 iPl)) ++ (wPlant k b9 iPl))) hK hG hC hA hP hD hS) rfl rfl hl.1 rfl (lv_room (Nat.le_of_ble_eq_true rfl)) dX2_init_40 ⟨(Nat.le_of_ble_eq_true rfl), (Nat.le_of_ble_eq_true rfl)⟩) hA hP hD hS (fun b11 H2 locs2 ha hP2 hD2 hS2 => ?_)
  clear hP hD hS
  subst ha
  have hP := hP2
  have hD := hD2
  have hS := hS2
  clear hP2 hD2 hS2
  generalize H2 = H at hP hS ⊢
  generalize locs2 = locs at hS ⊢
  have hP : va_P D vwCl ((((((([(h0, .inr (4, [.ref q1, .int (iI 0), .int (iI 0)]))] ++ [(q1, .inl (k 3, 8, .inr (.inr (.inr (.inr (va_up (va_up (va_up (va_up (fun _ => none) 0 (some (b3 0))) 1 (some (b5 0))) 2 (some (b7 0))) 3 (some (b9 0))))))))]) ++ (wPlant k b3 iPl)) ++ (wPlant k b5 iPl)) ++ (wPlant k b7 iPl)) ++ (wPlant k b9 iPl)) ++ (wPlant k b11 iPl))) H := hP
  have hD : va_D A ((((((([(h0, .inr (4, [.ref q1, .int (iI 0), .int (iI 0)]))] ++ [(q1, .inl (k 3, 8, .inr (.inr (.inr (.inr (va_up (va_up (va_up (va_up (fun _ => none) 0 (some (b3 0))) 1 (some (b5 0))) 2 (some (b7 0))) 3 (some (b9 0))))))))]) ++ (wPlant k b3 iPl)) ++ (wPlant k b5 iPl)) ++ (wPlant k b7 iPl)) ++ (wPlant k b9 iPl)) ++ (wPlant k b11 iPl))) := hD
  refine va_astq hx hb hK hP hD hS 1 3 62 7 (r := (RX5, TX5, 11)) rfl rfl rfl rfl (i := iI 4) (z_in (by decide) (by decide) (by decide)) dX2_init_43 (fun H locs hP hD hS => ?_)
  have hP : va_P D vwCl ((((((([(h0, .inr (4, [.ref q1, .int (iI 0), .int (iI 0)]))] ++ [(q1, .inl (k 3, 8, .inr (.inr (.inr (.inr (va_up (va_up (va_up (va_up (va_up (fun _ => none) 0 (some (b3 0))) 1 (some (b5 0))) 2 (some (b7 0))) 3 (some (b9 0))) 4 (some (b11 0))))))))]) ++ (wPlant k b3 iPl)) ++ (wPlant k b5 iPl)) ++ (wPlant k b7 iPl)) ++ (wPlant k b9 iPl)) ++ (wPlant k b11 iPl))) H := hP
  have hD : va_D A ((((((([(h0, .inr (4, [.ref q1, .int (iI 0), .int (iI 0)]))] ++ [(q1, .inl (k 3, 8, .inr (.inr (.inr (.inr (va_up (va_up (va_up (va_up (va_up (fun _ => none) 0 (some (b3 0))) 1 (some (b5 0))) 2 (some (b7 0))) 3 (some (b9 0))) 4 (some (b11 0))))))))]) ++ (wPlant k b3 iPl)) ++ (wPlant k b5 iPl)) ++ (wPlant k b7 iPl)) ++ (wPlant k b9 iPl)) ++ (wPlant k b11 iPl))) := hD
  refine lv_iinc (v := iI 5) (lv' := [(1, .int (iI 5)), (0, .ref h0)]) hx hb dX2_init_44 hl (k := 0) rfl (by decide +kernel) (by decide) rfl (fun ls hl => ?_)
  refine lv_goto (tgt := 25) hx hb dX2_init_47 (by decide) ?_
  refine lv_iload_n hx hb dX2_init_25 rfl (lv_at hl 0 rfl) ?_
  refine lv_bipush (v := iI 8) hx hb dX2_init_26 rfl ?_
  refine zi_icmp_ge (tgt := 50) hx hb dX2_init_28 (by decide) ⟨by omega, by omega⟩ ⟨by omega, by omega⟩ (fun h9 => absurd h9 (by decide)) (fun _ => ?_)
  refine lv_aload_n hx hb dX2_init_31 rfl (lv_at hl 1 rfl) ?_
  refine va_get (D := D) (ci := 4) (v := .ref q1) (C := RX2) (T := TX2) (N := 3) hx hb hts (fun w h => List.mem_cons_of_mem _ (List.mem_append_left _ (List.mem_append_left _ (List.mem_append_left _ (List.mem_append_left _ (List.mem_append_right _ h)))))) hown hK hP 0 rfl rfl 0 (by decide) (hts (.fieldLink RX2 11 "MondayFactory$History" "plants" "[LMondayFactory$Plant;") (List.mem_of_getElem? (i := 5) rfl)) (fun _ h9 => h9) rfl dX2_init_32 ?_
  refine lv_iload_n hx hb dX2_init_35 rfl (lv_at hl 0 rfl) ?_
  refine va_new (ci := 7) (fs := [.null, .null, .null, .int (iI 0), .int (iI 0), .int (iI 0), .int (iI 0), .int (iI 0), .int (iI 0), .int (iI 0), .int (iI 0)]) (C := RX5) (T := TX5) (N := 11) hx hb hts (fun w h => List.mem_cons_of_mem _ (List.mem_append_left _ (List.mem_append_left _ (List.mem_append_left _ (List.mem_append_right _ h))))) tyX5 tyX5_ok hown (hts (.classLink RX2 9 RX5) (List.mem_of_getElem? (i := 4) rfl)) (hts (.instantiable RX5 11) (List.mem_of_getElem? (i := 8) rfl)) (hts (.initialized RX5) (List.mem_of_getElem? (i := 9) rfl)) hK hP hD hS hA rfl (fun j hj => by rcases (show j = 0 ∨ j = 1 ∨ j = 2 ∨ j = 3 ∨ j = 4 ∨ j = 5 ∨ j = 6 ∨ j = 7 ∨ j = 8 ∨ j = 9 ∨ j = 10 by omega) with rfl | rfl | rfl | rfl | rfl | rfl | rfl | rfl | rfl | rfl | rfl <;> rfl) (Nat.le_of_ble_eq_true rfl) (Nat.le_of_ble_eq_true rfl) dX2_init_36 (fun q12 H hP hD hS => ?_)
  have hP : va_P D vwCl (((((((([(h0, .inr (4, [.ref q1, .int (iI 0), .int (iI 0)]))] ++ [(q1, .inl (k 3, 8, .inr (.inr (.inr (.inr (va_up (va_up (va_up (va_up (va_up (fun _ => none) 0 (some (b3 0))) 1 (some (b5 0))) 2 (some (b7 0))) 3 (some (b9 0))) 4 (some (b11 0))))))))]) ++ (wPlant k b3 iPl)) ++ (wPlant k b5 iPl)) ++ (wPlant k b7 iPl)) ++ (wPlant k b9 iPl)) ++ (wPlant k b11 iPl)) ++ [(q12, .inr (7, [.null, .null, .null, .int (iI 0), .int (iI 0), .int (iI 0), .int (iI 0), .int (iI 0), .int (iI 0), .int (iI 0), .int (iI 0)]))])) H := hP
  have hD : va_D A (((((((([(h0, .inr (4, [.ref q1, .int (iI 0), .int (iI 0)]))] ++ [(q1, .inl (k 3, 8, .inr (.inr (.inr (.inr (va_up (va_up (va_up (va_up (va_up (fun _ => none) 0 (some (b3 0))) 1 (some (b5 0))) 2 (some (b7 0))) 3 (some (b9 0))) 4 (some (b11 0))))))))]) ++ (wPlant k b3 iPl)) ++ (wPlant k b5 iPl)) ++ (wPlant k b7 iPl)) ++ (wPlant k b9 iPl)) ++ (wPlant k b11 iPl)) ++ [(q12, .inr (7, [.null, .null, .null, .int (iI 0), .int (iI 0), .int (iI 0), .int (iI 0), .int (iI 0), .int (iI 0), .int (iI 0), .int (iI 0)]))])) := hD
  refine lv_dup hx hb dX2_init_39 rfl ?_
  refine z_acv (wr := (((((([(h0, .inr (4, [.ref q1, .int (iI 0), .int (iI 0)]))] ++ [(q1, .inl (k 3, 8, .inr (.inr (.inr (.inr (va_up (va_up (va_up (va_up (va_up (fun _ => none) 0 (some (b3 0))) 1 (some (b5 0))) 2 (some (b7 0))) 3 (some (b9 0))) 4 (some (b11 0))))))))]) ++ (wPlant k b3 iPl)) ++ (wPlant k b5 iPl)) ++ (wPlant k b7 iPl)) ++ (wPlant k b9 iPl)) ++ (wPlant k b11 iPl))) (q := q12) (va_runIN (As := []) (rest := [.ref q12, .int (iI 5), .ref q1]) ⟨hx, hb, hml, hown, hts⟩ (c_X5_init l D k q12 _) ⟨va_cnB 0 hts gX2_init_X5_init_n24 rfl rfl rfl (hG.2.2.1 (RX2, 24, yX5_init, RX7) (by decide +kernel)) (hts (.initialized RX5) (List.mem_of_getElem? (i := 9) rfl)) (by decide +kernel) ⟨(Nat.le_of_ble_eq_true rfl), (Nat.le_of_ble_eq_true rfl)⟩, rfl, (hts (.instanceMethod yX5_init) (List.mem_of_getElem? (i := 10) rfl))⟩ (z_preC (wr := (((((([(h0, .inr (4, [.ref q1, .int (iI 0), .int (iI 0)]))] ++ [(q1, .inl (k 3, 8, .inr (.inr (.inr (.inr (va_up (va_up (va_up (va_up (va_up (fun _ => none) 0 (some (b3 0))) 1 (some (b5 0))) 2 (some (b7 0))) 3 (some (b9 0))) 4 (some (b11 0))))))))]) ++ (wPlant k b3 iPl)) ++ (wPlant k b5 iPl)) ++ (wPlant k b7 iPl)) ++ (wPlant k b9 iPl)) ++ (wPlant k b11 iPl))) hK hG hC hA hP hD hS) rfl rfl hl.1 rfl (lv_room (Nat.le_of_ble_eq_true rfl)) dX2_init_40 ⟨(Nat.le_of_ble_eq_true rfl), (Nat.le_of_ble_eq_true rfl)⟩) hA hP hD hS (fun b13 H2 locs2 ha hP2 hD2 hS2 => ?_)
  clear hP hD hS
  subst ha
  have hP := hP2
  have hD := hD2
  have hS := hS2
  clear hP2 hD2 hS2
  generalize H2 = H at hP hS ⊢
  generalize locs2 = locs at hS ⊢
  have hP : va_P D vwCl (((((((([(h0, .inr (4, [.ref q1, .int (iI 0), .int (iI 0)]))] ++ [(q1, .inl (k 3, 8, .inr (.inr (.inr (.inr (va_up (va_up (va_up (va_up (va_up (fun _ => none) 0 (some (b3 0))) 1 (some (b5 0))) 2 (some (b7 0))) 3 (some (b9 0))) 4 (some (b11 0))))))))]) ++ (wPlant k b3 iPl)) ++ (wPlant k b5 iPl)) ++ (wPlant k b7 iPl)) ++ (wPlant k b9 iPl)) ++ (wPlant k b11 iPl)) ++ (wPlant k b13 iPl))) H := hP
  have hD : va_D A (((((((([(h0, .inr (4, [.ref q1, .int (iI 0), .int (iI 0)]))] ++ [(q1, .inl (k 3, 8, .inr (.inr (.inr (.inr (va_up (va_up (va_up (va_up (va_up (fun _ => none) 0 (some (b3 0))) 1 (some (b5 0))) 2 (some (b7 0))) 3 (some (b9 0))) 4 (some (b11 0))))))))]) ++ (wPlant k b3 iPl)) ++ (wPlant k b5 iPl)) ++ (wPlant k b7 iPl)) ++ (wPlant k b9 iPl)) ++ (wPlant k b11 iPl)) ++ (wPlant k b13 iPl))) := hD
  refine va_astq hx hb hK hP hD hS 1 3 77 7 (r := (RX5, TX5, 11)) rfl rfl rfl rfl (i := iI 5) (z_in (by decide) (by decide) (by decide)) dX2_init_43 (fun H locs hP hD hS => ?_)
  have hP : va_P D vwCl (((((((([(h0, .inr (4, [.ref q1, .int (iI 0), .int (iI 0)]))] ++ [(q1, .inl (k 3, 8, .inr (.inr (.inr (.inr (va_up (va_up (va_up (va_up (va_up (va_up (fun _ => none) 0 (some (b3 0))) 1 (some (b5 0))) 2 (some (b7 0))) 3 (some (b9 0))) 4 (some (b11 0))) 5 (some (b13 0))))))))]) ++ (wPlant k b3 iPl)) ++ (wPlant k b5 iPl)) ++ (wPlant k b7 iPl)) ++ (wPlant k b9 iPl)) ++ (wPlant k b11 iPl)) ++ (wPlant k b13 iPl))) H := hP
  have hD : va_D A (((((((([(h0, .inr (4, [.ref q1, .int (iI 0), .int (iI 0)]))] ++ [(q1, .inl (k 3, 8, .inr (.inr (.inr (.inr (va_up (va_up (va_up (va_up (va_up (va_up (fun _ => none) 0 (some (b3 0))) 1 (some (b5 0))) 2 (some (b7 0))) 3 (some (b9 0))) 4 (some (b11 0))) 5 (some (b13 0))))))))]) ++ (wPlant k b3 iPl)) ++ (wPlant k b5 iPl)) ++ (wPlant k b7 iPl)) ++ (wPlant k b9 iPl)) ++ (wPlant k b11 iPl)) ++ (wPlant k b13 iPl))) := hD
  refine lv_iinc (v := iI 6) (lv' := [(1, .int (iI 6)), (0, .ref h0)]) hx hb dX2_init_44 hl (k := 0) rfl (by decide +kernel) (by decide) rfl (fun ls hl => ?_)
  refine lv_goto (tgt := 25) hx hb dX2_init_47 (by decide) ?_
  refine lv_iload_n hx hb dX2_init_25 rfl (lv_at hl 0 rfl) ?_
  refine lv_bipush (v := iI 8) hx hb dX2_init_26 rfl ?_
  refine zi_icmp_ge (tgt := 50) hx hb dX2_init_28 (by decide) ⟨by omega, by omega⟩ ⟨by omega, by omega⟩ (fun h9 => absurd h9 (by decide)) (fun _ => ?_)
  refine lv_aload_n hx hb dX2_init_31 rfl (lv_at hl 1 rfl) ?_
  refine va_get (D := D) (ci := 4) (v := .ref q1) (C := RX2) (T := TX2) (N := 3) hx hb hts (fun w h => List.mem_cons_of_mem _ (List.mem_append_left _ (List.mem_append_left _ (List.mem_append_left _ (List.mem_append_left _ (List.mem_append_right _ h)))))) hown hK hP 0 rfl rfl 0 (by decide) (hts (.fieldLink RX2 11 "MondayFactory$History" "plants" "[LMondayFactory$Plant;") (List.mem_of_getElem? (i := 5) rfl)) (fun _ h9 => h9) rfl dX2_init_32 ?_
  refine lv_iload_n hx hb dX2_init_35 rfl (lv_at hl 0 rfl) ?_
  refine va_new (ci := 7) (fs := [.null, .null, .null, .int (iI 0), .int (iI 0), .int (iI 0), .int (iI 0), .int (iI 0), .int (iI 0), .int (iI 0), .int (iI 0)]) (C := RX5) (T := TX5) (N := 11) hx hb hts (fun w h => List.mem_cons_of_mem _ (List.mem_append_left _ (List.mem_append_left _ (List.mem_append_left _ (List.mem_append_right _ h))))) tyX5 tyX5_ok hown (hts (.classLink RX2 9 RX5) (List.mem_of_getElem? (i := 4) rfl)) (hts (.instantiable RX5 11) (List.mem_of_getElem? (i := 8) rfl)) (hts (.initialized RX5) (List.mem_of_getElem? (i := 9) rfl)) hK hP hD hS hA rfl (fun j hj => by rcases (show j = 0 ∨ j = 1 ∨ j = 2 ∨ j = 3 ∨ j = 4 ∨ j = 5 ∨ j = 6 ∨ j = 7 ∨ j = 8 ∨ j = 9 ∨ j = 10 by omega) with rfl | rfl | rfl | rfl | rfl | rfl | rfl | rfl | rfl | rfl | rfl <;> rfl) (Nat.le_of_ble_eq_true rfl) (Nat.le_of_ble_eq_true rfl) dX2_init_36 (fun q14 H hP hD hS => ?_)
  have hP : va_P D vwCl ((((((((([(h0, .inr (4, [.ref q1, .int (iI 0), .int (iI 0)]))] ++ [(q1, .inl (k 3, 8, .inr (.inr (.inr (.inr (va_up (va_up (va_up (va_up (va_up (va_up (fun _ => none) 0 (some (b3 0))) 1 (some (b5 0))) 2 (some (b7 0))) 3 (some (b9 0))) 4 (some (b11 0))) 5 (some (b13 0))))))))]) ++ (wPlant k b3 iPl)) ++ (wPlant k b5 iPl)) ++ (wPlant k b7 iPl)) ++ (wPlant k b9 iPl)) ++ (wPlant k b11 iPl)) ++ (wPlant k b13 iPl)) ++ [(q14, .inr (7, [.null, .null, .null, .int (iI 0), .int (iI 0), .int (iI 0), .int (iI 0), .int (iI 0), .int (iI 0), .int (iI 0), .int (iI 0)]))])) H := hP
  have hD : va_D A ((((((((([(h0, .inr (4, [.ref q1, .int (iI 0), .int (iI 0)]))] ++ [(q1, .inl (k 3, 8, .inr (.inr (.inr (.inr (va_up (va_up (va_up (va_up (va_up (va_up (fun _ => none) 0 (some (b3 0))) 1 (some (b5 0))) 2 (some (b7 0))) 3 (some (b9 0))) 4 (some (b11 0))) 5 (some (b13 0))))))))]) ++ (wPlant k b3 iPl)) ++ (wPlant k b5 iPl)) ++ (wPlant k b7 iPl)) ++ (wPlant k b9 iPl)) ++ (wPlant k b11 iPl)) ++ (wPlant k b13 iPl)) ++ [(q14, .inr (7, [.null, .null, .null, .int (iI 0), .int (iI 0), .int (iI 0), .int (iI 0), .int (iI 0), .int (iI 0), .int (iI 0), .int (iI 0)]))])) := hD
  refine lv_dup hx hb dX2_init_39 rfl ?_
  refine z_acv (wr := ((((((([(h0, .inr (4, [.ref q1, .int (iI 0), .int (iI 0)]))] ++ [(q1, .inl (k 3, 8, .inr (.inr (.inr (.inr (va_up (va_up (va_up (va_up (va_up (va_up (fun _ => none) 0 (some (b3 0))) 1 (some (b5 0))) 2 (some (b7 0))) 3 (some (b9 0))) 4 (some (b11 0))) 5 (some (b13 0))))))))]) ++ (wPlant k b3 iPl)) ++ (wPlant k b5 iPl)) ++ (wPlant k b7 iPl)) ++ (wPlant k b9 iPl)) ++ (wPlant k b11 iPl)) ++ (wPlant k b13 iPl))) (q := q14) (va_runIN (As := []) (rest := [.ref q14, .int (iI 6), .ref q1]) ⟨hx, hb, hml, hown, hts⟩ (c_X5_init l D k q14 _) ⟨va_cnB 0 hts gX2_init_X5_init_n24 rfl rfl rfl (hG.2.2.1 (RX2, 24, yX5_init, RX7) (by decide +kernel)) (hts (.initialized RX5) (List.mem_of_getElem? (i := 9) rfl)) (by decide +kernel) ⟨(Nat.le_of_ble_eq_true rfl), (Nat.le_of_ble_eq_true rfl)⟩, rfl, (hts (.instanceMethod yX5_init) (List.mem_of_getElem? (i := 10) rfl))⟩ (z_preC (wr := ((((((([(h0, .inr (4, [.ref q1, .int (iI 0), .int (iI 0)]))] ++ [(q1, .inl (k 3, 8, .inr (.inr (.inr (.inr (va_up (va_up (va_up (va_up (va_up (va_up (fun _ => none) 0 (some (b3 0))) 1 (some (b5 0))) 2 (some (b7 0))) 3 (some (b9 0))) 4 (some (b11 0))) 5 (some (b13 0))))))))]) ++ (wPlant k b3 iPl)) ++ (wPlant k b5 iPl)) ++ (wPlant k b7 iPl)) ++ (wPlant k b9 iPl)) ++ (wPlant k b11 iPl)) ++ (wPlant k b13 iPl))) hK hG hC hA hP hD hS) rfl rfl hl.1 rfl (lv_room (Nat.le_of_ble_eq_true rfl)) dX2_init_40 ⟨(Nat.le_of_ble_eq_true rfl), (Nat.le_of_ble_eq_true rfl)⟩) hA hP hD hS (fun b15 H2 locs2 ha hP2 hD2 hS2 => ?_)
  clear hP hD hS
  subst ha
  have hP := hP2
  have hD := hD2
  have hS := hS2
  clear hP2 hD2 hS2
  generalize H2 = H at hP hS ⊢
  generalize locs2 = locs at hS ⊢
  have hP : va_P D vwCl ((((((((([(h0, .inr (4, [.ref q1, .int (iI 0), .int (iI 0)]))] ++ [(q1, .inl (k 3, 8, .inr (.inr (.inr (.inr (va_up (va_up (va_up (va_up (va_up (va_up (fun _ => none) 0 (some (b3 0))) 1 (some (b5 0))) 2 (some (b7 0))) 3 (some (b9 0))) 4 (some (b11 0))) 5 (some (b13 0))))))))]) ++ (wPlant k b3 iPl)) ++ (wPlant k b5 iPl)) ++ (wPlant k b7 iPl)) ++ (wPlant k b9 iPl)) ++ (wPlant k b11 iPl)) ++ (wPlant k b13 iPl)) ++ (wPlant k b15 iPl))) H := hP
  have hD : va_D A ((((((((([(h0, .inr (4, [.ref q1, .int (iI 0), .int (iI 0)]))] ++ [(q1, .inl (k 3, 8, .inr (.inr (.inr (.inr (va_up (va_up (va_up (va_up (va_up (va_up (fun _ => none) 0 (some (b3 0))) 1 (some (b5 0))) 2 (some (b7 0))) 3 (some (b9 0))) 4 (some (b11 0))) 5 (some (b13 0))))))))]) ++ (wPlant k b3 iPl)) ++ (wPlant k b5 iPl)) ++ (wPlant k b7 iPl)) ++ (wPlant k b9 iPl)) ++ (wPlant k b11 iPl)) ++ (wPlant k b13 iPl)) ++ (wPlant k b15 iPl))) := hD
  refine va_astq hx hb hK hP hD hS 1 3 92 7 (r := (RX5, TX5, 11)) rfl rfl rfl rfl (i := iI 6) (z_in (by decide) (by decide) (by decide)) dX2_init_43 (fun H locs hP hD hS => ?_)
  have hP : va_P D vwCl ((((((((([(h0, .inr (4, [.ref q1, .int (iI 0), .int (iI 0)]))] ++ [(q1, .inl (k 3, 8, .inr (.inr (.inr (.inr (va_up (va_up (va_up (va_up (va_up (va_up (va_up (fun _ => none) 0 (some (b3 0))) 1 (some (b5 0))) 2 (some (b7 0))) 3 (some (b9 0))) 4 (some (b11 0))) 5 (some (b13 0))) 6 (some (b15 0))))))))]) ++ (wPlant k b3 iPl)) ++ (wPlant k b5 iPl)) ++ (wPlant k b7 iPl)) ++ (wPlant k b9 iPl)) ++ (wPlant k b11 iPl)) ++ (wPlant k b13 iPl)) ++ (wPlant k b15 iPl))) H := hP
  have hD : va_D A ((((((((([(h0, .inr (4, [.ref q1, .int (iI 0), .int (iI 0)]))] ++ [(q1, .inl (k 3, 8, .inr (.inr (.inr (.inr (va_up (va_up (va_up (va_up (va_up (va_up (va_up (fun _ => none) 0 (some (b3 0))) 1 (some (b5 0))) 2 (some (b7 0))) 3 (some (b9 0))) 4 (some (b11 0))) 5 (some (b13 0))) 6 (some (b15 0))))))))]) ++ (wPlant k b3 iPl)) ++ (wPlant k b5 iPl)) ++ (wPlant k b7 iPl)) ++ (wPlant k b9 iPl)) ++ (wPlant k b11 iPl)) ++ (wPlant k b13 iPl)) ++ (wPlant k b15 iPl))) := hD
  refine lv_iinc (v := iI 7) (lv' := [(1, .int (iI 7)), (0, .ref h0)]) hx hb dX2_init_44 hl (k := 0) rfl (by decide +kernel) (by decide) rfl (fun ls hl => ?_)
  refine lv_goto (tgt := 25) hx hb dX2_init_47 (by decide) ?_
  refine lv_iload_n hx hb dX2_init_25 rfl (lv_at hl 0 rfl) ?_
  refine lv_bipush (v := iI 8) hx hb dX2_init_26 rfl ?_
  refine zi_icmp_ge (tgt := 50) hx hb dX2_init_28 (by decide) ⟨by omega, by omega⟩ ⟨by omega, by omega⟩ (fun h9 => absurd h9 (by decide)) (fun _ => ?_)
  refine lv_aload_n hx hb dX2_init_31 rfl (lv_at hl 1 rfl) ?_
  refine va_get (D := D) (ci := 4) (v := .ref q1) (C := RX2) (T := TX2) (N := 3) hx hb hts (fun w h => List.mem_cons_of_mem _ (List.mem_append_left _ (List.mem_append_left _ (List.mem_append_left _ (List.mem_append_left _ (List.mem_append_right _ h)))))) hown hK hP 0 rfl rfl 0 (by decide) (hts (.fieldLink RX2 11 "MondayFactory$History" "plants" "[LMondayFactory$Plant;") (List.mem_of_getElem? (i := 5) rfl)) (fun _ h9 => h9) rfl dX2_init_32 ?_
  refine lv_iload_n hx hb dX2_init_35 rfl (lv_at hl 0 rfl) ?_
  refine va_new (ci := 7) (fs := [.null, .null, .null, .int (iI 0), .int (iI 0), .int (iI 0), .int (iI 0), .int (iI 0), .int (iI 0), .int (iI 0), .int (iI 0)]) (C := RX5) (T := TX5) (N := 11) hx hb hts (fun w h => List.mem_cons_of_mem _ (List.mem_append_left _ (List.mem_append_left _ (List.mem_append_left _ (List.mem_append_right _ h))))) tyX5 tyX5_ok hown (hts (.classLink RX2 9 RX5) (List.mem_of_getElem? (i := 4) rfl)) (hts (.instantiable RX5 11) (List.mem_of_getElem? (i := 8) rfl)) (hts (.initialized RX5) (List.mem_of_getElem? (i := 9) rfl)) hK hP hD hS hA rfl (fun j hj => by rcases (show j = 0 ∨ j = 1 ∨ j = 2 ∨ j = 3 ∨ j = 4 ∨ j = 5 ∨ j = 6 ∨ j = 7 ∨ j = 8 ∨ j = 9 ∨ j = 10 by omega) with rfl | rfl | rfl | rfl | rfl | rfl | rfl | rfl | rfl | rfl | rfl <;> rfl) (Nat.le_of_ble_eq_true rfl) (Nat.le_of_ble_eq_true rfl) dX2_init_36 (fun q16 H hP hD hS => ?_)
  have hP : va_P D vwCl (((((((((([(h0, .inr (4, [.ref q1, .int (iI 0), .int (iI 0)]))] ++ [(q1, .inl (k 3, 8, .inr (.inr (.inr (.inr (va_up (va_up (va_up (va_up (va_up (va_up (va_up (fun _ => none) 0 (some (b3 0))) 1 (some (b5 0))) 2 (some (b7 0))) 3 (some (b9 0))) 4 (some (b11 0))) 5 (some (b13 0))) 6 (some (b15 0))))))))]) ++ (wPlant k b3 iPl)) ++ (wPlant k b5 iPl)) ++ (wPlant k b7 iPl)) ++ (wPlant k b9 iPl)) ++ (wPlant k b11 iPl)) ++ (wPlant k b13 iPl)) ++ (wPlant k b15 iPl)) ++ [(q16, .inr (7, [.null, .null, .null, .int (iI 0), .int (iI 0), .int (iI 0), .int (iI 0), .int (iI 0), .int (iI 0), .int (iI 0), .int (iI 0)]))])) H := hP
  have hD : va_D A (((((((((([(h0, .inr (4, [.ref q1, .int (iI 0), .int (iI 0)]))] ++ [(q1, .inl (k 3, 8, .inr (.inr (.inr (.inr (va_up (va_up (va_up (va_up (va_up (va_up (va_up (fun _ => none) 0 (some (b3 0))) 1 (some (b5 0))) 2 (some (b7 0))) 3 (some (b9 0))) 4 (some (b11 0))) 5 (some (b13 0))) 6 (some (b15 0))))))))]) ++ (wPlant k b3 iPl)) ++ (wPlant k b5 iPl)) ++ (wPlant k b7 iPl)) ++ (wPlant k b9 iPl)) ++ (wPlant k b11 iPl)) ++ (wPlant k b13 iPl)) ++ (wPlant k b15 iPl)) ++ [(q16, .inr (7, [.null, .null, .null, .int (iI 0), .int (iI 0), .int (iI 0), .int (iI 0), .int (iI 0), .int (iI 0), .int (iI 0), .int (iI 0)]))])) := hD
  refine lv_dup hx hb dX2_init_39 rfl ?_
  refine z_acv (wr := (((((((([(h0, .inr (4, [.ref q1, .int (iI 0), .int (iI 0)]))] ++ [(q1, .inl (k 3, 8, .inr (.inr (.inr (.inr (va_up (va_up (va_up (va_up (va_up (va_up (va_up (fun _ => none) 0 (some (b3 0))) 1 (some (b5 0))) 2 (some (b7 0))) 3 (some (b9 0))) 4 (some (b11 0))) 5 (some (b13 0))) 6 (some (b15 0))))))))]) ++ (wPlant k b3 iPl)) ++ (wPlant k b5 iPl)) ++ (wPlant k b7 iPl)) ++ (wPlant k b9 iPl)) ++ (wPlant k b11 iPl)) ++ (wPlant k b13 iPl)) ++ (wPlant k b15 iPl))) (q := q16) (va_runIN (As := []) (rest := [.ref q16, .int (iI 7), .ref q1]) ⟨hx, hb, hml, hown, hts⟩ (c_X5_init l D k q16 _) ⟨va_cnB 0 hts gX2_init_X5_init_n24 rfl rfl rfl (hG.2.2.1 (RX2, 24, yX5_init, RX7) (by decide +kernel)) (hts (.initialized RX5) (List.mem_of_getElem? (i := 9) rfl)) (by decide +kernel) ⟨(Nat.le_of_ble_eq_true rfl), (Nat.le_of_ble_eq_true rfl)⟩, rfl, (hts (.instanceMethod yX5_init) (List.mem_of_getElem? (i := 10) rfl))⟩ (z_preC (wr := (((((((([(h0, .inr (4, [.ref q1, .int (iI 0), .int (iI 0)]))] ++ [(q1, .inl (k 3, 8, .inr (.inr (.inr (.inr (va_up (va_up (va_up (va_up (va_up (va_up (va_up (fun _ => none) 0 (some (b3 0))) 1 (some (b5 0))) 2 (some (b7 0))) 3 (some (b9 0))) 4 (some (b11 0))) 5 (some (b13 0))) 6 (some (b15 0))))))))]) ++ (wPlant k b3 iPl)) ++ (wPlant k b5 iPl)) ++ (wPlant k b7 iPl)) ++ (wPlant k b9 iPl)) ++ (wPlant k b11 iPl)) ++ (wPlant k b13 iPl)) ++ (wPlant k b15 iPl))) hK hG hC hA hP hD hS) rfl rfl hl.1 rfl (lv_room (Nat.le_of_ble_eq_true rfl)) dX2_init_40 ⟨(Nat.le_of_ble_eq_true rfl), (Nat.le_of_ble_eq_true rfl)⟩) hA hP hD hS (fun b17 H2 locs2 ha hP2 hD2 hS2 => ?_)
  clear hP hD hS
  subst ha
  have hP := hP2
  have hD := hD2
  have hS := hS2
  clear hP2 hD2 hS2
  generalize H2 = H at hP hS ⊢
  generalize locs2 = locs at hS ⊢
  have hP : va_P D vwCl (((((((((([(h0, .inr (4, [.ref q1, .int (iI 0), .int (iI 0)]))] ++ [(q1, .inl (k 3, 8, .inr (.inr (.inr (.inr (va_up (va_up (va_up (va_up (va_up (va_up (va_up (fun _ => none) 0 (some (b3 0))) 1 (some (b5 0))) 2 (some (b7 0))) 3 (some (b9 0))) 4 (some (b11 0))) 5 (some (b13 0))) 6 (some (b15 0))))))))]) ++ (wPlant k b3 iPl)) ++ (wPlant k b5 iPl)) ++ (wPlant k b7 iPl)) ++ (wPlant k b9 iPl)) ++ (wPlant k b11 iPl)) ++ (wPlant k b13 iPl)) ++ (wPlant k b15 iPl)) ++ (wPlant k b17 iPl))) H := hP
  have hD : va_D A (((((((((([(h0, .inr (4, [.ref q1, .int (iI 0), .int (iI 0)]))] ++ [(q1, .inl (k 3, 8, .inr (.inr (.inr (.inr (va_up (va_up (va_up (va_up (va_up (va_up (va_up (fun _ => none) 0 (some (b3 0))) 1 (some (b5 0))) 2 (some (b7 0))) 3 (some (b9 0))) 4 (some (b11 0))) 5 (some (b13 0))) 6 (some (b15 0))))))))]) ++ (wPlant k b3 iPl)) ++ (wPlant k b5 iPl)) ++ (wPlant k b7 iPl)) ++ (wPlant k b9 iPl)) ++ (wPlant k b11 iPl)) ++ (wPlant k b13 iPl)) ++ (wPlant k b15 iPl)) ++ (wPlant k b17 iPl))) := hD
  refine va_astq hx hb hK hP hD hS 1 3 107 7 (r := (RX5, TX5, 11)) rfl rfl rfl rfl (i := iI 7) (z_in (by decide) (by decide) (by decide)) dX2_init_43 (fun H locs hP hD hS => ?_)
  have hP : va_P D vwCl (((((((((([(h0, .inr (4, [.ref q1, .int (iI 0), .int (iI 0)]))] ++ [(q1, .inl (k 3, 8, .inr (.inr (.inr (.inr (va_up (va_up (va_up (va_up (va_up (va_up (va_up (va_up (fun _ => none) 0 (some (b3 0))) 1 (some (b5 0))) 2 (some (b7 0))) 3 (some (b9 0))) 4 (some (b11 0))) 5 (some (b13 0))) 6 (some (b15 0))) 7 (some (b17 0))))))))]) ++ (wPlant k b3 iPl)) ++ (wPlant k b5 iPl)) ++ (wPlant k b7 iPl)) ++ (wPlant k b9 iPl)) ++ (wPlant k b11 iPl)) ++ (wPlant k b13 iPl)) ++ (wPlant k b15 iPl)) ++ (wPlant k b17 iPl))) H := hP
  have hD : va_D A (((((((((([(h0, .inr (4, [.ref q1, .int (iI 0), .int (iI 0)]))] ++ [(q1, .inl (k 3, 8, .inr (.inr (.inr (.inr (va_up (va_up (va_up (va_up (va_up (va_up (va_up (va_up (fun _ => none) 0 (some (b3 0))) 1 (some (b5 0))) 2 (some (b7 0))) 3 (some (b9 0))) 4 (some (b11 0))) 5 (some (b13 0))) 6 (some (b15 0))) 7 (some (b17 0))))))))]) ++ (wPlant k b3 iPl)) ++ (wPlant k b5 iPl)) ++ (wPlant k b7 iPl)) ++ (wPlant k b9 iPl)) ++ (wPlant k b11 iPl)) ++ (wPlant k b13 iPl)) ++ (wPlant k b15 iPl)) ++ (wPlant k b17 iPl))) := hD
  refine lv_iinc (v := iI 8) (lv' := [(1, .int (iI 8)), (0, .ref h0)]) hx hb dX2_init_44 hl (k := 0) rfl (by decide +kernel) (by decide) rfl (fun ls hl => ?_)
  refine lv_goto (tgt := 25) hx hb dX2_init_47 (by decide) ?_
  refine lv_iload_n hx hb dX2_init_25 rfl (lv_at hl 0 rfl) ?_
  refine lv_bipush (v := iI 8) hx hb dX2_init_26 rfl ?_
  refine zi_icmp_ge (tgt := 50) hx hb dX2_init_28 (by decide) ⟨by omega, by omega⟩ ⟨by omega, by omega⟩ (fun _ => ?_) (fun h9 => absurd (show (8 : Int) ≥ 8 by decide) (by omega))
  obtain ⟨a, ha⟩ : ∃ a : Nat → Nat, a = (zsel 2 (fun i => [h0, q1].getD i 0) (zsel 15 b3 (zsel 15 b5 (zsel 15 b7 (zsel 15 b9 (zsel 15 b11 (zsel 15 b13 (zsel 15 b15 (zsel 15 b17 (fun _ => 0)))))))))) := ⟨_, rfl⟩
  have s0 : subA a 2 = (zsel 15 b3 (zsel 15 b5 (zsel 15 b7 (zsel 15 b9 (zsel 15 b11 (zsel 15 b13 (zsel 15 b15 (zsel 15 b17 (fun _ => 0))))))))) := by rw [ha]; exact subA_sel
  have s1 : subA a 17 = (zsel 15 b5 (zsel 15 b7 (zsel 15 b9 (zsel 15 b11 (zsel 15 b13 (zsel 15 b15 (zsel 15 b17 (fun _ => 0)))))))) := by rw [show subA a 17 = subA (subA a 2) 15 from funext (fun j => by show a (17 + j) = a (2 + (15 + j)); congr 1; omega), s0]; exact subA_sel
  have s2 : subA a 32 = (zsel 15 b7 (zsel 15 b9 (zsel 15 b11 (zsel 15 b13 (zsel 15 b15 (zsel 15 b17 (fun _ => 0))))))) := by rw [show subA a 32 = subA (subA a 17) 15 from funext (fun j => by show a (32 + j) = a (17 + (15 + j)); congr 1; omega), s1]; exact subA_sel
  have s3 : subA a 47 = (zsel 15 b9 (zsel 15 b11 (zsel 15 b13 (zsel 15 b15 (zsel 15 b17 (fun _ => 0)))))) := by rw [show subA a 47 = subA (subA a 32) 15 from funext (fun j => by show a (47 + j) = a (32 + (15 + j)); congr 1; omega), s2]; exact subA_sel
  have s4 : subA a 62 = (zsel 15 b11 (zsel 15 b13 (zsel 15 b15 (zsel 15 b17 (fun _ => 0))))) := by rw [show subA a 62 = subA (subA a 47) 15 from funext (fun j => by show a (62 + j) = a (47 + (15 + j)); congr 1; omega), s3]; exact subA_sel
  have s5 : subA a 77 = (zsel 15 b13 (zsel 15 b15 (zsel 15 b17 (fun _ => 0)))) := by rw [show subA a 77 = subA (subA a 62) 15 from funext (fun j => by show a (77 + j) = a (62 + (15 + j)); congr 1; omega), s4]; exact subA_sel
  have s6 : subA a 92 = (zsel 15 b15 (zsel 15 b17 (fun _ => 0))) := by rw [show subA a 92 = subA (subA a 77) 15 from funext (fun j => by show a (92 + j) = a (77 + (15 + j)); congr 1; omega), s5]; exact subA_sel
  have s7 : subA a 107 = (zsel 15 b17 (fun _ => 0)) := by rw [show subA a 107 = subA (subA a 92) 15 from funext (fun j => by show a (107 + j) = a (92 + (15 + j)); congr 1; omega), s6]; exact subA_sel
  have a0 : a 0 = h0 := by rw [ha]; rfl
  have a1 : a 1 = q1 := by rw [ha]; rfl
  have aj : ∀ j, j < 8 → (va_up (va_up (va_up (va_up (va_up (va_up (va_up (va_up (fun _ => none) 0 (some (b3 0))) 1 (some (b5 0))) 2 (some (b7 0))) 3 (some (b9 0))) 4 (some (b11 0))) 5 (some (b13 0))) 6 (some (b15 0))) 7 (some (b17 0))) j = some (a (2 + 15 * j)) := by
    intro j hj
    rcases (show j = 0 ∨ j = 1 ∨ j = 2 ∨ j = 3 ∨ j = 4 ∨ j = 5 ∨ j = 6 ∨ j = 7 by omega) with rfl | rfl | rfl | rfl | rfl | rfl | rfl | rfl
    · exact congrArg some (congrFun s0 0).symm
    · exact congrArg some (congrFun s1 0).symm
    · exact congrArg some (congrFun s2 0).symm
    · exact congrArg some (congrFun s3 0).symm
    · exact congrArg some (congrFun s4 0).symm
    · exact congrArg some (congrFun s5 0).symm
    · exact congrArg some (congrFun s6 0).symm
    · exact congrArg some (congrFun s7 0).symm
  clear ha
  have hP := z_nrmQ hP 1 (fun j => some (a (2 + 15 * j))) rfl aj
  subst a0
  subst a1
  have hP : va_P D vwCl (((((((((wHist k a iZ) ++ wPlant k b3 iPl) ++ wPlant k b5 iPl) ++ wPlant k b7 iPl) ++ wPlant k b9 iPl) ++ wPlant k b11 iPl) ++ wPlant k b13 iPl) ++ wPlant k b15 iPl) ++ wPlant k b17 iPl) H := hP
  simp only [zP_app] at hP
  obtain ⟨⟨⟨⟨⟨⟨⟨⟨h8, p0⟩, p1⟩, p2⟩, p3⟩, p4⟩, p5⟩, p6⟩, p7⟩ := hP
  have e0 : ∀ i, i < 15 → b3 i = subA a 2 i := fun i hi => by rw [s0]; exact (zsel_in hi).symm
  have e1 : ∀ i, i < 15 → b5 i = subA a 17 i := fun i hi => by rw [s1]; exact (zsel_in hi).symm
  have e2 : ∀ i, i < 15 → b7 i = subA a 32 i := fun i hi => by rw [s2]; exact (zsel_in hi).symm
  have e3 : ∀ i, i < 15 → b9 i = subA a 47 i := fun i hi => by rw [s3]; exact (zsel_in hi).symm
  have e4 : ∀ i, i < 15 → b11 i = subA a 62 i := fun i hi => by rw [s4]; exact (zsel_in hi).symm
  have e5 : ∀ i, i < 15 → b13 i = subA a 77 i := fun i hi => by rw [s5]; exact (zsel_in hi).symm
  have e6 : ∀ i, i < 15 → b15 i = subA a 92 i := fun i hi => by rw [s6]; exact (zsel_in hi).symm
  have e7 : ∀ i, i < 15 → b17 i = subA a 107 i := fun i hi => by rw [s7]; exact (zsel_in hi).symm
  refine z_cret hx hb hr hlocks hS dX2_init_50 a rfl ?_ ?_ (Nat.le_of_ble_eq_true rfl) (Nat.le_of_ble_eq_true rfl)
  · simp only [wRing, zP_app]
    exact ⟨h8, wPlant_cg e0 p0, wPlant_cg e1 p1, wPlant_cg e2 p2, wPlant_cg e3 p3, wPlant_cg e4 p4, wPlant_cg e5 p5, wPlant_cg e6 p6, wPlant_cg e7 p7⟩
  · refine z_fst ?_ hD
    simp only [wRing, List.map_append, wPlant_fc (S := iPl) (T := iPl) (k := k) e0, wPlant_fc (S := iPl) (T := iPl) (k := k) e1, wPlant_fc (S := iPl) (T := iPl) (k := k) e2, wPlant_fc (S := iPl) (T := iPl) (k := k) e3, wPlant_fc (S := iPl) (T := iPl) (k := k) e4, wPlant_fc (S := iPl) (T := iPl) (k := k) e5, wPlant_fc (S := iPl) (T := iPl) (k := k) e6, wPlant_fc (S := iPl) (T := iPl) (k := k) e7, ← List.append_assoc]
    rfl
set_option maxHeartbeats 4000000 in
set_option maxRecDepth 100000 in
theorem c_X7_init (l : Launch) (D : va_G) (k : Nat → ClassId) : zMc l yX7_init wsX7_init ({ frames := 5, cells := 186, slots := 2202, locals := 93 } : Room) D k (.inr (9, [.null, .null, .null, .null, .null, .null, .null, .int (iI 0), .int (iI 0), .int (iI 0), .int (iI 0)]) : va_E) (fun a => wAll k a iFac iPl iPl iPl iPl iZ (fun _ => iPl) iZ iZ) 186 2202 := by
  refine zMc_of (cc := cX7_init) (maxL := 1) (ret := none) (by decide) rfl (Nat.le_of_ble_eq_true rfl) rfl ?_
  intro h0 p e s m args below meth c A ls hx hb hr hml hown hts hlocks hin hK hP hD hG hC hA hS hl
  have hown : s.vm.findClass RX7 = some m.cls := hown
  obtain ⟨H, hH⟩ : ∃ z, z = s.heap := ⟨_, rfl⟩
  obtain ⟨locs, hlc⟩ : ∃ z : List Loc, z = [] := ⟨_, rfl⟩
  rw [← hH] at hP
  have hS : va_S A s.heap H locs := by rw [hH, hlc]; exact hS
  rw [← hlc, ← hH]
  clear hlc hH
  refine lv_aload_n hx hb dX7_init_0 rfl (lv_at hl 0 rfl) ?_
  refine W.objInit hx hb hown (hts (.methodLink RX7 1 objectInit) (List.mem_of_getElem? (i := 1) rfl)) (hts (.instanceMethod objectInit) (List.mem_of_getElem? (i := 2) rfl)) (hts (.code objectInit ⟨#[0xb1]⟩ 1 none) (List.mem_of_getElem? (i := 3) rfl)) rfl (by rw [hml]; exact hl.1) rfl dX7_init_1 (Nat.le_of_ble_eq_true rfl) (Nat.le_of_ble_eq_true rfl) ?_
  refine W.eq (g2 := F0 m 4 ls []) rfl ?_
  refine lv_aload_n hx hb dX7_init_4 rfl (lv_at hl 0 rfl) ?_
  refine va_new (ci := 7) (fs := [.null, .null, .null, .int (iI 0), .int (iI 0), .int (iI 0), .int (iI 0), .int (iI 0), .int (iI 0), .int (iI 0), .int (iI 0)]) (C := RX5) (T := TX5) (N := 11) hx hb hts (fun w h => List.mem_cons_of_mem _ (List.mem_append_left _ (List.mem_append_left _ (List.mem_append_left _ (List.mem_append_left _ (List.mem_append_left _ (List.mem_append_left _ (List.mem_append_left _ (List.mem_append_right _ h))))))))) tyX5 tyX5_ok hown (hts (.classLink RX7 7 RX5) (List.mem_of_getElem? (i := 4) rfl)) (hts (.instantiable RX5 11) (List.mem_of_getElem? (i := 5) rfl)) (hts (.initialized RX5) (List.mem_of_getElem? (i := 6) rfl)) hK hP hD hS hA rfl (fun j hj => by rcases (show j = 0 ∨ j = 1 ∨ j = 2 ∨ j = 3 ∨ j = 4 ∨ j = 5 ∨ j = 6 ∨ j = 7 ∨ j = 8 ∨ j = 9 ∨ j = 10 by omega) with rfl | rfl | rfl | rfl | rfl | rfl | rfl | rfl | rfl | rfl | rfl <;> rfl) (Nat.le_of_ble_eq_true rfl) (Nat.le_of_ble_eq_true rfl) dX7_init_5 (fun q1 H hP hD hS => ?_)
  have hP : va_P D vwCl (([(h0, .inr (9, [.null, .null, .null, .null, .null, .null, .null, .int (iI 0), .int (iI 0), .int (iI 0), .int (iI 0)]))] ++ [(q1, .inr (7, [.null, .null, .null, .int (iI 0), .int (iI 0), .int (iI 0), .int (iI 0), .int (iI 0), .int (iI 0), .int (iI 0), .int (iI 0)]))])) H := hP
  have hD : va_D A (([(h0, .inr (9, [.null, .null, .null, .null, .null, .null, .null, .int (iI 0), .int (iI 0), .int (iI 0), .int (iI 0)]))] ++ [(q1, .inr (7, [.null, .null, .null, .int (iI 0), .int (iI 0), .int (iI 0), .int (iI 0), .int (iI 0), .int (iI 0), .int (iI 0), .int (iI 0)]))])) := hD
  refine lv_dup hx hb dX7_init_8 rfl ?_
  refine z_acv (wr := [(h0, .inr (9, [.null, .null, .null, .null, .null, .null, .null, .int (iI 0), .int (iI 0), .int (iI 0), .int (iI 0)]))]) (q := q1) (va_runIN (As := []) (rest := [.ref q1, .ref h0]) ⟨hx, hb, hml, hown, hts⟩ (c_X5_init l D k q1 _) ⟨va_cnB 0 hts gX7_init_X5_init_n9 rfl rfl rfl (hG.2.2.1 (RX7, 9, yX5_init, RX7) (by decide +kernel)) (hts (.initialized RX5) (List.mem_of_getElem? (i := 6) rfl)) (by decide +kernel) ⟨(Nat.le_of_ble_eq_true rfl), (Nat.le_of_ble_eq_true rfl)⟩, rfl, (hts (.instanceMethod yX5_init) (List.mem_of_getElem? (i := 27) rfl))⟩ (z_preC (wr := [(h0, .inr (9, [.null, .null, .null, .null, .null, .null, .null, .int (iI 0), .int (iI 0), .int (iI 0), .int (iI 0)]))]) hK hG hC hA hP hD hS) rfl rfl hl.1 rfl (lv_room (Nat.le_of_ble_eq_true rfl)) dX7_init_9 ⟨(Nat.le_of_ble_eq_true rfl), (Nat.le_of_ble_eq_true rfl)⟩) hA hP hD hS (fun b2 H2 locs2 ha hP2 hD2 hS2 => ?_)
  clear hP hD hS
  subst ha
  have hP := hP2
  have hD := hD2
  have hS := hS2
  clear hP2 hD2 hS2
  generalize H2 = H at hP hS ⊢
  generalize locs2 = locs at hS ⊢
  have hP : va_P D vwCl (([(h0, .inr (9, [.null, .null, .null, .null, .null, .null, .null, .int (iI 0), .int (iI 0), .int (iI 0), .int (iI 0)]))] ++ (wPlant k b2 iPl))) H := hP
  have hD : va_D A (([(h0, .inr (9, [.null, .null, .null, .null, .null, .null, .null, .int (iI 0), .int (iI 0), .int (iI 0), .int (iI 0)]))] ++ (wPlant k b2 iPl))) := hD
  refine va_putF (D := D) (ci := 9) (v := .ref (b2 0)) (ty := .object "MondayFactory$Plant") (C := RX7) (T := TX7) (N := 11) hx hb hts (fun w h => List.mem_cons_of_mem _ (List.mem_append_left _ (List.mem_append_left _ (List.mem_append_left _ (List.mem_append_left _ (List.mem_append_left _ (List.mem_append_left _ (List.mem_append_right _ h)))))))) tyX7 tyX7_ok nmX7 hown hK hP hD hS 0 rfl rfl 0 (by decide) (hts (.fieldLink RX7 10 "MondayFactory" "plant" "LMondayFactory$Plant;") (List.mem_of_getElem? (i := 7) rfl)) (fun _ h9 => h9) rfl hin rfl (by decide +kernel) rfl rfl (Nat.le_of_ble_eq_true rfl) dX7_init_12 (fun H locs hP hD hS => ?_)
  have hP : va_P D vwCl (([(h0, .inr (9, [.ref (b2 0), .null, .null, .null, .null, .null, .null, .int (iI 0), .int (iI 0), .int (iI 0), .int (iI 0)]))] ++ (wPlant k b2 iPl))) H := hP
  have hD : va_D A (([(h0, .inr (9, [.ref (b2 0), .null, .null, .null, .null, .null, .null, .int (iI 0), .int (iI 0), .int (iI 0), .int (iI 0)]))] ++ (wPlant k b2 iPl))) := hD
  refine lv_aload_n hx hb dX7_init_15 rfl (lv_at hl 0 rfl) ?_
  refine va_new (ci := 7) (fs := [.null, .null, .null, .int (iI 0), .int (iI 0), .int (iI 0), .int (iI 0), .int (iI 0), .int (iI 0), .int (iI 0), .int (iI 0)]) (C := RX5) (T := TX5) (N := 11) hx hb hts (fun w h => List.mem_cons_of_mem _ (List.mem_append_left _ (List.mem_append_left _ (List.mem_append_left _ (List.mem_append_left _ (List.mem_append_left _ (List.mem_append_left _ (List.mem_append_left _ (List.mem_append_right _ h))))))))) tyX5 tyX5_ok hown (hts (.classLink RX7 7 RX5) (List.mem_of_getElem? (i := 4) rfl)) (hts (.instantiable RX5 11) (List.mem_of_getElem? (i := 5) rfl)) (hts (.initialized RX5) (List.mem_of_getElem? (i := 6) rfl)) hK hP hD hS hA rfl (fun j hj => by rcases (show j = 0 ∨ j = 1 ∨ j = 2 ∨ j = 3 ∨ j = 4 ∨ j = 5 ∨ j = 6 ∨ j = 7 ∨ j = 8 ∨ j = 9 ∨ j = 10 by omega) with rfl | rfl | rfl | rfl | rfl | rfl | rfl | rfl | rfl | rfl | rfl <;> rfl) (Nat.le_of_ble_eq_true rfl) (Nat.le_of_ble_eq_true rfl) dX7_init_16 (fun q3 H hP hD hS => ?_)
  have hP : va_P D vwCl ((([(h0, .inr (9, [.ref (b2 0), .null, .null, .null, .null, .null, .null, .int (iI 0), .int (iI 0), .int (iI 0), .int (iI 0)]))] ++ (wPlant k b2 iPl)) ++ [(q3, .inr (7, [.null, .null, .null, .int (iI 0), .int (iI 0), .int (iI 0), .int (iI 0), .int (iI 0), .int (iI 0), .int (iI 0), .int (iI 0)]))])) H := hP
  have hD : va_D A ((([(h0, .inr (9, [.ref (b2 0), .null, .null, .null, .null, .null, .null, .int (iI 0), .int (iI 0), .int (iI 0), .int (iI 0)]))] ++ (wPlant k b2 iPl)) ++ [(q3, .inr (7, [.null, .null, .null, .int (iI 0), .int (iI 0), .int (iI 0), .int (iI 0), .int (iI 0), .int (iI 0), .int (iI 0), .int (iI 0)]))])) := hD
  refine lv_dup hx hb dX7_init_19 rfl ?_
  refine z_acv (wr := ([(h0, .inr (9, [.ref (b2 0), .null, .null, .null, .null, .null, .null, .int (iI 0), .int (iI 0), .int (iI 0), .int (iI 0)]))] ++ (wPlant k b2 iPl))) (q := q3) (va_runIN (As := []) (rest := [.ref q3, .ref h0]) ⟨hx, hb, hml, hown, hts⟩ (c_X5_init l D k q3 _) ⟨va_cnB 0 hts gX7_init_X5_init_n9 rfl rfl rfl (hG.2.2.1 (RX7, 9, yX5_init, RX7) (by decide +kernel)) (hts (.initialized RX5) (List.mem_of_getElem? (i := 6) rfl)) (by decide +kernel) ⟨(Nat.le_of_ble_eq_true rfl), (Nat.le_of_ble_eq_true rfl)⟩, rfl, (hts (.instanceMethod yX5_init) (List.mem_of_getElem? (i := 27) rfl))⟩ (z_preC (wr := ([(h0, .inr (9, [.ref (b2 0), .null, .null, .null, .null, .null, .null, .int (iI 0), .int (iI 0), .int (iI 0), .int (iI 0)]))] ++ (wPlant k b2 iPl))) hK hG hC hA hP hD hS) rfl rfl hl.1 rfl (lv_room (Nat.le_of_ble_eq_true rfl)) dX7_init_20 ⟨(Nat.le_of_ble_eq_true rfl), (Nat.le_of_ble_eq_true rfl)⟩) hA hP hD hS (fun b4 H2 locs2 ha hP2 hD2 hS2 => ?_)
  clear hP hD hS
  subst ha
  have hP := hP2
  have hD := hD2
  have hS := hS2
  clear hP2 hD2 hS2
  generalize H2 = H at hP hS ⊢
  generalize locs2 = locs at hS ⊢
  have hP : va_P D vwCl ((([(h0, .inr (9, [.ref (b2 0), .null, .null, .null, .null, .null, .null, .int (iI 0), .int (iI 0), .int (iI 0), .int (iI 0)]))] ++ (wPlant k b2 iPl)) ++ (wPlant k b4 iPl))) H := hP
  have hD : va_D A ((([(h0, .inr (9, [.ref (b2 0), .null, .null, .null, .null, .null, .null, .int (iI 0), .int (iI 0), .int (iI 0), .int (iI 0)]))] ++ (wPlant k b2 iPl)) ++ (wPlant k b4 iPl))) := hD
  refine va_putF (D := D) (ci := 9) (v := .ref (b4 0)) (ty := .object "MondayFactory$Plant") (C := RX7) (T := TX7) (N := 11) hx hb hts (fun w h => List.mem_cons_of_mem _ (List.mem_append_left _ (List.mem_append_left _ (List.mem_append_left _ (List.mem_append_left _ (List.mem_append_left _ (List.mem_append_left _ (List.mem_append_right _ h)))))))) tyX7 tyX7_ok nmX7 hown hK hP hD hS 0 rfl rfl 1 (by decide) (hts (.fieldLink RX7 16 "MondayFactory" "thought" "LMondayFactory$Plant;") (List.mem_of_getElem? (i := 8) rfl)) (fun _ h9 => h9) rfl hin rfl (by decide +kernel) rfl rfl (Nat.le_of_ble_eq_true rfl) dX7_init_23 (fun H locs hP hD hS => ?_)
  have hP : va_P D vwCl ((([(h0, .inr (9, [.ref (b2 0), .ref (b4 0), .null, .null, .null, .null, .null, .int (iI 0), .int (iI 0), .int (iI 0), .int (iI 0)]))] ++ (wPlant k b2 iPl)) ++ (wPlant k b4 iPl))) H := hP
  have hD : va_D A ((([(h0, .inr (9, [.ref (b2 0), .ref (b4 0), .null, .null, .null, .null, .null, .int (iI 0), .int (iI 0), .int (iI 0), .int (iI 0)]))] ++ (wPlant k b2 iPl)) ++ (wPlant k b4 iPl))) := hD
  refine lv_aload_n hx hb dX7_init_26 rfl (lv_at hl 0 rfl) ?_
  refine va_new (ci := 7) (fs := [.null, .null, .null, .int (iI 0), .int (iI 0), .int (iI 0), .int (iI 0), .int (iI 0), .int (iI 0), .int (iI 0), .int (iI 0)]) (C := RX5) (T := TX5) (N := 11) hx hb hts (fun w h => List.mem_cons_of_mem _ (List.mem_append_left _ (List.mem_append_left _ (List.mem_append_left _ (List.mem_append_left _ (List.mem_append_left _ (List.mem_append_left _ (List.mem_append_left _ (List.mem_append_right _ h))))))))) tyX5 tyX5_ok hown (hts (.classLink RX7 7 RX5) (List.mem_of_getElem? (i := 4) rfl)) (hts (.instantiable RX5 11) (List.mem_of_getElem? (i := 5) rfl)) (hts (.initialized RX5) (List.mem_of_getElem? (i := 6) rfl)) hK hP hD hS hA rfl (fun j hj => by rcases (show j = 0 ∨ j = 1 ∨ j = 2 ∨ j = 3 ∨ j = 4 ∨ j = 5 ∨ j = 6 ∨ j = 7 ∨ j = 8 ∨ j = 9 ∨ j = 10 by omega) with rfl | rfl | rfl | rfl | rfl | rfl | rfl | rfl | rfl | rfl | rfl <;> rfl) (Nat.le_of_ble_eq_true rfl) (Nat.le_of_ble_eq_true rfl) dX7_init_27 (fun q5 H hP hD hS => ?_)
  have hP : va_P D vwCl (((([(h0, .inr (9, [.ref (b2 0), .ref (b4 0), .null, .null, .null, .null, .null, .int (iI 0), .int (iI 0), .int (iI 0), .int (iI 0)]))] ++ (wPlant k b2 iPl)) ++ (wPlant k b4 iPl)) ++ [(q5, .inr (7, [.null, .null, .null, .int (iI 0), .int (iI 0), .int (iI 0), .int (iI 0), .int (iI 0), .int (iI 0), .int (iI 0), .int (iI 0)]))])) H := hP
  have hD : va_D A (((([(h0, .inr (9, [.ref (b2 0), .ref (b4 0), .null, .null, .null, .null, .null, .int (iI 0), .int (iI 0), .int (iI 0), .int (iI 0)]))] ++ (wPlant k b2 iPl)) ++ (wPlant k b4 iPl)) ++ [(q5, .inr (7, [.null, .null, .null, .int (iI 0), .int (iI 0), .int (iI 0), .int (iI 0), .int (iI 0), .int (iI 0), .int (iI 0), .int (iI 0)]))])) := hD
  refine lv_dup hx hb dX7_init_30 rfl ?_
  refine z_acv (wr := (([(h0, .inr (9, [.ref (b2 0), .ref (b4 0), .null, .null, .null, .null, .null, .int (iI 0), .int (iI 0), .int (iI 0), .int (iI 0)]))] ++ (wPlant k b2 iPl)) ++ (wPlant k b4 iPl))) (q := q5) (va_runIN (As := []) (rest := [.ref q5, .ref h0]) ⟨hx, hb, hml, hown, hts⟩ (c_X5_init l D k q5 _) ⟨va_cnB 0 hts gX7_init_X5_init_n9 rfl rfl rfl (hG.2.2.1 (RX7, 9, yX5_init, RX7) (by decide +kernel)) (hts (.initialized RX5) (List.mem_of_getElem? (i := 6) rfl)) (by decide +kernel) ⟨(Nat.le_of_ble_eq_true rfl), (Nat.le_of_ble_eq_true rfl)⟩, rfl, (hts (.instanceMethod yX5_init) (List.mem_of_getElem? (i := 27) rfl))⟩ (z_preC (wr := (([(h0, .inr (9, [.ref (b2 0), .ref (b4 0), .null, .null, .null, .null, .null, .int (iI 0), .int (iI 0), .int (iI 0), .int (iI 0)]))] ++ (wPlant k b2 iPl)) ++ (wPlant k b4 iPl))) hK hG hC hA hP hD hS) rfl rfl hl.1 rfl (lv_room (Nat.le_of_ble_eq_true rfl)) dX7_init_31 ⟨(Nat.le_of_ble_eq_true rfl), (Nat.le_of_ble_eq_true rfl)⟩) hA hP hD hS (fun b6 H2 locs2 ha hP2 hD2 hS2 => ?_)
  clear hP hD hS
  subst ha
  have hP := hP2
  have hD := hD2
  have hS := hS2
  clear hP2 hD2 hS2
  generalize H2 = H at hP hS ⊢
  generalize locs2 = locs at hS ⊢
  have hP : va_P D vwCl (((([(h0, .inr (9, [.ref (b2 0), .ref (b4 0), .null, .null, .null, .null, .null, .int (iI 0), .int (iI 0), .int (iI 0), .int (iI 0)]))] ++ (wPlant k b2 iPl)) ++ (wPlant k b4 iPl)) ++ (wPlant k b6 iPl))) H := hP
  have hD : va_D A (((([(h0, .inr (9, [.ref (b2 0), .ref (b4 0), .null, .null, .null, .null, .null, .int (iI 0), .int (iI 0), .int (iI 0), .int (iI 0)]))] ++ (wPlant k b2 iPl)) ++ (wPlant k b4 iPl)) ++ (wPlant k b6 iPl))) := hD
  refine va_putF (D := D) (ci := 9) (v := .ref (b6 0)) (ty := .object "MondayFactory$Plant") (C := RX7) (T := TX7) (N := 11) hx hb hts (fun w h => List.mem_cons_of_mem _ (List.mem_append_left _ (List.mem_append_left _ (List.mem_append_left _ (List.mem_append_left _ (List.mem_append_left _ (List.mem_append_left _ (List.mem_append_right _ h)))))))) tyX7 tyX7_ok nmX7 hown hK hP hD hS 0 rfl rfl 2 (by decide) (hts (.fieldLink RX7 19 "MondayFactory" "before" "LMondayFactory$Plant;") (List.mem_of_getElem? (i := 9) rfl)) (fun _ h9 => h9) rfl hin rfl (by decide +kernel) rfl rfl (Nat.le_of_ble_eq_true rfl) dX7_init_34 (fun H locs hP hD hS => ?_)
  have hP : va_P D vwCl (((([(h0, .inr (9, [.ref (b2 0), .ref (b4 0), .ref (b6 0), .null, .null, .null, .null, .int (iI 0), .int (iI 0), .int (iI 0), .int (iI 0)]))] ++ (wPlant k b2 iPl)) ++ (wPlant k b4 iPl)) ++ (wPlant k b6 iPl))) H := hP
  have hD : va_D A (((([(h0, .inr (9, [.ref (b2 0), .ref (b4 0), .ref (b6 0), .null, .null, .null, .null, .int (iI 0), .int (iI 0), .int (iI 0), .int (iI 0)]))] ++ (wPlant k b2 iPl)) ++ (wPlant k b4 iPl)) ++ (wPlant k b6 iPl))) := hD
  refine lv_aload_n hx hb dX7_init_37 rfl (lv_at hl 0 rfl) ?_
  refine va_new (ci := 7) (fs := [.null, .null, .null, .int (iI 0), .int (iI 0), .int (iI 0), .int (iI 0), .int (iI 0), .int (iI 0), .int (iI 0), .int (iI 0)]) (C := RX5) (T := TX5) (N := 11) hx hb hts (fun w h => List.mem_cons_of_mem _ (List.mem_append_left _ (List.mem_append_left _ (List.mem_append_left _ (List.mem_append_left _ (List.mem_append_left _ (List.mem_append_left _ (List.mem_append_left _ (List.mem_append_right _ h))))))))) tyX5 tyX5_ok hown (hts (.classLink RX7 7 RX5) (List.mem_of_getElem? (i := 4) rfl)) (hts (.instantiable RX5 11) (List.mem_of_getElem? (i := 5) rfl)) (hts (.initialized RX5) (List.mem_of_getElem? (i := 6) rfl)) hK hP hD hS hA rfl (fun j hj => by rcases (show j = 0 ∨ j = 1 ∨ j = 2 ∨ j = 3 ∨ j = 4 ∨ j = 5 ∨ j = 6 ∨ j = 7 ∨ j = 8 ∨ j = 9 ∨ j = 10 by omega) with rfl | rfl | rfl | rfl | rfl | rfl | rfl | rfl | rfl | rfl | rfl <;> rfl) (Nat.le_of_ble_eq_true rfl) (Nat.le_of_ble_eq_true rfl) dX7_init_38 (fun q7 H hP hD hS => ?_)
  have hP : va_P D vwCl ((((([(h0, .inr (9, [.ref (b2 0), .ref (b4 0), .ref (b6 0), .null, .null, .null, .null, .int (iI 0), .int (iI 0), .int (iI 0), .int (iI 0)]))] ++ (wPlant k b2 iPl)) ++ (wPlant k b4 iPl)) ++ (wPlant k b6 iPl)) ++ [(q7, .inr (7, [.null, .null, .null, .int (iI 0), .int (iI 0), .int (iI 0), .int (iI 0), .int (iI 0), .int (iI 0), .int (iI 0), .int (iI 0)]))])) H := hP
  have hD : va_D A ((((([(h0, .inr (9, [.ref (b2 0), .ref (b4 0), .ref (b6 0), .null, .null, .null, .null, .int (iI 0), .int (iI 0), .int (iI 0), .int (iI 0)]))] ++ (wPlant k b2 iPl)) ++ (wPlant k b4 iPl)) ++ (wPlant k b6 iPl)) ++ [(q7, .inr (7, [.null, .null, .null, .int (iI 0), .int (iI 0), .int (iI 0), .int (iI 0), .int (iI 0), .int (iI 0), .int (iI 0), .int (iI 0)]))])) := hD
  refine lv_dup hx hb dX7_init_41 rfl ?_
  refine z_acv (wr := ((([(h0, .inr (9, [.ref (b2 0), .ref (b4 0), .ref (b6 0), .null, .null, .null, .null, .int (iI 0), .int (iI 0), .int (iI 0), .int (iI 0)]))] ++ (wPlant k b2 iPl)) ++ (wPlant k b4 iPl)) ++ (wPlant k b6 iPl))) (q := q7) (va_runIN (As := []) (rest := [.ref q7, .ref h0]) ⟨hx, hb, hml, hown, hts⟩ (c_X5_init l D k q7 _) ⟨va_cnB 0 hts gX7_init_X5_init_n9 rfl rfl rfl (hG.2.2.1 (RX7, 9, yX5_init, RX7) (by decide +kernel)) (hts (.initialized RX5) (List.mem_of_getElem? (i := 6) rfl)) (by decide +kernel) ⟨(Nat.le_of_ble_eq_true rfl), (Nat.le_of_ble_eq_true rfl)⟩, rfl, (hts (.instanceMethod yX5_init) (List.mem_of_getElem? (i := 27) rfl))⟩ (z_preC (wr := ((([(h0, .inr (9, [.ref (b2 0), .ref (b4 0), .ref (b6 0), .null, .null, .null, .null, .int (iI 0), .int (iI 0), .int (iI 0), .int (iI 0)]))] ++ (wPlant k b2 iPl)) ++ (wPlant k b4 iPl)) ++ (wPlant k b6 iPl))) hK hG hC hA hP hD hS) rfl rfl hl.1 rfl (lv_room (Nat.le_of_ble_eq_true rfl)) dX7_init_42 ⟨(Nat.le_of_ble_eq_true rfl), (Nat.le_of_ble_eq_true rfl)⟩) hA hP hD hS (fun b8 H2 locs2 ha hP2 hD2 hS2 => ?_)
  clear hP hD hS
  subst ha
  have hP := hP2
  have hD := hD2
  have hS := hS2
  clear hP2 hD2 hS2
  generalize H2 = H at hP hS ⊢
  generalize locs2 = locs at hS ⊢
  have hP : va_P D vwCl ((((([(h0, .inr (9, [.ref (b2 0), .ref (b4 0), .ref (b6 0), .null, .null, .null, .null, .int (iI 0), .int (iI 0), .int (iI 0), .int (iI 0)]))] ++ (wPlant k b2 iPl)) ++ (wPlant k b4 iPl)) ++ (wPlant k b6 iPl)) ++ (wPlant k b8 iPl))) H := hP
  have hD : va_D A ((((([(h0, .inr (9, [.ref (b2 0), .ref (b4 0), .ref (b6 0), .null, .null, .null, .null, .int (iI 0), .int (iI 0), .int (iI 0), .int (iI 0)]))] ++ (wPlant k b2 iPl)) ++ (wPlant k b4 iPl)) ++ (wPlant k b6 iPl)) ++ (wPlant k b8 iPl))) := hD
  refine va_putF (D := D) (ci := 9) (v := .ref (b8 0)) (ty := .object "MondayFactory$Plant") (C := RX7) (T := TX7) (N := 11) hx hb hts (fun w h => List.mem_cons_of_mem _ (List.mem_append_left _ (List.mem_append_left _ (List.mem_append_left _ (List.mem_append_left _ (List.mem_append_left _ (List.mem_append_left _ (List.mem_append_right _ h)))))))) tyX7 tyX7_ok nmX7 hown hK hP hD hS 0 rfl rfl 3 (by decide) (hts (.fieldLink RX7 22 "MondayFactory" "snapshot" "LMondayFactory$Plant;") (List.mem_of_getElem? (i := 10) rfl)) (fun _ h9 => h9) rfl hin rfl (by decide +kernel) rfl rfl (Nat.le_of_ble_eq_true rfl) dX7_init_45 (fun H locs hP hD hS => ?_)
  have hP : va_P D vwCl ((((([(h0, .inr (9, [.ref (b2 0), .ref (b4 0), .ref (b6 0), .ref (b8 0), .null, .null, .null, .int (iI 0), .int (iI 0), .int (iI 0), .int (iI 0)]))] ++ (wPlant k b2 iPl)) ++ (wPlant k b4 iPl)) ++ (wPlant k b6 iPl)) ++ (wPlant k b8 iPl))) H := hP
  have hD : va_D A ((((([(h0, .inr (9, [.ref (b2 0), .ref (b4 0), .ref (b6 0), .ref (b8 0), .null, .null, .null, .int (iI 0), .int (iI 0), .int (iI 0), .int (iI 0)]))] ++ (wPlant k b2 iPl)) ++ (wPlant k b4 iPl)) ++ (wPlant k b6 iPl)) ++ (wPlant k b8 iPl))) := hD
  refine lv_aload_n hx hb dX7_init_48 rfl (lv_at hl 0 rfl) ?_
  refine va_new (ci := 4) (fs := [.null, .int (iI 0), .int (iI 0)]) (C := RX2) (T := TX2) (N := 3) hx hb hts (fun w h => List.mem_cons_of_mem _ (List.mem_append_left _ (List.mem_append_left _ (List.mem_append_left _ (List.mem_append_left _ (List.mem_append_left _ (List.mem_append_right _ h))))))) tyX2 tyX2_ok hown (hts (.classLink RX7 25 RX2) (List.mem_of_getElem? (i := 11) rfl)) (hts (.instantiable RX2 3) (List.mem_of_getElem? (i := 12) rfl)) (hts (.initialized RX2) (List.mem_of_getElem? (i := 13) rfl)) hK hP hD hS hA rfl (fun j hj => by rcases (show j = 0 ∨ j = 1 ∨ j = 2 by omega) with rfl | rfl | rfl <;> rfl) (Nat.le_of_ble_eq_true rfl) (Nat.le_of_ble_eq_true rfl) dX7_init_49 (fun q9 H hP hD hS => ?_)
  have hP : va_P D vwCl (((((([(h0, .inr (9, [.ref (b2 0), .ref (b4 0), .ref (b6 0), .ref (b8 0), .null, .null, .null, .int (iI 0), .int (iI 0), .int (iI 0), .int (iI 0)]))] ++ (wPlant k b2 iPl)) ++ (wPlant k b4 iPl)) ++ (wPlant k b6 iPl)) ++ (wPlant k b8 iPl)) ++ [(q9, .inr (4, [.null, .int (iI 0), .int (iI 0)]))])) H := hP
  have hD : va_D A (((((([(h0, .inr (9, [.ref (b2 0), .ref (b4 0), .ref (b6 0), .ref (b8 0), .null, .null, .null, .int (iI 0), .int (iI 0), .int (iI 0), .int (iI 0)]))] ++ (wPlant k b2 iPl)) ++ (wPlant k b4 iPl)) ++ (wPlant k b6 iPl)) ++ (wPlant k b8 iPl)) ++ [(q9, .inr (4, [.null, .int (iI 0), .int (iI 0)]))])) := hD
  refine lv_dup hx hb dX7_init_52 rfl ?_
  refine z_acv (wr := (((([(h0, .inr (9, [.ref (b2 0), .ref (b4 0), .ref (b6 0), .ref (b8 0), .null, .null, .null, .int (iI 0), .int (iI 0), .int (iI 0), .int (iI 0)]))] ++ (wPlant k b2 iPl)) ++ (wPlant k b4 iPl)) ++ (wPlant k b6 iPl)) ++ (wPlant k b8 iPl))) (q := q9) (va_runI (As := []) (rest := [.ref q9, .ref h0]) ⟨hx, hb, hml, hown, hts⟩ (c_X2_init l D k q9 _) (cwI 0 hts gX7_init_X2_init rfl rfl rfl (hts (.initialized RX2) (List.mem_of_getElem? (i := 13) rfl)) (hts (.methodLink RX7 27 yX2_init) (List.mem_of_getElem? (i := 71) rfl)) (hts (.instanceMethod yX2_init) (List.mem_of_getElem? (i := 72) rfl)) rfl (by decide +kernel) ⟨(Nat.le_of_ble_eq_true rfl), (Nat.le_of_ble_eq_true rfl)⟩) (z_preC (wr := (((([(h0, .inr (9, [.ref (b2 0), .ref (b4 0), .ref (b6 0), .ref (b8 0), .null, .null, .null, .int (iI 0), .int (iI 0), .int (iI 0), .int (iI 0)]))] ++ (wPlant k b2 iPl)) ++ (wPlant k b4 iPl)) ++ (wPlant k b6 iPl)) ++ (wPlant k b8 iPl))) hK hG hC hA hP hD hS) rfl rfl hl.1 rfl (lv_room (Nat.le_of_ble_eq_true rfl)) dX7_init_53 ⟨(Nat.le_of_ble_eq_true rfl), (Nat.le_of_ble_eq_true rfl)⟩) hA hP hD hS (fun b10 H2 locs2 ha hP2 hD2 hS2 => ?_)
  clear hP hD hS
  subst ha
  have hP := hP2
  have hD := hD2
  have hS := hS2
  clear hP2 hD2 hS2
  generalize H2 = H at hP hS ⊢
  generalize locs2 = locs at hS ⊢
  have hP : va_P D vwCl (((((([(h0, .inr (9, [.ref (b2 0), .ref (b4 0), .ref (b6 0), .ref (b8 0), .null, .null, .null, .int (iI 0), .int (iI 0), .int (iI 0), .int (iI 0)]))] ++ (wPlant k b2 iPl)) ++ (wPlant k b4 iPl)) ++ (wPlant k b6 iPl)) ++ (wPlant k b8 iPl)) ++ (wHist k b10 iZ ++ wRing k b10 (fun _ => iPl)))) H := hP
  have hD : va_D A (((((([(h0, .inr (9, [.ref (b2 0), .ref (b4 0), .ref (b6 0), .ref (b8 0), .null, .null, .null, .int (iI 0), .int (iI 0), .int (iI 0), .int (iI 0)]))] ++ (wPlant k b2 iPl)) ++ (wPlant k b4 iPl)) ++ (wPlant k b6 iPl)) ++ (wPlant k b8 iPl)) ++ (wHist k b10 iZ ++ wRing k b10 (fun _ => iPl)))) := hD
  refine va_putF (D := D) (ci := 9) (v := .ref (b10 0)) (ty := .object "MondayFactory$History") (C := RX7) (T := TX7) (N := 11) hx hb hts (fun w h => List.mem_cons_of_mem _ (List.mem_append_left _ (List.mem_append_left _ (List.mem_append_left _ (List.mem_append_left _ (List.mem_append_left _ (List.mem_append_left _ (List.mem_append_right _ h)))))))) tyX7 tyX7_ok nmX7 hown hK hP hD hS 0 rfl rfl 4 (by decide) (hts (.fieldLink RX7 28 "MondayFactory" "history" "LMondayFactory$History;") (List.mem_of_getElem? (i := 14) rfl)) (fun _ h9 => h9) rfl hin rfl (by decide +kernel) rfl rfl (Nat.le_of_ble_eq_true rfl) dX7_init_56 (fun H locs hP hD hS => ?_)
  have hP : va_P D vwCl (((((([(h0, .inr (9, [.ref (b2 0), .ref (b4 0), .ref (b6 0), .ref (b8 0), .ref (b10 0), .null, .null, .int (iI 0), .int (iI 0), .int (iI 0), .int (iI 0)]))] ++ (wPlant k b2 iPl)) ++ (wPlant k b4 iPl)) ++ (wPlant k b6 iPl)) ++ (wPlant k b8 iPl)) ++ (wHist k b10 iZ ++ wRing k b10 (fun _ => iPl)))) H := hP
  have hD : va_D A (((((([(h0, .inr (9, [.ref (b2 0), .ref (b4 0), .ref (b6 0), .ref (b8 0), .ref (b10 0), .null, .null, .int (iI 0), .int (iI 0), .int (iI 0), .int (iI 0)]))] ++ (wPlant k b2 iPl)) ++ (wPlant k b4 iPl)) ++ (wPlant k b6 iPl)) ++ (wPlant k b8 iPl)) ++ (wHist k b10 iZ ++ wRing k b10 (fun _ => iPl)))) := hD
  refine lv_aload_n hx hb dX7_init_59 rfl (lv_at hl 0 rfl) ?_
  refine va_new (ci := 5) (fs := [.null, .int (iI 0)]) (C := RX3) (T := TX3) (N := 2) hx hb hts (fun w h => List.mem_cons_of_mem _ (List.mem_append_left _ (List.mem_append_left _ (List.mem_append_left _ (List.mem_append_left _ (List.mem_append_right _ h)))))) tyX3 tyX3_ok hown (hts (.classLink RX7 32 RX3) (List.mem_of_getElem? (i := 15) rfl)) (hts (.instantiable RX3 2) (List.mem_of_getElem? (i := 16) rfl)) (hts (.initialized RX3) (List.mem_of_getElem? (i := 17) rfl)) hK hP hD hS hA rfl (fun j hj => by rcases (show j = 0 ∨ j = 1 by omega) with rfl | rfl <;> rfl) (Nat.le_of_ble_eq_true rfl) (Nat.le_of_ble_eq_true rfl) dX7_init_60 (fun q11 H hP hD hS => ?_)
  have hP : va_P D vwCl ((((((([(h0, .inr (9, [.ref (b2 0), .ref (b4 0), .ref (b6 0), .ref (b8 0), .ref (b10 0), .null, .null, .int (iI 0), .int (iI 0), .int (iI 0), .int (iI 0)]))] ++ (wPlant k b2 iPl)) ++ (wPlant k b4 iPl)) ++ (wPlant k b6 iPl)) ++ (wPlant k b8 iPl)) ++ (wHist k b10 iZ ++ wRing k b10 (fun _ => iPl))) ++ [(q11, .inr (5, [.null, .int (iI 0)]))])) H := hP
  have hD : va_D A ((((((([(h0, .inr (9, [.ref (b2 0), .ref (b4 0), .ref (b6 0), .ref (b8 0), .ref (b10 0), .null, .null, .int (iI 0), .int (iI 0), .int (iI 0), .int (iI 0)]))] ++ (wPlant k b2 iPl)) ++ (wPlant k b4 iPl)) ++ (wPlant k b6 iPl)) ++ (wPlant k b8 iPl)) ++ (wHist k b10 iZ ++ wRing k b10 (fun _ => iPl))) ++ [(q11, .inr (5, [.null, .int (iI 0)]))])) := hD
  refine lv_dup hx hb dX7_init_63 rfl ?_
  refine z_acv (wr := ((((([(h0, .inr (9, [.ref (b2 0), .ref (b4 0), .ref (b6 0), .ref (b8 0), .ref (b10 0), .null, .null, .int (iI 0), .int (iI 0), .int (iI 0), .int (iI 0)]))] ++ (wPlant k b2 iPl)) ++ (wPlant k b4 iPl)) ++ (wPlant k b6 iPl)) ++ (wPlant k b8 iPl)) ++ (wHist k b10 iZ ++ wRing k b10 (fun _ => iPl)))) (q := q11) (va_runIN (As := []) (rest := [.ref q11, .ref h0]) ⟨hx, hb, hml, hown, hts⟩ (c_X3_init l D k q11 _) ⟨va_cnB 0 hts gX7_init_X3_init_n34 rfl rfl rfl (hG.2.2.1 (RX7, 34, yX3_init, RX7) (by decide +kernel)) (hts (.initialized RX3) (List.mem_of_getElem? (i := 17) rfl)) (by decide +kernel) ⟨(Nat.le_of_ble_eq_true rfl), (Nat.le_of_ble_eq_true rfl)⟩, rfl, (hts (.instanceMethod yX3_init) (List.mem_of_getElem? (i := 79) rfl))⟩ (z_preC (wr := ((((([(h0, .inr (9, [.ref (b2 0), .ref (b4 0), .ref (b6 0), .ref (b8 0), .ref (b10 0), .null, .null, .int (iI 0), .int (iI 0), .int (iI 0), .int (iI 0)]))] ++ (wPlant k b2 iPl)) ++ (wPlant k b4 iPl)) ++ (wPlant k b6 iPl)) ++ (wPlant k b8 iPl)) ++ (wHist k b10 iZ ++ wRing k b10 (fun _ => iPl)))) hK hG hC hA hP hD hS) rfl rfl hl.1 rfl (lv_room (Nat.le_of_ble_eq_true rfl)) dX7_init_64 ⟨(Nat.le_of_ble_eq_true rfl), (Nat.le_of_ble_eq_true rfl)⟩) hA hP hD hS (fun b12 H2 locs2 ha hP2 hD2 hS2 => ?_)
  clear hP hD hS
  subst ha
  have hP := hP2
  have hD := hD2
  have hS := hS2
  clear hP2 hD2 hS2
  generalize H2 = H at hP hS ⊢
  generalize locs2 = locs at hS ⊢
  have hP : va_P D vwCl ((((((([(h0, .inr (9, [.ref (b2 0), .ref (b4 0), .ref (b6 0), .ref (b8 0), .ref (b10 0), .null, .null, .int (iI 0), .int (iI 0), .int (iI 0), .int (iI 0)]))] ++ (wPlant k b2 iPl)) ++ (wPlant k b4 iPl)) ++ (wPlant k b6 iPl)) ++ (wPlant k b8 iPl)) ++ (wHist k b10 iZ ++ wRing k b10 (fun _ => iPl))) ++ (wInput k b12 iZ))) H := hP
  have hD : va_D A ((((((([(h0, .inr (9, [.ref (b2 0), .ref (b4 0), .ref (b6 0), .ref (b8 0), .ref (b10 0), .null, .null, .int (iI 0), .int (iI 0), .int (iI 0), .int (iI 0)]))] ++ (wPlant k b2 iPl)) ++ (wPlant k b4 iPl)) ++ (wPlant k b6 iPl)) ++ (wPlant k b8 iPl)) ++ (wHist k b10 iZ ++ wRing k b10 (fun _ => iPl))) ++ (wInput k b12 iZ))) := hD
  refine va_putF (D := D) (ci := 9) (v := .ref (b12 0)) (ty := .object "MondayFactory$Input") (C := RX7) (T := TX7) (N := 11) hx hb hts (fun w h => List.mem_cons_of_mem _ (List.mem_append_left _ (List.mem_append_left _ (List.mem_append_left _ (List.mem_append_left _ (List.mem_append_left _ (List.mem_append_left _ (List.mem_append_right _ h)))))))) tyX7 tyX7_ok nmX7 hown hK hP hD hS 0 rfl rfl 5 (by decide) (hts (.fieldLink RX7 35 "MondayFactory" "input" "LMondayFactory$Input;") (List.mem_of_getElem? (i := 18) rfl)) (fun _ h9 => h9) rfl hin rfl (by decide +kernel) rfl rfl (Nat.le_of_ble_eq_true rfl) dX7_init_67 (fun H locs hP hD hS => ?_)
  have hP : va_P D vwCl ((((((([(h0, .inr (9, [.ref (b2 0), .ref (b4 0), .ref (b6 0), .ref (b8 0), .ref (b10 0), .ref (b12 0), .null, .int (iI 0), .int (iI 0), .int (iI 0), .int (iI 0)]))] ++ (wPlant k b2 iPl)) ++ (wPlant k b4 iPl)) ++ (wPlant k b6 iPl)) ++ (wPlant k b8 iPl)) ++ (wHist k b10 iZ ++ wRing k b10 (fun _ => iPl))) ++ (wInput k b12 iZ))) H := hP
  have hD : va_D A ((((((([(h0, .inr (9, [.ref (b2 0), .ref (b4 0), .ref (b6 0), .ref (b8 0), .ref (b10 0), .ref (b12 0), .null, .int (iI 0), .int (iI 0), .int (iI 0), .int (iI 0)]))] ++ (wPlant k b2 iPl)) ++ (wPlant k b4 iPl)) ++ (wPlant k b6 iPl)) ++ (wPlant k b8 iPl)) ++ (wHist k b10 iZ ++ wRing k b10 (fun _ => iPl))) ++ (wInput k b12 iZ))) := hD
  refine lv_aload_n hx hb dX7_init_70 rfl (lv_at hl 0 rfl) ?_
  refine va_new (ci := 6) (fs := [.null, .int (iI 0)]) (C := RX4) (T := TX4) (N := 2) hx hb hts (fun w h => List.mem_cons_of_mem _ (List.mem_append_left _ (List.mem_append_left _ (List.mem_append_left _ (List.mem_append_right _ h))))) tyX4 tyX4_ok hown (hts (.classLink RX7 39 RX4) (List.mem_of_getElem? (i := 19) rfl)) (hts (.instantiable RX4 2) (List.mem_of_getElem? (i := 20) rfl)) (hts (.initialized RX4) (List.mem_of_getElem? (i := 21) rfl)) hK hP hD hS hA rfl (fun j hj => by rcases (show j = 0 ∨ j = 1 by omega) with rfl | rfl <;> rfl) (Nat.le_of_ble_eq_true rfl) (Nat.le_of_ble_eq_true rfl) dX7_init_71 (fun q13 H hP hD hS => ?_)
  have hP : va_P D vwCl (((((((([(h0, .inr (9, [.ref (b2 0), .ref (b4 0), .ref (b6 0), .ref (b8 0), .ref (b10 0), .ref (b12 0), .null, .int (iI 0), .int (iI 0), .int (iI 0), .int (iI 0)]))] ++ (wPlant k b2 iPl)) ++ (wPlant k b4 iPl)) ++ (wPlant k b6 iPl)) ++ (wPlant k b8 iPl)) ++ (wHist k b10 iZ ++ wRing k b10 (fun _ => iPl))) ++ (wInput k b12 iZ)) ++ [(q13, .inr (6, [.null, .int (iI 0)]))])) H := hP
  have hD : va_D A (((((((([(h0, .inr (9, [.ref (b2 0), .ref (b4 0), .ref (b6 0), .ref (b8 0), .ref (b10 0), .ref (b12 0), .null, .int (iI 0), .int (iI 0), .int (iI 0), .int (iI 0)]))] ++ (wPlant k b2 iPl)) ++ (wPlant k b4 iPl)) ++ (wPlant k b6 iPl)) ++ (wPlant k b8 iPl)) ++ (wHist k b10 iZ ++ wRing k b10 (fun _ => iPl))) ++ (wInput k b12 iZ)) ++ [(q13, .inr (6, [.null, .int (iI 0)]))])) := hD
  refine lv_dup hx hb dX7_init_74 rfl ?_
  refine z_acv (wr := (((((([(h0, .inr (9, [.ref (b2 0), .ref (b4 0), .ref (b6 0), .ref (b8 0), .ref (b10 0), .ref (b12 0), .null, .int (iI 0), .int (iI 0), .int (iI 0), .int (iI 0)]))] ++ (wPlant k b2 iPl)) ++ (wPlant k b4 iPl)) ++ (wPlant k b6 iPl)) ++ (wPlant k b8 iPl)) ++ (wHist k b10 iZ ++ wRing k b10 (fun _ => iPl))) ++ (wInput k b12 iZ))) (q := q13) (va_runIN (As := []) (rest := [.ref q13, .ref h0]) ⟨hx, hb, hml, hown, hts⟩ (c_X4_init l D k q13 _) ⟨va_cnB 0 hts gX7_init_X4_init_n41 rfl rfl rfl (hG.2.2.1 (RX7, 41, yX4_init, RX7) (by decide +kernel)) (hts (.initialized RX4) (List.mem_of_getElem? (i := 21) rfl)) (by decide +kernel) ⟨(Nat.le_of_ble_eq_true rfl), (Nat.le_of_ble_eq_true rfl)⟩, rfl, (hts (.instanceMethod yX4_init) (List.mem_of_getElem? (i := 85) rfl))⟩ (z_preC (wr := (((((([(h0, .inr (9, [.ref (b2 0), .ref (b4 0), .ref (b6 0), .ref (b8 0), .ref (b10 0), .ref (b12 0), .null, .int (iI 0), .int (iI 0), .int (iI 0), .int (iI 0)]))] ++ (wPlant k b2 iPl)) ++ (wPlant k b4 iPl)) ++ (wPlant k b6 iPl)) ++ (wPlant k b8 iPl)) ++ (wHist k b10 iZ ++ wRing k b10 (fun _ => iPl))) ++ (wInput k b12 iZ))) hK hG hC hA hP hD hS) rfl rfl hl.1 rfl (lv_room (Nat.le_of_ble_eq_true rfl)) dX7_init_75 ⟨(Nat.le_of_ble_eq_true rfl), (Nat.le_of_ble_eq_true rfl)⟩) hA hP hD hS (fun b14 H2 locs2 ha hP2 hD2 hS2 => ?_)
  clear hP hD hS
  subst ha
  have hP := hP2
  have hD := hD2
  have hS := hS2
  clear hP2 hD2 hS2
  generalize H2 = H at hP hS ⊢
  generalize locs2 = locs at hS ⊢
  have hP : va_P D vwCl (((((((([(h0, .inr (9, [.ref (b2 0), .ref (b4 0), .ref (b6 0), .ref (b8 0), .ref (b10 0), .ref (b12 0), .null, .int (iI 0), .int (iI 0), .int (iI 0), .int (iI 0)]))] ++ (wPlant k b2 iPl)) ++ (wPlant k b4 iPl)) ++ (wPlant k b6 iPl)) ++ (wPlant k b8 iPl)) ++ (wHist k b10 iZ ++ wRing k b10 (fun _ => iPl))) ++ (wInput k b12 iZ)) ++ (wLine k b14 iZ))) H := hP
  have hD : va_D A (((((((([(h0, .inr (9, [.ref (b2 0), .ref (b4 0), .ref (b6 0), .ref (b8 0), .ref (b10 0), .ref (b12 0), .null, .int (iI 0), .int (iI 0), .int (iI 0), .int (iI 0)]))] ++ (wPlant k b2 iPl)) ++ (wPlant k b4 iPl)) ++ (wPlant k b6 iPl)) ++ (wPlant k b8 iPl)) ++ (wHist k b10 iZ ++ wRing k b10 (fun _ => iPl))) ++ (wInput k b12 iZ)) ++ (wLine k b14 iZ))) := hD
  refine va_putF (D := D) (ci := 9) (v := .ref (b14 0)) (ty := .object "MondayFactory$Line") (C := RX7) (T := TX7) (N := 11) hx hb hts (fun w h => List.mem_cons_of_mem _ (List.mem_append_left _ (List.mem_append_left _ (List.mem_append_left _ (List.mem_append_left _ (List.mem_append_left _ (List.mem_append_left _ (List.mem_append_right _ h)))))))) tyX7 tyX7_ok nmX7 hown hK hP hD hS 0 rfl rfl 6 (by decide) (hts (.fieldLink RX7 42 "MondayFactory" "written" "LMondayFactory$Line;") (List.mem_of_getElem? (i := 22) rfl)) (fun _ h9 => h9) rfl hin rfl (by decide +kernel) rfl rfl (Nat.le_of_ble_eq_true rfl) dX7_init_78 (fun H locs hP hD hS => ?_)
  have hP : va_P D vwCl (((((((([(h0, .inr (9, [.ref (b2 0), .ref (b4 0), .ref (b6 0), .ref (b8 0), .ref (b10 0), .ref (b12 0), .ref (b14 0), .int (iI 0), .int (iI 0), .int (iI 0), .int (iI 0)]))] ++ (wPlant k b2 iPl)) ++ (wPlant k b4 iPl)) ++ (wPlant k b6 iPl)) ++ (wPlant k b8 iPl)) ++ (wHist k b10 iZ ++ wRing k b10 (fun _ => iPl))) ++ (wInput k b12 iZ)) ++ (wLine k b14 iZ))) H := hP
  have hD : va_D A (((((((([(h0, .inr (9, [.ref (b2 0), .ref (b4 0), .ref (b6 0), .ref (b8 0), .ref (b10 0), .ref (b12 0), .ref (b14 0), .int (iI 0), .int (iI 0), .int (iI 0), .int (iI 0)]))] ++ (wPlant k b2 iPl)) ++ (wPlant k b4 iPl)) ++ (wPlant k b6 iPl)) ++ (wPlant k b8 iPl)) ++ (wHist k b10 iZ ++ wRing k b10 (fun _ => iPl))) ++ (wInput k b12 iZ)) ++ (wLine k b14 iZ))) := hD
  refine lv_aload_n hx hb dX7_init_81 rfl (lv_at hl 0 rfl) ?_
  refine lv_iconst (v := iI 0) hx hb dX7_init_82 rfl ?_
  refine va_put (D := D) (ci := 9) (v := .int (iI 0)) (ty := .boolean) (C := RX7) (T := TX7) (N := 11) hx hb hts (fun w h => List.mem_cons_of_mem _ (List.mem_append_left _ (List.mem_append_left _ (List.mem_append_left _ (List.mem_append_left _ (List.mem_append_left _ (List.mem_append_left _ (List.mem_append_right _ h)))))))) tyX7 tyX7_ok nmX7 hown hK hP hD hS 0 rfl rfl 7 (by decide) (hts (.fieldLink RX7 46 "MondayFactory" "hasSnapshot" "Z") (List.mem_of_getElem? (i := 23) rfl)) (fun _ h9 => h9) rfl (by decide +kernel) rfl rfl (Nat.le_of_ble_eq_true rfl) dX7_init_83 (fun H locs hP hD hS => ?_)
  have hP : va_P D vwCl (((((((([(h0, .inr (9, [.ref (b2 0), .ref (b4 0), .ref (b6 0), .ref (b8 0), .ref (b10 0), .ref (b12 0), .ref (b14 0), .int (iI 0), .int (iI 0), .int (iI 0), .int (iI 0)]))] ++ (wPlant k b2 iPl)) ++ (wPlant k b4 iPl)) ++ (wPlant k b6 iPl)) ++ (wPlant k b8 iPl)) ++ (wHist k b10 iZ ++ wRing k b10 (fun _ => iPl))) ++ (wInput k b12 iZ)) ++ (wLine k b14 iZ))) H := hP
  have hD : va_D A (((((((([(h0, .inr (9, [.ref (b2 0), .ref (b4 0), .ref (b6 0), .ref (b8 0), .ref (b10 0), .ref (b12 0), .ref (b14 0), .int (iI 0), .int (iI 0), .int (iI 0), .int (iI 0)]))] ++ (wPlant k b2 iPl)) ++ (wPlant k b4 iPl)) ++ (wPlant k b6 iPl)) ++ (wPlant k b8 iPl)) ++ (wHist k b10 iZ ++ wRing k b10 (fun _ => iPl))) ++ (wInput k b12 iZ)) ++ (wLine k b14 iZ))) := hD
  refine lv_aload_n hx hb dX7_init_86 rfl (lv_at hl 0 rfl) ?_
  refine lv_iconst (v := iI (-1)) hx hb dX7_init_87 rfl ?_
  refine va_put (D := D) (ci := 9) (v := .int (iI (-1))) (ty := .int) (C := RX7) (T := TX7) (N := 11) hx hb hts (fun w h => List.mem_cons_of_mem _ (List.mem_append_left _ (List.mem_append_left _ (List.mem_append_left _ (List.mem_append_left _ (List.mem_append_left _ (List.mem_append_left _ (List.mem_append_right _ h)))))))) tyX7 tyX7_ok nmX7 hown hK hP hD hS 0 rfl rfl 8 (by decide) (hts (.fieldLink RX7 50 "MondayFactory" "latestError" "I") (List.mem_of_getElem? (i := 24) rfl)) (fun _ h9 => h9) rfl (by decide +kernel) rfl rfl (Nat.le_of_ble_eq_true rfl) dX7_init_88 (fun H locs hP hD hS => ?_)
  have hP : va_P D vwCl (((((((([(h0, .inr (9, [.ref (b2 0), .ref (b4 0), .ref (b6 0), .ref (b8 0), .ref (b10 0), .ref (b12 0), .ref (b14 0), .int (iI 0), .int (iI (-1)), .int (iI 0), .int (iI 0)]))] ++ (wPlant k b2 iPl)) ++ (wPlant k b4 iPl)) ++ (wPlant k b6 iPl)) ++ (wPlant k b8 iPl)) ++ (wHist k b10 iZ ++ wRing k b10 (fun _ => iPl))) ++ (wInput k b12 iZ)) ++ (wLine k b14 iZ))) H := hP
  have hD : va_D A (((((((([(h0, .inr (9, [.ref (b2 0), .ref (b4 0), .ref (b6 0), .ref (b8 0), .ref (b10 0), .ref (b12 0), .ref (b14 0), .int (iI 0), .int (iI (-1)), .int (iI 0), .int (iI 0)]))] ++ (wPlant k b2 iPl)) ++ (wPlant k b4 iPl)) ++ (wPlant k b6 iPl)) ++ (wPlant k b8 iPl)) ++ (wHist k b10 iZ ++ wRing k b10 (fun _ => iPl))) ++ (wInput k b12 iZ)) ++ (wLine k b14 iZ))) := hD
  refine lv_aload_n hx hb dX7_init_91 rfl (lv_at hl 0 rfl) ?_
  refine lv_iconst (v := iI 0) hx hb dX7_init_92 rfl ?_
  refine va_put (D := D) (ci := 9) (v := .int (iI 0)) (ty := .int) (C := RX7) (T := TX7) (N := 11) hx hb hts (fun w h => List.mem_cons_of_mem _ (List.mem_append_left _ (List.mem_append_left _ (List.mem_append_left _ (List.mem_append_left _ (List.mem_append_left _ (List.mem_append_left _ (List.mem_append_right _ h)))))))) tyX7 tyX7_ok nmX7 hown hK hP hD hS 0 rfl rfl 9 (by decide) (hts (.fieldLink RX7 54 "MondayFactory" "latestReason" "I") (List.mem_of_getElem? (i := 25) rfl)) (fun _ h9 => h9) rfl (by decide +kernel) rfl rfl (Nat.le_of_ble_eq_true rfl) dX7_init_93 (fun H locs hP hD hS => ?_)
  have hP : va_P D vwCl (((((((([(h0, .inr (9, [.ref (b2 0), .ref (b4 0), .ref (b6 0), .ref (b8 0), .ref (b10 0), .ref (b12 0), .ref (b14 0), .int (iI 0), .int (iI (-1)), .int (iI 0), .int (iI 0)]))] ++ (wPlant k b2 iPl)) ++ (wPlant k b4 iPl)) ++ (wPlant k b6 iPl)) ++ (wPlant k b8 iPl)) ++ (wHist k b10 iZ ++ wRing k b10 (fun _ => iPl))) ++ (wInput k b12 iZ)) ++ (wLine k b14 iZ))) H := hP
  have hD : va_D A (((((((([(h0, .inr (9, [.ref (b2 0), .ref (b4 0), .ref (b6 0), .ref (b8 0), .ref (b10 0), .ref (b12 0), .ref (b14 0), .int (iI 0), .int (iI (-1)), .int (iI 0), .int (iI 0)]))] ++ (wPlant k b2 iPl)) ++ (wPlant k b4 iPl)) ++ (wPlant k b6 iPl)) ++ (wPlant k b8 iPl)) ++ (wHist k b10 iZ ++ wRing k b10 (fun _ => iPl))) ++ (wInput k b12 iZ)) ++ (wLine k b14 iZ))) := hD
  refine lv_aload_n hx hb dX7_init_96 rfl (lv_at hl 0 rfl) ?_
  refine lv_iconst (v := iI 0) hx hb dX7_init_97 rfl ?_
  refine va_put (D := D) (ci := 9) (v := .int (iI 0)) (ty := .int) (C := RX7) (T := TX7) (N := 11) hx hb hts (fun w h => List.mem_cons_of_mem _ (List.mem_append_left _ (List.mem_append_left _ (List.mem_append_left _ (List.mem_append_left _ (List.mem_append_left _ (List.mem_append_left _ (List.mem_append_right _ h)))))))) tyX7 tyX7_ok nmX7 hown hK hP hD hS 0 rfl rfl 10 (by decide) (hts (.fieldLink RX7 57 "MondayFactory" "latestDetail" "I") (List.mem_of_getElem? (i := 26) rfl)) (fun _ h9 => h9) rfl (by decide +kernel) rfl rfl (Nat.le_of_ble_eq_true rfl) dX7_init_98 (fun H locs hP hD hS => ?_)
  have hP : va_P D vwCl (((((((([(h0, .inr (9, [.ref (b2 0), .ref (b4 0), .ref (b6 0), .ref (b8 0), .ref (b10 0), .ref (b12 0), .ref (b14 0), .int (iI 0), .int (iI (-1)), .int (iI 0), .int (iI 0)]))] ++ (wPlant k b2 iPl)) ++ (wPlant k b4 iPl)) ++ (wPlant k b6 iPl)) ++ (wPlant k b8 iPl)) ++ (wHist k b10 iZ ++ wRing k b10 (fun _ => iPl))) ++ (wInput k b12 iZ)) ++ (wLine k b14 iZ))) H := hP
  have hD : va_D A (((((((([(h0, .inr (9, [.ref (b2 0), .ref (b4 0), .ref (b6 0), .ref (b8 0), .ref (b10 0), .ref (b12 0), .ref (b14 0), .int (iI 0), .int (iI (-1)), .int (iI 0), .int (iI 0)]))] ++ (wPlant k b2 iPl)) ++ (wPlant k b4 iPl)) ++ (wPlant k b6 iPl)) ++ (wPlant k b8 iPl)) ++ (wHist k b10 iZ ++ wRing k b10 (fun _ => iPl))) ++ (wInput k b12 iZ)) ++ (wLine k b14 iZ))) := hD
  obtain ⟨a, ha⟩ : ∃ a : Nat → Nat, a = (zsel 1 (fun _ => h0) (zsel 15 b2 (zsel 15 b4 (zsel 15 b6 (zsel 15 b8 (zsel 122 b10 (zsel 2 b12 (zsel 2 b14 (fun _ => 0))))))))) := ⟨_, rfl⟩
  have s0 : subA a 1 = (zsel 15 b2 (zsel 15 b4 (zsel 15 b6 (zsel 15 b8 (zsel 122 b10 (zsel 2 b12 (zsel 2 b14 (fun _ => 0)))))))) := by rw [ha]; exact subA_sel
  have s1 : subA a 16 = (zsel 15 b4 (zsel 15 b6 (zsel 15 b8 (zsel 122 b10 (zsel 2 b12 (zsel 2 b14 (fun _ => 0))))))) := by rw [show subA a 16 = subA (subA a 1) 15 from funext (fun j => by show a (16 + j) = a (1 + (15 + j)); congr 1; omega), s0]; exact subA_sel
  have s2 : subA a 31 = (zsel 15 b6 (zsel 15 b8 (zsel 122 b10 (zsel 2 b12 (zsel 2 b14 (fun _ => 0)))))) := by rw [show subA a 31 = subA (subA a 16) 15 from funext (fun j => by show a (31 + j) = a (16 + (15 + j)); congr 1; omega), s1]; exact subA_sel
  have s3 : subA a 46 = (zsel 15 b8 (zsel 122 b10 (zsel 2 b12 (zsel 2 b14 (fun _ => 0))))) := by rw [show subA a 46 = subA (subA a 31) 15 from funext (fun j => by show a (46 + j) = a (31 + (15 + j)); congr 1; omega), s2]; exact subA_sel
  have s4 : subA a 61 = (zsel 122 b10 (zsel 2 b12 (zsel 2 b14 (fun _ => 0)))) := by rw [show subA a 61 = subA (subA a 46) 15 from funext (fun j => by show a (61 + j) = a (46 + (15 + j)); congr 1; omega), s3]; exact subA_sel
  have s5 : subA a 183 = (zsel 2 b12 (zsel 2 b14 (fun _ => 0))) := by rw [show subA a 183 = subA (subA a 61) 122 from funext (fun j => by show a (183 + j) = a (61 + (122 + j)); congr 1; omega), s4]; exact subA_sel
  have s6 : subA a 185 = (zsel 2 b14 (fun _ => 0)) := by rw [show subA a 185 = subA (subA a 183) 2 from funext (fun j => by show a (185 + j) = a (183 + (2 + j)); congr 1; omega), s5]; exact subA_sel
  have e0 : ∀ i, i < 15 → b2 i = subA a 1 i := fun i hi => by rw [s0]; exact (zsel_in hi).symm
  have e1 : ∀ i, i < 15 → b4 i = subA a 16 i := fun i hi => by rw [s1]; exact (zsel_in hi).symm
  have e2 : ∀ i, i < 15 → b6 i = subA a 31 i := fun i hi => by rw [s2]; exact (zsel_in hi).symm
  have e3 : ∀ i, i < 15 → b8 i = subA a 46 i := fun i hi => by rw [s3]; exact (zsel_in hi).symm
  have e4 : ∀ i, i < 122 → b10 i = subA a 61 i := fun i hi => by rw [s4]; exact (zsel_in hi).symm
  have e5 : ∀ i, i < 2 → b12 i = subA a 183 i := fun i hi => by rw [s5]; exact (zsel_in hi).symm
  have e6 : ∀ i, i < 2 → b14 i = subA a 185 i := fun i hi => by rw [s6]; exact (zsel_in hi).symm
  have a0 : a 0 = h0 := by rw [ha]; rfl
  have z0 : a 1 = b2 0 := (e0 0 (by decide)).symm
  have z1 : a 16 = b4 0 := (e1 0 (by decide)).symm
  have z2 : a 31 = b6 0 := (e2 0 (by decide)).symm
  have z3 : a 46 = b8 0 := (e3 0 (by decide)).symm
  have z4 : a 61 = b10 0 := (e4 0 (by decide)).symm
  have z5 : a 183 = b12 0 := (e5 0 (by decide)).symm
  have z6 : a 185 = b14 0 := (e6 0 (by decide)).symm
  clear ha
  have hw : ((((((([(h0, .inr (9, [.ref (b2 0), .ref (b4 0), .ref (b6 0), .ref (b8 0), .ref (b10 0), .ref (b12 0), .ref (b14 0), .int (iI 0), .int (iI (-1)), .int (iI 0), .int (iI 0)]))] ++ (wPlant k b2 iPl)) ++ (wPlant k b4 iPl)) ++ (wPlant k b6 iPl)) ++ (wPlant k b8 iPl)) ++ (wHist k b10 iZ ++ wRing k b10 (fun _ => iPl))) ++ (wInput k b12 iZ)) ++ (wLine k b14 iZ)) = ((((((((wFac k a iFac) ++ (wPlant k b2 iPl)) ++ (wPlant k b4 iPl)) ++ (wPlant k b6 iPl)) ++ (wPlant k b8 iPl)) ++ (wHist k b10 iZ ++ wRing k b10 (fun _ => iPl))) ++ (wInput k b12 iZ)) ++ (wLine k b14 iZ)) := by
    simp only [wFac, a0, z0, z1, z2, z3, z4, z5, z6]
    rfl
  have hP : va_P D vwCl ((((((((wFac k a iFac) ++ (wPlant k b2 iPl)) ++ (wPlant k b4 iPl)) ++ (wPlant k b6 iPl)) ++ (wPlant k b8 iPl)) ++ (wHist k b10 iZ ++ wRing k b10 (fun _ => iPl))) ++ (wInput k b12 iZ)) ++ (wLine k b14 iZ)) H := z_to hw hP
  have hD : va_D A ((((((((wFac k a iFac) ++ (wPlant k b2 iPl)) ++ (wPlant k b4 iPl)) ++ (wPlant k b6 iPl)) ++ (wPlant k b8 iPl)) ++ (wHist k b10 iZ ++ wRing k b10 (fun _ => iPl))) ++ (wInput k b12 iZ)) ++ (wLine k b14 iZ)) := z_to2 hw hD
  simp only [zP_app, wRing] at hP
  obtain ⟨⟨⟨⟨⟨⟨⟨hf, p0⟩, p1⟩, p2⟩, p3⟩, ⟨p4, r0, r1, r2, r3, r4, r5, r6, r7⟩⟩, p5⟩, p6⟩ := hP
  have f0 : ∀ i, i < 15 → subA b10 2 i = subA (subA a 61) 2 i := fun i hi => e4 (2 + i) (by omega)
  have f1 : ∀ i, i < 15 → subA b10 17 i = subA (subA a 61) 17 i := fun i hi => e4 (17 + i) (by omega)
  have f2 : ∀ i, i < 15 → subA b10 32 i = subA (subA a 61) 32 i := fun i hi => e4 (32 + i) (by omega)
  have f3 : ∀ i, i < 15 → subA b10 47 i = subA (subA a 61) 47 i := fun i hi => e4 (47 + i) (by omega)
  have f4 : ∀ i, i < 15 → subA b10 62 i = subA (subA a 61) 62 i := fun i hi => e4 (62 + i) (by omega)
  have f5 : ∀ i, i < 15 → subA b10 77 i = subA (subA a 61) 77 i := fun i hi => e4 (77 + i) (by omega)
  have f6 : ∀ i, i < 15 → subA b10 92 i = subA (subA a 61) 92 i := fun i hi => e4 (92 + i) (by omega)
  have f7 : ∀ i, i < 15 → subA b10 107 i = subA (subA a 61) 107 i := fun i hi => e4 (107 + i) (by omega)
  refine z_cret hx hb hr hlocks hS dX7_init_101 a a0 ?_ ?_ (Nat.le_of_ble_eq_true rfl) (Nat.le_of_ble_eq_true rfl)
  · simp only [wAll, wRing, zP_app, wInput_cg e5, wLine_cg e6]
    exact ⟨hf, wPlant_cg e0 p0, wPlant_cg e1 p1, wPlant_cg e2 p2, wPlant_cg e3 p3, wHist_cg e4 p4, ⟨wPlant_cg f0 r0, wPlant_cg f1 r1, wPlant_cg f2 r2, wPlant_cg f3 r3, wPlant_cg f4 r4, wPlant_cg f5 r5, wPlant_cg f6 r6, wPlant_cg f7 r7⟩, p5, p6⟩
  · refine z_fst ?_ hD
    simp only [wAll, wRing, List.map_append, wInput_cg e5, wLine_cg e6, wHist_fc (S := iZ) (T := iZ) (k := k) e4, wPlant_fc (S := iPl) (T := iPl) (k := k) e0, wPlant_fc (S := iPl) (T := iPl) (k := k) e1, wPlant_fc (S := iPl) (T := iPl) (k := k) e2, wPlant_fc (S := iPl) (T := iPl) (k := k) e3, wPlant_fc (S := iPl) (T := iPl) (k := k) f0, wPlant_fc (S := iPl) (T := iPl) (k := k) f1, wPlant_fc (S := iPl) (T := iPl) (k := k) f2, wPlant_fc (S := iPl) (T := iPl) (k := k) f3, wPlant_fc (S := iPl) (T := iPl) (k := k) f4, wPlant_fc (S := iPl) (T := iPl) (k := k) f5, wPlant_fc (S := iPl) (T := iPl) (k := k) f6, wPlant_fc (S := iPl) (T := iPl) (k := k) f7, List.append_assoc]
def iRef : Nat → Nat → Int := up2 (up2 (up2 (up2 (up2 (up2 (up2 (up2 (up2 iRf0 1 16 5) 1 17 7) 1 18 (-1)) 1 42 5) 1 43 7) 1 44 (-1)) 1 68 5) 1 69 7) 1 70 (-1)
set_option maxHeartbeats 4000000 in
set_option maxRecDepth 100000 in
theorem c_X8_init (l : Launch) (D : va_G) (k : Nat → ClassId) : zMc l yX8_init wsX8_init ({ frames := 1, cells := 7, slots := 1619, locals := 23 } : Room) D k (.inr (10, [.null, .null, .null, .null, .int (iI 0), .int (iI 0), .int (iI 0), .int (iI 0), .int (iI 0), .int (iI 0), .int (iI 0), .null, .int (iI 0), .int (iI 0), .null, .int (iI 0), .int (iI 0), .null, .int (iI 0)]) : va_E) (fun a => wRef k a (iRef)) 7 1619 := by
  refine zMc_of (cc := cX8_init) (maxL := 2) (ret := none) (by decide) rfl (Nat.le_of_ble_eq_true rfl) rfl ?_
  intro h0 p e s m args below meth c A ls hx hb hr hml hown hts hlocks hin hK hP hD hG hC hA hS hl
  have hown : s.vm.findClass RX8 = some m.cls := hown
  obtain ⟨H, hH⟩ : ∃ z, z = s.heap := ⟨_, rfl⟩
  obtain ⟨locs, hlc⟩ : ∃ z : List Loc, z = [] := ⟨_, rfl⟩
  rw [← hH] at hP
  have hS : va_S A s.heap H locs := by rw [hH, hlc]; exact hS
  rw [← hlc, ← hH]
  clear hlc hH
  refine lv_aload_n hx hb dX8_init_0 rfl (lv_at hl 0 rfl) ?_
  refine W.objInit hx hb hown (hts (.methodLink RX8 1 objectInit) (List.mem_of_getElem? (i := 1) rfl)) (hts (.instanceMethod objectInit) (List.mem_of_getElem? (i := 2) rfl)) (hts (.code objectInit ⟨#[0xb1]⟩ 1 none) (List.mem_of_getElem? (i := 3) rfl)) rfl (by rw [hml]; exact hl.1) rfl dX8_init_1 (Nat.le_of_ble_eq_true rfl) (Nat.le_of_ble_eq_true rfl) ?_
  refine W.eq (g2 := F0 m 4 ls []) rfl ?_
  refine lv_aload_n hx hb dX8_init_4 rfl (lv_at hl 0 rfl) ?_
  refine lv_bipush (v := iI 125) hx hb dX8_init_5 rfl ?_
  refine va_newa (atype := .int) (ty := .int) (N' := 125) (a0 := (125, .inl (fun _ => iI 0))) hx hb (hts (.arrayClass .int) (List.mem_of_getElem? (i := 4) rfl)) rfl hK hP hD hS hA (fun _ => rfl) (by decide +kernel) (by decide +kernel) (by decide) (Nat.le_of_ble_eq_true rfl) (Nat.le_of_ble_eq_true rfl) dX8_init_7 (fun q1 cA H hK2 hP hD hS => ?_)
  have eA := zK_eq hK2 0 rfl
  subst eA
  clear hK2
  have hP : va_P D vwCl (([(h0, .inr (10, [.null, .null, .null, .null, .int (iI 0), .int (iI 0), .int (iI 0), .int (iI 0), .int (iI 0), .int (iI 0), .int (iI 0), .null, .int (iI 0), .int (iI 0), .null, .int (iI 0), .int (iI 0), .null, .int (iI 0)]))] ++ [(q1, .inl (k 0, 125, .inl (fun _ => iI 0)))])) H := hP
  have hD : va_D A (([(h0, .inr (10, [.null, .null, .null, .null, .int (iI 0), .int (iI 0), .int (iI 0), .int (iI 0), .int (iI 0), .int (iI 0), .int (iI 0), .null, .int (iI 0), .int (iI 0), .null, .int (iI 0), .int (iI 0), .null, .int (iI 0)]))] ++ [(q1, .inl (k 0, 125, .inl (fun _ => iI 0)))])) := hD
  refine va_putF (D := D) (ci := 10) (v := .ref q1) (ty := .array .int) (C := RX8) (T := TX8) (N := 19) hx hb hts (fun w h => List.mem_cons_of_mem _ (List.mem_append_left _ (List.mem_append_right _ h))) tyX8 tyX8_ok nmX8 hown hK hP hD hS 0 rfl rfl 0 (by decide) (hts (.fieldLink RX8 7 "MondayFactoryModel" "g" "[I") (List.mem_of_getElem? (i := 5) rfl)) (fun _ h9 => h9) rfl hin rfl (by decide +kernel) rfl rfl (Nat.le_of_ble_eq_true rfl) dX8_init_9 (fun H locs hP hD hS => ?_)
  have hP : va_P D vwCl (([(h0, .inr (10, [.ref q1, .null, .null, .null, .int (iI 0), .int (iI 0), .int (iI 0), .int (iI 0), .int (iI 0), .int (iI 0), .int (iI 0), .null, .int (iI 0), .int (iI 0), .null, .int (iI 0), .int (iI 0), .null, .int (iI 0)]))] ++ [(q1, .inl (k 0, 125, .inl (fun _ => iI 0)))])) H := hP
  have hD : va_D A (([(h0, .inr (10, [.ref q1, .null, .null, .null, .int (iI 0), .int (iI 0), .int (iI 0), .int (iI 0), .int (iI 0), .int (iI 0), .int (iI 0), .null, .int (iI 0), .int (iI 0), .null, .int (iI 0), .int (iI 0), .null, .int (iI 0)]))] ++ [(q1, .inl (k 0, 125, .inl (fun _ => iI 0)))])) := hD
  refine lv_aload_n hx hb dX8_init_12 rfl (lv_at hl 0 rfl) ?_
  refine lv_sipush (v := iI 1000) hx hb dX8_init_13 rfl ?_
  refine va_newa (atype := .int) (ty := .int) (N' := 1000) (a0 := (1000, .inl (fun _ => iI 0))) hx hb (hts (.arrayClass .int) (List.mem_of_getElem? (i := 4) rfl)) rfl hK hP hD hS hA (fun _ => rfl) (by decide +kernel) (by decide +kernel) (by decide) (Nat.le_of_ble_eq_true rfl) (Nat.le_of_ble_eq_true rfl) dX8_init_16 (fun q2 cA H hK2 hP hD hS => ?_)
  have eA := zK_eq hK2 0 rfl
  subst eA
  clear hK2
  have hP : va_P D vwCl ((([(h0, .inr (10, [.ref q1, .null, .null, .null, .int (iI 0), .int (iI 0), .int (iI 0), .int (iI 0), .int (iI 0), .int (iI 0), .int (iI 0), .null, .int (iI 0), .int (iI 0), .null, .int (iI 0), .int (iI 0), .null, .int (iI 0)]))] ++ [(q1, .inl (k 0, 125, .inl (fun _ => iI 0)))]) ++ [(q2, .inl (k 0, 1000, .inl (fun _ => iI 0)))])) H := hP
  have hD : va_D A ((([(h0, .inr (10, [.ref q1, .null, .null, .null, .int (iI 0), .int (iI 0), .int (iI 0), .int (iI 0), .int (iI 0), .int (iI 0), .int (iI 0), .null, .int (iI 0), .int (iI 0), .null, .int (iI 0), .int (iI 0), .null, .int (iI 0)]))] ++ [(q1, .inl (k 0, 125, .inl (fun _ => iI 0)))]) ++ [(q2, .inl (k 0, 1000, .inl (fun _ => iI 0)))])) := hD
  refine va_putF (D := D) (ci := 10) (v := .ref q2) (ty := .array .int) (C := RX8) (T := TX8) (N := 19) hx hb hts (fun w h => List.mem_cons_of_mem _ (List.mem_append_left _ (List.mem_append_right _ h))) tyX8 tyX8_ok nmX8 hown hK hP hD hS 0 rfl rfl 1 (by decide) (hts (.fieldLink RX8 13 "MondayFactoryModel" "kept" "[I") (List.mem_of_getElem? (i := 6) rfl)) (fun _ h9 => h9) rfl hin rfl (by decide +kernel) rfl rfl (Nat.le_of_ble_eq_true rfl) dX8_init_18 (fun H locs hP hD hS => ?_)
  have hP : va_P D vwCl ((([(h0, .inr (10, [.ref q1, .ref q2, .null, .null, .int (iI 0), .int (iI 0), .int (iI 0), .int (iI 0), .int (iI 0), .int (iI 0), .int (iI 0), .null, .int (iI 0), .int (iI 0), .null, .int (iI 0), .int (iI 0), .null, .int (iI 0)]))] ++ [(q1, .inl (k 0, 125, .inl (fun _ => iI 0)))]) ++ [(q2, .inl (k 0, 1000, .inl (fun _ => iI 0)))])) H := hP
  have hD : va_D A ((([(h0, .inr (10, [.ref q1, .ref q2, .null, .null, .int (iI 0), .int (iI 0), .int (iI 0), .int (iI 0), .int (iI 0), .int (iI 0), .int (iI 0), .null, .int (iI 0), .int (iI 0), .null, .int (iI 0), .int (iI 0), .null, .int (iI 0)]))] ++ [(q1, .inl (k 0, 125, .inl (fun _ => iI 0)))]) ++ [(q2, .inl (k 0, 1000, .inl (fun _ => iI 0)))])) := hD
  refine lv_aload_n hx hb dX8_init_21 rfl (lv_at hl 0 rfl) ?_
  refine lv_bipush (v := iI 125) hx hb dX8_init_22 rfl ?_
  refine va_newa (atype := .int) (ty := .int) (N' := 125) (a0 := (125, .inl (fun _ => iI 0))) hx hb (hts (.arrayClass .int) (List.mem_of_getElem? (i := 4) rfl)) rfl hK hP hD hS hA (fun _ => rfl) (by decide +kernel) (by decide +kernel) (by decide) (Nat.le_of_ble_eq_true rfl) (Nat.le_of_ble_eq_true rfl) dX8_init_24 (fun q3 cA H hK2 hP hD hS => ?_)
  have eA := zK_eq hK2 0 rfl
  subst eA
  clear hK2
  have hP : va_P D vwCl (((([(h0, .inr (10, [.ref q1, .ref q2, .null, .null, .int (iI 0), .int (iI 0), .int (iI 0), .int (iI 0), .int (iI 0), .int (iI 0), .int (iI 0), .null, .int (iI 0), .int (iI 0), .null, .int (iI 0), .int (iI 0), .null, .int (iI 0)]))] ++ [(q1, .inl (k 0, 125, .inl (fun _ => iI 0)))]) ++ [(q2, .inl (k 0, 1000, .inl (fun _ => iI 0)))]) ++ [(q3, .inl (k 0, 125, .inl (fun _ => iI 0)))])) H := hP
  have hD : va_D A (((([(h0, .inr (10, [.ref q1, .ref q2, .null, .null, .int (iI 0), .int (iI 0), .int (iI 0), .int (iI 0), .int (iI 0), .int (iI 0), .int (iI 0), .null, .int (iI 0), .int (iI 0), .null, .int (iI 0), .int (iI 0), .null, .int (iI 0)]))] ++ [(q1, .inl (k 0, 125, .inl (fun _ => iI 0)))]) ++ [(q2, .inl (k 0, 1000, .inl (fun _ => iI 0)))]) ++ [(q3, .inl (k 0, 125, .inl (fun _ => iI 0)))])) := hD
  refine va_putF (D := D) (ci := 10) (v := .ref q3) (ty := .array .int) (C := RX8) (T := TX8) (N := 19) hx hb hts (fun w h => List.mem_cons_of_mem _ (List.mem_append_left _ (List.mem_append_right _ h))) tyX8 tyX8_ok nmX8 hown hK hP hD hS 0 rfl rfl 2 (by decide) (hts (.fieldLink RX8 16 "MondayFactoryModel" "saved" "[I") (List.mem_of_getElem? (i := 7) rfl)) (fun _ h9 => h9) rfl hin rfl (by decide +kernel) rfl rfl (Nat.le_of_ble_eq_true rfl) dX8_init_26 (fun H locs hP hD hS => ?_)
  have hP : va_P D vwCl (((([(h0, .inr (10, [.ref q1, .ref q2, .ref q3, .null, .int (iI 0), .int (iI 0), .int (iI 0), .int (iI 0), .int (iI 0), .int (iI 0), .int (iI 0), .null, .int (iI 0), .int (iI 0), .null, .int (iI 0), .int (iI 0), .null, .int (iI 0)]))] ++ [(q1, .inl (k 0, 125, .inl (fun _ => iI 0)))]) ++ [(q2, .inl (k 0, 1000, .inl (fun _ => iI 0)))]) ++ [(q3, .inl (k 0, 125, .inl (fun _ => iI 0)))])) H := hP
  have hD : va_D A (((([(h0, .inr (10, [.ref q1, .ref q2, .ref q3, .null, .int (iI 0), .int (iI 0), .int (iI 0), .int (iI 0), .int (iI 0), .int (iI 0), .int (iI 0), .null, .int (iI 0), .int (iI 0), .null, .int (iI 0), .int (iI 0), .null, .int (iI 0)]))] ++ [(q1, .inl (k 0, 125, .inl (fun _ => iI 0)))]) ++ [(q2, .inl (k 0, 1000, .inl (fun _ => iI 0)))]) ++ [(q3, .inl (k 0, 125, .inl (fun _ => iI 0)))])) := hD
  refine lv_aload_n hx hb dX8_init_29 rfl (lv_at hl 0 rfl) ?_
  refine lv_bipush (v := iI 125) hx hb dX8_init_30 rfl ?_
  refine va_newa (atype := .int) (ty := .int) (N' := 125) (a0 := (125, .inl (fun _ => iI 0))) hx hb (hts (.arrayClass .int) (List.mem_of_getElem? (i := 4) rfl)) rfl hK hP hD hS hA (fun _ => rfl) (by decide +kernel) (by decide +kernel) (by decide) (Nat.le_of_ble_eq_true rfl) (Nat.le_of_ble_eq_true rfl) dX8_init_32 (fun q4 cA H hK2 hP hD hS => ?_)
  have eA := zK_eq hK2 0 rfl
  subst eA
  clear hK2
  have hP : va_P D vwCl ((((([(h0, .inr (10, [.ref q1, .ref q2, .ref q3, .null, .int (iI 0), .int (iI 0), .int (iI 0), .int (iI 0), .int (iI 0), .int (iI 0), .int (iI 0), .null, .int (iI 0), .int (iI 0), .null, .int (iI 0), .int (iI 0), .null, .int (iI 0)]))] ++ [(q1, .inl (k 0, 125, .inl (fun _ => iI 0)))]) ++ [(q2, .inl (k 0, 1000, .inl (fun _ => iI 0)))]) ++ [(q3, .inl (k 0, 125, .inl (fun _ => iI 0)))]) ++ [(q4, .inl (k 0, 125, .inl (fun _ => iI 0)))])) H := hP
  have hD : va_D A ((((([(h0, .inr (10, [.ref q1, .ref q2, .ref q3, .null, .int (iI 0), .int (iI 0), .int (iI 0), .int (iI 0), .int (iI 0), .int (iI 0), .int (iI 0), .null, .int (iI 0), .int (iI 0), .null, .int (iI 0), .int (iI 0), .null, .int (iI 0)]))] ++ [(q1, .inl (k 0, 125, .inl (fun _ => iI 0)))]) ++ [(q2, .inl (k 0, 1000, .inl (fun _ => iI 0)))]) ++ [(q3, .inl (k 0, 125, .inl (fun _ => iI 0)))]) ++ [(q4, .inl (k 0, 125, .inl (fun _ => iI 0)))])) := hD
  refine va_putF (D := D) (ci := 10) (v := .ref q4) (ty := .array .int) (C := RX8) (T := TX8) (N := 19) hx hb hts (fun w h => List.mem_cons_of_mem _ (List.mem_append_left _ (List.mem_append_right _ h))) tyX8 tyX8_ok nmX8 hown hK hP hD hS 0 rfl rfl 3 (by decide) (hts (.fieldLink RX8 19 "MondayFactoryModel" "before" "[I") (List.mem_of_getElem? (i := 8) rfl)) (fun _ h9 => h9) rfl hin rfl (by decide +kernel) rfl rfl (Nat.le_of_ble_eq_true rfl) dX8_init_34 (fun H locs hP hD hS => ?_)
  have hP : va_P D vwCl ((((([(h0, .inr (10, [.ref q1, .ref q2, .ref q3, .ref q4, .int (iI 0), .int (iI 0), .int (iI 0), .int (iI 0), .int (iI 0), .int (iI 0), .int (iI 0), .null, .int (iI 0), .int (iI 0), .null, .int (iI 0), .int (iI 0), .null, .int (iI 0)]))] ++ [(q1, .inl (k 0, 125, .inl (fun _ => iI 0)))]) ++ [(q2, .inl (k 0, 1000, .inl (fun _ => iI 0)))]) ++ [(q3, .inl (k 0, 125, .inl (fun _ => iI 0)))]) ++ [(q4, .inl (k 0, 125, .inl (fun _ => iI 0)))])) H := hP
  have hD : va_D A ((((([(h0, .inr (10, [.ref q1, .ref q2, .ref q3, .ref q4, .int (iI 0), .int (iI 0), .int (iI 0), .int (iI 0), .int (iI 0), .int (iI 0), .int (iI 0), .null, .int (iI 0), .int (iI 0), .null, .int (iI 0), .int (iI 0), .null, .int (iI 0)]))] ++ [(q1, .inl (k 0, 125, .inl (fun _ => iI 0)))]) ++ [(q2, .inl (k 0, 1000, .inl (fun _ => iI 0)))]) ++ [(q3, .inl (k 0, 125, .inl (fun _ => iI 0)))]) ++ [(q4, .inl (k 0, 125, .inl (fun _ => iI 0)))])) := hD
  refine lv_aload_n hx hb dX8_init_37 rfl (lv_at hl 0 rfl) ?_
  refine lv_bipush (v := iI 60) hx hb dX8_init_38 rfl ?_
  refine va_newa (atype := .int) (ty := .int) (N' := 60) (a0 := (60, .inl (fun _ => iI 0))) hx hb (hts (.arrayClass .int) (List.mem_of_getElem? (i := 4) rfl)) rfl hK hP hD hS hA (fun _ => rfl) (by decide +kernel) (by decide +kernel) (by decide) (Nat.le_of_ble_eq_true rfl) (Nat.le_of_ble_eq_true rfl) dX8_init_40 (fun q5 cA H hK2 hP hD hS => ?_)
  have eA := zK_eq hK2 0 rfl
  subst eA
  clear hK2
  have hP : va_P D vwCl (((((([(h0, .inr (10, [.ref q1, .ref q2, .ref q3, .ref q4, .int (iI 0), .int (iI 0), .int (iI 0), .int (iI 0), .int (iI 0), .int (iI 0), .int (iI 0), .null, .int (iI 0), .int (iI 0), .null, .int (iI 0), .int (iI 0), .null, .int (iI 0)]))] ++ [(q1, .inl (k 0, 125, .inl (fun _ => iI 0)))]) ++ [(q2, .inl (k 0, 1000, .inl (fun _ => iI 0)))]) ++ [(q3, .inl (k 0, 125, .inl (fun _ => iI 0)))]) ++ [(q4, .inl (k 0, 125, .inl (fun _ => iI 0)))]) ++ [(q5, .inl (k 0, 60, .inl (fun _ => iI 0)))])) H := hP
  have hD : va_D A (((((([(h0, .inr (10, [.ref q1, .ref q2, .ref q3, .ref q4, .int (iI 0), .int (iI 0), .int (iI 0), .int (iI 0), .int (iI 0), .int (iI 0), .int (iI 0), .null, .int (iI 0), .int (iI 0), .null, .int (iI 0), .int (iI 0), .null, .int (iI 0)]))] ++ [(q1, .inl (k 0, 125, .inl (fun _ => iI 0)))]) ++ [(q2, .inl (k 0, 1000, .inl (fun _ => iI 0)))]) ++ [(q3, .inl (k 0, 125, .inl (fun _ => iI 0)))]) ++ [(q4, .inl (k 0, 125, .inl (fun _ => iI 0)))]) ++ [(q5, .inl (k 0, 60, .inl (fun _ => iI 0)))])) := hD
  refine va_putF (D := D) (ci := 10) (v := .ref q5) (ty := .array .int) (C := RX8) (T := TX8) (N := 19) hx hb hts (fun w h => List.mem_cons_of_mem _ (List.mem_append_left _ (List.mem_append_right _ h))) tyX8 tyX8_ok nmX8 hown hK hP hD hS 0 rfl rfl 11 (by decide) (hts (.fieldLink RX8 22 "MondayFactoryModel" "input" "[I") (List.mem_of_getElem? (i := 9) rfl)) (fun _ h9 => h9) rfl hin rfl (by decide +kernel) rfl rfl (Nat.le_of_ble_eq_true rfl) dX8_init_42 (fun H locs hP hD hS => ?_)
  have hP : va_P D vwCl (((((([(h0, .inr (10, [.ref q1, .ref q2, .ref q3, .ref q4, .int (iI 0), .int (iI 0), .int (iI 0), .int (iI 0), .int (iI 0), .int (iI 0), .int (iI 0), .ref q5, .int (iI 0), .int (iI 0), .null, .int (iI 0), .int (iI 0), .null, .int (iI 0)]))] ++ [(q1, .inl (k 0, 125, .inl (fun _ => iI 0)))]) ++ [(q2, .inl (k 0, 1000, .inl (fun _ => iI 0)))]) ++ [(q3, .inl (k 0, 125, .inl (fun _ => iI 0)))]) ++ [(q4, .inl (k 0, 125, .inl (fun _ => iI 0)))]) ++ [(q5, .inl (k 0, 60, .inl (fun _ => iI 0)))])) H := hP
  have hD : va_D A (((((([(h0, .inr (10, [.ref q1, .ref q2, .ref q3, .ref q4, .int (iI 0), .int (iI 0), .int (iI 0), .int (iI 0), .int (iI 0), .int (iI 0), .int (iI 0), .ref q5, .int (iI 0), .int (iI 0), .null, .int (iI 0), .int (iI 0), .null, .int (iI 0)]))] ++ [(q1, .inl (k 0, 125, .inl (fun _ => iI 0)))]) ++ [(q2, .inl (k 0, 1000, .inl (fun _ => iI 0)))]) ++ [(q3, .inl (k 0, 125, .inl (fun _ => iI 0)))]) ++ [(q4, .inl (k 0, 125, .inl (fun _ => iI 0)))]) ++ [(q5, .inl (k 0, 60, .inl (fun _ => iI 0)))])) := hD
  refine lv_aload_n hx hb dX8_init_45 rfl (lv_at hl 0 rfl) ?_
  refine lv_iconst (v := iI (-1)) hx hb dX8_init_46 rfl ?_
  refine va_put (D := D) (ci := 10) (v := .int (iI (-1))) (ty := .int) (C := RX8) (T := TX8) (N := 19) hx hb hts (fun w h => List.mem_cons_of_mem _ (List.mem_append_left _ (List.mem_append_right _ h))) tyX8 tyX8_ok nmX8 hown hK hP hD hS 0 rfl rfl 13 (by decide) (hts (.fieldLink RX8 25 "MondayFactoryModel" "error" "I") (List.mem_of_getElem? (i := 10) rfl)) (fun _ h9 => h9) rfl (by decide +kernel) rfl rfl (Nat.le_of_ble_eq_true rfl) dX8_init_47 (fun H locs hP hD hS => ?_)
  have hP : va_P D vwCl (((((([(h0, .inr (10, [.ref q1, .ref q2, .ref q3, .ref q4, .int (iI 0), .int (iI 0), .int (iI 0), .int (iI 0), .int (iI 0), .int (iI 0), .int (iI 0), .ref q5, .int (iI 0), .int (iI (-1)), .null, .int (iI 0), .int (iI 0), .null, .int (iI 0)]))] ++ [(q1, .inl (k 0, 125, .inl (fun _ => iI 0)))]) ++ [(q2, .inl (k 0, 1000, .inl (fun _ => iI 0)))]) ++ [(q3, .inl (k 0, 125, .inl (fun _ => iI 0)))]) ++ [(q4, .inl (k 0, 125, .inl (fun _ => iI 0)))]) ++ [(q5, .inl (k 0, 60, .inl (fun _ => iI 0)))])) H := hP
  have hD : va_D A (((((([(h0, .inr (10, [.ref q1, .ref q2, .ref q3, .ref q4, .int (iI 0), .int (iI 0), .int (iI 0), .int (iI 0), .int (iI 0), .int (iI 0), .int (iI 0), .ref q5, .int (iI 0), .int (iI (-1)), .null, .int (iI 0), .int (iI 0), .null, .int (iI 0)]))] ++ [(q1, .inl (k 0, 125, .inl (fun _ => iI 0)))]) ++ [(q2, .inl (k 0, 1000, .inl (fun _ => iI 0)))]) ++ [(q3, .inl (k 0, 125, .inl (fun _ => iI 0)))]) ++ [(q4, .inl (k 0, 125, .inl (fun _ => iI 0)))]) ++ [(q5, .inl (k 0, 60, .inl (fun _ => iI 0)))])) := hD
  refine lv_aload_n hx hb dX8_init_50 rfl (lv_at hl 0 rfl) ?_
  refine lv_bipush (v := iI 60) hx hb dX8_init_51 rfl ?_
  refine va_newa (atype := .char) (ty := .char) (N' := 60) (a0 := (60, .inl (fun _ => iI 0))) hx hb (hts (.arrayClass .char) (List.mem_of_getElem? (i := 11) rfl)) rfl hK hP hD hS hA (fun _ => rfl) (by decide +kernel) (by decide +kernel) (by decide) (Nat.le_of_ble_eq_true rfl) (Nat.le_of_ble_eq_true rfl) dX8_init_53 (fun q6 cA H hK2 hP hD hS => ?_)
  have eA := zK_eq hK2 1 rfl
  subst eA
  clear hK2
  have hP : va_P D vwCl ((((((([(h0, .inr (10, [.ref q1, .ref q2, .ref q3, .ref q4, .int (iI 0), .int (iI 0), .int (iI 0), .int (iI 0), .int (iI 0), .int (iI 0), .int (iI 0), .ref q5, .int (iI 0), .int (iI (-1)), .null, .int (iI 0), .int (iI 0), .null, .int (iI 0)]))] ++ [(q1, .inl (k 0, 125, .inl (fun _ => iI 0)))]) ++ [(q2, .inl (k 0, 1000, .inl (fun _ => iI 0)))]) ++ [(q3, .inl (k 0, 125, .inl (fun _ => iI 0)))]) ++ [(q4, .inl (k 0, 125, .inl (fun _ => iI 0)))]) ++ [(q5, .inl (k 0, 60, .inl (fun _ => iI 0)))]) ++ [(q6, .inl (k 1, 60, .inl (fun _ => iI 0)))])) H := hP
  have hD : va_D A ((((((([(h0, .inr (10, [.ref q1, .ref q2, .ref q3, .ref q4, .int (iI 0), .int (iI 0), .int (iI 0), .int (iI 0), .int (iI 0), .int (iI 0), .int (iI 0), .ref q5, .int (iI 0), .int (iI (-1)), .null, .int (iI 0), .int (iI 0), .null, .int (iI 0)]))] ++ [(q1, .inl (k 0, 125, .inl (fun _ => iI 0)))]) ++ [(q2, .inl (k 0, 1000, .inl (fun _ => iI 0)))]) ++ [(q3, .inl (k 0, 125, .inl (fun _ => iI 0)))]) ++ [(q4, .inl (k 0, 125, .inl (fun _ => iI 0)))]) ++ [(q5, .inl (k 0, 60, .inl (fun _ => iI 0)))]) ++ [(q6, .inl (k 1, 60, .inl (fun _ => iI 0)))])) := hD
  refine va_putF (D := D) (ci := 10) (v := .ref q6) (ty := .array .char) (C := RX8) (T := TX8) (N := 19) hx hb hts (fun w h => List.mem_cons_of_mem _ (List.mem_append_left _ (List.mem_append_right _ h))) tyX8 tyX8_ok nmX8 hown hK hP hD hS 0 rfl rfl 14 (by decide) (hts (.fieldLink RX8 29 "MondayFactoryModel" "signs" "[C") (List.mem_of_getElem? (i := 12) rfl)) (fun _ h9 => h9) rfl hin rfl (by decide +kernel) rfl rfl (Nat.le_of_ble_eq_true rfl) dX8_init_55 (fun H locs hP hD hS => ?_)
  have hP : va_P D vwCl ((((((([(h0, .inr (10, [.ref q1, .ref q2, .ref q3, .ref q4, .int (iI 0), .int (iI 0), .int (iI 0), .int (iI 0), .int (iI 0), .int (iI 0), .int (iI 0), .ref q5, .int (iI 0), .int (iI (-1)), .ref q6, .int (iI 0), .int (iI 0), .null, .int (iI 0)]))] ++ [(q1, .inl (k 0, 125, .inl (fun _ => iI 0)))]) ++ [(q2, .inl (k 0, 1000, .inl (fun _ => iI 0)))]) ++ [(q3, .inl (k 0, 125, .inl (fun _ => iI 0)))]) ++ [(q4, .inl (k 0, 125, .inl (fun _ => iI 0)))]) ++ [(q5, .inl (k 0, 60, .inl (fun _ => iI 0)))]) ++ [(q6, .inl (k 1, 60, .inl (fun _ => iI 0)))])) H := hP
  have hD : va_D A ((((((([(h0, .inr (10, [.ref q1, .ref q2, .ref q3, .ref q4, .int (iI 0), .int (iI 0), .int (iI 0), .int (iI 0), .int (iI 0), .int (iI 0), .int (iI 0), .ref q5, .int (iI 0), .int (iI (-1)), .ref q6, .int (iI 0), .int (iI 0), .null, .int (iI 0)]))] ++ [(q1, .inl (k 0, 125, .inl (fun _ => iI 0)))]) ++ [(q2, .inl (k 0, 1000, .inl (fun _ => iI 0)))]) ++ [(q3, .inl (k 0, 125, .inl (fun _ => iI 0)))]) ++ [(q4, .inl (k 0, 125, .inl (fun _ => iI 0)))]) ++ [(q5, .inl (k 0, 60, .inl (fun _ => iI 0)))]) ++ [(q6, .inl (k 1, 60, .inl (fun _ => iI 0)))])) := hD
  refine lv_aload_n hx hb dX8_init_58 rfl (lv_at hl 0 rfl) ?_
  refine lv_bipush (v := iI 124) hx hb dX8_init_59 rfl ?_
  refine va_newa (atype := .int) (ty := .int) (N' := 124) (a0 := (124, .inl (fun _ => iI 0))) hx hb (hts (.arrayClass .int) (List.mem_of_getElem? (i := 4) rfl)) rfl hK hP hD hS hA (fun _ => rfl) (by decide +kernel) (by decide +kernel) (by decide) (Nat.le_of_ble_eq_true rfl) (Nat.le_of_ble_eq_true rfl) dX8_init_61 (fun q7 cA H hK2 hP hD hS => ?_)
  have eA := zK_eq hK2 0 rfl
  subst eA
  clear hK2
  have hP : va_P D vwCl (((((((([(h0, .inr (10, [.ref q1, .ref q2, .ref q3, .ref q4, .int (iI 0), .int (iI 0), .int (iI 0), .int (iI 0), .int (iI 0), .int (iI 0), .int (iI 0), .ref q5, .int (iI 0), .int (iI (-1)), .ref q6, .int (iI 0), .int (iI 0), .null, .int (iI 0)]))] ++ [(q1, .inl (k 0, 125, .inl (fun _ => iI 0)))]) ++ [(q2, .inl (k 0, 1000, .inl (fun _ => iI 0)))]) ++ [(q3, .inl (k 0, 125, .inl (fun _ => iI 0)))]) ++ [(q4, .inl (k 0, 125, .inl (fun _ => iI 0)))]) ++ [(q5, .inl (k 0, 60, .inl (fun _ => iI 0)))]) ++ [(q6, .inl (k 1, 60, .inl (fun _ => iI 0)))]) ++ [(q7, .inl (k 0, 124, .inl (fun _ => iI 0)))])) H := hP
  have hD : va_D A (((((((([(h0, .inr (10, [.ref q1, .ref q2, .ref q3, .ref q4, .int (iI 0), .int (iI 0), .int (iI 0), .int (iI 0), .int (iI 0), .int (iI 0), .int (iI 0), .ref q5, .int (iI 0), .int (iI (-1)), .ref q6, .int (iI 0), .int (iI 0), .null, .int (iI 0)]))] ++ [(q1, .inl (k 0, 125, .inl (fun _ => iI 0)))]) ++ [(q2, .inl (k 0, 1000, .inl (fun _ => iI 0)))]) ++ [(q3, .inl (k 0, 125, .inl (fun _ => iI 0)))]) ++ [(q4, .inl (k 0, 125, .inl (fun _ => iI 0)))]) ++ [(q5, .inl (k 0, 60, .inl (fun _ => iI 0)))]) ++ [(q6, .inl (k 1, 60, .inl (fun _ => iI 0)))]) ++ [(q7, .inl (k 0, 124, .inl (fun _ => iI 0)))])) := hD
  refine va_putF (D := D) (ci := 10) (v := .ref q7) (ty := .array .int) (C := RX8) (T := TX8) (N := 19) hx hb hts (fun w h => List.mem_cons_of_mem _ (List.mem_append_left _ (List.mem_append_right _ h))) tyX8 tyX8_ok nmX8 hown hK hP hD hS 0 rfl rfl 17 (by decide) (hts (.fieldLink RX8 33 "MondayFactoryModel" "told" "[I") (List.mem_of_getElem? (i := 13) rfl)) (fun _ h9 => h9) rfl hin rfl (by decide +kernel) rfl rfl (Nat.le_of_ble_eq_true rfl) dX8_init_63 (fun H locs hP hD hS => ?_)
  have hP : va_P D vwCl (((((((([(h0, .inr (10, [.ref q1, .ref q2, .ref q3, .ref q4, .int (iI 0), .int (iI 0), .int (iI 0), .int (iI 0), .int (iI 0), .int (iI 0), .int (iI 0), .ref q5, .int (iI 0), .int (iI (-1)), .ref q6, .int (iI 0), .int (iI 0), .ref q7, .int (iI 0)]))] ++ [(q1, .inl (k 0, 125, .inl (fun _ => iI 0)))]) ++ [(q2, .inl (k 0, 1000, .inl (fun _ => iI 0)))]) ++ [(q3, .inl (k 0, 125, .inl (fun _ => iI 0)))]) ++ [(q4, .inl (k 0, 125, .inl (fun _ => iI 0)))]) ++ [(q5, .inl (k 0, 60, .inl (fun _ => iI 0)))]) ++ [(q6, .inl (k 1, 60, .inl (fun _ => iI 0)))]) ++ [(q7, .inl (k 0, 124, .inl (fun _ => iI 0)))])) H := hP
  have hD : va_D A (((((((([(h0, .inr (10, [.ref q1, .ref q2, .ref q3, .ref q4, .int (iI 0), .int (iI 0), .int (iI 0), .int (iI 0), .int (iI 0), .int (iI 0), .int (iI 0), .ref q5, .int (iI 0), .int (iI (-1)), .ref q6, .int (iI 0), .int (iI 0), .ref q7, .int (iI 0)]))] ++ [(q1, .inl (k 0, 125, .inl (fun _ => iI 0)))]) ++ [(q2, .inl (k 0, 1000, .inl (fun _ => iI 0)))]) ++ [(q3, .inl (k 0, 125, .inl (fun _ => iI 0)))]) ++ [(q4, .inl (k 0, 125, .inl (fun _ => iI 0)))]) ++ [(q5, .inl (k 0, 60, .inl (fun _ => iI 0)))]) ++ [(q6, .inl (k 1, 60, .inl (fun _ => iI 0)))]) ++ [(q7, .inl (k 0, 124, .inl (fun _ => iI 0)))])) := hD
  refine lv_aload_n hx hb dX8_init_66 rfl (lv_at hl 0 rfl) ?_
  refine va_get (D := D) (ci := 10) (v := .ref q1) (C := RX8) (T := TX8) (N := 19) hx hb hts (fun w h => List.mem_cons_of_mem _ (List.mem_append_left _ (List.mem_append_right _ h))) hown hK hP 0 rfl rfl 0 (by decide) (hts (.fieldLink RX8 7 "MondayFactoryModel" "g" "[I") (List.mem_of_getElem? (i := 5) rfl)) (fun _ h9 => h9) rfl dX8_init_67 ?_
  refine lv_iconst (v := iI 0) hx hb dX8_init_70 rfl ?_
  refine lv_iconst (v := iI 5) hx hb dX8_init_71 rfl ?_
  refine z_iast (f := zZ) hx hb hK hP hD hS 1 0 rfl rfl (by decide) (by decide) (by decide) 0 (by decide) dX8_init_72 (fun H locs hP hD hS => ?_)
  have hP : va_P D vwCl (((((((([(h0, .inr (10, [.ref q1, .ref q2, .ref q3, .ref q4, .int (iI 0), .int (iI 0), .int (iI 0), .int (iI 0), .int (iI 0), .int (iI 0), .int (iI 0), .ref q5, .int (iI 0), .int (iI (-1)), .ref q6, .int (iI 0), .int (iI 0), .ref q7, .int (iI 0)]))] ++ [(q1, .inl (k 0, 125, .inl (fun j => iI (upZ zZ 0 5 j))))]) ++ [(q2, .inl (k 0, 1000, .inl (fun _ => iI 0)))]) ++ [(q3, .inl (k 0, 125, .inl (fun _ => iI 0)))]) ++ [(q4, .inl (k 0, 125, .inl (fun _ => iI 0)))]) ++ [(q5, .inl (k 0, 60, .inl (fun _ => iI 0)))]) ++ [(q6, .inl (k 1, 60, .inl (fun _ => iI 0)))]) ++ [(q7, .inl (k 0, 124, .inl (fun _ => iI 0)))])) H := hP
  have hD : va_D A (((((((([(h0, .inr (10, [.ref q1, .ref q2, .ref q3, .ref q4, .int (iI 0), .int (iI 0), .int (iI 0), .int (iI 0), .int (iI 0), .int (iI 0), .int (iI 0), .ref q5, .int (iI 0), .int (iI (-1)), .ref q6, .int (iI 0), .int (iI 0), .ref q7, .int (iI 0)]))] ++ [(q1, .inl (k 0, 125, .inl (fun j => iI (upZ zZ 0 5 j))))]) ++ [(q2, .inl (k 0, 1000, .inl (fun _ => iI 0)))]) ++ [(q3, .inl (k 0, 125, .inl (fun _ => iI 0)))]) ++ [(q4, .inl (k 0, 125, .inl (fun _ => iI 0)))]) ++ [(q5, .inl (k 0, 60, .inl (fun _ => iI 0)))]) ++ [(q6, .inl (k 1, 60, .inl (fun _ => iI 0)))]) ++ [(q7, .inl (k 0, 124, .inl (fun _ => iI 0)))])) := hD
  obtain ⟨a, ha⟩ : ∃ a : Nat → Nat, a = fun i => [h0, q1, q2, q3, q4, q5, q6, q7].getD i 0 := ⟨_, rfl⟩
  have hP2 : va_P D vwCl (wRef k a iRf0) H := by subst ha; exact hP
  have hD2 : va_D A (wRef k a iRf0) := by subst ha; exact hD
  have ha0 : a 0 = h0 := by subst ha; rfl
  clear ha hP hD
  subst ha0
  have hP := hP2
  have hD := hD2
  have hl : lv_has ls 2 [(0, .ref (a 0))] := hl
  refine lv_iconst (v := iI 0) hx hb dX8_init_73 rfl ?_
  refine lv_istore_n (lv' := [(1, .int (iI 0)), (0, .ref (a 0))]) hx hb dX8_init_74 rfl hl (by decide) rfl (fun ls hl => ?_)
  refine lv_iload_n hx hb dX8_init_75 rfl (lv_at hl 0 rfl) ?_
  refine lv_iconst (v := iI 3) hx hb dX8_init_76 rfl ?_
  refine zi_icmp_ge (tgt := 108) hx hb dX8_init_77 (by decide) ⟨by omega, by omega⟩ ⟨by omega, by omega⟩ (fun h9 => absurd h9 (by decide)) (fun _ => ?_)
  refine lv_aload_n hx hb dX8_init_80 rfl (lv_at hl 1 rfl) ?_
  refine lv_iload_n hx hb dX8_init_81 rfl (lv_at hl 0 rfl) ?_
  refine lv_iconst (v := iI 1) hx hb dX8_init_82 rfl ?_
  refine lv_iconst (v := iI 5) hx hb dX8_init_83 rfl ?_
  refine z_av (va_runV (As := [.int (iI 0), .int (iI 1), .int (iI 5)]) (rest := []) ⟨hx, hb, hml, hown, hts⟩ (c_X8_lays l D k a iRf0 0 1 5 (by omega) (by omega) _) (cwV 3 hts gX8_init_X8_lays rfl rfl rfl (by decide +kernel) ⟨(Nat.le_of_ble_eq_true rfl), (Nat.le_of_ble_eq_true rfl)⟩) (z_preV hK hG hA hP hD hS [0, 1, 2, 3, 4, 5, 6, 7] rfl (by decide) 10 rfl rfl) rfl rfl hl.1 rfl (lv_room (Nat.le_of_ble_eq_true rfl)) dX8_init_84 ⟨(Nat.le_of_ble_eq_true rfl), (Nat.le_of_ble_eq_true rfl)⟩) hA hP hD hS [0, 1, 2, 3, 4, 5, 6, 7] rfl rfl (fun H locs hP hD hS => ?_)
  have hP : va_P D vwCl (wRef k a (up2 iRf0 1 16 5)) H := hP
  have hD : va_D A (wRef k a (up2 iRf0 1 16 5)) := hD
  refine lv_aload_n hx hb dX8_init_87 rfl (lv_at hl 1 rfl) ?_
  refine lv_iload_n hx hb dX8_init_88 rfl (lv_at hl 0 rfl) ?_
  refine lv_iconst (v := iI 2) hx hb dX8_init_89 rfl ?_
  refine lv_bipush (v := iI 7) hx hb dX8_init_90 rfl ?_
  refine z_av (va_runV (As := [.int (iI 0), .int (iI 2), .int (iI 7)]) (rest := []) ⟨hx, hb, hml, hown, hts⟩ (c_X8_lays l D k a (up2 iRf0 1 16 5) 0 2 7 (by omega) (by omega) _) (cwV 3 hts gX8_init_X8_lays rfl rfl rfl (by decide +kernel) ⟨(Nat.le_of_ble_eq_true rfl), (Nat.le_of_ble_eq_true rfl)⟩) (z_preV hK hG hA hP hD hS [0, 1, 2, 3, 4, 5, 6, 7] rfl (by decide) 10 rfl rfl) rfl rfl hl.1 rfl (lv_room (Nat.le_of_ble_eq_true rfl)) dX8_init_92 ⟨(Nat.le_of_ble_eq_true rfl), (Nat.le_of_ble_eq_true rfl)⟩) hA hP hD hS [0, 1, 2, 3, 4, 5, 6, 7] rfl rfl (fun H locs hP hD hS => ?_)
  have hP : va_P D vwCl (wRef k a (up2 (up2 iRf0 1 16 5) 1 17 7)) H := hP
  have hD : va_D A (wRef k a (up2 (up2 iRf0 1 16 5) 1 17 7)) := hD
  refine lv_aload_n hx hb dX8_init_95 rfl (lv_at hl 1 rfl) ?_
  refine lv_iload_n hx hb dX8_init_96 rfl (lv_at hl 0 rfl) ?_
  refine lv_iconst (v := iI 3) hx hb dX8_init_97 rfl ?_
  refine lv_iconst (v := iI (-1)) hx hb dX8_init_98 rfl ?_
  refine z_av (va_runV (As := [.int (iI 0), .int (iI 3), .int (iI (-1))]) (rest := []) ⟨hx, hb, hml, hown, hts⟩ (c_X8_lays l D k a (up2 (up2 iRf0 1 16 5) 1 17 7) 0 3 (-1) (by omega) (by omega) _) (cwV 3 hts gX8_init_X8_lays rfl rfl rfl (by decide +kernel) ⟨(Nat.le_of_ble_eq_true rfl), (Nat.le_of_ble_eq_true rfl)⟩) (z_preV hK hG hA hP hD hS [0, 1, 2, 3, 4, 5, 6, 7] rfl (by decide) 10 rfl rfl) rfl rfl hl.1 rfl (lv_room (Nat.le_of_ble_eq_true rfl)) dX8_init_99 ⟨(Nat.le_of_ble_eq_true rfl), (Nat.le_of_ble_eq_true rfl)⟩) hA hP hD hS [0, 1, 2, 3, 4, 5, 6, 7] rfl rfl (fun H locs hP hD hS => ?_)
  have hP : va_P D vwCl (wRef k a (up2 (up2 (up2 iRf0 1 16 5) 1 17 7) 1 18 (-1))) H := hP
  have hD : va_D A (wRef k a (up2 (up2 (up2 iRf0 1 16 5) 1 17 7) 1 18 (-1))) := hD
  refine lv_iinc (v := iI 1) (lv' := [(1, .int (iI 1)), (0, .ref (a 0))]) hx hb dX8_init_102 hl (k := 0) rfl (by decide +kernel) (by decide) rfl (fun ls hl => ?_)
  refine lv_goto (tgt := 75) hx hb dX8_init_105 (by decide) ?_
  refine lv_iload_n hx hb dX8_init_75 rfl (lv_at hl 0 rfl) ?_
  refine lv_iconst (v := iI 3) hx hb dX8_init_76 rfl ?_
  refine zi_icmp_ge (tgt := 108) hx hb dX8_init_77 (by decide) ⟨by omega, by omega⟩ ⟨by omega, by omega⟩ (fun h9 => absurd h9 (by decide)) (fun _ => ?_)
  refine lv_aload_n hx hb dX8_init_80 rfl (lv_at hl 1 rfl) ?_
  refine lv_iload_n hx hb dX8_init_81 rfl (lv_at hl 0 rfl) ?_
  refine lv_iconst (v := iI 1) hx hb dX8_init_82 rfl ?_
  refine lv_iconst (v := iI 5) hx hb dX8_init_83 rfl ?_
  refine z_av (va_runV (As := [.int (iI 1), .int (iI 1), .int (iI 5)]) (rest := []) ⟨hx, hb, hml, hown, hts⟩ (c_X8_lays l D k a (up2 (up2 (up2 iRf0 1 16 5) 1 17 7) 1 18 (-1)) 1 1 5 (by omega) (by omega) _) (cwV 3 hts gX8_init_X8_lays rfl rfl rfl (by decide +kernel) ⟨(Nat.le_of_ble_eq_true rfl), (Nat.le_of_ble_eq_true rfl)⟩) (z_preV hK hG hA hP hD hS [0, 1, 2, 3, 4, 5, 6, 7] rfl (by decide) 10 rfl rfl) rfl rfl hl.1 rfl (lv_room (Nat.le_of_ble_eq_true rfl)) dX8_init_84 ⟨(Nat.le_of_ble_eq_true rfl), (Nat.le_of_ble_eq_true rfl)⟩) hA hP hD hS [0, 1, 2, 3, 4, 5, 6, 7] rfl rfl (fun H locs hP hD hS => ?_)
  have hP : va_P D vwCl (wRef k a (up2 (up2 (up2 (up2 iRf0 1 16 5) 1 17 7) 1 18 (-1)) 1 42 5)) H := hP
  have hD : va_D A (wRef k a (up2 (up2 (up2 (up2 iRf0 1 16 5) 1 17 7) 1 18 (-1)) 1 42 5)) := hD
  refine lv_aload_n hx hb dX8_init_87 rfl (lv_at hl 1 rfl) ?_
  refine lv_iload_n hx hb dX8_init_88 rfl (lv_at hl 0 rfl) ?_
  refine lv_iconst (v := iI 2) hx hb dX8_init_89 rfl ?_
  refine lv_bipush (v := iI 7) hx hb dX8_init_90 rfl ?_
  refine z_av (va_runV (As := [.int (iI 1), .int (iI 2), .int (iI 7)]) (rest := []) ⟨hx, hb, hml, hown, hts⟩ (c_X8_lays l D k a (up2 (up2 (up2 (up2 iRf0 1 16 5) 1 17 7) 1 18 (-1)) 1 42 5) 1 2 7 (by omega) (by omega) _) (cwV 3 hts gX8_init_X8_lays rfl rfl rfl (by decide +kernel) ⟨(Nat.le_of_ble_eq_true rfl), (Nat.le_of_ble_eq_true rfl)⟩) (z_preV hK hG hA hP hD hS [0, 1, 2, 3, 4, 5, 6, 7] rfl (by decide) 10 rfl rfl) rfl rfl hl.1 rfl (lv_room (Nat.le_of_ble_eq_true rfl)) dX8_init_92 ⟨(Nat.le_of_ble_eq_true rfl), (Nat.le_of_ble_eq_true rfl)⟩) hA hP hD hS [0, 1, 2, 3, 4, 5, 6, 7] rfl rfl (fun H locs hP hD hS => ?_)
  have hP : va_P D vwCl (wRef k a (up2 (up2 (up2 (up2 (up2 iRf0 1 16 5) 1 17 7) 1 18 (-1)) 1 42 5) 1 43 7)) H := hP
  have hD : va_D A (wRef k a (up2 (up2 (up2 (up2 (up2 iRf0 1 16 5) 1 17 7) 1 18 (-1)) 1 42 5) 1 43 7)) := hD
  refine lv_aload_n hx hb dX8_init_95 rfl (lv_at hl 1 rfl) ?_
  refine lv_iload_n hx hb dX8_init_96 rfl (lv_at hl 0 rfl) ?_
  refine lv_iconst (v := iI 3) hx hb dX8_init_97 rfl ?_
  refine lv_iconst (v := iI (-1)) hx hb dX8_init_98 rfl ?_
  refine z_av (va_runV (As := [.int (iI 1), .int (iI 3), .int (iI (-1))]) (rest := []) ⟨hx, hb, hml, hown, hts⟩ (c_X8_lays l D k a (up2 (up2 (up2 (up2 (up2 iRf0 1 16 5) 1 17 7) 1 18 (-1)) 1 42 5) 1 43 7) 1 3 (-1) (by omega) (by omega) _) (cwV 3 hts gX8_init_X8_lays rfl rfl rfl (by decide +kernel) ⟨(Nat.le_of_ble_eq_true rfl), (Nat.le_of_ble_eq_true rfl)⟩) (z_preV hK hG hA hP hD hS [0, 1, 2, 3, 4, 5, 6, 7] rfl (by decide) 10 rfl rfl) rfl rfl hl.1 rfl (lv_room (Nat.le_of_ble_eq_true rfl)) dX8_init_99 ⟨(Nat.le_of_ble_eq_true rfl), (Nat.le_of_ble_eq_true rfl)⟩) hA hP hD hS [0, 1, 2, 3, 4, 5, 6, 7] rfl rfl (fun H locs hP hD hS => ?_)
  have hP : va_P D vwCl (wRef k a (up2 (up2 (up2 (up2 (up2 (up2 iRf0 1 16 5) 1 17 7) 1 18 (-1)) 1 42 5) 1 43 7) 1 44 (-1))) H := hP
  have hD : va_D A (wRef k a (up2 (up2 (up2 (up2 (up2 (up2 iRf0 1 16 5) 1 17 7) 1 18 (-1)) 1 42 5) 1 43 7) 1 44 (-1))) := hD
  refine lv_iinc (v := iI 2) (lv' := [(1, .int (iI 2)), (0, .ref (a 0))]) hx hb dX8_init_102 hl (k := 0) rfl (by decide +kernel) (by decide) rfl (fun ls hl => ?_)
  refine lv_goto (tgt := 75) hx hb dX8_init_105 (by decide) ?_
  refine lv_iload_n hx hb dX8_init_75 rfl (lv_at hl 0 rfl) ?_
  refine lv_iconst (v := iI 3) hx hb dX8_init_76 rfl ?_
  refine zi_icmp_ge (tgt := 108) hx hb dX8_init_77 (by decide) ⟨by omega, by omega⟩ ⟨by omega, by omega⟩ (fun h9 => absurd h9 (by decide)) (fun _ => ?_)
  refine lv_aload_n hx hb dX8_init_80 rfl (lv_at hl 1 rfl) ?_
  refine lv_iload_n hx hb dX8_init_81 rfl (lv_at hl 0 rfl) ?_
  refine lv_iconst (v := iI 1) hx hb dX8_init_82 rfl ?_
  refine lv_iconst (v := iI 5) hx hb dX8_init_83 rfl ?_
  refine z_av (va_runV (As := [.int (iI 2), .int (iI 1), .int (iI 5)]) (rest := []) ⟨hx, hb, hml, hown, hts⟩ (c_X8_lays l D k a (up2 (up2 (up2 (up2 (up2 (up2 iRf0 1 16 5) 1 17 7) 1 18 (-1)) 1 42 5) 1 43 7) 1 44 (-1)) 2 1 5 (by omega) (by omega) _) (cwV 3 hts gX8_init_X8_lays rfl rfl rfl (by decide +kernel) ⟨(Nat.le_of_ble_eq_true rfl), (Nat.le_of_ble_eq_true rfl)⟩) (z_preV hK hG hA hP hD hS [0, 1, 2, 3, 4, 5, 6, 7] rfl (by decide) 10 rfl rfl) rfl rfl hl.1 rfl (lv_room (Nat.le_of_ble_eq_true rfl)) dX8_init_84 ⟨(Nat.le_of_ble_eq_true rfl), (Nat.le_of_ble_eq_true rfl)⟩) hA hP hD hS [0, 1, 2, 3, 4, 5, 6, 7] rfl rfl (fun H locs hP hD hS => ?_)
  have hP : va_P D vwCl (wRef k a (up2 (up2 (up2 (up2 (up2 (up2 (up2 iRf0 1 16 5) 1 17 7) 1 18 (-1)) 1 42 5) 1 43 7) 1 44 (-1)) 1 68 5)) H := hP
  have hD : va_D A (wRef k a (up2 (up2 (up2 (up2 (up2 (up2 (up2 iRf0 1 16 5) 1 17 7) 1 18 (-1)) 1 42 5) 1 43 7) 1 44 (-1)) 1 68 5)) := hD
  refine lv_aload_n hx hb dX8_init_87 rfl (lv_at hl 1 rfl) ?_
  refine lv_iload_n hx hb dX8_init_88 rfl (lv_at hl 0 rfl) ?_
  refine lv_iconst (v := iI 2) hx hb dX8_init_89 rfl ?_
  refine lv_bipush (v := iI 7) hx hb dX8_init_90 rfl ?_
  refine z_av (va_runV (As := [.int (iI 2), .int (iI 2), .int (iI 7)]) (rest := []) ⟨hx, hb, hml, hown, hts⟩ (c_X8_lays l D k a (up2 (up2 (up2 (up2 (up2 (up2 (up2 iRf0 1 16 5) 1 17 7) 1 18 (-1)) 1 42 5) 1 43 7) 1 44 (-1)) 1 68 5) 2 2 7 (by omega) (by omega) _) (cwV 3 hts gX8_init_X8_lays rfl rfl rfl (by decide +kernel) ⟨(Nat.le_of_ble_eq_true rfl), (Nat.le_of_ble_eq_true rfl)⟩) (z_preV hK hG hA hP hD hS [0, 1, 2, 3, 4, 5, 6, 7] rfl (by decide) 10 rfl rfl) rfl rfl hl.1 rfl (lv_room (Nat.le_of_ble_eq_true rfl)) dX8_init_92 ⟨(Nat.le_of_ble_eq_true rfl), (Nat.le_of_ble_eq_true rfl)⟩) hA hP hD hS [0, 1, 2, 3, 4, 5, 6, 7] rfl rfl (fun H locs hP hD hS => ?_)
  have hP : va_P D vwCl (wRef k a (up2 (up2 (up2 (up2 (up2 (up2 (up2 (up2 iRf0 1 16 5) 1 17 7) 1 18 (-1)) 1 42 5) 1 43 7) 1 44 (-1)) 1 68 5) 1 69 7)) H := hP
  have hD : va_D A (wRef k a (up2 (up2 (up2 (up2 (up2 (up2 (up2 (up2 iRf0 1 16 5) 1 17 7) 1 18 (-1)) 1 42 5) 1 43 7) 1 44 (-1)) 1 68 5) 1 69 7)) := hD
  refine lv_aload_n hx hb dX8_init_95 rfl (lv_at hl 1 rfl) ?_
  refine lv_iload_n hx hb dX8_init_96 rfl (lv_at hl 0 rfl) ?_
  refine lv_iconst (v := iI 3) hx hb dX8_init_97 rfl ?_
  refine lv_iconst (v := iI (-1)) hx hb dX8_init_98 rfl ?_
  refine z_av (va_runV (As := [.int (iI 2), .int (iI 3), .int (iI (-1))]) (rest := []) ⟨hx, hb, hml, hown, hts⟩ (c_X8_lays l D k a (up2 (up2 (up2 (up2 (up2 (up2 (up2 (up2 iRf0 1 16 5) 1 17 7) 1 18 (-1)) 1 42 5) 1 43 7) 1 44 (-1)) 1 68 5) 1 69 7) 2 3 (-1) (by omega) (by omega) _) (cwV 3 hts gX8_init_X8_lays rfl rfl rfl (by decide +kernel) ⟨(Nat.le_of_ble_eq_true rfl), (Nat.le_of_ble_eq_true rfl)⟩) (z_preV hK hG hA hP hD hS [0, 1, 2, 3, 4, 5, 6, 7] rfl (by decide) 10 rfl rfl) rfl rfl hl.1 rfl (lv_room (Nat.le_of_ble_eq_true rfl)) dX8_init_99 ⟨(Nat.le_of_ble_eq_true rfl), (Nat.le_of_ble_eq_true rfl)⟩) hA hP hD hS [0, 1, 2, 3, 4, 5, 6, 7] rfl rfl (fun H locs hP hD hS => ?_)
  have hP : va_P D vwCl (wRef k a (up2 (up2 (up2 (up2 (up2 (up2 (up2 (up2 (up2 iRf0 1 16 5) 1 17 7) 1 18 (-1)) 1 42 5) 1 43 7) 1 44 (-1)) 1 68 5) 1 69 7) 1 70 (-1))) H := hP
  have hD : va_D A (wRef k a (up2 (up2 (up2 (up2 (up2 (up2 (up2 (up2 (up2 iRf0 1 16 5) 1 17 7) 1 18 (-1)) 1 42 5) 1 43 7) 1 44 (-1)) 1 68 5) 1 69 7) 1 70 (-1))) := hD
  refine lv_iinc (v := iI 3) (lv' := [(1, .int (iI 3)), (0, .ref (a 0))]) hx hb dX8_init_102 hl (k := 0) rfl (by decide +kernel) (by decide) rfl (fun ls hl => ?_)
  refine lv_goto (tgt := 75) hx hb dX8_init_105 (by decide) ?_
  refine lv_iload_n hx hb dX8_init_75 rfl (lv_at hl 0 rfl) ?_
  refine lv_iconst (v := iI 3) hx hb dX8_init_76 rfl ?_
  refine zi_icmp_ge (tgt := 108) hx hb dX8_init_77 (by decide) ⟨by omega, by omega⟩ ⟨by omega, by omega⟩ (fun _ => ?_) (fun h9 => absurd (show (3 : Int) ≥ 3 by decide) (by omega))
  exact z_cret hx hb hr hlocks hS dX8_init_108 a rfl hP hD (Nat.le_of_ble_eq_true rfl) (Nat.le_of_ble_eq_true rfl)
