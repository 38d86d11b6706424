/-- the least grey of a row -/
noncomputable def wLeastF (N : Nat → Int) (c : Int) : Int → Int → Int := fun k a => zif (wNum N c k 0 = -1) a (min a (wNum N c k 0))
noncomputable def wLeast (N : Nat → Int) (c : Int) : Int := foldI (wLeastF N c) 9 c
set_option maxHeartbeats 4000000 in
set_option maxRecDepth 100000 in
theorem c_X7_demandWhat_ok (l : Launch) (D : va_G) (k : Nat → ClassId)  (p0 : Int) (p1 : Int) (h0 : -2147483648 ≤ p0 ∧ p0 < 2147483648) (h1 : -2147483648 ≤ p1 ∧ p1 < 2147483648) (hc : 0 ≤ p0 ∧ p0 ≤ p1) : zMv l yX7_demandWhat wsX7_demandWhat ({ frames := 0, cells := 0, slots := 0, locals := 0 } : Room) D k [.int (iI p0), .int (iI p1)] (([] : va_W)) (([] : va_W)) 0 0 := by
  refine zMv_of (cc := cX7_demandWhat) (maxL := 2) (ret := none) (by decide) rfl (Nat.le_of_ble_eq_true rfl) ?_
  intro p e s m args below meth c A ls hx hb hr hml hown hts hlocks hK hP hD hG hA hS hl
  have hown : s.vm.findClass RX7 = some m.cls := hown
  have hl : lv_has ls 2 [(0, .int (iI p0)), (1, .int (iI p1))] := hl
  obtain ⟨H, hH⟩ : ∃ z, z = s.heap := ⟨_, rfl⟩
  obtain ⟨locs, hlc⟩ : ∃ z : List Loc, z = [] := ⟨_, rfl⟩
  rw [← hH] at hP
  have hS : va_S A s.heap H locs := by rw [hH, hlc]; exact hS
  rw [← hlc, ← hH]
  clear hlc hH
  refine lv_iload_n hx hb dX7_demandWhat_0 rfl (lv_at hl 0 rfl) ?_
  refine zi_if_lt (tgt := 9) hx hb dX7_demandWhat_1 (by decide) ⟨by omega, by omega⟩ (fun c_1 => ?_) (fun c_1 => ?_)
  · exfalso; omega
  · refine lv_iload_n hx hb dX7_demandWhat_4 rfl (lv_at hl 0 rfl) ?_
    refine lv_iload_n hx hb dX7_demandWhat_5 rfl (lv_at hl 1 rfl) ?_
    refine zi_icmp_le (tgt := 20) hx hb dX7_demandWhat_6 (by decide) ⟨by omega, by omega⟩ ⟨by omega, by omega⟩ (fun c_2 => ?_) (fun c_2 => ?_)
    · exact z_vret hx hb hr hlocks hP hS dX7_demandWhat_20 rfl (Nat.le_refl _) (Nat.le_refl _)
    · exfalso; omega
set_option maxHeartbeats 4000000 in
set_option maxRecDepth 100000 in
theorem c_X7_demandWhat_x (l : Launch) (hst : l.stackTraces = false) (D : va_G) (k : Nat → ClassId)  (p0 : Int) (p1 : Int) (h0 : -2147483648 ≤ p0 ∧ p0 < 2147483648) (h1 : -2147483648 ≤ p1 ∧ p1 < 2147483648) (hc : ¬ (0 ≤ p0 ∧ p0 ≤ p1)) : zMx l yX7_demandWhat wsX7_demandWhat ({ frames := 6, cells := 1, slots := 6, locals := 82 } : Room) D k [.int (iI p0), .int (iI p1)] (([] : va_W)) "java/lang/IllegalArgumentException" (([] : va_W)) 1 6 := by
  refine zMx_of (cc := cX7_demandWhat) (maxL := 2) (ret := none) (by decide) rfl (Nat.le_of_ble_eq_true rfl) ?_
  intro p e s m args below meth c A ls hx hb hr hml hown hts hlocks hK hP hD hG hE ht hA hS hl
  have hown : s.vm.findClass RX7 = some m.cls := hown
  have hl : lv_has ls 2 [(0, .int (iI p0)), (1, .int (iI p1))] := hl
  obtain ⟨H, hH⟩ : ∃ z, z = s.heap := ⟨_, rfl⟩
  obtain ⟨locs, hlc⟩ : ∃ z : List Loc, z = [] := ⟨_, rfl⟩
  rw [← hH] at hP
  have hS : va_S A s.heap H locs := by rw [hH, hlc]; exact hS
  rw [← hlc, ← hH]
  clear hlc hH
  refine lv_iload_n hx hb dX7_demandWhat_0 rfl (lv_at hl 0 rfl) ?_
  refine zi_if_lt (tgt := 9) hx hb dX7_demandWhat_1 (by decide) ⟨by omega, by omega⟩ (fun c_1 => ?_) (fun c_1 => ?_)
  · exact z_thrW (cls := "java/lang/IllegalArgumentException") hx hb hst hown zXf_iarg zXm_iarg (hts (.classLink RX7 137 "java/lang/IllegalArgumentException") (List.mem_of_getElem? (i := 1) rfl)) (hts (.initialized "java/lang/IllegalArgumentException") (List.mem_of_getElem? (i := 2) rfl)) (show (371, "there is no such number") ∈ zStrs by decide +kernel) hG hE (fun w h => hts w ((fun w h => List.mem_cons_of_mem _ (List.mem_append_right _ h)) w h)) zXn_iarg zXg_iarg hS (hl.1.trans hml.symm) dX7_demandWhat_9 dX7_demandWhat_12 dX7_demandWhat_13 dX7_demandWhat_16 dX7_demandWhat_19 ht (Nat.le_of_ble_eq_true rfl) (Nat.le_of_ble_eq_true rfl) (Nat.le_of_ble_eq_true rfl) (Nat.le_of_ble_eq_true rfl) hlocks (z_to (Eq.symm rfl) hP) (Nat.le_of_ble_eq_true rfl) (Nat.le_of_ble_eq_true rfl)
  · refine lv_iload_n hx hb dX7_demandWhat_4 rfl (lv_at hl 0 rfl) ?_
    refine lv_iload_n hx hb dX7_demandWhat_5 rfl (lv_at hl 1 rfl) ?_
    refine zi_icmp_le (tgt := 20) hx hb dX7_demandWhat_6 (by decide) ⟨by omega, by omega⟩ ⟨by omega, by omega⟩ (fun c_2 => ?_) (fun c_2 => ?_)
    · exfalso; omega
    · exact z_thrW (cls := "java/lang/IllegalArgumentException") hx hb hst hown zXf_iarg zXm_iarg (hts (.classLink RX7 137 "java/lang/IllegalArgumentException") (List.mem_of_getElem? (i := 1) rfl)) (hts (.initialized "java/lang/IllegalArgumentException") (List.mem_of_getElem? (i := 2) rfl)) (show (371, "there is no such number") ∈ zStrs by decide +kernel) hG hE (fun w h => hts w ((fun w h => List.mem_cons_of_mem _ (List.mem_append_right _ h)) w h)) zXn_iarg zXg_iarg hS (hl.1.trans hml.symm) dX7_demandWhat_9 dX7_demandWhat_12 dX7_demandWhat_13 dX7_demandWhat_16 dX7_demandWhat_19 ht (Nat.le_of_ble_eq_true rfl) (Nat.le_of_ble_eq_true rfl) (Nat.le_of_ble_eq_true rfl) (Nat.le_of_ble_eq_true rfl) hlocks (z_to (Eq.symm rfl) hP) (Nat.le_of_ble_eq_true rfl) (Nat.le_of_ble_eq_true rfl)
set_option maxHeartbeats 4000000 in
set_option maxRecDepth 100000 in
theorem c_X7_demandBelt_ok (l : Launch) (D : va_G) (k : Nat → ClassId) (a0 : Nat → Nat) (S0 : Nat → Nat → Int) (p0 : Int) (h0 : -2147483648 ≤ p0 ∧ p0 < 2147483648) (hc : 0 ≤ p0 ∧ p0 < 3) : zMv l yX7_demandBelt wsX7_demandBelt ({ frames := 1, cells := 0, slots := 0, locals := 20 } : Room) D k [.ref (a0 0), .int (iI p0)] (wFac k a0 S0) (wFac k a0 S0) 0 0 := by
  refine zMv_of (cc := cX7_demandBelt) (maxL := 2) (ret := none) (by decide) rfl (Nat.le_of_ble_eq_true rfl) ?_
  intro p e s m args below meth c A ls hx hb hr hml hown hts hlocks hK hP hD hG hA hS hl
  have hown : s.vm.findClass RX7 = some m.cls := hown
  have hl : lv_has ls 2 [(0, .ref (a0 0)), (1, .int (iI p0))] := hl
  obtain ⟨H, hH⟩ : ∃ z, z = s.heap := ⟨_, rfl⟩
  obtain ⟨locs, hlc⟩ : ∃ z : List Loc, z = [] := ⟨_, rfl⟩
  rw [← hH] at hP
  have hS : va_S A s.heap H locs := by rw [hH, hlc]; exact hS
  rw [← hlc, ← hH]
  clear hlc hH
  refine lv_iload_n hx hb dX7_demandBelt_0 rfl (lv_at hl 1 rfl) ?_
  refine z_ai0 (va_runS (As := [.int (iI p0)]) (rest := []) ⟨hx, hb, hml, hown, hts⟩ (c_X7_isBelt l D k   p0 (by omega) _) (va_cwS 1 hts gX7_demandBelt_X7_isBelt rfl rfl rfl (by decide +kernel) ⟨(Nat.le_of_ble_eq_true rfl), (Nat.le_of_ble_eq_true rfl)⟩) (z_preS hK hG hA hP hD hS [] rfl (by decide)) rfl rfl hl.1 rfl (lv_room (Nat.le_of_ble_eq_true rfl)) dX7_demandBelt_1 ⟨(Nat.le_of_ble_eq_true rfl), (Nat.le_of_ble_eq_true rfl)⟩) hA hP hD hS [] rfl (fun H locs hP hS => ?_)
  refine zi_if_neB (tgt := 18) hx hb dX7_demandBelt_4 (by decide) (fun c_1 => ?_) (fun c_1 => ?_)
  · exact z_vret hx hb hr hlocks hP hS dX7_demandBelt_18 rfl (Nat.le_refl _) (Nat.le_refl _)
  · exfalso; omega
set_option maxHeartbeats 4000000 in
set_option maxRecDepth 100000 in
theorem c_X7_demandBelt_x (l : Launch) (hst : l.stackTraces = false) (D : va_G) (k : Nat → ClassId) (a0 : Nat → Nat) (S0 : Nat → Nat → Int) (p0 : Int) (h0 : -2147483648 ≤ p0 ∧ p0 < 2147483648) (hc : ¬ (0 ≤ p0 ∧ p0 < 3)) : zMx l yX7_demandBelt wsX7_demandBelt ({ frames := 6, cells := 1, slots := 6, locals := 82 } : Room) D k [.ref (a0 0), .int (iI p0)] (wFac k a0 S0) "java/lang/IndexOutOfBoundsException" (wFac k a0 S0) 1 6 := by
  refine zMx_of (cc := cX7_demandBelt) (maxL := 2) (ret := none) (by decide) rfl (Nat.le_of_ble_eq_true rfl) ?_
  intro p e s m args below meth c A ls hx hb hr hml hown hts hlocks hK hP hD hG hE ht hA hS hl
  have hown : s.vm.findClass RX7 = some m.cls := hown
  have hl : lv_has ls 2 [(0, .ref (a0 0)), (1, .int (iI p0))] := hl
  obtain ⟨H, hH⟩ : ∃ z, z = s.heap := ⟨_, rfl⟩
  obtain ⟨locs, hlc⟩ : ∃ z : List Loc, z = [] := ⟨_, rfl⟩
  rw [← hH] at hP
  have hS : va_S A s.heap H locs := by rw [hH, hlc]; exact hS
  rw [← hlc, ← hH]
  clear hlc hH
  refine lv_iload_n hx hb dX7_demandBelt_0 rfl (lv_at hl 1 rfl) ?_
  refine z_ai0 (va_runS (As := [.int (iI p0)]) (rest := []) ⟨hx, hb, hml, hown, hts⟩ (c_X7_isBelt l D k   p0 (by omega) _) (va_cwS 1 hts gX7_demandBelt_X7_isBelt rfl rfl rfl (by decide +kernel) ⟨(Nat.le_of_ble_eq_true rfl), (Nat.le_of_ble_eq_true rfl)⟩) (z_preS hK hG hA hP hD hS [] rfl (by decide)) rfl rfl hl.1 rfl (lv_room (Nat.le_of_ble_eq_true rfl)) dX7_demandBelt_1 ⟨(Nat.le_of_ble_eq_true rfl), (Nat.le_of_ble_eq_true rfl)⟩) hA hP hD hS [] rfl (fun H locs hP hS => ?_)
  refine zi_if_neB (tgt := 18) hx hb dX7_demandBelt_4 (by decide) (fun c_1 => ?_) (fun c_1 => ?_)
  · exfalso; omega
  · exact z_thrW (cls := "java/lang/IndexOutOfBoundsException") hx hb hst hown zXf_ioob zXm_ioob (hts (.classLink RX7 126 "java/lang/IndexOutOfBoundsException") (List.mem_of_getElem? (i := 1) rfl)) (hts (.initialized "java/lang/IndexOutOfBoundsException") (List.mem_of_getElem? (i := 2) rfl)) (show (362, "there is no such belt") ∈ zStrs by decide +kernel) hG hE (fun w h => hts w ((fun w h => List.mem_cons_of_mem _ (List.mem_append_right _ h)) w h)) zXn_ioob zXg_ioob hS (hl.1.trans hml.symm) dX7_demandBelt_7 dX7_demandBelt_10 dX7_demandBelt_11 dX7_demandBelt_14 dX7_demandBelt_17 ht (Nat.le_of_ble_eq_true rfl) (Nat.le_of_ble_eq_true rfl) (Nat.le_of_ble_eq_true rfl) (Nat.le_of_ble_eq_true rfl) hlocks (z_to (Eq.symm rfl) hP) (Nat.le_of_ble_eq_true rfl) (Nat.le_of_ble_eq_true rfl)
set_option maxHeartbeats 4000000 in
set_option maxRecDepth 100000 in
theorem c_X7_demandPlace_ok (l : Launch) (D : va_G) (k : Nat → ClassId) (a0 : Nat → Nat) (S0 : Nat → Nat → Int) (S1 : Nat → Nat → Int) (p0 : Int) (p1 : Int) (hp : pOK S1) (h0 : -2147483648 ≤ p0 ∧ p0 < 2147483648) (h1 : -2147483648 ≤ p1 ∧ p1 < 2147483648) (hc : 0 ≤ p1 ∧ ((p0 = 0 ∧ p1 < S1 3 1) ∨ (p0 = 1 ∧ p1 < S1 6 1) ∨ (p0 = 2 ∧ p1 < S1 9 1))) : zMv l yX7_demandPlace wsX7_demandPlace ({ frames := 1, cells := 0, slots := 0, locals := 21 } : Room) D k [.ref (a0 0), .int (iI p0), .int (iI p1)] (wFac k a0 S0 ++ wPlant k (subA a0 1) S1) (wFac k a0 S0 ++ wPlant k (subA a0 1) S1) 0 0 := by
  refine zMv_of (cc := cX7_demandPlace) (maxL := 3) (ret := none) (by decide) rfl (Nat.le_of_ble_eq_true rfl) ?_
  intro p e s m args below meth c A ls hx hb hr hml hown hts hlocks hK hP hD hG hA hS hl
  have hown : s.vm.findClass RX7 = some m.cls := hown
  have hl : lv_has ls 3 [(0, .ref (a0 0)), (1, .int (iI p0)), (2, .int (iI p1))] := hl
  obtain ⟨H, hH⟩ : ∃ z, z = s.heap := ⟨_, rfl⟩
  obtain ⟨locs, hlc⟩ : ∃ z : List Loc, z = [] := ⟨_, rfl⟩
  rw [← hH] at hP
  have hS : va_S A s.heap H locs := by rw [hH, hlc]; exact hS
  rw [← hlc, ← hH]
  clear hlc hH
  have kp := hp.2
  refine lv_iload_n hx hb dX7_demandPlace_0 rfl (lv_at hl 1 rfl) ?_
  refine z_ai0 (va_runS (As := [.int (iI p0)]) (rest := []) ⟨hx, hb, hml, hown, hts⟩ (c_X7_isBelt l D k   p0 (by omega) _) (va_cwS 1 hts gX7_demandPlace_X7_isBelt rfl rfl rfl (by decide +kernel) ⟨(Nat.le_of_ble_eq_true rfl), (Nat.le_of_ble_eq_true rfl)⟩) (z_preS hK hG hA hP hD hS [] rfl (by decide)) rfl rfl hl.1 rfl (lv_room (Nat.le_of_ble_eq_true rfl)) dX7_demandPlace_1 ⟨(Nat.le_of_ble_eq_true rfl), (Nat.le_of_ble_eq_true rfl)⟩) hA hP hD hS [] rfl (fun H locs hP hS => ?_)
  refine zi_if_eqB (tgt := 26) hx hb dX7_demandPlace_4 (by decide) (fun c_1 => ?_) (fun c_1 => ?_)
  · exfalso; omega
  · refine lv_aload_n hx hb dX7_demandPlace_7 rfl (lv_at hl 0 rfl) ?_
    refine va_get (D := D) (ci := 9) (v := .ref ((subA a0 1) 0)) (C := RX7) (T := TX7) (N := 11) hx hb hts (fun w h => List.mem_cons_of_mem _ (List.mem_append_left _ (List.mem_append_left _ (List.mem_append_left _ (List.mem_append_left _ (List.mem_append_right _ h)))))) hown hK hP 0 rfl rfl 0 (by decide) (hts (.fieldLink RX7 10 "MondayFactory" "plant" "LMondayFactory$Plant;") (List.mem_of_getElem? (i := 3) rfl)) (fun _ h9 => h9) rfl dX7_demandPlace_8 ?_
    refine va_get (D := D) (ci := 7) (v := .ref ((subA a0 1) 1)) (C := RX5) (T := TX5) (N := 11) hx hb hts (fun w h => List.mem_cons_of_mem _ (List.mem_append_left _ (List.mem_append_left _ (List.mem_append_left _ (List.mem_append_right _ h))))) hown hK hP 1 rfl rfl 0 (by decide) (hts (.fieldLink RX7 72 "MondayFactory$Plant" "belts" "[LMondayFactory$Belt;") (List.mem_of_getElem? (i := 4) rfl)) (fun _ h9 => h9) rfl dX7_demandPlace_11 ?_
    refine lv_iload_n hx hb dX7_demandPlace_14 rfl (lv_at hl 1 rfl) ?_
    by_cases x_2 : p0 = 0
    · refine z_eqi (z2 := 0) x_2 ?_
      refine z_aald hx hb hK hP 2 2 (f := fun j => some ((subA a0 1) (2 + 3 * j))) (q := (subA a0 1) 2) rfl rfl (i := 0) (by omega) (by omega) (by decide) rfl dX7_demandPlace_15 ?_
      refine va_get (D := D) (ci := 2) (v := .ref ((subA a0 1) 3)) (C := RX0) (T := TX0) (N := 6) hx hb hts (fun w h => List.mem_cons_of_mem _ (List.mem_append_left _ (List.mem_append_left _ (List.mem_append_right _ h)))) hown hK hP 3 rfl rfl 0 (by decide) (hts (.fieldLink RX7 76 "MondayFactory$Belt" "row" "LMondayFactory$Row;") (List.mem_of_getElem? (i := 5) rfl)) (fun _ h9 => h9) rfl dX7_demandPlace_16 ?_
      refine lv_iload_n hx hb dX7_demandPlace_19 rfl (lv_at hl 2 rfl) ?_
      refine z_ai0 (va_runV (As := [.int (iI p1)]) (rest := []) ⟨hx, hb, hml, hown, hts⟩ (c_X6_has l D k (subA (subA a0 1) 3) (sub2 S1 3)  p1 (by have e0 : ((sub2 S1 3) 0 1) = S1 3 1 := rfl; omega) (by omega) _) (cwV 1 hts gX7_demandPlace_X6_has rfl rfl rfl (by decide +kernel) ⟨(Nat.le_of_ble_eq_true rfl), (Nat.le_of_ble_eq_true rfl)⟩) (z_preV hK hG hA hP hD hS [4, 5] rfl (by decide) 8 rfl rfl) rfl rfl hl.1 rfl (lv_room (Nat.le_of_ble_eq_true rfl)) dX7_demandPlace_20 ⟨(Nat.le_of_ble_eq_true rfl), (Nat.le_of_ble_eq_true rfl)⟩) hA hP hD hS [4, 5] rfl (fun H locs hP hS => ?_)
      refine z_eqi (z2 := zb (0 ≤ p1 ∧ p1 < S1 3 1)) rfl ?_
      have f_3 : -1000000000 ≤ S1 3 1 ∧ S1 3 1 ≤ 1000000000 := (pOK_b hp 3 (by decide)) 1
      refine zi_if_neB (tgt := 37) hx hb dX7_demandPlace_23 (by decide) (fun c_4 => ?_) (fun c_4 => ?_)
      · exact z_vret hx hb hr hlocks hP hS dX7_demandPlace_37 rfl (Nat.le_refl _) (Nat.le_refl _)
      · exfalso; omega
    · by_cases x_5 : p0 = 1
      · refine z_eqi (z2 := 1) x_5 ?_
        refine z_aald hx hb hK hP 2 2 (f := fun j => some ((subA a0 1) (2 + 3 * j))) (q := (subA a0 1) 5) rfl rfl (i := 1) (by omega) (by omega) (by decide) rfl dX7_demandPlace_15 ?_
        refine va_get (D := D) (ci := 2) (v := .ref ((subA a0 1) 6)) (C := RX0) (T := TX0) (N := 6) hx hb hts (fun w h => List.mem_cons_of_mem _ (List.mem_append_left _ (List.mem_append_left _ (List.mem_append_right _ h)))) hown hK hP 6 rfl rfl 0 (by decide) (hts (.fieldLink RX7 76 "MondayFactory$Belt" "row" "LMondayFactory$Row;") (List.mem_of_getElem? (i := 5) rfl)) (fun _ h9 => h9) rfl dX7_demandPlace_16 ?_
        refine lv_iload_n hx hb dX7_demandPlace_19 rfl (lv_at hl 2 rfl) ?_
        refine z_ai0 (va_runV (As := [.int (iI p1)]) (rest := []) ⟨hx, hb, hml, hown, hts⟩ (c_X6_has l D k (subA (subA a0 1) 6) (sub2 S1 6)  p1 (by have e0 : ((sub2 S1 6) 0 1) = S1 6 1 := rfl; omega) (by omega) _) (cwV 1 hts gX7_demandPlace_X6_has rfl rfl rfl (by decide +kernel) ⟨(Nat.le_of_ble_eq_true rfl), (Nat.le_of_ble_eq_true rfl)⟩) (z_preV hK hG hA hP hD hS [7, 8] rfl (by decide) 8 rfl rfl) rfl rfl hl.1 rfl (lv_room (Nat.le_of_ble_eq_true rfl)) dX7_demandPlace_20 ⟨(Nat.le_of_ble_eq_true rfl), (Nat.le_of_ble_eq_true rfl)⟩) hA hP hD hS [7, 8] rfl (fun H locs hP hS => ?_)
        refine z_eqi (z2 := zb (0 ≤ p1 ∧ p1 < S1 6 1)) rfl ?_
        have f_6 : -1000000000 ≤ S1 6 1 ∧ S1 6 1 ≤ 1000000000 := (pOK_b hp 6 (by decide)) 1
        refine zi_if_neB (tgt := 37) hx hb dX7_demandPlace_23 (by decide) (fun c_7 => ?_) (fun c_7 => ?_)
        · exact z_vret hx hb hr hlocks hP hS dX7_demandPlace_37 rfl (Nat.le_refl _) (Nat.le_refl _)
        · exfalso; omega
      · have x_8 : p0 = 2 := by omega
        refine z_eqi (z2 := 2) x_8 ?_
        refine z_aald hx hb hK hP 2 2 (f := fun j => some ((subA a0 1) (2 + 3 * j))) (q := (subA a0 1) 8) rfl rfl (i := 2) (by omega) (by omega) (by decide) rfl dX7_demandPlace_15 ?_
        refine va_get (D := D) (ci := 2) (v := .ref ((subA a0 1) 9)) (C := RX0) (T := TX0) (N := 6) hx hb hts (fun w h => List.mem_cons_of_mem _ (List.mem_append_left _ (List.mem_append_left _ (List.mem_append_right _ h)))) hown hK hP 9 rfl rfl 0 (by decide) (hts (.fieldLink RX7 76 "MondayFactory$Belt" "row" "LMondayFactory$Row;") (List.mem_of_getElem? (i := 5) rfl)) (fun _ h9 => h9) rfl dX7_demandPlace_16 ?_
        refine lv_iload_n hx hb dX7_demandPlace_19 rfl (lv_at hl 2 rfl) ?_
        refine z_ai0 (va_runV (As := [.int (iI p1)]) (rest := []) ⟨hx, hb, hml, hown, hts⟩ (c_X6_has l D k (subA (subA a0 1) 9) (sub2 S1 9)  p1 (by have e0 : ((sub2 S1 9) 0 1) = S1 9 1 := rfl; omega) (by omega) _) (cwV 1 hts gX7_demandPlace_X6_has rfl rfl rfl (by decide +kernel) ⟨(Nat.le_of_ble_eq_true rfl), (Nat.le_of_ble_eq_true rfl)⟩) (z_preV hK hG hA hP hD hS [10, 11] rfl (by decide) 8 rfl rfl) rfl rfl hl.1 rfl (lv_room (Nat.le_of_ble_eq_true rfl)) dX7_demandPlace_20 ⟨(Nat.le_of_ble_eq_true rfl), (Nat.le_of_ble_eq_true rfl)⟩) hA hP hD hS [10, 11] rfl (fun H locs hP hS => ?_)
        refine z_eqi (z2 := zb (0 ≤ p1 ∧ p1 < S1 9 1)) rfl ?_
        have f_9 : -1000000000 ≤ S1 9 1 ∧ S1 9 1 ≤ 1000000000 := (pOK_b hp 9 (by decide)) 1
        refine zi_if_neB (tgt := 37) hx hb dX7_demandPlace_23 (by decide) (fun c_10 => ?_) (fun c_10 => ?_)
        · exact z_vret hx hb hr hlocks hP hS dX7_demandPlace_37 rfl (Nat.le_refl _) (Nat.le_refl _)
        · exfalso; omega
set_option maxHeartbeats 4000000 in
set_option maxRecDepth 100000 in
theorem c_X7_demandPlace_x (l : Launch) (hst : l.stackTraces = false) (D : va_G) (k : Nat → ClassId) (a0 : Nat → Nat) (S0 : Nat → Nat → Int) (S1 : Nat → Nat → Int) (p0 : Int) (p1 : Int) (hp : pOK S1) (h0 : -2147483648 ≤ p0 ∧ p0 < 2147483648) (h1 : -2147483648 ≤ p1 ∧ p1 < 2147483648) (hc : ¬ (0 ≤ p1 ∧ ((p0 = 0 ∧ p1 < S1 3 1) ∨ (p0 = 1 ∧ p1 < S1 6 1) ∨ (p0 = 2 ∧ p1 < S1 9 1)))) : zMx l yX7_demandPlace wsX7_demandPlace ({ frames := 6, cells := 1, slots := 6, locals := 82 } : Room) D k [.ref (a0 0), .int (iI p0), .int (iI p1)] (wFac k a0 S0 ++ wPlant k (subA a0 1) S1) "java/lang/IndexOutOfBoundsException" (wFac k a0 S0 ++ wPlant k (subA a0 1) S1) 1 6 := by
  refine zMx_of (cc := cX7_demandPlace) (maxL := 3) (ret := none) (by decide) rfl (Nat.le_of_ble_eq_true rfl) ?_
  intro p e s m args below meth c A ls hx hb hr hml hown hts hlocks hK hP hD hG hE ht hA hS hl
  have hown : s.vm.findClass RX7 = some m.cls := hown
  have hl : lv_has ls 3 [(0, .ref (a0 0)), (1, .int (iI p0)), (2, .int (iI p1))] := hl
  obtain ⟨H, hH⟩ : ∃ z, z = s.heap := ⟨_, rfl⟩
  obtain ⟨locs, hlc⟩ : ∃ z : List Loc, z = [] := ⟨_, rfl⟩
  rw [← hH] at hP
  have hS : va_S A s.heap H locs := by rw [hH, hlc]; exact hS
  rw [← hlc, ← hH]
  clear hlc hH
  have kp := hp.2
  refine lv_iload_n hx hb dX7_demandPlace_0 rfl (lv_at hl 1 rfl) ?_
  refine z_ai0 (va_runS (As := [.int (iI p0)]) (rest := []) ⟨hx, hb, hml, hown, hts⟩ (c_X7_isBelt l D k   p0 (by omega) _) (va_cwS 1 hts gX7_demandPlace_X7_isBelt rfl rfl rfl (by decide +kernel) ⟨(Nat.le_of_ble_eq_true rfl), (Nat.le_of_ble_eq_true rfl)⟩) (z_preS hK hG hA hP hD hS [] rfl (by decide)) rfl rfl hl.1 rfl (lv_room (Nat.le_of_ble_eq_true rfl)) dX7_demandPlace_1 ⟨(Nat.le_of_ble_eq_true rfl), (Nat.le_of_ble_eq_true rfl)⟩) hA hP hD hS [] rfl (fun H locs hP hS => ?_)
  refine zi_if_eqB (tgt := 26) hx hb dX7_demandPlace_4 (by decide) (fun c_1 => ?_) (fun c_1 => ?_)
  · exact z_thrW (cls := "java/lang/IndexOutOfBoundsException") hx hb hst hown zXf_ioob zXm_ioob (hts (.classLink RX7 126 "java/lang/IndexOutOfBoundsException") (List.mem_of_getElem? (i := 1) rfl)) (hts (.initialized "java/lang/IndexOutOfBoundsException") (List.mem_of_getElem? (i := 2) rfl)) (show (365, "there is no such belt or place") ∈ zStrs by decide +kernel) hG hE (fun w h => hts w ((fun w h => List.mem_cons_of_mem _ (List.mem_append_right _ h)) w h)) zXn_ioob zXg_ioob hS (hl.1.trans hml.symm) dX7_demandPlace_26 dX7_demandPlace_29 dX7_demandPlace_30 dX7_demandPlace_33 dX7_demandPlace_36 ht (Nat.le_of_ble_eq_true rfl) (Nat.le_of_ble_eq_true rfl) (Nat.le_of_ble_eq_true rfl) (Nat.le_of_ble_eq_true rfl) hlocks (z_to (Eq.symm rfl) hP) (Nat.le_of_ble_eq_true rfl) (Nat.le_of_ble_eq_true rfl)
  · refine lv_aload_n hx hb dX7_demandPlace_7 rfl (lv_at hl 0 rfl) ?_
    refine va_get (D := D) (ci := 9) (v := .ref ((subA a0 1) 0)) (C := RX7) (T := TX7) (N := 11) hx hb hts (fun w h => List.mem_cons_of_mem _ (List.mem_append_left _ (List.mem_append_left _ (List.mem_append_left _ (List.mem_append_left _ (List.mem_append_right _ h)))))) hown hK hP 0 rfl rfl 0 (by decide) (hts (.fieldLink RX7 10 "MondayFactory" "plant" "LMondayFactory$Plant;") (List.mem_of_getElem? (i := 3) rfl)) (fun _ h9 => h9) rfl dX7_demandPlace_8 ?_
    refine va_get (D := D) (ci := 7) (v := .ref ((subA a0 1) 1)) (C := RX5) (T := TX5) (N := 11) hx hb hts (fun w h => List.mem_cons_of_mem _ (List.mem_append_left _ (List.mem_append_left _ (List.mem_append_left _ (List.mem_append_right _ h))))) hown hK hP 1 rfl rfl 0 (by decide) (hts (.fieldLink RX7 72 "MondayFactory$Plant" "belts" "[LMondayFactory$Belt;") (List.mem_of_getElem? (i := 4) rfl)) (fun _ h9 => h9) rfl dX7_demandPlace_11 ?_
    refine lv_iload_n hx hb dX7_demandPlace_14 rfl (lv_at hl 1 rfl) ?_
    by_cases x_2 : p0 = 0
    · refine z_eqi (z2 := 0) x_2 ?_
      refine z_aald hx hb hK hP 2 2 (f := fun j => some ((subA a0 1) (2 + 3 * j))) (q := (subA a0 1) 2) rfl rfl (i := 0) (by omega) (by omega) (by decide) rfl dX7_demandPlace_15 ?_
      refine va_get (D := D) (ci := 2) (v := .ref ((subA a0 1) 3)) (C := RX0) (T := TX0) (N := 6) hx hb hts (fun w h => List.mem_cons_of_mem _ (List.mem_append_left _ (List.mem_append_left _ (List.mem_append_right _ h)))) hown hK hP 3 rfl rfl 0 (by decide) (hts (.fieldLink RX7 76 "MondayFactory$Belt" "row" "LMondayFactory$Row;") (List.mem_of_getElem? (i := 5) rfl)) (fun _ h9 => h9) rfl dX7_demandPlace_16 ?_
      refine lv_iload_n hx hb dX7_demandPlace_19 rfl (lv_at hl 2 rfl) ?_
      refine z_ai0 (va_runV (As := [.int (iI p1)]) (rest := []) ⟨hx, hb, hml, hown, hts⟩ (c_X6_has l D k (subA (subA a0 1) 3) (sub2 S1 3)  p1 (by have e0 : ((sub2 S1 3) 0 1) = S1 3 1 := rfl; omega) (by omega) _) (cwV 1 hts gX7_demandPlace_X6_has rfl rfl rfl (by decide +kernel) ⟨(Nat.le_of_ble_eq_true rfl), (Nat.le_of_ble_eq_true rfl)⟩) (z_preV hK hG hA hP hD hS [4, 5] rfl (by decide) 8 rfl rfl) rfl rfl hl.1 rfl (lv_room (Nat.le_of_ble_eq_true rfl)) dX7_demandPlace_20 ⟨(Nat.le_of_ble_eq_true rfl), (Nat.le_of_ble_eq_true rfl)⟩) hA hP hD hS [4, 5] rfl (fun H locs hP hS => ?_)
      refine z_eqi (z2 := zb (0 ≤ p1 ∧ p1 < S1 3 1)) rfl ?_
      have f_3 : -1000000000 ≤ S1 3 1 ∧ S1 3 1 ≤ 1000000000 := (pOK_b hp 3 (by decide)) 1
      refine zi_if_neB (tgt := 37) hx hb dX7_demandPlace_23 (by decide) (fun c_4 => ?_) (fun c_4 => ?_)
      · exfalso; omega
      · exact z_thrW (cls := "java/lang/IndexOutOfBoundsException") hx hb hst hown zXf_ioob zXm_ioob (hts (.classLink RX7 126 "java/lang/IndexOutOfBoundsException") (List.mem_of_getElem? (i := 1) rfl)) (hts (.initialized "java/lang/IndexOutOfBoundsException") (List.mem_of_getElem? (i := 2) rfl)) (show (365, "there is no such belt or place") ∈ zStrs by decide +kernel) hG hE (fun w h => hts w ((fun w h => List.mem_cons_of_mem _ (List.mem_append_right _ h)) w h)) zXn_ioob zXg_ioob hS (hl.1.trans hml.symm) dX7_demandPlace_26 dX7_demandPlace_29 dX7_demandPlace_30 dX7_demandPlace_33 dX7_demandPlace_36 ht (Nat.le_of_ble_eq_true rfl) (Nat.le_of_ble_eq_true rfl) (Nat.le_of_ble_eq_true rfl) (Nat.le_of_ble_eq_true rfl) hlocks (z_to (Eq.symm rfl) hP) (Nat.le_of_ble_eq_true rfl) (Nat.le_of_ble_eq_true rfl)
    · by_cases x_5 : p0 = 1
      · refine z_eqi (z2 := 1) x_5 ?_
        refine z_aald hx hb hK hP 2 2 (f := fun j => some ((subA a0 1) (2 + 3 * j))) (q := (subA a0 1) 5) rfl rfl (i := 1) (by omega) (by omega) (by decide) rfl dX7_demandPlace_15 ?_
        refine va_get (D := D) (ci := 2) (v := .ref ((subA a0 1) 6)) (C := RX0) (T := TX0) (N := 6) hx hb hts (fun w h => List.mem_cons_of_mem _ (List.mem_append_left _ (List.mem_append_left _ (List.mem_append_right _ h)))) hown hK hP 6 rfl rfl 0 (by decide) (hts (.fieldLink RX7 76 "MondayFactory$Belt" "row" "LMondayFactory$Row;") (List.mem_of_getElem? (i := 5) rfl)) (fun _ h9 => h9) rfl dX7_demandPlace_16 ?_
        refine lv_iload_n hx hb dX7_demandPlace_19 rfl (lv_at hl 2 rfl) ?_
        refine z_ai0 (va_runV (As := [.int (iI p1)]) (rest := []) ⟨hx, hb, hml, hown, hts⟩ (c_X6_has l D k (subA (subA a0 1) 6) (sub2 S1 6)  p1 (by have e0 : ((sub2 S1 6) 0 1) = S1 6 1 := rfl; omega) (by omega) _) (cwV 1 hts gX7_demandPlace_X6_has rfl rfl rfl (by decide +kernel) ⟨(Nat.le_of_ble_eq_true rfl), (Nat.le_of_ble_eq_true rfl)⟩) (z_preV hK hG hA hP hD hS [7, 8] rfl (by decide) 8 rfl rfl) rfl rfl hl.1 rfl (lv_room (Nat.le_of_ble_eq_true rfl)) dX7_demandPlace_20 ⟨(Nat.le_of_ble_eq_true rfl), (Nat.le_of_ble_eq_true rfl)⟩) hA hP hD hS [7, 8] rfl (fun H locs hP hS => ?_)
        refine z_eqi (z2 := zb (0 ≤ p1 ∧ p1 < S1 6 1)) rfl ?_
        have f_6 : -1000000000 ≤ S1 6 1 ∧ S1 6 1 ≤ 1000000000 := (pOK_b hp 6 (by decide)) 1
        refine zi_if_neB (tgt := 37) hx hb dX7_demandPlace_23 (by decide) (fun c_7 => ?_) (fun c_7 => ?_)
        · exfalso; omega
        · exact z_thrW (cls := "java/lang/IndexOutOfBoundsException") hx hb hst hown zXf_ioob zXm_ioob (hts (.classLink RX7 126 "java/lang/IndexOutOfBoundsException") (List.mem_of_getElem? (i := 1) rfl)) (hts (.initialized "java/lang/IndexOutOfBoundsException") (List.mem_of_getElem? (i := 2) rfl)) (show (365, "there is no such belt or place") ∈ zStrs by decide +kernel) hG hE (fun w h => hts w ((fun w h => List.mem_cons_of_mem _ (List.mem_append_right _ h)) w h)) zXn_ioob zXg_ioob hS (hl.1.trans hml.symm) dX7_demandPlace_26 dX7_demandPlace_29 dX7_demandPlace_30 dX7_demandPlace_33 dX7_demandPlace_36 ht (Nat.le_of_ble_eq_true rfl) (Nat.le_of_ble_eq_true rfl) (Nat.le_of_ble_eq_true rfl) (Nat.le_of_ble_eq_true rfl) hlocks (z_to (Eq.symm rfl) hP) (Nat.le_of_ble_eq_true rfl) (Nat.le_of_ble_eq_true rfl)
      · have x_8 : p0 = 2 := by omega
        refine z_eqi (z2 := 2) x_8 ?_
        refine z_aald hx hb hK hP 2 2 (f := fun j => some ((subA a0 1) (2 + 3 * j))) (q := (subA a0 1) 8) rfl rfl (i := 2) (by omega) (by omega) (by decide) rfl dX7_demandPlace_15 ?_
        refine va_get (D := D) (ci := 2) (v := .ref ((subA a0 1) 9)) (C := RX0) (T := TX0) (N := 6) hx hb hts (fun w h => List.mem_cons_of_mem _ (List.mem_append_left _ (List.mem_append_left _ (List.mem_append_right _ h)))) hown hK hP 9 rfl rfl 0 (by decide) (hts (.fieldLink RX7 76 "MondayFactory$Belt" "row" "LMondayFactory$Row;") (List.mem_of_getElem? (i := 5) rfl)) (fun _ h9 => h9) rfl dX7_demandPlace_16 ?_
        refine lv_iload_n hx hb dX7_demandPlace_19 rfl (lv_at hl 2 rfl) ?_
        refine z_ai0 (va_runV (As := [.int (iI p1)]) (rest := []) ⟨hx, hb, hml, hown, hts⟩ (c_X6_has l D k (subA (subA a0 1) 9) (sub2 S1 9)  p1 (by have e0 : ((sub2 S1 9) 0 1) = S1 9 1 := rfl; omega) (by omega) _) (cwV 1 hts gX7_demandPlace_X6_has rfl rfl rfl (by decide +kernel) ⟨(Nat.le_of_ble_eq_true rfl), (Nat.le_of_ble_eq_true rfl)⟩) (z_preV hK hG hA hP hD hS [10, 11] rfl (by decide) 8 rfl rfl) rfl rfl hl.1 rfl (lv_room (Nat.le_of_ble_eq_true rfl)) dX7_demandPlace_20 ⟨(Nat.le_of_ble_eq_true rfl), (Nat.le_of_ble_eq_true rfl)⟩) hA hP hD hS [10, 11] rfl (fun H locs hP hS => ?_)
        refine z_eqi (z2 := zb (0 ≤ p1 ∧ p1 < S1 9 1)) rfl ?_
        have f_9 : -1000000000 ≤ S1 9 1 ∧ S1 9 1 ≤ 1000000000 := (pOK_b hp 9 (by decide)) 1
        refine zi_if_neB (tgt := 37) hx hb dX7_demandPlace_23 (by decide) (fun c_10 => ?_) (fun c_10 => ?_)
        · exfalso; omega
        · exact z_thrW (cls := "java/lang/IndexOutOfBoundsException") hx hb hst hown zXf_ioob zXm_ioob (hts (.classLink RX7 126 "java/lang/IndexOutOfBoundsException") (List.mem_of_getElem? (i := 1) rfl)) (hts (.initialized "java/lang/IndexOutOfBoundsException") (List.mem_of_getElem? (i := 2) rfl)) (show (365, "there is no such belt or place") ∈ zStrs by decide +kernel) hG hE (fun w h => hts w ((fun w h => List.mem_cons_of_mem _ (List.mem_append_right _ h)) w h)) zXn_ioob zXg_ioob hS (hl.1.trans hml.symm) dX7_demandPlace_26 dX7_demandPlace_29 dX7_demandPlace_30 dX7_demandPlace_33 dX7_demandPlace_36 ht (Nat.le_of_ble_eq_true rfl) (Nat.le_of_ble_eq_true rfl) (Nat.le_of_ble_eq_true rfl) (Nat.le_of_ble_eq_true rfl) hlocks (z_to (Eq.symm rfl) hP) (Nat.le_of_ble_eq_true rfl) (Nat.le_of_ble_eq_true rfl)
set_option maxHeartbeats 4000000 in
set_option maxRecDepth 100000 in
theorem c_X7_demandReject_ok (l : Launch) (D : va_G) (k : Nat → ClassId) (a0 : Nat → Nat) (S0 : Nat → Nat → Int) (S1 : Nat → Nat → Int) (p0 : Int) (hp : pOK S1) (h0 : -2147483648 ≤ p0 ∧ p0 < 2147483648) (hc : 0 ≤ p0 ∧ p0 < S1 11 1) : zMv l yX7_demandReject wsX7_demandReject ({ frames := 1, cells := 0, slots := 0, locals := 21 } : Room) D k [.ref (a0 0), .int (iI p0)] (wFac k a0 S0 ++ wPlant k (subA a0 1) S1) (wFac k a0 S0 ++ wPlant k (subA a0 1) S1) 0 0 := by
  refine zMv_of (cc := cX7_demandReject) (maxL := 2) (ret := none) (by decide) rfl (Nat.le_of_ble_eq_true rfl) ?_
  intro p e s m args below meth c A ls hx hb hr hml hown hts hlocks hK hP hD hG hA hS hl
  have hown : s.vm.findClass RX7 = some m.cls := hown
  have hl : lv_has ls 2 [(0, .ref (a0 0)), (1, .int (iI p0))] := hl
  obtain ⟨H, hH⟩ : ∃ z, z = s.heap := ⟨_, rfl⟩
  obtain ⟨locs, hlc⟩ : ∃ z : List Loc, z = [] := ⟨_, rfl⟩
  rw [← hH] at hP
  have hS : va_S A s.heap H locs := by rw [hH, hlc]; exact hS
  rw [← hlc, ← hH]
  clear hlc hH
  have kp := hp.2
  refine lv_aload_n hx hb dX7_demandReject_0 rfl (lv_at hl 0 rfl) ?_
  refine va_get (D := D) (ci := 9) (v := .ref ((subA a0 1) 0)) (C := RX7) (T := TX7) (N := 11) hx hb hts (fun w h => List.mem_cons_of_mem _ (List.mem_append_left _ (List.mem_append_left _ (List.mem_append_left _ (List.mem_append_right _ h))))) hown hK hP 0 rfl rfl 0 (by decide) (hts (.fieldLink RX7 10 "MondayFactory" "plant" "LMondayFactory$Plant;") (List.mem_of_getElem? (i := 3) rfl)) (fun _ h9 => h9) rfl dX7_demandReject_1 ?_
  refine va_get (D := D) (ci := 7) (v := .ref ((subA a0 1) 11)) (C := RX5) (T := TX5) (N := 11) hx hb hts (fun w h => List.mem_cons_of_mem _ (List.mem_append_left _ (List.mem_append_left _ (List.mem_append_right _ h)))) hown hK hP 1 rfl rfl 1 (by decide) (hts (.fieldLink RX7 179 "MondayFactory$Plant" "shelf" "LMondayFactory$Row;") (List.mem_of_getElem? (i := 4) rfl)) (fun _ h9 => h9) rfl dX7_demandReject_4 ?_
  refine lv_iload_n hx hb dX7_demandReject_7 rfl (lv_at hl 1 rfl) ?_
  refine z_ai0 (va_runV (As := [.int (iI p0)]) (rest := []) ⟨hx, hb, hml, hown, hts⟩ (c_X6_has l D k (subA (subA a0 1) 11) (sub2 S1 11)  p0 (by have e0 : ((sub2 S1 11) 0 1) = S1 11 1 := rfl; omega) (by omega) _) (cwV 1 hts gX7_demandReject_X6_has rfl rfl rfl (by decide +kernel) ⟨(Nat.le_of_ble_eq_true rfl), (Nat.le_of_ble_eq_true rfl)⟩) (z_preV hK hG hA hP hD hS [12, 13] rfl (by decide) 8 rfl rfl) rfl rfl hl.1 rfl (lv_room (Nat.le_of_ble_eq_true rfl)) dX7_demandReject_8 ⟨(Nat.le_of_ble_eq_true rfl), (Nat.le_of_ble_eq_true rfl)⟩) hA hP hD hS [12, 13] rfl (fun H locs hP hS => ?_)
  refine z_eqi (z2 := zb (0 ≤ p0 ∧ p0 < S1 11 1)) rfl ?_
  have f_1 : -1000000000 ≤ S1 11 1 ∧ S1 11 1 ≤ 1000000000 := (pOK_b hp 11 (by decide)) 1
  refine zi_if_neB (tgt := 25) hx hb dX7_demandReject_11 (by decide) (fun c_2 => ?_) (fun c_2 => ?_)
  · exact z_vret hx hb hr hlocks hP hS dX7_demandReject_25 rfl (Nat.le_refl _) (Nat.le_refl _)
  · exfalso; omega
set_option maxHeartbeats 4000000 in
set_option maxRecDepth 100000 in
theorem c_X7_demandReject_x (l : Launch) (hst : l.stackTraces = false) (D : va_G) (k : Nat → ClassId) (a0 : Nat → Nat) (S0 : Nat → Nat → Int) (S1 : Nat → Nat → Int) (p0 : Int) (hp : pOK S1) (h0 : -2147483648 ≤ p0 ∧ p0 < 2147483648) (hc : ¬ (0 ≤ p0 ∧ p0 < S1 11 1)) : zMx l yX7_demandReject wsX7_demandReject ({ frames := 6, cells := 1, slots := 6, locals := 82 } : Room) D k [.ref (a0 0), .int (iI p0)] (wFac k a0 S0 ++ wPlant k (subA a0 1) S1) "java/lang/IndexOutOfBoundsException" (wFac k a0 S0 ++ wPlant k (subA a0 1) S1) 1 6 := by
  refine zMx_of (cc := cX7_demandReject) (maxL := 2) (ret := none) (by decide) rfl (Nat.le_of_ble_eq_true rfl) ?_
  intro p e s m args below meth c A ls hx hb hr hml hown hts hlocks hK hP hD hG hE ht hA hS hl
  have hown : s.vm.findClass RX7 = some m.cls := hown
  have hl : lv_has ls 2 [(0, .ref (a0 0)), (1, .int (iI p0))] := hl
  obtain ⟨H, hH⟩ : ∃ z, z = s.heap := ⟨_, rfl⟩
  obtain ⟨locs, hlc⟩ : ∃ z : List Loc, z = [] := ⟨_, rfl⟩
  rw [← hH] at hP
  have hS : va_S A s.heap H locs := by rw [hH, hlc]; exact hS
  rw [← hlc, ← hH]
  clear hlc hH
  have kp := hp.2
  refine lv_aload_n hx hb dX7_demandReject_0 rfl (lv_at hl 0 rfl) ?_
  refine va_get (D := D) (ci := 9) (v := .ref ((subA a0 1) 0)) (C := RX7) (T := TX7) (N := 11) hx hb hts (fun w h => List.mem_cons_of_mem _ (List.mem_append_left _ (List.mem_append_left _ (List.mem_append_left _ (List.mem_append_right _ h))))) hown hK hP 0 rfl rfl 0 (by decide) (hts (.fieldLink RX7 10 "MondayFactory" "plant" "LMondayFactory$Plant;") (List.mem_of_getElem? (i := 3) rfl)) (fun _ h9 => h9) rfl dX7_demandReject_1 ?_
  refine va_get (D := D) (ci := 7) (v := .ref ((subA a0 1) 11)) (C := RX5) (T := TX5) (N := 11) hx hb hts (fun w h => List.mem_cons_of_mem _ (List.mem_append_left _ (List.mem_append_left _ (List.mem_append_right _ h)))) hown hK hP 1 rfl rfl 1 (by decide) (hts (.fieldLink RX7 179 "MondayFactory$Plant" "shelf" "LMondayFactory$Row;") (List.mem_of_getElem? (i := 4) rfl)) (fun _ h9 => h9) rfl dX7_demandReject_4 ?_
  refine lv_iload_n hx hb dX7_demandReject_7 rfl (lv_at hl 1 rfl) ?_
  refine z_ai0 (va_runV (As := [.int (iI p0)]) (rest := []) ⟨hx, hb, hml, hown, hts⟩ (c_X6_has l D k (subA (subA a0 1) 11) (sub2 S1 11)  p0 (by have e0 : ((sub2 S1 11) 0 1) = S1 11 1 := rfl; omega) (by omega) _) (cwV 1 hts gX7_demandReject_X6_has rfl rfl rfl (by decide +kernel) ⟨(Nat.le_of_ble_eq_true rfl), (Nat.le_of_ble_eq_true rfl)⟩) (z_preV hK hG hA hP hD hS [12, 13] rfl (by decide) 8 rfl rfl) rfl rfl hl.1 rfl (lv_room (Nat.le_of_ble_eq_true rfl)) dX7_demandReject_8 ⟨(Nat.le_of_ble_eq_true rfl), (Nat.le_of_ble_eq_true rfl)⟩) hA hP hD hS [12, 13] rfl (fun H locs hP hS => ?_)
  refine z_eqi (z2 := zb (0 ≤ p0 ∧ p0 < S1 11 1)) rfl ?_
  have f_1 : -1000000000 ≤ S1 11 1 ∧ S1 11 1 ≤ 1000000000 := (pOK_b hp 11 (by decide)) 1
  refine zi_if_neB (tgt := 25) hx hb dX7_demandReject_11 (by decide) (fun c_2 => ?_) (fun c_2 => ?_)
  · exfalso; omega
  · exact z_thrW (cls := "java/lang/IndexOutOfBoundsException") hx hb hst hown zXf_ioob zXm_ioob (hts (.classLink RX7 126 "java/lang/IndexOutOfBoundsException") (List.mem_of_getElem? (i := 1) rfl)) (hts (.initialized "java/lang/IndexOutOfBoundsException") (List.mem_of_getElem? (i := 2) rfl)) (show (367, "there is no such reject") ∈ zStrs by decide +kernel) hG hE (fun w h => hts w ((fun w h => List.mem_cons_of_mem _ (List.mem_append_right _ h)) w h)) zXn_ioob zXg_ioob hS (hl.1.trans hml.symm) dX7_demandReject_14 dX7_demandReject_17 dX7_demandReject_18 dX7_demandReject_21 dX7_demandReject_24 ht (Nat.le_of_ble_eq_true rfl) (Nat.le_of_ble_eq_true rfl) (Nat.le_of_ble_eq_true rfl) (Nat.le_of_ble_eq_true rfl) hlocks (z_to (Eq.symm rfl) hP) (Nat.le_of_ble_eq_true rfl) (Nat.le_of_ble_eq_true rfl)
set_option maxHeartbeats 4000000 in
set_option maxRecDepth 100000 in
theorem c_X7_demandInspector_ok (l : Launch) (D : va_G) (k : Nat → ClassId) (a0 : Nat → Nat) (S0 : Nat → Nat → Int) (S1 : Nat → Nat → Int) (hp : pOK S1) (hc : 1 ≤ S1 13 1) : zMv l yX7_demandInspector wsX7_demandInspector ({ frames := 0, cells := 0, slots := 0, locals := 0 } : Room) D k [.ref (a0 0)] (wFac k a0 S0 ++ wPlant k (subA a0 1) S1) (wFac k a0 S0 ++ wPlant k (subA a0 1) S1) 0 0 := by
  refine zMv_of (cc := cX7_demandInspector) (maxL := 1) (ret := none) (by decide) rfl (Nat.le_of_ble_eq_true rfl) ?_
  intro p e s m args below meth c A ls hx hb hr hml hown hts hlocks hK hP hD hG hA hS hl
  have hown : s.vm.findClass RX7 = some m.cls := hown
  have hl : lv_has ls 1 [(0, .ref (a0 0))] := hl
  obtain ⟨H, hH⟩ : ∃ z, z = s.heap := ⟨_, rfl⟩
  obtain ⟨locs, hlc⟩ : ∃ z : List Loc, z = [] := ⟨_, rfl⟩
  rw [← hH] at hP
  have hS : va_S A s.heap H locs := by rw [hH, hlc]; exact hS
  rw [← hlc, ← hH]
  clear hlc hH
  have kp := hp.2
  refine lv_aload_n hx hb dX7_demandInspector_0 rfl (lv_at hl 0 rfl) ?_
  refine va_get (D := D) (ci := 9) (v := .ref ((subA a0 1) 0)) (C := RX7) (T := TX7) (N := 11) hx hb hts (fun w h => List.mem_cons_of_mem _ (List.mem_append_left _ (List.mem_append_left _ (List.mem_append_left _ (List.mem_append_right _ h))))) hown hK hP 0 rfl rfl 0 (by decide) (hts (.fieldLink RX7 10 "MondayFactory" "plant" "LMondayFactory$Plant;") (List.mem_of_getElem? (i := 3) rfl)) (fun _ h9 => h9) rfl dX7_demandInspector_1 ?_
  refine va_get (D := D) (ci := 7) (v := .ref ((subA a0 1) 13)) (C := RX5) (T := TX5) (N := 11) hx hb hts (fun w h => List.mem_cons_of_mem _ (List.mem_append_left _ (List.mem_append_left _ (List.mem_append_right _ h)))) hown hK hP 1 rfl rfl 2 (by decide) (hts (.fieldLink RX7 117 "MondayFactory$Plant" "crew" "LMondayFactory$Crew;") (List.mem_of_getElem? (i := 4) rfl)) (fun _ h9 => h9) rfl dX7_demandInspector_4 ?_
  have f_1 : -1000000000 ≤ S1 13 1 ∧ S1 13 1 ≤ 1000000000 := (pOK_b hp 13 (by decide)) 1
  refine va_get (D := D) (ci := 3) (v := .int (iI (S1 13 1))) (C := RX1) (T := TX1) (N := 2) hx hb hts (fun w h => List.mem_cons_of_mem _ (List.mem_append_left _ (List.mem_append_right _ h))) hown hK hP 14 rfl rfl 1 (by decide) (hts (.fieldLink RX7 349 "MondayFactory$Crew" "count" "I") (List.mem_of_getElem? (i := 5) rfl)) (fun _ h9 => h9) rfl dX7_demandInspector_7 ?_
  refine zi_if_ne (tgt := 24) hx hb dX7_demandInspector_10 (by decide) ⟨by omega, by omega⟩ (fun c_2 => ?_) (fun c_2 => ?_)
  · exact z_vret hx hb hr hlocks hP hS dX7_demandInspector_24 rfl (Nat.le_refl _) (Nat.le_refl _)
  · exfalso; omega
set_option maxHeartbeats 4000000 in
set_option maxRecDepth 100000 in
theorem c_X7_demandInspector_x (l : Launch) (hst : l.stackTraces = false) (D : va_G) (k : Nat → ClassId) (a0 : Nat → Nat) (S0 : Nat → Nat → Int) (S1 : Nat → Nat → Int) (hp : pOK S1) (hc : S1 13 1 = 0) : zMx l yX7_demandInspector wsX7_demandInspector ({ frames := 6, cells := 1, slots := 6, locals := 82 } : Room) D k [.ref (a0 0)] (wFac k a0 S0 ++ wPlant k (subA a0 1) S1) "java/util/NoSuchElementException" (wFac k a0 S0 ++ wPlant k (subA a0 1) S1) 1 6 := by
  refine zMx_of (cc := cX7_demandInspector) (maxL := 1) (ret := none) (by decide) rfl (Nat.le_of_ble_eq_true rfl) ?_
  intro p e s m args below meth c A ls hx hb hr hml hown hts hlocks hK hP hD hG hE ht hA hS hl
  have hown : s.vm.findClass RX7 = some m.cls := hown
  have hl : lv_has ls 1 [(0, .ref (a0 0))] := hl
  obtain ⟨H, hH⟩ : ∃ z, z = s.heap := ⟨_, rfl⟩
  obtain ⟨locs, hlc⟩ : ∃ z : List Loc, z = [] := ⟨_, rfl⟩
  rw [← hH] at hP
  have hS : va_S A s.heap H locs := by rw [hH, hlc]; exact hS
  rw [← hlc, ← hH]
  clear hlc hH
  have kp := hp.2
  refine lv_aload_n hx hb dX7_demandInspector_0 rfl (lv_at hl 0 rfl) ?_
  refine va_get (D := D) (ci := 9) (v := .ref ((subA a0 1) 0)) (C := RX7) (T := TX7) (N := 11) hx hb hts (fun w h => List.mem_cons_of_mem _ (List.mem_append_left _ (List.mem_append_left _ (List.mem_append_left _ (List.mem_append_right _ h))))) hown hK hP 0 rfl rfl 0 (by decide) (hts (.fieldLink RX7 10 "MondayFactory" "plant" "LMondayFactory$Plant;") (List.mem_of_getElem? (i := 3) rfl)) (fun _ h9 => h9) rfl dX7_demandInspector_1 ?_
  refine va_get (D := D) (ci := 7) (v := .ref ((subA a0 1) 13)) (C := RX5) (T := TX5) (N := 11) hx hb hts (fun w h => List.mem_cons_of_mem _ (List.mem_append_left _ (List.mem_append_left _ (List.mem_append_right _ h)))) hown hK hP 1 rfl rfl 2 (by decide) (hts (.fieldLink RX7 117 "MondayFactory$Plant" "crew" "LMondayFactory$Crew;") (List.mem_of_getElem? (i := 4) rfl)) (fun _ h9 => h9) rfl dX7_demandInspector_4 ?_
  have f_1 : -1000000000 ≤ S1 13 1 ∧ S1 13 1 ≤ 1000000000 := (pOK_b hp 13 (by decide)) 1
  refine va_get (D := D) (ci := 3) (v := .int (iI (S1 13 1))) (C := RX1) (T := TX1) (N := 2) hx hb hts (fun w h => List.mem_cons_of_mem _ (List.mem_append_left _ (List.mem_append_right _ h))) hown hK hP 14 rfl rfl 1 (by decide) (hts (.fieldLink RX7 349 "MondayFactory$Crew" "count" "I") (List.mem_of_getElem? (i := 5) rfl)) (fun _ h9 => h9) rfl dX7_demandInspector_7 ?_
  refine zi_if_ne (tgt := 24) hx hb dX7_demandInspector_10 (by decide) ⟨by omega, by omega⟩ (fun c_2 => ?_) (fun c_2 => ?_)
  · exfalso; omega
  · exact z_thrWN (cls := "java/util/NoSuchElementException") hx hb hst hown zXf_nose zXm_nose (hts (.classLink RX7 188 "java/util/NoSuchElementException") (List.mem_of_getElem? (i := 1) rfl)) (hts (.initialized "java/util/NoSuchElementException") (List.mem_of_getElem? (i := 2) rfl)) (show (369, "there is no inspector") ∈ zStrs by decide +kernel) hG hE (fun w h => hts w ((fun w h => List.mem_cons_of_mem _ (List.mem_append_right _ h)) w h)) zXn_nose zXg_nose hS (hl.1.trans hml.symm) dX7_demandInspector_13 dX7_demandInspector_16 dX7_demandInspector_17 dX7_demandInspector_20 dX7_demandInspector_23 ht (Nat.le_of_ble_eq_true rfl) (Nat.le_of_ble_eq_true rfl) (Nat.le_of_ble_eq_true rfl) (Nat.le_of_ble_eq_true rfl) hlocks (z_to (Eq.symm rfl) hP) (Nat.le_of_ble_eq_true rfl) (Nat.le_of_ble_eq_true rfl)
noncomputable def sp_X7_beltOf_ok (S0 : Nat → Nat → Int) (S1 : Nat → Nat → Int) (p0 : Int) (p1 : Int) : Int := zif (p0 = 0)
  (zif (p1 = 0)
    (S1 3 1)
    (zif (p1 = 1)
      (wBlanks (S1 4) (S1 3 1))
      (zif (p1 = 2)
        (S1 2 1)
        (zif (p1 = 3)
          (S1 2 2)
          (zif (p1 = 4)
            (S1 2 3)
            (zif (p1 = 5)
              (S1 2 4)
              (S1 2 5)))))))
  (zif (p0 = 1)
    (zif (p1 = 0)
      (S1 6 1)
      (zif (p1 = 1)
        (wBlanks (S1 7) (S1 6 1))
        (zif (p1 = 2)
          (S1 5 1)
          (zif (p1 = 3)
            (S1 5 2)
            (zif (p1 = 4)
              (S1 5 3)
              (zif (p1 = 5)
                (S1 5 4)
                (S1 5 5)))))))
    (zif (p1 = 0)
      (S1 9 1)
      (zif (p1 = 1)
        (wBlanks (S1 10) (S1 9 1))
        (zif (p1 = 2)
          (S1 8 1)
          (zif (p1 = 3)
            (S1 8 2)
            (zif (p1 = 4)
              (S1 8 3)
              (zif (p1 = 5)
                (S1 8 4)
                (S1 8 5))))))))
set_option maxHeartbeats 4000000 in
set_option maxRecDepth 100000 in
theorem c_X7_beltOf_ok (l : Launch) (D : va_G) (k : Nat → ClassId) (a0 : Nat → Nat) (S0 : Nat → Nat → Int) (S1 : Nat → Nat → Int) (p0 : Int) (p1 : Int) (hp : pOK S1) (h0 : -2147483648 ≤ p0 ∧ p0 < 2147483648) (h1 : -2147483648 ≤ p1 ∧ p1 < 2147483648) (hc : 0 ≤ p0 ∧ p0 < 3) (hw : 0 ≤ p1 ∧ p1 ≤ 6) : zMi l yX7_beltOf wsX7_beltOf ({ frames := 3, cells := 0, slots := 0, locals := 66 } : Room) D k [.ref (a0 0), .int (iI p0), .int (iI p1)] (wFac k a0 S0 ++ wPlant k (subA a0 1) S1) (sp_X7_beltOf_ok S0 S1 p0 p1) (wFac k a0 S0 ++ wPlant k (subA a0 1) S1) 0 0 := by
  refine zMi_of (cc := cX7_beltOf) (maxL := 4) (ret := (some .int)) (by decide) rfl (Nat.le_of_ble_eq_true rfl) ?_
  intro p e s m args below meth c A ls hx hb hr hml hown hts hlocks hK hP hD hG hA hS hl
  have hown : s.vm.findClass RX7 = some m.cls := hown
  have hl : lv_has ls 4 [(0, .ref (a0 0)), (1, .int (iI p0)), (2, .int (iI p1))] := hl
  obtain ⟨H, hH⟩ : ∃ z, z = s.heap := ⟨_, rfl⟩
  obtain ⟨locs, hlc⟩ : ∃ z : List Loc, z = [] := ⟨_, rfl⟩
  rw [← hH] at hP
  have hS : va_S A s.heap H locs := by rw [hH, hlc]; exact hS
  rw [← hlc, ← hH]
  clear hlc hH
  have kp := hp.2
  refine lv_aload_n hx hb dX7_beltOf_0 rfl (lv_at hl 0 rfl) ?_
  refine lv_iload_n hx hb dX7_beltOf_1 rfl (lv_at hl 1 rfl) ?_
  refine z_av0 (va_runV (As := [.int (iI p0)]) (rest := []) ⟨hx, hb, hml, hown, hts⟩ (c_X7_demandBelt_ok l D k a0 S0  p0 (by omega) (by omega) _) (cwV 1 hts gX7_beltOf_X7_demandBelt rfl rfl rfl (by decide +kernel) ⟨(Nat.le_of_ble_eq_true rfl), (Nat.le_of_ble_eq_true rfl)⟩) (z_preV hK hG hA hP hD hS [0] rfl (by decide) 9 rfl rfl) rfl rfl hl.1 rfl (lv_room (Nat.le_of_ble_eq_true rfl)) dX7_beltOf_2 ⟨(Nat.le_of_ble_eq_true rfl), (Nat.le_of_ble_eq_true rfl)⟩) hA hP hD hS [0] rfl (fun H locs hP hS => ?_)
  refine lv_iload_n hx hb dX7_beltOf_5 rfl (lv_at hl 2 rfl) ?_
  refine lv_bipush (v := iI 6) hx hb dX7_beltOf_6 (by decide) ?_
  refine z_av0 (va_runS (As := [.int (iI p1), .int (iI 6)]) (rest := []) ⟨hx, hb, hml, hown, hts⟩ (c_X7_demandWhat_ok l D k   p1 6 (by omega) (by omega) (by omega) _) (va_cwS 2 hts gX7_beltOf_X7_demandWhat rfl rfl rfl (by decide +kernel) ⟨(Nat.le_of_ble_eq_true rfl), (Nat.le_of_ble_eq_true rfl)⟩) (z_preS hK hG hA hP hD hS [] rfl (by decide)) rfl rfl hl.1 rfl (lv_room (Nat.le_of_ble_eq_true rfl)) dX7_beltOf_8 ⟨(Nat.le_of_ble_eq_true rfl), (Nat.le_of_ble_eq_true rfl)⟩) hA hP hD hS [] rfl (fun H locs hP hS => ?_)
  refine lv_aload_n hx hb dX7_beltOf_11 rfl (lv_at hl 0 rfl) ?_
  refine va_get (D := D) (ci := 9) (v := .ref ((subA a0 1) 0)) (C := RX7) (T := TX7) (N := 11) hx hb hts (fun w h => List.mem_cons_of_mem _ (List.mem_append_left _ (List.mem_append_left _ (List.mem_append_left _ (List.mem_append_left _ (List.mem_append_left _ (List.mem_append_left _ (List.mem_append_right _ h)))))))) hown hK hP 0 rfl rfl 0 (by decide) (hts (.fieldLink RX7 10 "MondayFactory" "plant" "LMondayFactory$Plant;") (List.mem_of_getElem? (i := 1) rfl)) (fun _ h9 => h9) rfl dX7_beltOf_12 ?_
  refine va_get (D := D) (ci := 7) (v := .ref ((subA a0 1) 1)) (C := RX5) (T := TX5) (N := 11) hx hb hts (fun w h => List.mem_cons_of_mem _ (List.mem_append_left _ (List.mem_append_left _ (List.mem_append_left _ (List.mem_append_left _ (List.mem_append_left _ (List.mem_append_right _ h))))))) hown hK hP 1 rfl rfl 0 (by decide) (hts (.fieldLink RX7 72 "MondayFactory$Plant" "belts" "[LMondayFactory$Belt;") (List.mem_of_getElem? (i := 2) rfl)) (fun _ h9 => h9) rfl dX7_beltOf_15 ?_
  refine lv_iload_n hx hb dX7_beltOf_18 rfl (lv_at hl 1 rfl) ?_
  by_cases x_1 : p0 = 0
  · refine z_eqi (z2 := 0) x_1 ?_
    refine z_aald hx hb hK hP 2 2 (f := fun j => some ((subA a0 1) (2 + 3 * j))) (q := (subA a0 1) 2) rfl rfl (i := 0) (by omega) (by omega) (by decide) rfl dX7_beltOf_19 ?_
    refine lv_astore_n (lv' := [(3, .ref ((subA a0 1) 2)), (0, .ref (a0 0)), (1, .int (iI p0)), (2, .int (iI p1))]) hx hb dX7_beltOf_20 rfl hl (by decide) rfl (fun ls hl => ?_)
    refine lv_iload_n hx hb dX7_beltOf_21 rfl (lv_at hl 3 rfl) ?_
    by_cases w_2 : p1 = 0
    · refine z_tabI hx hb dX7_beltOf_22 (x := p1) ⟨by omega, by omega⟩ (v := 0) w_2 (by decide) (by decide) (off := 38) (by decide) (tgt := 60) (by decide) ?_
      refine lv_aload_n hx hb dX7_beltOf_60 rfl (lv_at hl 0 rfl) ?_
      refine va_get (D := D) (ci := 2) (v := .ref ((subA a0 1) 3)) (C := RX0) (T := TX0) (N := 6) hx hb hts (fun w h => List.mem_cons_of_mem _ (List.mem_append_left _ (List.mem_append_left _ (List.mem_append_left _ (List.mem_append_left _ (List.mem_append_right _ h)))))) hown hK hP 3 rfl rfl 0 (by decide) (hts (.fieldLink RX7 76 "MondayFactory$Belt" "row" "LMondayFactory$Row;") (List.mem_of_getElem? (i := 3) rfl)) (fun _ h9 => h9) rfl dX7_beltOf_61 ?_
      have f_3 : -1000000000 ≤ S1 3 1 ∧ S1 3 1 ≤ 1000000000 := (pOK_b hp 3 (by decide)) 1
      refine va_get (D := D) (ci := 8) (v := .int (iI (S1 3 1))) (C := RX6) (T := TX6) (N := 2) hx hb hts (fun w h => List.mem_cons_of_mem _ (List.mem_append_left _ (List.mem_append_left _ (List.mem_append_left _ (List.mem_append_right _ h))))) hown hK hP 4 rfl rfl 1 (by decide) (hts (.fieldLink RX7 82 "MondayFactory$Row" "count" "I") (List.mem_of_getElem? (i := 4) rfl)) (fun _ h9 => h9) rfl dX7_beltOf_64 ?_
      exact z_iret hx hb hr hlocks hP hS dX7_beltOf_67 (Eq.trans (zif_pos x_1) (Eq.trans (zif_pos w_2) rfl)) rfl (Nat.le_refl _) (Nat.le_refl _)
    · by_cases w_4 : p1 = 1
      · refine z_tabI hx hb dX7_beltOf_22 (x := p1) ⟨by omega, by omega⟩ (v := 1) w_4 (by decide) (by decide) (off := 46) (by decide) (tgt := 68) (by decide) ?_
        refine lv_aload_n hx hb dX7_beltOf_68 rfl (lv_at hl 0 rfl) ?_
        refine z_ai0 (va_runV (As := []) (rest := []) ⟨hx, hb, hml, hown, hts⟩ (c_X0_blanks l D k (subA (subA a0 1) 2) (sub2 S1 2)   (pOK_b hp 4 (by decide)) (by have e0 : ((sub2 S1 2) 1 1) = S1 3 1 := rfl; omega) _) (cwV 0 hts gX7_beltOf_X0_blanks rfl rfl rfl (by decide +kernel) ⟨(Nat.le_of_ble_eq_true rfl), (Nat.le_of_ble_eq_true rfl)⟩) (z_preV hK hG hA hP hD hS [3, 4, 5] rfl (by decide) 2 rfl rfl) rfl rfl hl.1 rfl (lv_room (Nat.le_of_ble_eq_true rfl)) dX7_beltOf_69 ⟨(Nat.le_of_ble_eq_true rfl), (Nat.le_of_ble_eq_true rfl)⟩) hA hP hD hS [3, 4, 5] rfl (fun H locs hP hS => ?_)
        refine z_eqi (z2 := wBlanks (S1 4) (S1 3 1)) rfl ?_
        have f_5 : -1000000000 ≤ S1 3 1 ∧ S1 3 1 ≤ 1000000000 := (pOK_b hp 3 (by decide)) 1
        have q_6 : 0 ≤ wBlanks (S1 4) (S1 3 1) ∧ wBlanks (S1 4) (S1 3 1) ≤ S1 3 1 := wBlanks_bd (by have e0 : ((sub2 S1 2) 1 1) = S1 3 1 := rfl; omega)
        exact z_iret hx hb hr hlocks hP hS dX7_beltOf_72 (Eq.trans (zif_pos x_1) (Eq.trans (zif_neg w_2) (Eq.trans (zif_pos w_4) rfl))) rfl (Nat.le_refl _) (Nat.le_refl _)
      · by_cases w_7 : p1 = 2
        · refine z_tabI hx hb dX7_beltOf_22 (x := p1) ⟨by omega, by omega⟩ (v := 2) w_7 (by decide) (by decide) (off := 51) (by decide) (tgt := 73) (by decide) ?_
          refine lv_aload_n hx hb dX7_beltOf_73 rfl (lv_at hl 0 rfl) ?_
          have f_8 : -1000000000 ≤ S1 2 1 ∧ S1 2 1 ≤ 1000000000 := (pOK_b hp 2 (by decide)) 1
          refine va_get (D := D) (ci := 2) (v := .int (iI (S1 2 1))) (C := RX0) (T := TX0) (N := 6) hx hb hts (fun w h => List.mem_cons_of_mem _ (List.mem_append_left _ (List.mem_append_left _ (List.mem_append_left _ (List.mem_append_left _ (List.mem_append_right _ h)))))) hown hK hP 3 rfl rfl 1 (by decide) (hts (.fieldLink RX7 91 "MondayFactory$Belt" "least" "I") (List.mem_of_getElem? (i := 5) rfl)) (fun _ h9 => h9) rfl dX7_beltOf_74 ?_
          exact z_iret hx hb hr hlocks hP hS dX7_beltOf_77 (Eq.trans (zif_pos x_1) (Eq.trans (zif_neg w_2) (Eq.trans (zif_neg w_4) (Eq.trans (zif_pos w_7) rfl)))) rfl (Nat.le_refl _) (Nat.le_refl _)
        · by_cases w_9 : p1 = 3
          · refine z_tabI hx hb dX7_beltOf_22 (x := p1) ⟨by omega, by omega⟩ (v := 3) w_9 (by decide) (by decide) (off := 56) (by decide) (tgt := 78) (by decide) ?_
            refine lv_aload_n hx hb dX7_beltOf_78 rfl (lv_at hl 0 rfl) ?_
            have f_10 : -1000000000 ≤ S1 2 2 ∧ S1 2 2 ≤ 1000000000 := (pOK_b hp 2 (by decide)) 2
            refine va_get (D := D) (ci := 2) (v := .int (iI (S1 2 2))) (C := RX0) (T := TX0) (N := 6) hx hb hts (fun w h => List.mem_cons_of_mem _ (List.mem_append_left _ (List.mem_append_left _ (List.mem_append_left _ (List.mem_append_left _ (List.mem_append_right _ h)))))) hown hK hP 3 rfl rfl 2 (by decide) (hts (.fieldLink RX7 94 "MondayFactory$Belt" "latest" "I") (List.mem_of_getElem? (i := 6) rfl)) (fun _ h9 => h9) rfl dX7_beltOf_79 ?_
            exact z_iret hx hb hr hlocks hP hS dX7_beltOf_82 (Eq.trans (zif_pos x_1) (Eq.trans (zif_neg w_2) (Eq.trans (zif_neg w_4) (Eq.trans (zif_neg w_7) (Eq.trans (zif_pos w_9) rfl))))) rfl (Nat.le_refl _) (Nat.le_refl _)
          · by_cases w_11 : p1 = 4
            · refine z_tabI hx hb dX7_beltOf_22 (x := p1) ⟨by omega, by omega⟩ (v := 4) w_11 (by decide) (by decide) (off := 61) (by decide) (tgt := 83) (by decide) ?_
              refine lv_aload_n hx hb dX7_beltOf_83 rfl (lv_at hl 0 rfl) ?_
              have f_12 : -1000000000 ≤ S1 2 3 ∧ S1 2 3 ≤ 1000000000 := (pOK_b hp 2 (by decide)) 3
              refine va_get (D := D) (ci := 2) (v := .int (iI (S1 2 3))) (C := RX0) (T := TX0) (N := 6) hx hb hts (fun w h => List.mem_cons_of_mem _ (List.mem_append_left _ (List.mem_append_left _ (List.mem_append_left _ (List.mem_append_left _ (List.mem_append_right _ h)))))) hown hK hP 3 rfl rfl 3 (by decide) (hts (.fieldLink RX7 97 "MondayFactory$Belt" "last" "I") (List.mem_of_getElem? (i := 7) rfl)) (fun _ h9 => h9) rfl dX7_beltOf_84 ?_
              exact z_iret hx hb hr hlocks hP hS dX7_beltOf_87 (Eq.trans (zif_pos x_1) (Eq.trans (zif_neg w_2) (Eq.trans (zif_neg w_4) (Eq.trans (zif_neg w_7) (Eq.trans (zif_neg w_9) (Eq.trans (zif_pos w_11) rfl)))))) rfl (Nat.le_refl _) (Nat.le_refl _)
            · by_cases w_13 : p1 = 5
              · refine z_tabI hx hb dX7_beltOf_22 (x := p1) ⟨by omega, by omega⟩ (v := 5) w_13 (by decide) (by decide) (off := 66) (by decide) (tgt := 88) (by decide) ?_
                refine lv_aload_n hx hb dX7_beltOf_88 rfl (lv_at hl 0 rfl) ?_
                have f_14 : -1000000000 ≤ S1 2 4 ∧ S1 2 4 ≤ 1000000000 := (pOK_b hp 2 (by decide)) 4
                refine va_get (D := D) (ci := 2) (v := .int (iI (S1 2 4))) (C := RX0) (T := TX0) (N := 6) hx hb hts (fun w h => List.mem_cons_of_mem _ (List.mem_append_left _ (List.mem_append_left _ (List.mem_append_left _ (List.mem_append_left _ (List.mem_append_right _ h)))))) hown hK hP 3 rfl rfl 4 (by decide) (hts (.fieldLink RX7 100 "MondayFactory$Belt" "inspected" "I") (List.mem_of_getElem? (i := 8) rfl)) (fun _ h9 => h9) rfl dX7_beltOf_89 ?_
                exact z_iret hx hb hr hlocks hP hS dX7_beltOf_92 (Eq.trans (zif_pos x_1) (Eq.trans (zif_neg w_2) (Eq.trans (zif_neg w_4) (Eq.trans (zif_neg w_7) (Eq.trans (zif_neg w_9) (Eq.trans (zif_neg w_11) (Eq.trans (zif_pos w_13) rfl))))))) rfl (Nat.le_refl _) (Nat.le_refl _)
              · refine z_tabD hx hb dX7_beltOf_22 (x := p1) ⟨by omega, by omega⟩ (tgt := 93) (by decide) (by left; omega) ?_
                refine lv_aload_n hx hb dX7_beltOf_93 rfl (lv_at hl 0 rfl) ?_
                have f_15 : -1000000000 ≤ S1 2 5 ∧ S1 2 5 ≤ 1000000000 := (pOK_b hp 2 (by decide)) 5
                refine va_get (D := D) (ci := 2) (v := .int (iI (S1 2 5))) (C := RX0) (T := TX0) (N := 6) hx hb hts (fun w h => List.mem_cons_of_mem _ (List.mem_append_left _ (List.mem_append_left _ (List.mem_append_left _ (List.mem_append_left _ (List.mem_append_right _ h)))))) hown hK hP 3 rfl rfl 5 (by decide) (hts (.fieldLink RX7 103 "MondayFactory$Belt" "stamped" "I") (List.mem_of_getElem? (i := 9) rfl)) (fun _ h9 => h9) rfl dX7_beltOf_94 ?_
                exact z_iret hx hb hr hlocks hP hS dX7_beltOf_97 (Eq.trans (zif_pos x_1) (Eq.trans (zif_neg w_2) (Eq.trans (zif_neg w_4) (Eq.trans (zif_neg w_7) (Eq.trans (zif_neg w_9) (Eq.trans (zif_neg w_11) (Eq.trans (zif_neg w_13) rfl))))))) rfl (Nat.le_refl _) (Nat.le_refl _)
  · by_cases x_16 : p0 = 1
    · refine z_eqi (z2 := 1) x_16 ?_
      refine z_aald hx hb hK hP 2 2 (f := fun j => some ((subA a0 1) (2 + 3 * j))) (q := (subA a0 1) 5) rfl rfl (i := 1) (by omega) (by omega) (by decide) rfl dX7_beltOf_19 ?_
      refine lv_astore_n (lv' := [(3, .ref ((subA a0 1) 5)), (0, .ref (a0 0)), (1, .int (iI p0)), (2, .int (iI p1))]) hx hb dX7_beltOf_20 rfl hl (by decide) rfl (fun ls hl => ?_)
      refine lv_iload_n hx hb dX7_beltOf_21 rfl (lv_at hl 3 rfl) ?_
      by_cases w_17 : p1 = 0
      · refine z_tabI hx hb dX7_beltOf_22 (x := p1) ⟨by omega, by omega⟩ (v := 0) w_17 (by decide) (by decide) (off := 38) (by decide) (tgt := 60) (by decide) ?_
        refine lv_aload_n hx hb dX7_beltOf_60 rfl (lv_at hl 0 rfl) ?_
        refine va_get (D := D) (ci := 2) (v := .ref ((subA a0 1) 6)) (C := RX0) (T := TX0) (N := 6) hx hb hts (fun w h => List.mem_cons_of_mem _ (List.mem_append_left _ (List.mem_append_left _ (List.mem_append_left _ (List.mem_append_left _ (List.mem_append_right _ h)))))) hown hK hP 6 rfl rfl 0 (by decide) (hts (.fieldLink RX7 76 "MondayFactory$Belt" "row" "LMondayFactory$Row;") (List.mem_of_getElem? (i := 3) rfl)) (fun _ h9 => h9) rfl dX7_beltOf_61 ?_
        have f_18 : -1000000000 ≤ S1 6 1 ∧ S1 6 1 ≤ 1000000000 := (pOK_b hp 6 (by decide)) 1
        refine va_get (D := D) (ci := 8) (v := .int (iI (S1 6 1))) (C := RX6) (T := TX6) (N := 2) hx hb hts (fun w h => List.mem_cons_of_mem _ (List.mem_append_left _ (List.mem_append_left _ (List.mem_append_left _ (List.mem_append_right _ h))))) hown hK hP 7 rfl rfl 1 (by decide) (hts (.fieldLink RX7 82 "MondayFactory$Row" "count" "I") (List.mem_of_getElem? (i := 4) rfl)) (fun _ h9 => h9) rfl dX7_beltOf_64 ?_
        exact z_iret hx hb hr hlocks hP hS dX7_beltOf_67 (Eq.trans (zif_neg x_1) (Eq.trans (zif_pos x_16) (Eq.trans (zif_pos w_17) rfl))) rfl (Nat.le_refl _) (Nat.le_refl _)
      · by_cases w_19 : p1 = 1
        · refine z_tabI hx hb dX7_beltOf_22 (x := p1) ⟨by omega, by omega⟩ (v := 1) w_19 (by decide) (by decide) (off := 46) (by decide) (tgt := 68) (by decide) ?_
          refine lv_aload_n hx hb dX7_beltOf_68 rfl (lv_at hl 0 rfl) ?_
          refine z_ai0 (va_runV (As := []) (rest := []) ⟨hx, hb, hml, hown, hts⟩ (c_X0_blanks l D k (subA (subA a0 1) 5) (sub2 S1 5)   (pOK_b hp 7 (by decide)) (by have e0 : ((sub2 S1 5) 1 1) = S1 6 1 := rfl; omega) _) (cwV 0 hts gX7_beltOf_X0_blanks rfl rfl rfl (by decide +kernel) ⟨(Nat.le_of_ble_eq_true rfl), (Nat.le_of_ble_eq_true rfl)⟩) (z_preV hK hG hA hP hD hS [6, 7, 8] rfl (by decide) 2 rfl rfl) rfl rfl hl.1 rfl (lv_room (Nat.le_of_ble_eq_true rfl)) dX7_beltOf_69 ⟨(Nat.le_of_ble_eq_true rfl), (Nat.le_of_ble_eq_true rfl)⟩) hA hP hD hS [6, 7, 8] rfl (fun H locs hP hS => ?_)
          refine z_eqi (z2 := wBlanks (S1 7) (S1 6 1)) rfl ?_
          have f_20 : -1000000000 ≤ S1 6 1 ∧ S1 6 1 ≤ 1000000000 := (pOK_b hp 6 (by decide)) 1
          have q_21 : 0 ≤ wBlanks (S1 7) (S1 6 1) ∧ wBlanks (S1 7) (S1 6 1) ≤ S1 6 1 := wBlanks_bd (by have e0 : ((sub2 S1 5) 1 1) = S1 6 1 := rfl; omega)
          exact z_iret hx hb hr hlocks hP hS dX7_beltOf_72 (Eq.trans (zif_neg x_1) (Eq.trans (zif_pos x_16) (Eq.trans (zif_neg w_17) (Eq.trans (zif_pos w_19) rfl)))) rfl (Nat.le_refl _) (Nat.le_refl _)
        · by_cases w_22 : p1 = 2
          · refine z_tabI hx hb dX7_beltOf_22 (x := p1) ⟨by omega, by omega⟩ (v := 2) w_22 (by decide) (by decide) (off := 51) (by decide) (tgt := 73) (by decide) ?_
            refine lv_aload_n hx hb dX7_beltOf_73 rfl (lv_at hl 0 rfl) ?_
            have f_23 : -1000000000 ≤ S1 5 1 ∧ S1 5 1 ≤ 1000000000 := (pOK_b hp 5 (by decide)) 1
            refine va_get (D := D) (ci := 2) (v := .int (iI (S1 5 1))) (C := RX0) (T := TX0) (N := 6) hx hb hts (fun w h => List.mem_cons_of_mem _ (List.mem_append_left _ (List.mem_append_left _ (List.mem_append_left _ (List.mem_append_left _ (List.mem_append_right _ h)))))) hown hK hP 6 rfl rfl 1 (by decide) (hts (.fieldLink RX7 91 "MondayFactory$Belt" "least" "I") (List.mem_of_getElem? (i := 5) rfl)) (fun _ h9 => h9) rfl dX7_beltOf_74 ?_
            exact z_iret hx hb hr hlocks hP hS dX7_beltOf_77 (Eq.trans (zif_neg x_1) (Eq.trans (zif_pos x_16) (Eq.trans (zif_neg w_17) (Eq.trans (zif_neg w_19) (Eq.trans (zif_pos w_22) rfl))))) rfl (Nat.le_refl _) (Nat.le_refl _)
          · by_cases w_24 : p1 = 3
            · refine z_tabI hx hb dX7_beltOf_22 (x := p1) ⟨by omega, by omega⟩ (v := 3) w_24 (by decide) (by decide) (off := 56) (by decide) (tgt := 78) (by decide) ?_
              refine lv_aload_n hx hb dX7_beltOf_78 rfl (lv_at hl 0 rfl) ?_
              have f_25 : -1000000000 ≤ S1 5 2 ∧ S1 5 2 ≤ 1000000000 := (pOK_b hp 5 (by decide)) 2
              refine va_get (D := D) (ci := 2) (v := .int (iI (S1 5 2))) (C := RX0) (T := TX0) (N := 6) hx hb hts (fun w h => List.mem_cons_of_mem _ (List.mem_append_left _ (List.mem_append_left _ (List.mem_append_left _ (List.mem_append_left _ (List.mem_append_right _ h)))))) hown hK hP 6 rfl rfl 2 (by decide) (hts (.fieldLink RX7 94 "MondayFactory$Belt" "latest" "I") (List.mem_of_getElem? (i := 6) rfl)) (fun _ h9 => h9) rfl dX7_beltOf_79 ?_
              exact z_iret hx hb hr hlocks hP hS dX7_beltOf_82 (Eq.trans (zif_neg x_1) (Eq.trans (zif_pos x_16) (Eq.trans (zif_neg w_17) (Eq.trans (zif_neg w_19) (Eq.trans (zif_neg w_22) (Eq.trans (zif_pos w_24) rfl)))))) rfl (Nat.le_refl _) (Nat.le_refl _)
            · by_cases w_26 : p1 = 4
              · refine z_tabI hx hb dX7_beltOf_22 (x := p1) ⟨by omega, by omega⟩ (v := 4) w_26 (by decide) (by decide) (off := 61) (by decide) (tgt := 83) (by decide) ?_
                refine lv_aload_n hx hb dX7_beltOf_83 rfl (lv_at hl 0 rfl) ?_
                have f_27 : -1000000000 ≤ S1 5 3 ∧ S1 5 3 ≤ 1000000000 := (pOK_b hp 5 (by decide)) 3
                refine va_get (D := D) (ci := 2) (v := .int (iI (S1 5 3))) (C := RX0) (T := TX0) (N := 6) hx hb hts (fun w h => List.mem_cons_of_mem _ (List.mem_append_left _ (List.mem_append_left _ (List.mem_append_left _ (List.mem_append_left _ (List.mem_append_right _ h)))))) hown hK hP 6 rfl rfl 3 (by decide) (hts (.fieldLink RX7 97 "MondayFactory$Belt" "last" "I") (List.mem_of_getElem? (i := 7) rfl)) (fun _ h9 => h9) rfl dX7_beltOf_84 ?_
                exact z_iret hx hb hr hlocks hP hS dX7_beltOf_87 (Eq.trans (zif_neg x_1) (Eq.trans (zif_pos x_16) (Eq.trans (zif_neg w_17) (Eq.trans (zif_neg w_19) (Eq.trans (zif_neg w_22) (Eq.trans (zif_neg w_24) (Eq.trans (zif_pos w_26) rfl))))))) rfl (Nat.le_refl _) (Nat.le_refl _)
              · by_cases w_28 : p1 = 5
                · refine z_tabI hx hb dX7_beltOf_22 (x := p1) ⟨by omega, by omega⟩ (v := 5) w_28 (by decide) (by decide) (off := 66) (by decide) (tgt := 88) (by decide) ?_
                  refine lv_aload_n hx hb dX7_beltOf_88 rfl (lv_at hl 0 rfl) ?_
                  have f_29 : -1000000000 ≤ S1 5 4 ∧ S1 5 4 ≤ 1000000000 := (pOK_b hp 5 (by decide)) 4
                  refine va_get (D := D) (ci := 2) (v := .int (iI (S1 5 4))) (C := RX0) (T := TX0) (N := 6) hx hb hts (fun w h => List.mem_cons_of_mem _ (List.mem_append_left _ (List.mem_append_left _ (List.mem_append_left _ (List.mem_append_left _ (List.mem_append_right _ h)))))) hown hK hP 6 rfl rfl 4 (by decide) (hts (.fieldLink RX7 100 "MondayFactory$Belt" "inspected" "I") (List.mem_of_getElem? (i := 8) rfl)) (fun _ h9 => h9) rfl dX7_beltOf_89 ?_
                  exact z_iret hx hb hr hlocks hP hS dX7_beltOf_92 (Eq.trans (zif_neg x_1) (Eq.trans (zif_pos x_16) (Eq.trans (zif_neg w_17) (Eq.trans (zif_neg w_19) (Eq.trans (zif_neg w_22) (Eq.trans (zif_neg w_24) (Eq.trans (zif_neg w_26) (Eq.trans (zif_pos w_28) rfl)))))))) rfl (Nat.le_refl _) (Nat.le_refl _)
                · refine z_tabD hx hb dX7_beltOf_22 (x := p1) ⟨by omega, by omega⟩ (tgt := 93) (by decide) (by left; omega) ?_
                  refine lv_aload_n hx hb dX7_beltOf_93 rfl (lv_at hl 0 rfl) ?_
                  have f_30 : -1000000000 ≤ S1 5 5 ∧ S1 5 5 ≤ 1000000000 := (pOK_b hp 5 (by decide)) 5
                  refine va_get (D := D) (ci := 2) (v := .int (iI (S1 5 5))) (C := RX0) (T := TX0) (N := 6) hx hb hts (fun w h => List.mem_cons_of_mem _ (List.mem_append_left _ (List.mem_append_left _ (List.mem_append_left _ (List.mem_append_left _ (List.mem_append_right _ h)))))) hown hK hP 6 rfl rfl 5 (by decide) (hts (.fieldLink RX7 103 "MondayFactory$Belt" "stamped" "I") (List.mem_of_getElem? (i := 9) rfl)) (fun _ h9 => h9) rfl dX7_beltOf_94 ?_
                  exact z_iret hx hb hr hlocks hP hS dX7_beltOf_97 (Eq.trans (zif_neg x_1) (Eq.trans (zif_pos x_16) (Eq.trans (zif_neg w_17) (Eq.trans (zif_neg w_19) (Eq.trans (zif_neg w_22) (Eq.trans (zif_neg w_24) (Eq.trans (zif_neg w_26) (Eq.trans (zif_neg w_28) rfl)))))))) rfl (Nat.le_refl _) (Nat.le_refl _)
    · have x_31 : p0 = 2 := by omega
      refine z_eqi (z2 := 2) x_31 ?_
      refine z_aald hx hb hK hP 2 2 (f := fun j => some ((subA a0 1) (2 + 3 * j))) (q := (subA a0 1) 8) rfl rfl (i := 2) (by omega) (by omega) (by decide) rfl dX7_beltOf_19 ?_
      refine lv_astore_n (lv' := [(3, .ref ((subA a0 1) 8)), (0, .ref (a0 0)), (1, .int (iI p0)), (2, .int (iI p1))]) hx hb dX7_beltOf_20 rfl hl (by decide) rfl (fun ls hl => ?_)
      refine lv_iload_n hx hb dX7_beltOf_21 rfl (lv_at hl 3 rfl) ?_
      by_cases w_32 : p1 = 0
      · refine z_tabI hx hb dX7_beltOf_22 (x := p1) ⟨by omega, by omega⟩ (v := 0) w_32 (by decide) (by decide) (off := 38) (by decide) (tgt := 60) (by decide) ?_
        refine lv_aload_n hx hb dX7_beltOf_60 rfl (lv_at hl 0 rfl) ?_
        refine va_get (D := D) (ci := 2) (v := .ref ((subA a0 1) 9)) (C := RX0) (T := TX0) (N := 6) hx hb hts (fun w h => List.mem_cons_of_mem _ (List.mem_append_left _ (List.mem_append_left _ (List.mem_append_left _ (List.mem_append_left _ (List.mem_append_right _ h)))))) hown hK hP 9 rfl rfl 0 (by decide) (hts (.fieldLink RX7 76 "MondayFactory$Belt" "row" "LMondayFactory$Row;") (List.mem_of_getElem? (i := 3) rfl)) (fun _ h9 => h9) rfl dX7_beltOf_61 ?_
        have f_33 : -1000000000 ≤ S1 9 1 ∧ S1 9 1 ≤ 1000000000 := (pOK_b hp 9 (by decide)) 1
        refine va_get (D := D) (ci := 8) (v := .int (iI (S1 9 1))) (C := RX6) (T := TX6) (N := 2) hx hb hts (fun w h => List.mem_cons_of_mem _ (List.mem_append_left _ (List.mem_append_left _ (List.mem_append_left _ (List.mem_append_right _ h))))) hown hK hP 10 rfl rfl 1 (by decide) (hts (.fieldLink RX7 82 "MondayFactory$Row" "count" "I") (List.mem_of_getElem? (i := 4) rfl)) (fun _ h9 => h9) rfl dX7_beltOf_64 ?_
        exact z_iret hx hb hr hlocks hP hS dX7_beltOf_67 (Eq.trans (zif_neg x_1) (Eq.trans (zif_neg x_16) (Eq.trans (zif_pos w_32) rfl))) rfl (Nat.le_refl _) (Nat.le_refl _)
      · by_cases w_34 : p1 = 1
        · refine z_tabI hx hb dX7_beltOf_22 (x := p1) ⟨by omega, by omega⟩ (v := 1) w_34 (by decide) (by decide) (off := 46) (by decide) (tgt := 68) (by decide) ?_
          refine lv_aload_n hx hb dX7_beltOf_68 rfl (lv_at hl 0 rfl) ?_
          refine z_ai0 (va_runV (As := []) (rest := []) ⟨hx, hb, hml, hown, hts⟩ (c_X0_blanks l D k (subA (subA a0 1) 8) (sub2 S1 8)   (pOK_b hp 10 (by decide)) (by have e0 : ((sub2 S1 8) 1 1) = S1 9 1 := rfl; omega) _) (cwV 0 hts gX7_beltOf_X0_blanks rfl rfl rfl (by decide +kernel) ⟨(Nat.le_of_ble_eq_true rfl), (Nat.le_of_ble_eq_true rfl)⟩) (z_preV hK hG hA hP hD hS [9, 10, 11] rfl (by decide) 2 rfl rfl) rfl rfl hl.1 rfl (lv_room (Nat.le_of_ble_eq_true rfl)) dX7_beltOf_69 ⟨(Nat.le_of_ble_eq_true rfl), (Nat.le_of_ble_eq_true rfl)⟩) hA hP hD hS [9, 10, 11] rfl (fun H locs hP hS => ?_)
          refine z_eqi (z2 := wBlanks (S1 10) (S1 9 1)) rfl ?_
          have f_35 : -1000000000 ≤ S1 9 1 ∧ S1 9 1 ≤ 1000000000 := (pOK_b hp 9 (by decide)) 1
          have q_36 : 0 ≤ wBlanks (S1 10) (S1 9 1) ∧ wBlanks (S1 10) (S1 9 1) ≤ S1 9 1 := wBlanks_bd (by have e0 : ((sub2 S1 8) 1 1) = S1 9 1 := rfl; omega)
          exact z_iret hx hb hr hlocks hP hS dX7_beltOf_72 (Eq.trans (zif_neg x_1) (Eq.trans (zif_neg x_16) (Eq.trans (zif_neg w_32) (Eq.trans (zif_pos w_34) rfl)))) rfl (Nat.le_refl _) (Nat.le_refl _)
        · by_cases w_37 : p1 = 2
          · refine z_tabI hx hb dX7_beltOf_22 (x := p1) ⟨by omega, by omega⟩ (v := 2) w_37 (by decide) (by decide) (off := 51) (by decide) (tgt := 73) (by decide) ?_
            refine lv_aload_n hx hb dX7_beltOf_73 rfl (lv_at hl 0 rfl) ?_
            have f_38 : -1000000000 ≤ S1 8 1 ∧ S1 8 1 ≤ 1000000000 := (pOK_b hp 8 (by decide)) 1
            refine va_get (D := D) (ci := 2) (v := .int (iI (S1 8 1))) (C := RX0) (T := TX0) (N := 6) hx hb hts (fun w h => List.mem_cons_of_mem _ (List.mem_append_left _ (List.mem_append_left _ (List.mem_append_left _ (List.mem_append_left _ (List.mem_append_right _ h)))))) hown hK hP 9 rfl rfl 1 (by decide) (hts (.fieldLink RX7 91 "MondayFactory$Belt" "least" "I") (List.mem_of_getElem? (i := 5) rfl)) (fun _ h9 => h9) rfl dX7_beltOf_74 ?_
            exact z_iret hx hb hr hlocks hP hS dX7_beltOf_77 (Eq.trans (zif_neg x_1) (Eq.trans (zif_neg x_16) (Eq.trans (zif_neg w_32) (Eq.trans (zif_neg w_34) (Eq.trans (zif_pos w_37) rfl))))) rfl (Nat.le_refl _) (Nat.le_refl _)
          · by_cases w_39 : p1 = 3
            · refine z_tabI hx hb dX7_beltOf_22 (x := p1) ⟨by omega, by omega⟩ (v := 3) w_39 (by decide) (by decide) (off := 56) (by decide) (tgt := 78) (by decide) ?_
              refine lv_aload_n hx hb dX7_beltOf_78 rfl (lv_at hl 0 rfl) ?_
              have f_40 : -1000000000 ≤ S1 8 2 ∧ S1 8 2 ≤ 1000000000 := (pOK_b hp 8 (by decide)) 2
              refine va_get (D := D) (ci := 2) (v := .int (iI (S1 8 2))) (C := RX0) (T := TX0) (N := 6) hx hb hts (fun w h => List.mem_cons_of_mem _ (List.mem_append_left _ (List.mem_append_left _ (List.mem_append_left _ (List.mem_append_left _ (List.mem_append_right _ h)))))) hown hK hP 9 rfl rfl 2 (by decide) (hts (.fieldLink RX7 94 "MondayFactory$Belt" "latest" "I") (List.mem_of_getElem? (i := 6) rfl)) (fun _ h9 => h9) rfl dX7_beltOf_79 ?_
              exact z_iret hx hb hr hlocks hP hS dX7_beltOf_82 (Eq.trans (zif_neg x_1) (Eq.trans (zif_neg x_16) (Eq.trans (zif_neg w_32) (Eq.trans (zif_neg w_34) (Eq.trans (zif_neg w_37) (Eq.trans (zif_pos w_39) rfl)))))) rfl (Nat.le_refl _) (Nat.le_refl _)
            · by_cases w_41 : p1 = 4
              · refine z_tabI hx hb dX7_beltOf_22 (x := p1) ⟨by omega, by omega⟩ (v := 4) w_41 (by decide) (by decide) (off := 61) (by decide) (tgt := 83) (by decide) ?_
                refine lv_aload_n hx hb dX7_beltOf_83 rfl (lv_at hl 0 rfl) ?_
                have f_42 : -1000000000 ≤ S1 8 3 ∧ S1 8 3 ≤ 1000000000 := (pOK_b hp 8 (by decide)) 3
                refine va_get (D := D) (ci := 2) (v := .int (iI (S1 8 3))) (C := RX0) (T := TX0) (N := 6) hx hb hts (fun w h => List.mem_cons_of_mem _ (List.mem_append_left _ (List.mem_append_left _ (List.mem_append_left _ (List.mem_append_left _ (List.mem_append_right _ h)))))) hown hK hP 9 rfl rfl 3 (by decide) (hts (.fieldLink RX7 97 "MondayFactory$Belt" "last" "I") (List.mem_of_getElem? (i := 7) rfl)) (fun _ h9 => h9) rfl dX7_beltOf_84 ?_
                exact z_iret hx hb hr hlocks hP hS dX7_beltOf_87 (Eq.trans (zif_neg x_1) (Eq.trans (zif_neg x_16) (Eq.trans (zif_neg w_32) (Eq.trans (zif_neg w_34) (Eq.trans (zif_neg w_37) (Eq.trans (zif_neg w_39) (Eq.trans (zif_pos w_41) rfl))))))) rfl (Nat.le_refl _) (Nat.le_refl _)
              · by_cases w_43 : p1 = 5
                · refine z_tabI hx hb dX7_beltOf_22 (x := p1) ⟨by omega, by omega⟩ (v := 5) w_43 (by decide) (by decide) (off := 66) (by decide) (tgt := 88) (by decide) ?_
                  refine lv_aload_n hx hb dX7_beltOf_88 rfl (lv_at hl 0 rfl) ?_
                  have f_44 : -1000000000 ≤ S1 8 4 ∧ S1 8 4 ≤ 1000000000 := (pOK_b hp 8 (by decide)) 4
                  refine va_get (D := D) (ci := 2) (v := .int (iI (S1 8 4))) (C := RX0) (T := TX0) (N := 6) hx hb hts (fun w h => List.mem_cons_of_mem _ (List.mem_append_left _ (List.mem_append_left _ (List.mem_append_left _ (List.mem_append_left _ (List.mem_append_right _ h)))))) hown hK hP 9 rfl rfl 4 (by decide) (hts (.fieldLink RX7 100 "MondayFactory$Belt" "inspected" "I") (List.mem_of_getElem? (i := 8) rfl)) (fun _ h9 => h9) rfl dX7_beltOf_89 ?_
                  exact z_iret hx hb hr hlocks hP hS dX7_beltOf_92 (Eq.trans (zif_neg x_1) (Eq.trans (zif_neg x_16) (Eq.trans (zif_neg w_32) (Eq.trans (zif_neg w_34) (Eq.trans (zif_neg w_37) (Eq.trans (zif_neg w_39) (Eq.trans (zif_neg w_41) (Eq.trans (zif_pos w_43) rfl)))))))) rfl (Nat.le_refl _) (Nat.le_refl _)
                · refine z_tabD hx hb dX7_beltOf_22 (x := p1) ⟨by omega, by omega⟩ (tgt := 93) (by decide) (by left; omega) ?_
                  refine lv_aload_n hx hb dX7_beltOf_93 rfl (lv_at hl 0 rfl) ?_
                  have f_45 : -1000000000 ≤ S1 8 5 ∧ S1 8 5 ≤ 1000000000 := (pOK_b hp 8 (by decide)) 5
                  refine va_get (D := D) (ci := 2) (v := .int (iI (S1 8 5))) (C := RX0) (T := TX0) (N := 6) hx hb hts (fun w h => List.mem_cons_of_mem _ (List.mem_append_left _ (List.mem_append_left _ (List.mem_append_left _ (List.mem_append_left _ (List.mem_append_right _ h)))))) hown hK hP 9 rfl rfl 5 (by decide) (hts (.fieldLink RX7 103 "MondayFactory$Belt" "stamped" "I") (List.mem_of_getElem? (i := 9) rfl)) (fun _ h9 => h9) rfl dX7_beltOf_94 ?_
                  exact z_iret hx hb hr hlocks hP hS dX7_beltOf_97 (Eq.trans (zif_neg x_1) (Eq.trans (zif_neg x_16) (Eq.trans (zif_neg w_32) (Eq.trans (zif_neg w_34) (Eq.trans (zif_neg w_37) (Eq.trans (zif_neg w_39) (Eq.trans (zif_neg w_41) (Eq.trans (zif_neg w_43) rfl)))))))) rfl (Nat.le_refl _) (Nat.le_refl _)
set_option maxHeartbeats 4000000 in
set_option maxRecDepth 100000 in
theorem c_X7_beltOf_b (l : Launch) (hst : l.stackTraces = false) (D : va_G) (k : Nat → ClassId) (a0 : Nat → Nat) (S0 : Nat → Nat → Int) (S1 : Nat → Nat → Int) (p0 : Int) (p1 : Int) (hp : pOK S1) (h0 : -2147483648 ≤ p0 ∧ p0 < 2147483648) (hc : ¬ (0 ≤ p0 ∧ p0 < 3)) : zMx l yX7_beltOf wsX7_beltOf ({ frames := 7, cells := 1, slots := 6, locals := 103 } : Room) D k [.ref (a0 0), .int (iI p0), .int (iI p1)] (wFac k a0 S0 ++ wPlant k (subA a0 1) S1) "java/lang/IndexOutOfBoundsException" (wFac k a0 S0 ++ wPlant k (subA a0 1) S1) 1 6 := by
  refine zMx_of (cc := cX7_beltOf) (maxL := 4) (ret := (some .int)) (by decide) rfl (Nat.le_of_ble_eq_true rfl) ?_
  intro p e s m args below meth c A ls hx hb hr hml hown hts hlocks hK hP hD hG hE ht hA hS hl
  have hown : s.vm.findClass RX7 = some m.cls := hown
  have hl : lv_has ls 4 [(0, .ref (a0 0)), (1, .int (iI p0)), (2, .int (iI p1))] := hl
  obtain ⟨H, hH⟩ : ∃ z, z = s.heap := ⟨_, rfl⟩
  obtain ⟨locs, hlc⟩ : ∃ z : List Loc, z = [] := ⟨_, rfl⟩
  rw [← hH] at hP
  have hS : va_S A s.heap H locs := by rw [hH, hlc]; exact hS
  rw [← hlc, ← hH]
  clear hlc hH
  have kp := hp.2
  refine lv_aload_n hx hb dX7_beltOf_0 rfl (lv_at hl 0 rfl) ?_
  refine lv_iload_n hx hb dX7_beltOf_1 rfl (lv_at hl 1 rfl) ?_
  exact z_axo (vx_runV (As := [.int (iI p0)]) (rest := []) ⟨hx, hb, hml, hown, hts⟩ (c_X7_demandBelt_x l hst D k a0 S0  p0 (by omega) (by omega) _) (cwV 1 hts gX7_beltOf_X7_demandBelt rfl rfl rfl (by decide +kernel) ⟨(Nat.le_of_ble_eq_true rfl), (Nat.le_of_ble_eq_true rfl)⟩) (z_preVx hK hG hE hA hP hD hS [0] rfl (by decide) 9 rfl rfl) rfl rfl hl.1 rfl (lv_room (Nat.le_of_ble_eq_true rfl)) dX7_beltOf_2 ⟨(Nat.le_of_ble_eq_true rfl), (Nat.le_of_ble_eq_true rfl)⟩) hA hP hD hS [0] rfl rfl ht hlocks rfl (Nat.le_of_ble_eq_true rfl) (Nat.le_of_ble_eq_true rfl)
set_option maxHeartbeats 4000000 in
set_option maxRecDepth 100000 in
theorem c_X7_beltOf_w (l : Launch) (hst : l.stackTraces = false) (D : va_G) (k : Nat → ClassId) (a0 : Nat → Nat) (S0 : Nat → Nat → Int) (S1 : Nat → Nat → Int) (p0 : Int) (p1 : Int) (hp : pOK S1) (h0 : -2147483648 ≤ p0 ∧ p0 < 2147483648) (h1 : -2147483648 ≤ p1 ∧ p1 < 2147483648) (hc : 0 ≤ p0 ∧ p0 < 3) (hw : ¬ (0 ≤ p1 ∧ p1 ≤ 6)) : zMx l yX7_beltOf wsX7_beltOf ({ frames := 7, cells := 1, slots := 6, locals := 103 } : Room) D k [.ref (a0 0), .int (iI p0), .int (iI p1)] (wFac k a0 S0 ++ wPlant k (subA a0 1) S1) "java/lang/IllegalArgumentException" (wFac k a0 S0 ++ wPlant k (subA a0 1) S1) 1 6 := by
  refine zMx_of (cc := cX7_beltOf) (maxL := 4) (ret := (some .int)) (by decide) rfl (Nat.le_of_ble_eq_true rfl) ?_
  intro p e s m args below meth c A ls hx hb hr hml hown hts hlocks hK hP hD hG hE ht hA hS hl
  have hown : s.vm.findClass RX7 = some m.cls := hown
  have hl : lv_has ls 4 [(0, .ref (a0 0)), (1, .int (iI p0)), (2, .int (iI p1))] := hl
  obtain ⟨H, hH⟩ : ∃ z, z = s.heap := ⟨_, rfl⟩
  obtain ⟨locs, hlc⟩ : ∃ z : List Loc, z = [] := ⟨_, rfl⟩
  rw [← hH] at hP
  have hS : va_S A s.heap H locs := by rw [hH, hlc]; exact hS
  rw [← hlc, ← hH]
  clear hlc hH
  have kp := hp.2
  refine lv_aload_n hx hb dX7_beltOf_0 rfl (lv_at hl 0 rfl) ?_
  refine lv_iload_n hx hb dX7_beltOf_1 rfl (lv_at hl 1 rfl) ?_
  refine z_av0 (va_runV (As := [.int (iI p0)]) (rest := []) ⟨hx, hb, hml, hown, hts⟩ (c_X7_demandBelt_ok l D k a0 S0  p0 (by omega) (by omega) _) (cwV 1 hts gX7_beltOf_X7_demandBelt rfl rfl rfl (by decide +kernel) ⟨(Nat.le_of_ble_eq_true rfl), (Nat.le_of_ble_eq_true rfl)⟩) (z_preV hK hG hA hP hD hS [0] rfl (by decide) 9 rfl rfl) rfl rfl hl.1 rfl (lv_room (Nat.le_of_ble_eq_true rfl)) dX7_beltOf_2 ⟨(Nat.le_of_ble_eq_true rfl), (Nat.le_of_ble_eq_true rfl)⟩) hA hP hD hS [0] rfl (fun H locs hP hS => ?_)
  refine lv_iload_n hx hb dX7_beltOf_5 rfl (lv_at hl 2 rfl) ?_
  refine lv_bipush (v := iI 6) hx hb dX7_beltOf_6 (by decide) ?_
  exact z_axo (vx_runS (As := [.int (iI p1), .int (iI 6)]) (rest := []) ⟨hx, hb, hml, hown, hts⟩ (c_X7_demandWhat_x l hst D k   p1 6 (by omega) (by omega) (by omega) _) (va_cwS 2 hts gX7_beltOf_X7_demandWhat rfl rfl rfl (by decide +kernel) ⟨(Nat.le_of_ble_eq_true rfl), (Nat.le_of_ble_eq_true rfl)⟩) (z_preSx hK hG hE hA hP hD hS [] rfl (by decide)) rfl rfl hl.1 rfl (lv_room (Nat.le_of_ble_eq_true rfl)) dX7_beltOf_8 ⟨(Nat.le_of_ble_eq_true rfl), (Nat.le_of_ble_eq_true rfl)⟩) hA hP hD hS [] rfl rfl ht hlocks rfl (Nat.le_of_ble_eq_true rfl) (Nat.le_of_ble_eq_true rfl)
noncomputable def sp_X7_carrier_ok (S0 : Nat → Nat → Int) (S1 : Nat → Nat → Int) (p0 : Int) (p1 : Int) (p2 : Int) : Int := zif (p0 = 0)
  (zif (p2 = 0)
    (zif (wNum (S1 4) (S1 3 1) p1 0 = -1)
      (1)
      (0))
    (zif (p2 = 1)
      (wNum (S1 4) (S1 3 1) p1 0)
      (zif (p2 = 2)
        (wNum (S1 4) (S1 3 1) p1 1)
        (wNum (S1 4) (S1 3 1) p1 2))))
  (zif (p0 = 1)
    (zif (p2 = 0)
      (zif (wNum (S1 7) (S1 6 1) p1 0 = -1)
        (1)
        (0))
      (zif (p2 = 1)
        (wNum (S1 7) (S1 6 1) p1 0)
        (zif (p2 = 2)
          (wNum (S1 7) (S1 6 1) p1 1)
          (wNum (S1 7) (S1 6 1) p1 2))))
    (zif (p2 = 0)
      (zif (wNum (S1 10) (S1 9 1) p1 0 = -1)
        (1)
        (0))
      (zif (p2 = 1)
        (wNum (S1 10) (S1 9 1) p1 0)
        (zif (p2 = 2)
          (wNum (S1 10) (S1 9 1) p1 1)
          (wNum (S1 10) (S1 9 1) p1 2)))))
set_option maxHeartbeats 4000000 in
set_option maxRecDepth 100000 in
theorem c_X7_carrier_ok (l : Launch) (D : va_G) (k : Nat → ClassId) (a0 : Nat → Nat) (S0 : Nat → Nat → Int) (S1 : Nat → Nat → Int) (p0 : Int) (p1 : Int) (p2 : Int) (hp : pOK S1) (h0 : -2147483648 ≤ p0 ∧ p0 < 2147483648) (h1 : -2147483648 ≤ p1 ∧ p1 < 2147483648) (h2 : -2147483648 ≤ p2 ∧ p2 < 2147483648) (hc : 0 ≤ p1 ∧ ((p0 = 0 ∧ p1 < S1 3 1) ∨ (p0 = 1 ∧ p1 < S1 6 1) ∨ (p0 = 2 ∧ p1 < S1 9 1))) (hw : 0 ≤ p2 ∧ p2 ≤ 3) : zMi l yX7_carrier wsX7_carrier ({ frames := 2, cells := 0, slots := 0, locals := 44 } : Room) D k [.ref (a0 0), .int (iI p0), .int (iI p1), .int (iI p2)] (wFac k a0 S0 ++ wPlant k (subA a0 1) S1) (sp_X7_carrier_ok S0 S1 p0 p1 p2) (wFac k a0 S0 ++ wPlant k (subA a0 1) S1) 0 0 := by
  refine zMi_of (cc := cX7_carrier) (maxL := 5) (ret := (some .int)) (by decide) rfl (Nat.le_of_ble_eq_true rfl) ?_
  intro p e s m args below meth c A ls hx hb hr hml hown hts hlocks hK hP hD hG hA hS hl
  have hown : s.vm.findClass RX7 = some m.cls := hown
  have hl : lv_has ls 5 [(0, .ref (a0 0)), (1, .int (iI p0)), (2, .int (iI p1)), (3, .int (iI p2))] := hl
  obtain ⟨H, hH⟩ : ∃ z, z = s.heap := ⟨_, rfl⟩
  obtain ⟨locs, hlc⟩ : ∃ z : List Loc, z = [] := ⟨_, rfl⟩
  rw [← hH] at hP
  have hS : va_S A s.heap H locs := by rw [hH, hlc]; exact hS
  rw [← hlc, ← hH]
  clear hlc hH
  have kp := hp.2
  refine lv_aload_n hx hb dX7_carrier_0 rfl (lv_at hl 0 rfl) ?_
  refine lv_iload_n hx hb dX7_carrier_1 rfl (lv_at hl 1 rfl) ?_
  refine lv_iload_n hx hb dX7_carrier_2 rfl (lv_at hl 2 rfl) ?_
  refine z_av0 (va_runV (As := [.int (iI p0), .int (iI p1)]) (rest := []) ⟨hx, hb, hml, hown, hts⟩ (c_X7_demandPlace_ok l D k a0 S0 S1  p0 p1 hp (by omega) (by omega) (by omega) _) (cwV 2 hts gX7_carrier_X7_demandPlace rfl rfl rfl (by decide +kernel) ⟨(Nat.le_of_ble_eq_true rfl), (Nat.le_of_ble_eq_true rfl)⟩) (z_preV hK hG hA hP hD hS (zrg 0 1 ++ zrg 1 15) (z_mcat (z_hd (n := 1) rfl) (z_sk (n := 1) (off := 0) (m := 15) rfl (z_hdl (n := 15) rfl))) (by decide +kernel) 9 rfl rfl) rfl rfl hl.1 rfl (lv_room (Nat.le_of_ble_eq_true rfl)) dX7_carrier_3 ⟨(Nat.le_of_ble_eq_true rfl), (Nat.le_of_ble_eq_true rfl)⟩) hA hP hD hS (zrg 0 1 ++ zrg 1 15) (z_mcat (z_hd (n := 1) rfl) (z_sk (n := 1) (off := 0) (m := 15) rfl (z_hdl (n := 15) rfl))) (fun H locs hP hS => ?_)
  refine lv_iload_n hx hb dX7_carrier_6 rfl (lv_at hl 3 rfl) ?_
  refine lv_iconst (v := iI 3) hx hb dX7_carrier_7 rfl ?_
  refine z_av0 (va_runS (As := [.int (iI p2), .int (iI 3)]) (rest := []) ⟨hx, hb, hml, hown, hts⟩ (c_X7_demandWhat_ok l D k   p2 3 (by omega) (by omega) (by omega) _) (va_cwS 2 hts gX7_carrier_X7_demandWhat rfl rfl rfl (by decide +kernel) ⟨(Nat.le_of_ble_eq_true rfl), (Nat.le_of_ble_eq_true rfl)⟩) (z_preS hK hG hA hP hD hS [] rfl (by decide)) rfl rfl hl.1 rfl (lv_room (Nat.le_of_ble_eq_true rfl)) dX7_carrier_8 ⟨(Nat.le_of_ble_eq_true rfl), (Nat.le_of_ble_eq_true rfl)⟩) hA hP hD hS [] rfl (fun H locs hP hS => ?_)
  refine lv_aload_n hx hb dX7_carrier_11 rfl (lv_at hl 0 rfl) ?_
  refine va_get (D := D) (ci := 9) (v := .ref ((subA a0 1) 0)) (C := RX7) (T := TX7) (N := 11) hx hb hts (fun w h => List.mem_cons_of_mem _ (List.mem_append_left _ (List.mem_append_left _ (List.mem_append_left _ (List.mem_append_left _ (List.mem_append_left _ (List.mem_append_left _ (List.mem_append_right _ h)))))))) hown hK hP 0 rfl rfl 0 (by decide) (hts (.fieldLink RX7 10 "MondayFactory" "plant" "LMondayFactory$Plant;") (List.mem_of_getElem? (i := 1) rfl)) (fun _ h9 => h9) rfl dX7_carrier_12 ?_
  refine va_get (D := D) (ci := 7) (v := .ref ((subA a0 1) 1)) (C := RX5) (T := TX5) (N := 11) hx hb hts (fun w h => List.mem_cons_of_mem _ (List.mem_append_left _ (List.mem_append_left _ (List.mem_append_left _ (List.mem_append_left _ (List.mem_append_left _ (List.mem_append_right _ h))))))) hown hK hP 1 rfl rfl 0 (by decide) (hts (.fieldLink RX7 72 "MondayFactory$Plant" "belts" "[LMondayFactory$Belt;") (List.mem_of_getElem? (i := 2) rfl)) (fun _ h9 => h9) rfl dX7_carrier_15 ?_
  refine lv_iload_n hx hb dX7_carrier_18 rfl (lv_at hl 1 rfl) ?_
  by_cases x_1 : p0 = 0
  · refine z_eqi (z2 := 0) x_1 ?_
    refine z_aald hx hb hK hP 2 2 (f := fun j => some ((subA a0 1) (2 + 3 * j))) (q := (subA a0 1) 2) rfl rfl (i := 0) (by omega) (by omega) (by decide) rfl dX7_carrier_19 ?_
    refine va_get (D := D) (ci := 2) (v := .ref ((subA a0 1) 3)) (C := RX0) (T := TX0) (N := 6) hx hb hts (fun w h => List.mem_cons_of_mem _ (List.mem_append_left _ (List.mem_append_left _ (List.mem_append_left _ (List.mem_append_left _ (List.mem_append_right _ h)))))) hown hK hP 3 rfl rfl 0 (by decide) (hts (.fieldLink RX7 76 "MondayFactory$Belt" "row" "LMondayFactory$Row;") (List.mem_of_getElem? (i := 3) rfl)) (fun _ h9 => h9) rfl dX7_carrier_20 ?_
    refine lv_astore (lv' := [(4, .ref ((subA a0 1) 3)), (0, .ref (a0 0)), (1, .int (iI p0)), (2, .int (iI p1)), (3, .int (iI p2))]) hx hb dX7_carrier_23 hl (by decide) rfl (fun ls hl => ?_)
    refine lv_iload_n hx hb dX7_carrier_25 rfl (lv_at hl 4 rfl) ?_
    by_cases w_2 : p2 = 0
    · refine z_tabI hx hb dX7_carrier_26 (x := p2) ⟨by omega, by omega⟩ (v := 0) w_2 (by decide) (by decide) (off := 26) (by decide) (tgt := 52) (by decide) ?_
      refine lv_aload hx hb dX7_carrier_52 (lv_at hl 0 rfl) ?_
      refine lv_iload_n hx hb dX7_carrier_54 rfl (lv_at hl 3 rfl) ?_
      refine z_ai0 (va_runV (As := [.int (iI p1)]) (rest := []) ⟨hx, hb, hml, hown, hts⟩ (c_X6_isBlank l D k (subA (subA a0 1) 3) (sub2 S1 3)  p1 (pOK_b hp 4 (by decide)) (by have e0 : ((sub2 S1 3) 0 1) = S1 3 1 := rfl; omega) (by omega) _) (cwV 1 hts gX7_carrier_X6_isBlank rfl rfl rfl (by decide +kernel) ⟨(Nat.le_of_ble_eq_true rfl), (Nat.le_of_ble_eq_true rfl)⟩) (z_preV hK hG hA hP hD hS [4, 5] rfl (by decide) 8 rfl rfl) rfl rfl hl.1 rfl (lv_room (Nat.le_of_ble_eq_true rfl)) dX7_carrier_55 ⟨(Nat.le_of_ble_eq_true rfl), (Nat.le_of_ble_eq_true rfl)⟩) hA hP hD hS [4, 5] rfl (fun H locs hP hS => ?_)
      refine z_eqi (z2 := zb (wNum (S1 4) (S1 3 1) p1 0 = -1)) rfl ?_
      have f_3 : -1000000000 ≤ S1 3 1 ∧ S1 3 1 ≤ 1000000000 := (pOK_b hp 3 (by decide)) 1
      refine zi_if_eqB (tgt := 65) hx hb dX7_carrier_58 (by decide) (fun c_4 => ?_) (fun c_4 => ?_)
      · refine lv_iconst (v := iI 0) hx hb dX7_carrier_65 rfl ?_
        exact z_iret hx hb hr hlocks hP hS dX7_carrier_66 (Eq.trans (zif_pos x_1) (Eq.trans (zif_pos w_2) (Eq.trans (zif_neg c_4) rfl))) rfl (Nat.le_refl _) (Nat.le_refl _)
      · refine lv_iconst (v := iI 1) hx hb dX7_carrier_61 rfl ?_
        refine lv_goto (tgt := 66) hx hb dX7_carrier_62 (by decide) ?_
        exact z_iret hx hb hr hlocks hP hS dX7_carrier_66 (Eq.trans (zif_pos x_1) (Eq.trans (zif_pos w_2) (Eq.trans (zif_pos c_4) rfl))) rfl (Nat.le_refl _) (Nat.le_refl _)
    · by_cases w_5 : p2 = 1
      · refine z_tabI hx hb dX7_carrier_26 (x := p2) ⟨by omega, by omega⟩ (v := 1) w_5 (by decide) (by decide) (off := 41) (by decide) (tgt := 67) (by decide) ?_
        refine lv_aload hx hb dX7_carrier_67 (lv_at hl 0 rfl) ?_
        refine lv_iload_n hx hb dX7_carrier_69 rfl (lv_at hl 3 rfl) ?_
        refine lv_iconst (v := iI 0) hx hb dX7_carrier_70 rfl ?_
        refine z_ai0 (va_runV (As := [.int (iI p1), .int (iI 0)]) (rest := []) ⟨hx, hb, hml, hown, hts⟩ (c_X6_number l D k (subA (subA a0 1) 3) (sub2 S1 3)  p1 0 (pOK_b hp 4 (by decide)) (by have e0 : ((sub2 S1 3) 0 1) = S1 3 1 := rfl; omega) (by omega) (by omega) _) (cwV 2 hts gX7_carrier_X6_number rfl rfl rfl (by decide +kernel) ⟨(Nat.le_of_ble_eq_true rfl), (Nat.le_of_ble_eq_true rfl)⟩) (z_preV hK hG hA hP hD hS [4, 5] rfl (by decide) 8 rfl rfl) rfl rfl hl.1 rfl (lv_room (Nat.le_of_ble_eq_true rfl)) dX7_carrier_71 ⟨(Nat.le_of_ble_eq_true rfl), (Nat.le_of_ble_eq_true rfl)⟩) hA hP hD hS [4, 5] rfl (fun H locs hP hS => ?_)
        refine z_eqi (z2 := wNum (S1 4) (S1 3 1) p1 0) rfl ?_
        have f_6 : -1000000000 ≤ S1 3 1 ∧ S1 3 1 ≤ 1000000000 := (pOK_b hp 3 (by decide)) 1
        have q_7 : -1000000000 ≤ wNum (S1 4) (S1 3 1) p1 0 ∧ wNum (S1 4) (S1 3 1) p1 0 ≤ 1000000000 := wNum_bd (pOK_b hp 4 (by decide))
        exact z_iret hx hb hr hlocks hP hS dX7_carrier_74 (Eq.trans (zif_pos x_1) (Eq.trans (zif_neg w_2) (Eq.trans (zif_pos w_5) rfl))) rfl (Nat.le_refl _) (Nat.le_refl _)
      · by_cases w_8 : p2 = 2
        · refine z_tabI hx hb dX7_carrier_26 (x := p2) ⟨by omega, by omega⟩ (v := 2) w_8 (by decide) (by decide) (off := 49) (by decide) (tgt := 75) (by decide) ?_
          refine lv_aload hx hb dX7_carrier_75 (lv_at hl 0 rfl) ?_
          refine lv_iload_n hx hb dX7_carrier_77 rfl (lv_at hl 3 rfl) ?_
          refine lv_iconst (v := iI 1) hx hb dX7_carrier_78 rfl ?_
          refine z_ai0 (va_runV (As := [.int (iI p1), .int (iI 1)]) (rest := []) ⟨hx, hb, hml, hown, hts⟩ (c_X6_number l D k (subA (subA a0 1) 3) (sub2 S1 3)  p1 1 (pOK_b hp 4 (by decide)) (by have e0 : ((sub2 S1 3) 0 1) = S1 3 1 := rfl; omega) (by omega) (by omega) _) (cwV 2 hts gX7_carrier_X6_number rfl rfl rfl (by decide +kernel) ⟨(Nat.le_of_ble_eq_true rfl), (Nat.le_of_ble_eq_true rfl)⟩) (z_preV hK hG hA hP hD hS [4, 5] rfl (by decide) 8 rfl rfl) rfl rfl hl.1 rfl (lv_room (Nat.le_of_ble_eq_true rfl)) dX7_carrier_79 ⟨(Nat.le_of_ble_eq_true rfl), (Nat.le_of_ble_eq_true rfl)⟩) hA hP hD hS [4, 5] rfl (fun H locs hP hS => ?_)
          refine z_eqi (z2 := wNum (S1 4) (S1 3 1) p1 1) rfl ?_
          have f_9 : -1000000000 ≤ S1 3 1 ∧ S1 3 1 ≤ 1000000000 := (pOK_b hp 3 (by decide)) 1
          have q_10 : -1000000000 ≤ wNum (S1 4) (S1 3 1) p1 1 ∧ wNum (S1 4) (S1 3 1) p1 1 ≤ 1000000000 := wNum_bd (pOK_b hp 4 (by decide))
          exact z_iret hx hb hr hlocks hP hS dX7_carrier_82 (Eq.trans (zif_pos x_1) (Eq.trans (zif_neg w_2) (Eq.trans (zif_neg w_5) (Eq.trans (zif_pos w_8) rfl)))) rfl (Nat.le_refl _) (Nat.le_refl _)
        · refine z_tabD hx hb dX7_carrier_26 (x := p2) ⟨by omega, by omega⟩ (tgt := 83) (by decide) (by left; omega) ?_
          refine lv_aload hx hb dX7_carrier_83 (lv_at hl 0 rfl) ?_
          refine lv_iload_n hx hb dX7_carrier_85 rfl (lv_at hl 3 rfl) ?_
          refine lv_iconst (v := iI 2) hx hb dX7_carrier_86 rfl ?_
          refine z_ai0 (va_runV (As := [.int (iI p1), .int (iI 2)]) (rest := []) ⟨hx, hb, hml, hown, hts⟩ (c_X6_number l D k (subA (subA a0 1) 3) (sub2 S1 3)  p1 2 (pOK_b hp 4 (by decide)) (by have e0 : ((sub2 S1 3) 0 1) = S1 3 1 := rfl; omega) (by omega) (by omega) _) (cwV 2 hts gX7_carrier_X6_number rfl rfl rfl (by decide +kernel) ⟨(Nat.le_of_ble_eq_true rfl), (Nat.le_of_ble_eq_true rfl)⟩) (z_preV hK hG hA hP hD hS [4, 5] rfl (by decide) 8 rfl rfl) rfl rfl hl.1 rfl (lv_room (Nat.le_of_ble_eq_true rfl)) dX7_carrier_87 ⟨(Nat.le_of_ble_eq_true rfl), (Nat.le_of_ble_eq_true rfl)⟩) hA hP hD hS [4, 5] rfl (fun H locs hP hS => ?_)
          refine z_eqi (z2 := wNum (S1 4) (S1 3 1) p1 2) rfl ?_
          have f_11 : -1000000000 ≤ S1 3 1 ∧ S1 3 1 ≤ 1000000000 := (pOK_b hp 3 (by decide)) 1
          have q_12 : -1000000000 ≤ wNum (S1 4) (S1 3 1) p1 2 ∧ wNum (S1 4) (S1 3 1) p1 2 ≤ 1000000000 := wNum_bd (pOK_b hp 4 (by decide))
          exact z_iret hx hb hr hlocks hP hS dX7_carrier_90 (Eq.trans (zif_pos x_1) (Eq.trans (zif_neg w_2) (Eq.trans (zif_neg w_5) (Eq.trans (zif_neg w_8) rfl)))) rfl (Nat.le_refl _) (Nat.le_refl _)
  · by_cases x_13 : p0 = 1
    · refine z_eqi (z2 := 1) x_13 ?_
      refine z_aald hx hb hK hP 2 2 (f := fun j => some ((subA a0 1) (2 + 3 * j))) (q := (subA a0 1) 5) rfl rfl (i := 1) (by omega) (by omega) (by decide) rfl dX7_carrier_19 ?_
      refine va_get (D := D) (ci := 2) (v := .ref ((subA a0 1) 6)) (C := RX0) (T := TX0) (N := 6) hx hb hts (fun w h => List.mem_cons_of_mem _ (List.mem_append_left _ (List.mem_append_left _ (List.mem_append_left _ (List.mem_append_left _ (List.mem_append_right _ h)))))) hown hK hP 6 rfl rfl 0 (by decide) (hts (.fieldLink RX7 76 "MondayFactory$Belt" "row" "LMondayFactory$Row;") (List.mem_of_getElem? (i := 3) rfl)) (fun _ h9 => h9) rfl dX7_carrier_20 ?_
      refine lv_astore (lv' := [(4, .ref ((subA a0 1) 6)), (0, .ref (a0 0)), (1, .int (iI p0)), (2, .int (iI p1)), (3, .int (iI p2))]) hx hb dX7_carrier_23 hl (by decide) rfl (fun ls hl => ?_)
      refine lv_iload_n hx hb dX7_carrier_25 rfl (lv_at hl 4 rfl) ?_
      by_cases w_14 : p2 = 0
      · refine z_tabI hx hb dX7_carrier_26 (x := p2) ⟨by omega, by omega⟩ (v := 0) w_14 (by decide) (by decide) (off := 26) (by decide) (tgt := 52) (by decide) ?_
        refine lv_aload hx hb dX7_carrier_52 (lv_at hl 0 rfl) ?_
        refine lv_iload_n hx hb dX7_carrier_54 rfl (lv_at hl 3 rfl) ?_
        refine z_ai0 (va_runV (As := [.int (iI p1)]) (rest := []) ⟨hx, hb, hml, hown, hts⟩ (c_X6_isBlank l D k (subA (subA a0 1) 6) (sub2 S1 6)  p1 (pOK_b hp 7 (by decide)) (by have e0 : ((sub2 S1 6) 0 1) = S1 6 1 := rfl; omega) (by omega) _) (cwV 1 hts gX7_carrier_X6_isBlank rfl rfl rfl (by decide +kernel) ⟨(Nat.le_of_ble_eq_true rfl), (Nat.le_of_ble_eq_true rfl)⟩) (z_preV hK hG hA hP hD hS [7, 8] rfl (by decide) 8 rfl rfl) rfl rfl hl.1 rfl (lv_room (Nat.le_of_ble_eq_true rfl)) dX7_carrier_55 ⟨(Nat.le_of_ble_eq_true rfl), (Nat.le_of_ble_eq_true rfl)⟩) hA hP hD hS [7, 8] rfl (fun H locs hP hS => ?_)
        refine z_eqi (z2 := zb (wNum (S1 7) (S1 6 1) p1 0 = -1)) rfl ?_
        have f_15 : -1000000000 ≤ S1 6 1 ∧ S1 6 1 ≤ 1000000000 := (pOK_b hp 6 (by decide)) 1
        refine zi_if_eqB (tgt := 65) hx hb dX7_carrier_58 (by decide) (fun c_16 => ?_) (fun c_16 => ?_)
        · refine lv_iconst (v := iI 0) hx hb dX7_carrier_65 rfl ?_
          exact z_iret hx hb hr hlocks hP hS dX7_carrier_66 (Eq.trans (zif_neg x_1) (Eq.trans (zif_pos x_13) (Eq.trans (zif_pos w_14) (Eq.trans (zif_neg c_16) rfl)))) rfl (Nat.le_refl _) (Nat.le_refl _)
        · refine lv_iconst (v := iI 1) hx hb dX7_carrier_61 rfl ?_
          refine lv_goto (tgt := 66) hx hb dX7_carrier_62 (by decide) ?_
          exact z_iret hx hb hr hlocks hP hS dX7_carrier_66 (Eq.trans (zif_neg x_1) (Eq.trans (zif_pos x_13) (Eq.trans (zif_pos w_14) (Eq.trans (zif_pos c_16) rfl)))) rfl (Nat.le_refl _) (Nat.le_refl _)
      · by_cases w_17 : p2 = 1
        · refine z_tabI hx hb dX7_carrier_26 (x := p2) ⟨by omega, by omega⟩ (v := 1) w_17 (by decide) (by decide) (off := 41) (by decide) (tgt := 67) (by decide) ?_
          refine lv_aload hx hb dX7_carrier_67 (lv_at hl 0 rfl) ?_
          refine lv_iload_n hx hb dX7_carrier_69 rfl (lv_at hl 3 rfl) ?_
          refine lv_iconst (v := iI 0) hx hb dX7_carrier_70 rfl ?_
          refine z_ai0 (va_runV (As := [.int (iI p1), .int (iI 0)]) (rest := []) ⟨hx, hb, hml, hown, hts⟩ (c_X6_number l D k (subA (subA a0 1) 6) (sub2 S1 6)  p1 0 (pOK_b hp 7 (by decide)) (by have e0 : ((sub2 S1 6) 0 1) = S1 6 1 := rfl; omega) (by omega) (by omega) _) (cwV 2 hts gX7_carrier_X6_number rfl rfl rfl (by decide +kernel) ⟨(Nat.le_of_ble_eq_true rfl), (Nat.le_of_ble_eq_true rfl)⟩) (z_preV hK hG hA hP hD hS [7, 8] rfl (by decide) 8 rfl rfl) rfl rfl hl.1 rfl (lv_room (Nat.le_of_ble_eq_true rfl)) dX7_carrier_71 ⟨(Nat.le_of_ble_eq_true rfl), (Nat.le_of_ble_eq_true rfl)⟩) hA hP hD hS [7, 8] rfl (fun H locs hP hS => ?_)
          refine z_eqi (z2 := wNum (S1 7) (S1 6 1) p1 0) rfl ?_
          have f_18 : -1000000000 ≤ S1 6 1 ∧ S1 6 1 ≤ 1000000000 := (pOK_b hp 6 (by decide)) 1
          have q_19 : -1000000000 ≤ wNum (S1 7) (S1 6 1) p1 0 ∧ wNum (S1 7) (S1 6 1) p1 0 ≤ 1000000000 := wNum_bd (pOK_b hp 7 (by decide))
          exact z_iret hx hb hr hlocks hP hS dX7_carrier_74 (Eq.trans (zif_neg x_1) (Eq.trans (zif_pos x_13) (Eq.trans (zif_neg w_14) (Eq.trans (zif_pos w_17) rfl)))) rfl (Nat.le_refl _) (Nat.le_refl _)
        · by_cases w_20 : p2 = 2
          · refine z_tabI hx hb dX7_carrier_26 (x := p2) ⟨by omega, by omega⟩ (v := 2) w_20 (by decide) (by decide) (off := 49) (by decide) (tgt := 75) (by decide) ?_
            refine lv_aload hx hb dX7_carrier_75 (lv_at hl 0 rfl) ?_
            refine lv_iload_n hx hb dX7_carrier_77 rfl (lv_at hl 3 rfl) ?_
            refine lv_iconst (v := iI 1) hx hb dX7_carrier_78 rfl ?_
            refine z_ai0 (va_runV (As := [.int (iI p1), .int (iI 1)]) (rest := []) ⟨hx, hb, hml, hown, hts⟩ (c_X6_number l D k (subA (subA a0 1) 6) (sub2 S1 6)  p1 1 (pOK_b hp 7 (by decide)) (by have e0 : ((sub2 S1 6) 0 1) = S1 6 1 := rfl; omega) (by omega) (by omega) _) (cwV 2 hts gX7_carrier_X6_number rfl rfl rfl (by decide +kernel) ⟨(Nat.le_of_ble_eq_true rfl), (Nat.le_of_ble_eq_true rfl)⟩) (z_preV hK hG hA hP hD hS [7, 8] rfl (by decide) 8 rfl rfl) rfl rfl hl.1 rfl (lv_room (Nat.le_of_ble_eq_true rfl)) dX7_carrier_79 ⟨(Nat.le_of_ble_eq_true rfl), (Nat.le_of_ble_eq_true rfl)⟩) hA hP hD hS [7, 8] rfl (fun H locs hP hS => ?_)
            refine z_eqi (z2 := wNum (S1 7) (S1 6 1) p1 1) rfl ?_
            have f_21 : -1000000000 ≤ S1 6 1 ∧ S1 6 1 ≤ 1000000000 := (pOK_b hp 6 (by decide)) 1
            have q_22 : -1000000000 ≤ wNum (S1 7) (S1 6 1) p1 1 ∧ wNum (S1 7) (S1 6 1) p1 1 ≤ 1000000000 := wNum_bd (pOK_b hp 7 (by decide))
            exact z_iret hx hb hr hlocks hP hS dX7_carrier_82 (Eq.trans (zif_neg x_1) (Eq.trans (zif_pos x_13) (Eq.trans (zif_neg w_14) (Eq.trans (zif_neg w_17) (Eq.trans (zif_pos w_20) rfl))))) rfl (Nat.le_refl _) (Nat.le_refl _)
          · refine z_tabD hx hb dX7_carrier_26 (x := p2) ⟨by omega, by omega⟩ (tgt := 83) (by decide) (by left; omega) ?_
            refine lv_aload hx hb dX7_carrier_83 (lv_at hl 0 rfl) ?_
            refine lv_iload_n hx hb dX7_carrier_85 rfl (lv_at hl 3 rfl) ?_
            refine lv_iconst (v := iI 2) hx hb dX7_carrier_86 rfl ?_
            refine z_ai0 (va_runV (As := [.int (iI p1), .int (iI 2)]) (rest := []) ⟨hx, hb, hml, hown, hts⟩ (c_X6_number l D k (subA (subA a0 1) 6) (sub2 S1 6)  p1 2 (pOK_b hp 7 (by decide)) (by have e0 : ((sub2 S1 6) 0 1) = S1 6 1 := rfl; omega) (by omega) (by omega) _) (cwV 2 hts gX7_carrier_X6_number rfl rfl rfl (by decide +kernel) ⟨(Nat.le_of_ble_eq_true rfl), (Nat.le_of_ble_eq_true rfl)⟩) (z_preV hK hG hA hP hD hS [7, 8] rfl (by decide) 8 rfl rfl) rfl rfl hl.1 rfl (lv_room (Nat.le_of_ble_eq_true rfl)) dX7_carrier_87 ⟨(Nat.le_of_ble_eq_true rfl), (Nat.le_of_ble_eq_true rfl)⟩) hA hP hD hS [7, 8] rfl (fun H locs hP hS => ?_)
            refine z_eqi (z2 := wNum (S1 7) (S1 6 1) p1 2) rfl ?_
            have f_23 : -1000000000 ≤ S1 6 1 ∧ S1 6 1 ≤ 1000000000 := (pOK_b hp 6 (by decide)) 1
            have q_24 : -1000000000 ≤ wNum (S1 7) (S1 6 1) p1 2 ∧ wNum (S1 7) (S1 6 1) p1 2 ≤ 1000000000 := wNum_bd (pOK_b hp 7 (by decide))
            exact z_iret hx hb hr hlocks hP hS dX7_carrier_90 (Eq.trans (zif_neg x_1) (Eq.trans (zif_pos x_13) (Eq.trans (zif_neg w_14) (Eq.trans (zif_neg w_17) (Eq.trans (zif_neg w_20) rfl))))) rfl (Nat.le_refl _) (Nat.le_refl _)
    · have x_25 : p0 = 2 := by omega
      refine z_eqi (z2 := 2) x_25 ?_
      refine z_aald hx hb hK hP 2 2 (f := fun j => some ((subA a0 1) (2 + 3 * j))) (q := (subA a0 1) 8) rfl rfl (i := 2) (by omega) (by omega) (by decide) rfl dX7_carrier_19 ?_
      refine va_get (D := D) (ci := 2) (v := .ref ((subA a0 1) 9)) (C := RX0) (T := TX0) (N := 6) hx hb hts (fun w h => List.mem_cons_of_mem _ (List.mem_append_left _ (List.mem_append_left _ (List.mem_append_left _ (List.mem_append_left _ (List.mem_append_right _ h)))))) hown hK hP 9 rfl rfl 0 (by decide) (hts (.fieldLink RX7 76 "MondayFactory$Belt" "row" "LMondayFactory$Row;") (List.mem_of_getElem? (i := 3) rfl)) (fun _ h9 => h9) rfl dX7_carrier_20 ?_
      refine lv_astore (lv' := [(4, .ref ((subA a0 1) 9)), (0, .ref (a0 0)), (1, .int (iI p0)), (2, .int (iI p1)), (3, .int (iI p2))]) hx hb dX7_carrier_23 hl (by decide) rfl (fun ls hl => ?_)
      refine lv_iload_n hx hb dX7_carrier_25 rfl (lv_at hl 4 rfl) ?_
      by_cases w_26 : p2 = 0
      · refine z_tabI hx hb dX7_carrier_26 (x := p2) ⟨by omega, by omega⟩ (v := 0) w_26 (by decide) (by decide) (off := 26) (by decide) (tgt := 52) (by decide) ?_
        refine lv_aload hx hb dX7_carrier_52 (lv_at hl 0 rfl) ?_
        refine lv_iload_n hx hb dX7_carrier_54 rfl (lv_at hl 3 rfl) ?_
        refine z_ai0 (va_runV (As := [.int (iI p1)]) (rest := []) ⟨hx, hb, hml, hown, hts⟩ (c_X6_isBlank l D k (subA (subA a0 1) 9) (sub2 S1 9)  p1 (pOK_b hp 10 (by decide)) (by have e0 : ((sub2 S1 9) 0 1) = S1 9 1 := rfl; omega) (by omega) _) (cwV 1 hts gX7_carrier_X6_isBlank rfl rfl rfl (by decide +kernel) ⟨(Nat.le_of_ble_eq_true rfl), (Nat.le_of_ble_eq_true rfl)⟩) (z_preV hK hG hA hP hD hS [10, 11] rfl (by decide) 8 rfl rfl) rfl rfl hl.1 rfl (lv_room (Nat.le_of_ble_eq_true rfl)) dX7_carrier_55 ⟨(Nat.le_of_ble_eq_true rfl), (Nat.le_of_ble_eq_true rfl)⟩) hA hP hD hS [10, 11] rfl (fun H locs hP hS => ?_)
        refine z_eqi (z2 := zb (wNum (S1 10) (S1 9 1) p1 0 = -1)) rfl ?_
        have f_27 : -1000000000 ≤ S1 9 1 ∧ S1 9 1 ≤ 1000000000 := (pOK_b hp 9 (by decide)) 1
        refine zi_if_eqB (tgt := 65) hx hb dX7_carrier_58 (by decide) (fun c_28 => ?_) (fun c_28 => ?_)
        · refine lv_iconst (v := iI 0) hx hb dX7_carrier_65 rfl ?_
          exact z_iret hx hb hr hlocks hP hS dX7_carrier_66 (Eq.trans (zif_neg x_1) (Eq.trans (zif_neg x_13) (Eq.trans (zif_pos w_26) (Eq.trans (zif_neg c_28) rfl)))) rfl (Nat.le_refl _) (Nat.le_refl _)
        · refine lv_iconst (v := iI 1) hx hb dX7_carrier_61 rfl ?_
          refine lv_goto (tgt := 66) hx hb dX7_carrier_62 (by decide) ?_
          exact z_iret hx hb hr hlocks hP hS dX7_carrier_66 (Eq.trans (zif_neg x_1) (Eq.trans (zif_neg x_13) (Eq.trans (zif_pos w_26) (Eq.trans (zif_pos c_28) rfl)))) rfl (Nat.le_refl _) (Nat.le_refl _)
      · by_cases w_29 : p2 = 1
        · refine z_tabI hx hb dX7_carrier_26 (x := p2) ⟨by omega, by omega⟩ (v := 1) w_29 (by decide) (by decide) (off := 41) (by decide) (tgt := 67) (by decide) ?_
          refine lv_aload hx hb dX7_carrier_67 (lv_at hl 0 rfl) ?_
          refine lv_iload_n hx hb dX7_carrier_69 rfl (lv_at hl 3 rfl) ?_
          refine lv_iconst (v := iI 0) hx hb dX7_carrier_70 rfl ?_
          refine z_ai0 (va_runV (As := [.int (iI p1), .int (iI 0)]) (rest := []) ⟨hx, hb, hml, hown, hts⟩ (c_X6_number l D k (subA (subA a0 1) 9) (sub2 S1 9)  p1 0 (pOK_b hp 10 (by decide)) (by have e0 : ((sub2 S1 9) 0 1) = S1 9 1 := rfl; omega) (by omega) (by omega) _) (cwV 2 hts gX7_carrier_X6_number rfl rfl rfl (by decide +kernel) ⟨(Nat.le_of_ble_eq_true rfl), (Nat.le_of_ble_eq_true rfl)⟩) (z_preV hK hG hA hP hD hS [10, 11] rfl (by decide) 8 rfl rfl) rfl rfl hl.1 rfl (lv_room (Nat.le_of_ble_eq_true rfl)) dX7_carrier_71 ⟨(Nat.le_of_ble_eq_true rfl), (Nat.le_of_ble_eq_true rfl)⟩) hA hP hD hS [10, 11] rfl (fun H locs hP hS => ?_)
          refine z_eqi (z2 := wNum (S1 10) (S1 9 1) p1 0) rfl ?_
          have f_30 : -1000000000 ≤ S1 9 1 ∧ S1 9 1 ≤ 1000000000 := (pOK_b hp 9 (by decide)) 1
          have q_31 : -1000000000 ≤ wNum (S1 10) (S1 9 1) p1 0 ∧ wNum (S1 10) (S1 9 1) p1 0 ≤ 1000000000 := wNum_bd (pOK_b hp 10 (by decide))
          exact z_iret hx hb hr hlocks hP hS dX7_carrier_74 (Eq.trans (zif_neg x_1) (Eq.trans (zif_neg x_13) (Eq.trans (zif_neg w_26) (Eq.trans (zif_pos w_29) rfl)))) rfl (Nat.le_refl _) (Nat.le_refl _)
        · by_cases w_32 : p2 = 2
          · refine z_tabI hx hb dX7_carrier_26 (x := p2) ⟨by omega, by omega⟩ (v := 2) w_32 (by decide) (by decide) (off := 49) (by decide) (tgt := 75) (by decide) ?_
            refine lv_aload hx hb dX7_carrier_75 (lv_at hl 0 rfl) ?_
            refine lv_iload_n hx hb dX7_carrier_77 rfl (lv_at hl 3 rfl) ?_
            refine lv_iconst (v := iI 1) hx hb dX7_carrier_78 rfl ?_
            refine z_ai0 (va_runV (As := [.int (iI p1), .int (iI 1)]) (rest := []) ⟨hx, hb, hml, hown, hts⟩ (c_X6_number l D k (subA (subA a0 1) 9) (sub2 S1 9)  p1 1 (pOK_b hp 10 (by decide)) (by have e0 : ((sub2 S1 9) 0 1) = S1 9 1 := rfl; omega) (by omega) (by omega) _) (cwV 2 hts gX7_carrier_X6_number rfl rfl rfl (by decide +kernel) ⟨(Nat.le_of_ble_eq_true rfl), (Nat.le_of_ble_eq_true rfl)⟩) (z_preV hK hG hA hP hD hS [10, 11] rfl (by decide) 8 rfl rfl) rfl rfl hl.1 rfl (lv_room (Nat.le_of_ble_eq_true rfl)) dX7_carrier_79 ⟨(Nat.le_of_ble_eq_true rfl), (Nat.le_of_ble_eq_true rfl)⟩) hA hP hD hS [10, 11] rfl (fun H locs hP hS => ?_)
            refine z_eqi (z2 := wNum (S1 10) (S1 9 1) p1 1) rfl ?_
            have f_33 : -1000000000 ≤ S1 9 1 ∧ S1 9 1 ≤ 1000000000 := (pOK_b hp 9 (by decide)) 1
            have q_34 : -1000000000 ≤ wNum (S1 10) (S1 9 1) p1 1 ∧ wNum (S1 10) (S1 9 1) p1 1 ≤ 1000000000 := wNum_bd (pOK_b hp 10 (by decide))
            exact z_iret hx hb hr hlocks hP hS dX7_carrier_82 (Eq.trans (zif_neg x_1) (Eq.trans (zif_neg x_13) (Eq.trans (zif_neg w_26) (Eq.trans (zif_neg w_29) (Eq.trans (zif_pos w_32) rfl))))) rfl (Nat.le_refl _) (Nat.le_refl _)
          · refine z_tabD hx hb dX7_carrier_26 (x := p2) ⟨by omega, by omega⟩ (tgt := 83) (by decide) (by left; omega) ?_
            refine lv_aload hx hb dX7_carrier_83 (lv_at hl 0 rfl) ?_
            refine lv_iload_n hx hb dX7_carrier_85 rfl (lv_at hl 3 rfl) ?_
            refine lv_iconst (v := iI 2) hx hb dX7_carrier_86 rfl ?_
            refine z_ai0 (va_runV (As := [.int (iI p1), .int (iI 2)]) (rest := []) ⟨hx, hb, hml, hown, hts⟩ (c_X6_number l D k (subA (subA a0 1) 9) (sub2 S1 9)  p1 2 (pOK_b hp 10 (by decide)) (by have e0 : ((sub2 S1 9) 0 1) = S1 9 1 := rfl; omega) (by omega) (by omega) _) (cwV 2 hts gX7_carrier_X6_number rfl rfl rfl (by decide +kernel) ⟨(Nat.le_of_ble_eq_true rfl), (Nat.le_of_ble_eq_true rfl)⟩) (z_preV hK hG hA hP hD hS [10, 11] rfl (by decide) 8 rfl rfl) rfl rfl hl.1 rfl (lv_room (Nat.le_of_ble_eq_true rfl)) dX7_carrier_87 ⟨(Nat.le_of_ble_eq_true rfl), (Nat.le_of_ble_eq_true rfl)⟩) hA hP hD hS [10, 11] rfl (fun H locs hP hS => ?_)
            refine z_eqi (z2 := wNum (S1 10) (S1 9 1) p1 2) rfl ?_
            have f_35 : -1000000000 ≤ S1 9 1 ∧ S1 9 1 ≤ 1000000000 := (pOK_b hp 9 (by decide)) 1
            have q_36 : -1000000000 ≤ wNum (S1 10) (S1 9 1) p1 2 ∧ wNum (S1 10) (S1 9 1) p1 2 ≤ 1000000000 := wNum_bd (pOK_b hp 10 (by decide))
            exact z_iret hx hb hr hlocks hP hS dX7_carrier_90 (Eq.trans (zif_neg x_1) (Eq.trans (zif_neg x_13) (Eq.trans (zif_neg w_26) (Eq.trans (zif_neg w_29) (Eq.trans (zif_neg w_32) rfl))))) rfl (Nat.le_refl _) (Nat.le_refl _)
set_option maxHeartbeats 4000000 in
set_option maxRecDepth 100000 in
theorem c_X7_carrier_b (l : Launch) (hst : l.stackTraces = false) (D : va_G) (k : Nat → ClassId) (a0 : Nat → Nat) (S0 : Nat → Nat → Int) (S1 : Nat → Nat → Int) (p0 : Int) (p1 : Int) (p2 : Int) (hp : pOK S1) (h0 : -2147483648 ≤ p0 ∧ p0 < 2147483648) (h1 : -2147483648 ≤ p1 ∧ p1 < 2147483648) (hc : ¬ (0 ≤ p1 ∧ ((p0 = 0 ∧ p1 < S1 3 1) ∨ (p0 = 1 ∧ p1 < S1 6 1) ∨ (p0 = 2 ∧ p1 < S1 9 1)))) : zMx l yX7_carrier wsX7_carrier ({ frames := 7, cells := 1, slots := 6, locals := 104 } : Room) D k [.ref (a0 0), .int (iI p0), .int (iI p1), .int (iI p2)] (wFac k a0 S0 ++ wPlant k (subA a0 1) S1) "java/lang/IndexOutOfBoundsException" (wFac k a0 S0 ++ wPlant k (subA a0 1) S1) 1 6 := by
  refine zMx_of (cc := cX7_carrier) (maxL := 5) (ret := (some .int)) (by decide) rfl (Nat.le_of_ble_eq_true rfl) ?_
  intro p e s m args below meth c A ls hx hb hr hml hown hts hlocks hK hP hD hG hE ht hA hS hl
  have hown : s.vm.findClass RX7 = some m.cls := hown
  have hl : lv_has ls 5 [(0, .ref (a0 0)), (1, .int (iI p0)), (2, .int (iI p1)), (3, .int (iI p2))] := hl
  obtain ⟨H, hH⟩ : ∃ z, z = s.heap := ⟨_, rfl⟩
  obtain ⟨locs, hlc⟩ : ∃ z : List Loc, z = [] := ⟨_, rfl⟩
  rw [← hH] at hP
  have hS : va_S A s.heap H locs := by rw [hH, hlc]; exact hS
  rw [← hlc, ← hH]
  clear hlc hH
  have kp := hp.2
  refine lv_aload_n hx hb dX7_carrier_0 rfl (lv_at hl 0 rfl) ?_
  refine lv_iload_n hx hb dX7_carrier_1 rfl (lv_at hl 1 rfl) ?_
  refine lv_iload_n hx hb dX7_carrier_2 rfl (lv_at hl 2 rfl) ?_
  exact z_axo (vx_runV (As := [.int (iI p0), .int (iI p1)]) (rest := []) ⟨hx, hb, hml, hown, hts⟩ (c_X7_demandPlace_x l hst D k a0 S0 S1  p0 p1 hp (by omega) (by omega) (by omega) _) (cwV 2 hts gX7_carrier_X7_demandPlace rfl rfl rfl (by decide +kernel) ⟨(Nat.le_of_ble_eq_true rfl), (Nat.le_of_ble_eq_true rfl)⟩) (z_preVx hK hG hE hA hP hD hS (zrg 0 1 ++ zrg 1 15) (z_mcat (z_hd (n := 1) rfl) (z_sk (n := 1) (off := 0) (m := 15) rfl (z_hdl (n := 15) rfl))) (by decide +kernel) 9 rfl rfl) rfl rfl hl.1 rfl (lv_room (Nat.le_of_ble_eq_true rfl)) dX7_carrier_3 ⟨(Nat.le_of_ble_eq_true rfl), (Nat.le_of_ble_eq_true rfl)⟩) hA hP hD hS (zrg 0 1 ++ zrg 1 15) (z_mcat (z_hd (n := 1) rfl) (z_sk (n := 1) (off := 0) (m := 15) rfl (z_hdl (n := 15) rfl))) (z_mfst rfl rfl) ht hlocks (Eq.trans rfl (Eq.symm (zset_same (z_mcat (z_hd (n := 1) rfl) (z_sk (n := 1) (off := 0) (m := 15) rfl (z_hdl (n := 15) rfl)))))) (Nat.le_of_ble_eq_true rfl) (Nat.le_of_ble_eq_true rfl)
set_option maxHeartbeats 4000000 in
set_option maxRecDepth 100000 in
theorem c_X7_carrier_w (l : Launch) (hst : l.stackTraces = false) (D : va_G) (k : Nat → ClassId) (a0 : Nat → Nat) (S0 : Nat → Nat → Int) (S1 : Nat → Nat → Int) (p0 : Int) (p1 : Int) (p2 : Int) (hp : pOK S1) (h0 : -2147483648 ≤ p0 ∧ p0 < 2147483648) (h1 : -2147483648 ≤ p1 ∧ p1 < 2147483648) (h2 : -2147483648 ≤ p2 ∧ p2 < 2147483648) (hc : 0 ≤ p1 ∧ ((p0 = 0 ∧ p1 < S1 3 1) ∨ (p0 = 1 ∧ p1 < S1 6 1) ∨ (p0 = 2 ∧ p1 < S1 9 1))) (hw : ¬ (0 ≤ p2 ∧ p2 ≤ 3)) : zMx l yX7_carrier wsX7_carrier ({ frames := 7, cells := 1, slots := 6, locals := 103 } : Room) D k [.ref (a0 0), .int (iI p0), .int (iI p1), .int (iI p2)] (wFac k a0 S0 ++ wPlant k (subA a0 1) S1) "java/lang/IllegalArgumentException" (wFac k a0 S0 ++ wPlant k (subA a0 1) S1) 1 6 := by
  refine zMx_of (cc := cX7_carrier) (maxL := 5) (ret := (some .int)) (by decide) rfl (Nat.le_of_ble_eq_true rfl) ?_
  intro p e s m args below meth c A ls hx hb hr hml hown hts hlocks hK hP hD hG hE ht hA hS hl
  have hown : s.vm.findClass RX7 = some m.cls := hown
  have hl : lv_has ls 5 [(0, .ref (a0 0)), (1, .int (iI p0)), (2, .int (iI p1)), (3, .int (iI p2))] := hl
  obtain ⟨H, hH⟩ : ∃ z, z = s.heap := ⟨_, rfl⟩
  obtain ⟨locs, hlc⟩ : ∃ z : List Loc, z = [] := ⟨_, rfl⟩
  rw [← hH] at hP
  have hS : va_S A s.heap H locs := by rw [hH, hlc]; exact hS
  rw [← hlc, ← hH]
  clear hlc hH
  have kp := hp.2
  refine lv_aload_n hx hb dX7_carrier_0 rfl (lv_at hl 0 rfl) ?_
  refine lv_iload_n hx hb dX7_carrier_1 rfl (lv_at hl 1 rfl) ?_
  refine lv_iload_n hx hb dX7_carrier_2 rfl (lv_at hl 2 rfl) ?_
  refine z_av0 (va_runV (As := [.int (iI p0), .int (iI p1)]) (rest := []) ⟨hx, hb, hml, hown, hts⟩ (c_X7_demandPlace_ok l D k a0 S0 S1  p0 p1 hp (by omega) (by omega) (by omega) _) (cwV 2 hts gX7_carrier_X7_demandPlace rfl rfl rfl (by decide +kernel) ⟨(Nat.le_of_ble_eq_true rfl), (Nat.le_of_ble_eq_true rfl)⟩) (z_preV hK hG hA hP hD hS (zrg 0 1 ++ zrg 1 15) (z_mcat (z_hd (n := 1) rfl) (z_sk (n := 1) (off := 0) (m := 15) rfl (z_hdl (n := 15) rfl))) (by decide +kernel) 9 rfl rfl) rfl rfl hl.1 rfl (lv_room (Nat.le_of_ble_eq_true rfl)) dX7_carrier_3 ⟨(Nat.le_of_ble_eq_true rfl), (Nat.le_of_ble_eq_true rfl)⟩) hA hP hD hS (zrg 0 1 ++ zrg 1 15) (z_mcat (z_hd (n := 1) rfl) (z_sk (n := 1) (off := 0) (m := 15) rfl (z_hdl (n := 15) rfl))) (fun H locs hP hS => ?_)
  refine lv_iload_n hx hb dX7_carrier_6 rfl (lv_at hl 3 rfl) ?_
  refine lv_iconst (v := iI 3) hx hb dX7_carrier_7 rfl ?_
  exact z_axo (vx_runS (As := [.int (iI p2), .int (iI 3)]) (rest := []) ⟨hx, hb, hml, hown, hts⟩ (c_X7_demandWhat_x l hst D k   p2 3 (by omega) (by omega) (by omega) _) (va_cwS 2 hts gX7_carrier_X7_demandWhat rfl rfl rfl (by decide +kernel) ⟨(Nat.le_of_ble_eq_true rfl), (Nat.le_of_ble_eq_true rfl)⟩) (z_preSx hK hG hE hA hP hD hS [] rfl (by decide)) rfl rfl hl.1 rfl (lv_room (Nat.le_of_ble_eq_true rfl)) dX7_carrier_8 ⟨(Nat.le_of_ble_eq_true rfl), (Nat.le_of_ble_eq_true rfl)⟩) hA hP hD hS [] rfl rfl ht hlocks rfl (Nat.le_of_ble_eq_true rfl) (Nat.le_of_ble_eq_true rfl)
set_option maxHeartbeats 4000000 in
set_option maxRecDepth 100000 in
theorem c_X7_yawns_ok (l : Launch) (D : va_G) (k : Nat → ClassId) (a0 : Nat → Nat) (S0 : Nat → Nat → Int) (S1 : Nat → Nat → Int) (p0 : Int) (hp : pOK S1) (h0 : -2147483648 ≤ p0 ∧ p0 < 2147483648) (hc : 0 ≤ p0 ∧ p0 < S1 13 1) : zMi l yX7_yawns wsX7_yawns ({ frames := 2, cells := 0, slots := 0, locals := 42 } : Room) D k [.ref (a0 0), .int (iI p0)] (wFac k a0 S0 ++ wPlant k (subA a0 1) S1) (wYaw (S1 14) (S1 13 1) p0) (wFac k a0 S0 ++ wPlant k (subA a0 1) S1) 0 0 := by
  refine zMi_of (cc := cX7_yawns) (maxL := 2) (ret := (some .int)) (by decide) rfl (Nat.le_of_ble_eq_true rfl) ?_
  intro p e s m args below meth c A ls hx hb hr hml hown hts hlocks hK hP hD hG hA hS hl
  have hown : s.vm.findClass RX7 = some m.cls := hown
  have hl : lv_has ls 2 [(0, .ref (a0 0)), (1, .int (iI p0))] := hl
  obtain ⟨H, hH⟩ : ∃ z, z = s.heap := ⟨_, rfl⟩
  obtain ⟨locs, hlc⟩ : ∃ z : List Loc, z = [] := ⟨_, rfl⟩
  rw [← hH] at hP
  have hS : va_S A s.heap H locs := by rw [hH, hlc]; exact hS
  rw [← hlc, ← hH]
  clear hlc hH
  have kp := hp.2
  refine lv_aload_n hx hb dX7_yawns_0 rfl (lv_at hl 0 rfl) ?_
  refine va_get (D := D) (ci := 9) (v := .ref ((subA a0 1) 0)) (C := RX7) (T := TX7) (N := 11) hx hb hts (fun w h => List.mem_cons_of_mem _ (List.mem_append_left _ (List.mem_append_left _ (List.mem_append_left _ (List.mem_append_left _ (List.mem_append_right _ h)))))) hown hK hP 0 rfl rfl 0 (by decide) (hts (.fieldLink RX7 10 "MondayFactory" "plant" "LMondayFactory$Plant;") (List.mem_of_getElem? (i := 3) rfl)) (fun _ h9 => h9) rfl dX7_yawns_1 ?_
  refine va_get (D := D) (ci := 7) (v := .ref ((subA a0 1) 13)) (C := RX5) (T := TX5) (N := 11) hx hb hts (fun w h => List.mem_cons_of_mem _ (List.mem_append_left _ (List.mem_append_left _ (List.mem_append_left _ (List.mem_append_right _ h))))) hown hK hP 1 rfl rfl 2 (by decide) (hts (.fieldLink RX7 117 "MondayFactory$Plant" "crew" "LMondayFactory$Crew;") (List.mem_of_getElem? (i := 4) rfl)) (fun _ h9 => h9) rfl dX7_yawns_4 ?_
  refine lv_iload_n hx hb dX7_yawns_7 rfl (lv_at hl 1 rfl) ?_
  refine z_ai0 (va_runV (As := [.int (iI p0)]) (rest := []) ⟨hx, hb, hml, hown, hts⟩ (c_X1_has l D k (subA (subA a0 1) 13) (sub2 S1 13)  p0 (by have e0 : ((sub2 S1 13) 0 1) = S1 13 1 := rfl; omega) (by omega) _) (cwV 1 hts gX7_yawns_X1_has rfl rfl rfl (by decide +kernel) ⟨(Nat.le_of_ble_eq_true rfl), (Nat.le_of_ble_eq_true rfl)⟩) (z_preV hK hG hA hP hD hS [14, 15] rfl (by decide) 3 rfl rfl) rfl rfl hl.1 rfl (lv_room (Nat.le_of_ble_eq_true rfl)) dX7_yawns_8 ⟨(Nat.le_of_ble_eq_true rfl), (Nat.le_of_ble_eq_true rfl)⟩) hA hP hD hS [14, 15] rfl (fun H locs hP hS => ?_)
  refine z_eqi (z2 := zb (0 ≤ p0 ∧ p0 < S1 13 1)) rfl ?_
  have f_1 : -1000000000 ≤ S1 13 1 ∧ S1 13 1 ≤ 1000000000 := (pOK_b hp 13 (by decide)) 1
  refine zi_if_neB (tgt := 24) hx hb dX7_yawns_11 (by decide) (fun c_2 => ?_) (fun c_2 => ?_)
  · refine lv_aload_n hx hb dX7_yawns_24 rfl (lv_at hl 0 rfl) ?_
    refine va_get (D := D) (ci := 9) (v := .ref ((subA a0 1) 0)) (C := RX7) (T := TX7) (N := 11) hx hb hts (fun w h => List.mem_cons_of_mem _ (List.mem_append_left _ (List.mem_append_left _ (List.mem_append_left _ (List.mem_append_left _ (List.mem_append_right _ h)))))) hown hK hP 0 rfl rfl 0 (by decide) (hts (.fieldLink RX7 10 "MondayFactory" "plant" "LMondayFactory$Plant;") (List.mem_of_getElem? (i := 3) rfl)) (fun _ h9 => h9) rfl dX7_yawns_25 ?_
    refine va_get (D := D) (ci := 7) (v := .ref ((subA a0 1) 13)) (C := RX5) (T := TX5) (N := 11) hx hb hts (fun w h => List.mem_cons_of_mem _ (List.mem_append_left _ (List.mem_append_left _ (List.mem_append_left _ (List.mem_append_right _ h))))) hown hK hP 1 rfl rfl 2 (by decide) (hts (.fieldLink RX7 117 "MondayFactory$Plant" "crew" "LMondayFactory$Crew;") (List.mem_of_getElem? (i := 4) rfl)) (fun _ h9 => h9) rfl dX7_yawns_28 ?_
    refine lv_iload_n hx hb dX7_yawns_31 rfl (lv_at hl 1 rfl) ?_
    refine z_ai0 (va_runV (As := [.int (iI p0)]) (rest := []) ⟨hx, hb, hml, hown, hts⟩ (c_X1_yawned l D k (subA (subA a0 1) 13) (sub2 S1 13)  p0 (pOK_b hp 14 (by decide)) (by have e0 : ((sub2 S1 13) 0 1) = S1 13 1 := rfl; omega) (by omega) _) (cwV 1 hts gX7_yawns_X1_yawned rfl rfl rfl (by decide +kernel) ⟨(Nat.le_of_ble_eq_true rfl), (Nat.le_of_ble_eq_true rfl)⟩) (z_preV hK hG hA hP hD hS [14, 15] rfl (by decide) 3 rfl rfl) rfl rfl hl.1 rfl (lv_room (Nat.le_of_ble_eq_true rfl)) dX7_yawns_32 ⟨(Nat.le_of_ble_eq_true rfl), (Nat.le_of_ble_eq_true rfl)⟩) hA hP hD hS [14, 15] rfl (fun H locs hP hS => ?_)
    refine z_eqi (z2 := wYaw (S1 14) (S1 13 1) p0) rfl ?_
    have q_3 : -1000000000 ≤ wYaw (S1 14) (S1 13 1) p0 ∧ wYaw (S1 14) (S1 13 1) p0 ≤ 1000000000 := wYaw_bd (pOK_b hp 14 (by decide))
    exact z_iret hx hb hr hlocks hP hS dX7_yawns_35 rfl rfl (Nat.le_refl _) (Nat.le_refl _)
  · exfalso; omega
set_option maxHeartbeats 4000000 in
set_option maxRecDepth 100000 in
theorem c_X7_yawns_x (l : Launch) (hst : l.stackTraces = false) (D : va_G) (k : Nat → ClassId) (a0 : Nat → Nat) (S0 : Nat → Nat → Int) (S1 : Nat → Nat → Int) (p0 : Int) (hp : pOK S1) (h0 : -2147483648 ≤ p0 ∧ p0 < 2147483648) (hc : ¬ (0 ≤ p0 ∧ p0 < S1 13 1)) : zMx l yX7_yawns wsX7_yawns ({ frames := 6, cells := 1, slots := 6, locals := 82 } : Room) D k [.ref (a0 0), .int (iI p0)] (wFac k a0 S0 ++ wPlant k (subA a0 1) S1) "java/lang/IndexOutOfBoundsException" (wFac k a0 S0 ++ wPlant k (subA a0 1) S1) 1 6 := by
  refine zMx_of (cc := cX7_yawns) (maxL := 2) (ret := (some .int)) (by decide) rfl (Nat.le_of_ble_eq_true rfl) ?_
  intro p e s m args below meth c A ls hx hb hr hml hown hts hlocks hK hP hD hG hE ht hA hS hl
  have hown : s.vm.findClass RX7 = some m.cls := hown
  have hl : lv_has ls 2 [(0, .ref (a0 0)), (1, .int (iI p0))] := hl
  obtain ⟨H, hH⟩ : ∃ z, z = s.heap := ⟨_, rfl⟩
  obtain ⟨locs, hlc⟩ : ∃ z : List Loc, z = [] := ⟨_, rfl⟩
  rw [← hH] at hP
  have hS : va_S A s.heap H locs := by rw [hH, hlc]; exact hS
  rw [← hlc, ← hH]
  clear hlc hH
  have kp := hp.2
  refine lv_aload_n hx hb dX7_yawns_0 rfl (lv_at hl 0 rfl) ?_
  refine va_get (D := D) (ci := 9) (v := .ref ((subA a0 1) 0)) (C := RX7) (T := TX7) (N := 11) hx hb hts (fun w h => List.mem_cons_of_mem _ (List.mem_append_left _ (List.mem_append_left _ (List.mem_append_left _ (List.mem_append_left _ (List.mem_append_right _ h)))))) hown hK hP 0 rfl rfl 0 (by decide) (hts (.fieldLink RX7 10 "MondayFactory" "plant" "LMondayFactory$Plant;") (List.mem_of_getElem? (i := 3) rfl)) (fun _ h9 => h9) rfl dX7_yawns_1 ?_
  refine va_get (D := D) (ci := 7) (v := .ref ((subA a0 1) 13)) (C := RX5) (T := TX5) (N := 11) hx hb hts (fun w h => List.mem_cons_of_mem _ (List.mem_append_left _ (List.mem_append_left _ (List.mem_append_left _ (List.mem_append_right _ h))))) hown hK hP 1 rfl rfl 2 (by decide) (hts (.fieldLink RX7 117 "MondayFactory$Plant" "crew" "LMondayFactory$Crew;") (List.mem_of_getElem? (i := 4) rfl)) (fun _ h9 => h9) rfl dX7_yawns_4 ?_
  refine lv_iload_n hx hb dX7_yawns_7 rfl (lv_at hl 1 rfl) ?_
  refine z_ai0 (va_runV (As := [.int (iI p0)]) (rest := []) ⟨hx, hb, hml, hown, hts⟩ (c_X1_has l D k (subA (subA a0 1) 13) (sub2 S1 13)  p0 (by have e0 : ((sub2 S1 13) 0 1) = S1 13 1 := rfl; omega) (by omega) _) (cwV 1 hts gX7_yawns_X1_has rfl rfl rfl (by decide +kernel) ⟨(Nat.le_of_ble_eq_true rfl), (Nat.le_of_ble_eq_true rfl)⟩) (z_preV hK hG hA hP hD hS [14, 15] rfl (by decide) 3 rfl rfl) rfl rfl hl.1 rfl (lv_room (Nat.le_of_ble_eq_true rfl)) dX7_yawns_8 ⟨(Nat.le_of_ble_eq_true rfl), (Nat.le_of_ble_eq_true rfl)⟩) hA hP hD hS [14, 15] rfl (fun H locs hP hS => ?_)
  refine z_eqi (z2 := zb (0 ≤ p0 ∧ p0 < S1 13 1)) rfl ?_
  have f_1 : -1000000000 ≤ S1 13 1 ∧ S1 13 1 ≤ 1000000000 := (pOK_b hp 13 (by decide)) 1
  refine zi_if_neB (tgt := 24) hx hb dX7_yawns_11 (by decide) (fun c_2 => ?_) (fun c_2 => ?_)
  · refine lv_aload_n hx hb dX7_yawns_24 rfl (lv_at hl 0 rfl) ?_
    refine va_get (D := D) (ci := 9) (v := .ref ((subA a0 1) 0)) (C := RX7) (T := TX7) (N := 11) hx hb hts (fun w h => List.mem_cons_of_mem _ (List.mem_append_left _ (List.mem_append_left _ (List.mem_append_left _ (List.mem_append_left _ (List.mem_append_right _ h)))))) hown hK hP 0 rfl rfl 0 (by decide) (hts (.fieldLink RX7 10 "MondayFactory" "plant" "LMondayFactory$Plant;") (List.mem_of_getElem? (i := 3) rfl)) (fun _ h9 => h9) rfl dX7_yawns_25 ?_
    refine va_get (D := D) (ci := 7) (v := .ref ((subA a0 1) 13)) (C := RX5) (T := TX5) (N := 11) hx hb hts (fun w h => List.mem_cons_of_mem _ (List.mem_append_left _ (List.mem_append_left _ (List.mem_append_left _ (List.mem_append_right _ h))))) hown hK hP 1 rfl rfl 2 (by decide) (hts (.fieldLink RX7 117 "MondayFactory$Plant" "crew" "LMondayFactory$Crew;") (List.mem_of_getElem? (i := 4) rfl)) (fun _ h9 => h9) rfl dX7_yawns_28 ?_
    refine lv_iload_n hx hb dX7_yawns_31 rfl (lv_at hl 1 rfl) ?_
    refine z_ai0 (va_runV (As := [.int (iI p0)]) (rest := []) ⟨hx, hb, hml, hown, hts⟩ (c_X1_yawned l D k (subA (subA a0 1) 13) (sub2 S1 13)  p0 (pOK_b hp 14 (by decide)) (by have e0 : ((sub2 S1 13) 0 1) = S1 13 1 := rfl; omega) (by omega) _) (cwV 1 hts gX7_yawns_X1_yawned rfl rfl rfl (by decide +kernel) ⟨(Nat.le_of_ble_eq_true rfl), (Nat.le_of_ble_eq_true rfl)⟩) (z_preV hK hG hA hP hD hS [14, 15] rfl (by decide) 3 rfl rfl) rfl rfl hl.1 rfl (lv_room (Nat.le_of_ble_eq_true rfl)) dX7_yawns_32 ⟨(Nat.le_of_ble_eq_true rfl), (Nat.le_of_ble_eq_true rfl)⟩) hA hP hD hS [14, 15] rfl (fun H locs hP hS => ?_)
    refine z_eqi (z2 := wYaw (S1 14) (S1 13 1) p0) rfl ?_
    have q_3 : -1000000000 ≤ wYaw (S1 14) (S1 13 1) p0 ∧ wYaw (S1 14) (S1 13 1) p0 ≤ 1000000000 := wYaw_bd (pOK_b hp 14 (by decide))
    exfalso; omega
  · exact z_thrS (cls := "java/lang/IndexOutOfBoundsException") hx hb hst hown zXf_ioob zXm_ioob (hts (.classLink RX7 126 "java/lang/IndexOutOfBoundsException") (List.mem_of_getElem? (i := 1) rfl)) (hts (.initialized "java/lang/IndexOutOfBoundsException") (List.mem_of_getElem? (i := 2) rfl)) (show (128, "there is no such inspector") ∈ zStrs by decide +kernel) hG hE (fun w h => hts w ((fun w h => List.mem_cons_of_mem _ (List.mem_append_left _ (List.mem_append_right _ h))) w h)) zXn_ioob zXg_ioob hS (hl.1.trans hml.symm) dX7_yawns_14 dX7_yawns_17 dX7_yawns_18 dX7_yawns_20 dX7_yawns_23 ht (Nat.le_of_ble_eq_true rfl) (Nat.le_of_ble_eq_true rfl) (Nat.le_of_ble_eq_true rfl) (Nat.le_of_ble_eq_true rfl) hlocks (z_to (Eq.symm rfl) hP) (Nat.le_of_ble_eq_true rfl) (Nat.le_of_ble_eq_true rfl)
noncomputable def sp_X7_passes_ok (S0 : Nat → Nat → Int) (S1 : Nat → Nat → Int) (p0 : Int) (p1 : Int) (p2 : Int) : Int := zif (p0 = 0)
  (zif (wNum (S1 4) (S1 3 1) p1 0 = -1)
    (1)
    (zif (wPassed (S1 2) (wNum (S1 4) (S1 3 1) p1 0) (wNum (S1 4) (S1 3 1) p1 1) p2)
      (1)
      (0)))
  (zif (p0 = 1)
    (zif (wNum (S1 7) (S1 6 1) p1 0 = -1)
      (1)
      (zif (wPassed (S1 5) (wNum (S1 7) (S1 6 1) p1 0) (wNum (S1 7) (S1 6 1) p1 1) p2)
        (1)
        (0)))
    (zif (wNum (S1 10) (S1 9 1) p1 0 = -1)
      (1)
      (zif (wPassed (S1 8) (wNum (S1 10) (S1 9 1) p1 0) (wNum (S1 10) (S1 9 1) p1 1) p2)
        (1)
        (0))))
set_option maxHeartbeats 4000000 in
set_option maxRecDepth 100000 in
theorem c_X7_passes_ok (l : Launch) (D : va_G) (k : Nat → ClassId) (a0 : Nat → Nat) (S0 : Nat → Nat → Int) (S1 : Nat → Nat → Int) (p0 : Int) (p1 : Int) (p2 : Int) (hp : pOK S1) (h0 : -2147483648 ≤ p0 ∧ p0 < 2147483648) (h1 : -2147483648 ≤ p1 ∧ p1 < 2147483648) (h2 : -2147483648 ≤ p2 ∧ p2 < 2147483648) (hc : 0 ≤ p1 ∧ ((p0 = 0 ∧ p1 < S1 3 1) ∨ (p0 = 1 ∧ p1 < S1 6 1) ∨ (p0 = 2 ∧ p1 < S1 9 1))) (hw : 1 ≤ p2 ∧ p2 ≤ 3) : zMi l yX7_passes wsX7_passes ({ frames := 2, cells := 0, slots := 0, locals := 44 } : Room) D k [.ref (a0 0), .int (iI p0), .int (iI p1), .int (iI p2)] (wFac k a0 S0 ++ wPlant k (subA a0 1) S1) (sp_X7_passes_ok S0 S1 p0 p1 p2) (wFac k a0 S0 ++ wPlant k (subA a0 1) S1) 0 0 := by
  refine zMi_of (cc := cX7_passes) (maxL := 5) (ret := (some .boolean)) (by decide) rfl (Nat.le_of_ble_eq_true rfl) ?_
  intro p e s m args below meth c A ls hx hb hr hml hown hts hlocks hK hP hD hG hA hS hl
  have hown : s.vm.findClass RX7 = some m.cls := hown
  have hl : lv_has ls 5 [(0, .ref (a0 0)), (1, .int (iI p0)), (2, .int (iI p1)), (3, .int (iI p2))] := hl
  obtain ⟨H, hH⟩ : ∃ z, z = s.heap := ⟨_, rfl⟩
  obtain ⟨locs, hlc⟩ : ∃ z : List Loc, z = [] := ⟨_, rfl⟩
  rw [← hH] at hP
  have hS : va_S A s.heap H locs := by rw [hH, hlc]; exact hS
  rw [← hlc, ← hH]
  clear hlc hH
  have kp := hp.2
  refine lv_aload_n hx hb dX7_passes_0 rfl (lv_at hl 0 rfl) ?_
  refine lv_iload_n hx hb dX7_passes_1 rfl (lv_at hl 1 rfl) ?_
  refine lv_iload_n hx hb dX7_passes_2 rfl (lv_at hl 2 rfl) ?_
  refine z_av0 (va_runV (As := [.int (iI p0), .int (iI p1)]) (rest := []) ⟨hx, hb, hml, hown, hts⟩ (c_X7_demandPlace_ok l D k a0 S0 S1  p0 p1 hp (by omega) (by omega) (by omega) _) (cwV 2 hts gX7_passes_X7_demandPlace rfl rfl rfl (by decide +kernel) ⟨(Nat.le_of_ble_eq_true rfl), (Nat.le_of_ble_eq_true rfl)⟩) (z_preV hK hG hA hP hD hS (zrg 0 1 ++ zrg 1 15) (z_mcat (z_hd (n := 1) rfl) (z_sk (n := 1) (off := 0) (m := 15) rfl (z_hdl (n := 15) rfl))) (by decide +kernel) 9 rfl rfl) rfl rfl hl.1 rfl (lv_room (Nat.le_of_ble_eq_true rfl)) dX7_passes_3 ⟨(Nat.le_of_ble_eq_true rfl), (Nat.le_of_ble_eq_true rfl)⟩) hA hP hD hS (zrg 0 1 ++ zrg 1 15) (z_mcat (z_hd (n := 1) rfl) (z_sk (n := 1) (off := 0) (m := 15) rfl (z_hdl (n := 15) rfl))) (fun H locs hP hS => ?_)
  refine lv_iload_n hx hb dX7_passes_6 rfl (lv_at hl 3 rfl) ?_
  refine lv_iconst (v := iI 1) hx hb dX7_passes_7 rfl ?_
  refine zi_icmp_lt (tgt := 16) hx hb dX7_passes_8 (by decide) ⟨by omega, by omega⟩ ⟨by omega, by omega⟩ (fun c_1 => ?_) (fun c_1 => ?_)
  · exfalso; omega
  · refine lv_iload_n hx hb dX7_passes_11 rfl (lv_at hl 3 rfl) ?_
    refine lv_iconst (v := iI 3) hx hb dX7_passes_12 rfl ?_
    refine zi_icmp_le (tgt := 26) hx hb dX7_passes_13 (by decide) ⟨by omega, by omega⟩ ⟨by omega, by omega⟩ (fun c_2 => ?_) (fun c_2 => ?_)
    · refine lv_aload_n hx hb dX7_passes_26 rfl (lv_at hl 0 rfl) ?_
      refine va_get (D := D) (ci := 9) (v := .ref ((subA a0 1) 0)) (C := RX7) (T := TX7) (N := 11) hx hb hts (fun w h => List.mem_cons_of_mem _ (List.mem_append_left _ (List.mem_append_left _ (List.mem_append_left _ (List.mem_append_left _ (List.mem_append_left _ (List.mem_append_left _ (List.mem_append_right _ h)))))))) hown hK hP 0 rfl rfl 0 (by decide) (hts (.fieldLink RX7 10 "MondayFactory" "plant" "LMondayFactory$Plant;") (List.mem_of_getElem? (i := 3) rfl)) (fun _ h9 => h9) rfl dX7_passes_27 ?_
      refine va_get (D := D) (ci := 7) (v := .ref ((subA a0 1) 1)) (C := RX5) (T := TX5) (N := 11) hx hb hts (fun w h => List.mem_cons_of_mem _ (List.mem_append_left _ (List.mem_append_left _ (List.mem_append_left _ (List.mem_append_left _ (List.mem_append_left _ (List.mem_append_right _ h))))))) hown hK hP 1 rfl rfl 0 (by decide) (hts (.fieldLink RX7 72 "MondayFactory$Plant" "belts" "[LMondayFactory$Belt;") (List.mem_of_getElem? (i := 4) rfl)) (fun _ h9 => h9) rfl dX7_passes_30 ?_
      refine lv_iload_n hx hb dX7_passes_33 rfl (lv_at hl 1 rfl) ?_
      by_cases x_3 : p0 = 0
      · refine z_eqi (z2 := 0) x_3 ?_
        refine z_aald hx hb hK hP 2 2 (f := fun j => some ((subA a0 1) (2 + 3 * j))) (q := (subA a0 1) 2) rfl rfl (i := 0) (by omega) (by omega) (by decide) rfl dX7_passes_34 ?_
        refine lv_astore (lv' := [(4, .ref ((subA a0 1) 2)), (0, .ref (a0 0)), (1, .int (iI p0)), (2, .int (iI p1)), (3, .int (iI p2))]) hx hb dX7_passes_35 hl (by decide) rfl (fun ls hl => ?_)
        refine lv_aload hx hb dX7_passes_37 (lv_at hl 0 rfl) ?_
        refine va_get (D := D) (ci := 2) (v := .ref ((subA a0 1) 3)) (C := RX0) (T := TX0) (N := 6) hx hb hts (fun w h => List.mem_cons_of_mem _ (List.mem_append_left _ (List.mem_append_left _ (List.mem_append_left _ (List.mem_append_left _ (List.mem_append_right _ h)))))) hown hK hP 3 rfl rfl 0 (by decide) (hts (.fieldLink RX7 76 "MondayFactory$Belt" "row" "LMondayFactory$Row;") (List.mem_of_getElem? (i := 5) rfl)) (fun _ h9 => h9) rfl dX7_passes_39 ?_
        refine lv_iload_n hx hb dX7_passes_42 rfl (lv_at hl 3 rfl) ?_
        refine z_ai0 (va_runV (As := [.int (iI p1)]) (rest := []) ⟨hx, hb, hml, hown, hts⟩ (c_X6_isBlank l D k (subA (subA a0 1) 3) (sub2 S1 3)  p1 (pOK_b hp 4 (by decide)) (by have e0 : ((sub2 S1 3) 0 1) = S1 3 1 := rfl; omega) (by omega) _) (cwV 1 hts gX7_passes_X6_isBlank rfl rfl rfl (by decide +kernel) ⟨(Nat.le_of_ble_eq_true rfl), (Nat.le_of_ble_eq_true rfl)⟩) (z_preV hK hG hA hP hD hS [4, 5] rfl (by decide) 8 rfl rfl) rfl rfl hl.1 rfl (lv_room (Nat.le_of_ble_eq_true rfl)) dX7_passes_43 ⟨(Nat.le_of_ble_eq_true rfl), (Nat.le_of_ble_eq_true rfl)⟩) hA hP hD hS [4, 5] rfl (fun H locs hP hS => ?_)
        refine z_eqi (z2 := zb (wNum (S1 4) (S1 3 1) p1 0 = -1)) rfl ?_
        have f_4 : -1000000000 ≤ S1 3 1 ∧ S1 3 1 ≤ 1000000000 := (pOK_b hp 3 (by decide)) 1
        refine zi_if_neB (tgt := 76) hx hb dX7_passes_46 (by decide) (fun c_5 => ?_) (fun c_5 => ?_)
        · refine lv_iconst (v := iI 1) hx hb dX7_passes_76 rfl ?_
          refine lv_goto (tgt := 81) hx hb dX7_passes_77 (by decide) ?_
          exact z_zret hx hb hr hlocks rfl hP hS dX7_passes_81 (Eq.trans (zif_pos x_3) (Eq.trans (zif_pos c_5) rfl)) rfl (Nat.le_refl _) (Nat.le_refl _)
        · refine lv_aload hx hb dX7_passes_49 (lv_at hl 0 rfl) ?_
          refine lv_aload hx hb dX7_passes_51 (lv_at hl 0 rfl) ?_
          refine va_get (D := D) (ci := 2) (v := .ref ((subA a0 1) 3)) (C := RX0) (T := TX0) (N := 6) hx hb hts (fun w h => List.mem_cons_of_mem _ (List.mem_append_left _ (List.mem_append_left _ (List.mem_append_left _ (List.mem_append_left _ (List.mem_append_right _ h)))))) hown hK hP 3 rfl rfl 0 (by decide) (hts (.fieldLink RX7 76 "MondayFactory$Belt" "row" "LMondayFactory$Row;") (List.mem_of_getElem? (i := 5) rfl)) (fun _ h9 => h9) rfl dX7_passes_53 ?_
          refine lv_iload_n hx hb dX7_passes_56 rfl (lv_at hl 3 rfl) ?_
          refine z_ai0 (va_runV (As := [.int (iI p1)]) (rest := [.ref ((subA a0 1) 2)]) ⟨hx, hb, hml, hown, hts⟩ (c_X6_grey l D k (subA (subA a0 1) 3) (sub2 S1 3)  p1 (pOK_b hp 4 (by decide)) (by have e0 : ((sub2 S1 3) 0 1) = S1 3 1 := rfl; omega) (by omega) _) (cwV 1 hts gX7_passes_X6_grey rfl rfl rfl (by decide +kernel) ⟨(Nat.le_of_ble_eq_true rfl), (Nat.le_of_ble_eq_true rfl)⟩) (z_preV hK hG hA hP hD hS [4, 5] rfl (by decide) 8 rfl rfl) rfl rfl hl.1 rfl (lv_room (Nat.le_of_ble_eq_true rfl)) dX7_passes_57 ⟨(Nat.le_of_ble_eq_true rfl), (Nat.le_of_ble_eq_true rfl)⟩) hA hP hD hS [4, 5] rfl (fun H locs hP hS => ?_)
          refine z_eqi (z2 := wNum (S1 4) (S1 3 1) p1 0) rfl ?_
          have q_6 : -1000000000 ≤ wNum (S1 4) (S1 3 1) p1 0 ∧ wNum (S1 4) (S1 3 1) p1 0 ≤ 1000000000 := wNum_bd (pOK_b hp 4 (by decide))
          refine lv_aload hx hb dX7_passes_60 (lv_at hl 0 rfl) ?_
          refine va_get (D := D) (ci := 2) (v := .ref ((subA a0 1) 3)) (C := RX0) (T := TX0) (N := 6) hx hb hts (fun w h => List.mem_cons_of_mem _ (List.mem_append_left _ (List.mem_append_left _ (List.mem_append_left _ (List.mem_append_left _ (List.mem_append_right _ h)))))) hown hK hP 3 rfl rfl 0 (by decide) (hts (.fieldLink RX7 76 "MondayFactory$Belt" "row" "LMondayFactory$Row;") (List.mem_of_getElem? (i := 5) rfl)) (fun _ h9 => h9) rfl dX7_passes_62 ?_
          refine lv_iload_n hx hb dX7_passes_65 rfl (lv_at hl 3 rfl) ?_
          refine z_ai0 (va_runV (As := [.int (iI p1)]) (rest := [.int (iI (wNum (S1 4) (S1 3 1) p1 0)), .ref ((subA a0 1) 2)]) ⟨hx, hb, hml, hown, hts⟩ (c_X6_alarm l D k (subA (subA a0 1) 3) (sub2 S1 3)  p1 (pOK_b hp 4 (by decide)) (by have e0 : ((sub2 S1 3) 0 1) = S1 3 1 := rfl; omega) (by omega) _) (cwV 1 hts gX7_passes_X6_alarm rfl rfl rfl (by decide +kernel) ⟨(Nat.le_of_ble_eq_true rfl), (Nat.le_of_ble_eq_true rfl)⟩) (z_preV hK hG hA hP hD hS [4, 5] rfl (by decide) 8 rfl rfl) rfl rfl hl.1 rfl (lv_room (Nat.le_of_ble_eq_true rfl)) dX7_passes_66 ⟨(Nat.le_of_ble_eq_true rfl), (Nat.le_of_ble_eq_true rfl)⟩) hA hP hD hS [4, 5] rfl (fun H locs hP hS => ?_)
          refine z_eqi (z2 := wNum (S1 4) (S1 3 1) p1 1) rfl ?_
          have q_7 : -1000000000 ≤ wNum (S1 4) (S1 3 1) p1 1 ∧ wNum (S1 4) (S1 3 1) p1 1 ≤ 1000000000 := wNum_bd (pOK_b hp 4 (by decide))
          refine lv_iload_n hx hb dX7_passes_69 rfl (lv_at hl 4 rfl) ?_
          refine z_ai0 (va_runV (As := [.int (iI (wNum (S1 4) (S1 3 1) p1 0)), .int (iI (wNum (S1 4) (S1 3 1) p1 1)), .int (iI p2)]) (rest := []) ⟨hx, hb, hml, hown, hts⟩ (c_X0_isPassedBy l D k (subA (subA a0 1) 2) (sub2 S1 2)  (wNum (S1 4) (S1 3 1) p1 0) (wNum (S1 4) (S1 3 1) p1 1) p2 (pOK_b hp 2 (by decide)) (by omega) (by omega) (by omega) _) (cwV 3 hts gX7_passes_X0_isPassedBy rfl rfl rfl (by decide +kernel) ⟨(Nat.le_of_ble_eq_true rfl), (Nat.le_of_ble_eq_true rfl)⟩) (z_preV hK hG hA hP hD hS [3, 4, 5] rfl (by decide) 2 rfl rfl) rfl rfl hl.1 rfl (lv_room (Nat.le_of_ble_eq_true rfl)) dX7_passes_70 ⟨(Nat.le_of_ble_eq_true rfl), (Nat.le_of_ble_eq_true rfl)⟩) hA hP hD hS [3, 4, 5] rfl (fun H locs hP hS => ?_)
          refine z_eqi (z2 := zb (wPassed (S1 2) (wNum (S1 4) (S1 3 1) p1 0) (wNum (S1 4) (S1 3 1) p1 1) p2)) rfl ?_
          refine zi_if_eqB (tgt := 80) hx hb dX7_passes_73 (by decide) (fun c_8 => ?_) (fun c_8 => ?_)
          · refine lv_iconst (v := iI 0) hx hb dX7_passes_80 rfl ?_
            exact z_zret hx hb hr hlocks rfl hP hS dX7_passes_81 (Eq.trans (zif_pos x_3) (Eq.trans (zif_neg c_5) (Eq.trans (zif_neg c_8) rfl))) rfl (Nat.le_refl _) (Nat.le_refl _)
          · refine lv_iconst (v := iI 1) hx hb dX7_passes_76 rfl ?_
            refine lv_goto (tgt := 81) hx hb dX7_passes_77 (by decide) ?_
            exact z_zret hx hb hr hlocks rfl hP hS dX7_passes_81 (Eq.trans (zif_pos x_3) (Eq.trans (zif_neg c_5) (Eq.trans (zif_pos c_8) rfl))) rfl (Nat.le_refl _) (Nat.le_refl _)
      · by_cases x_9 : p0 = 1
        · refine z_eqi (z2 := 1) x_9 ?_
          refine z_aald hx hb hK hP 2 2 (f := fun j => some ((subA a0 1) (2 + 3 * j))) (q := (subA a0 1) 5) rfl rfl (i := 1) (by omega) (by omega) (by decide) rfl dX7_passes_34 ?_
          refine lv_astore (lv' := [(4, .ref ((subA a0 1) 5)), (0, .ref (a0 0)), (1, .int (iI p0)), (2, .int (iI p1)), (3, .int (iI p2))]) hx hb dX7_passes_35 hl (by decide) rfl (fun ls hl => ?_)
          refine lv_aload hx hb dX7_passes_37 (lv_at hl 0 rfl) ?_
          refine va_get (D := D) (ci := 2) (v := .ref ((subA a0 1) 6)) (C := RX0) (T := TX0) (N := 6) hx hb hts (fun w h => List.mem_cons_of_mem _ (List.mem_append_left _ (List.mem_append_left _ (List.mem_append_left _ (List.mem_append_left _ (List.mem_append_right _ h)))))) hown hK hP 6 rfl rfl 0 (by decide) (hts (.fieldLink RX7 76 "MondayFactory$Belt" "row" "LMondayFactory$Row;") (List.mem_of_getElem? (i := 5) rfl)) (fun _ h9 => h9) rfl dX7_passes_39 ?_
          refine lv_iload_n hx hb dX7_passes_42 rfl (lv_at hl 3 rfl) ?_
          refine z_ai0 (va_runV (As := [.int (iI p1)]) (rest := []) ⟨hx, hb, hml, hown, hts⟩ (c_X6_isBlank l D k (subA (subA a0 1) 6) (sub2 S1 6)  p1 (pOK_b hp 7 (by decide)) (by have e0 : ((sub2 S1 6) 0 1) = S1 6 1 := rfl; omega) (by omega) _) (cwV 1 hts gX7_passes_X6_isBlank rfl rfl rfl (by decide +kernel) ⟨(Nat.le_of_ble_eq_true rfl), (Nat.le_of_ble_eq_true rfl)⟩) (z_preV hK hG hA hP hD hS [7, 8] rfl (by decide) 8 rfl rfl) rfl rfl hl.1 rfl (lv_room (Nat.le_of_ble_eq_true rfl)) dX7_passes_43 ⟨(Nat.le_of_ble_eq_true rfl), (Nat.le_of_ble_eq_true rfl)⟩) hA hP hD hS [7, 8] rfl (fun H locs hP hS => ?_)
          refine z_eqi (z2 := zb (wNum (S1 7) (S1 6 1) p1 0 = -1)) rfl ?_
          have f_10 : -1000000000 ≤ S1 6 1 ∧ S1 6 1 ≤ 1000000000 := (pOK_b hp 6 (by decide)) 1
          refine zi_if_neB (tgt := 76) hx hb dX7_passes_46 (by decide) (fun c_11 => ?_) (fun c_11 => ?_)
          · refine lv_iconst (v := iI 1) hx hb dX7_passes_76 rfl ?_
            refine lv_goto (tgt := 81) hx hb dX7_passes_77 (by decide) ?_
            exact z_zret hx hb hr hlocks rfl hP hS dX7_passes_81 (Eq.trans (zif_neg x_3) (Eq.trans (zif_pos x_9) (Eq.trans (zif_pos c_11) rfl))) rfl (Nat.le_refl _) (Nat.le_refl _)
          · refine lv_aload hx hb dX7_passes_49 (lv_at hl 0 rfl) ?_
            refine lv_aload hx hb dX7_passes_51 (lv_at hl 0 rfl) ?_
            refine va_get (D := D) (ci := 2) (v := .ref ((subA a0 1) 6)) (C := RX0) (T := TX0) (N := 6) hx hb hts (fun w h => List.mem_cons_of_mem _ (List.mem_append_left _ (List.mem_append_left _ (List.mem_append_left _ (List.mem_append_left _ (List.mem_append_right _ h)))))) hown hK hP 6 rfl rfl 0 (by decide) (hts (.fieldLink RX7 76 "MondayFactory$Belt" "row" "LMondayFactory$Row;") (List.mem_of_getElem? (i := 5) rfl)) (fun _ h9 => h9) rfl dX7_passes_53 ?_
            refine lv_iload_n hx hb dX7_passes_56 rfl (lv_at hl 3 rfl) ?_
            refine z_ai0 (va_runV (As := [.int (iI p1)]) (rest := [.ref ((subA a0 1) 5)]) ⟨hx, hb, hml, hown, hts⟩ (c_X6_grey l D k (subA (subA a0 1) 6) (sub2 S1 6)  p1 (pOK_b hp 7 (by decide)) (by have e0 : ((sub2 S1 6) 0 1) = S1 6 1 := rfl; omega) (by omega) _) (cwV 1 hts gX7_passes_X6_grey rfl rfl rfl (by decide +kernel) ⟨(Nat.le_of_ble_eq_true rfl), (Nat.le_of_ble_eq_true rfl)⟩) (z_preV hK hG hA hP hD hS [7, 8] rfl (by decide) 8 rfl rfl) rfl rfl hl.1 rfl (lv_room (Nat.le_of_ble_eq_true rfl)) dX7_passes_57 ⟨(Nat.le_of_ble_eq_true rfl), (Nat.le_of_ble_eq_true rfl)⟩) hA hP hD hS [7, 8] rfl (fun H locs hP hS => ?_)
            refine z_eqi (z2 := wNum (S1 7) (S1 6 1) p1 0) rfl ?_
            have q_12 : -1000000000 ≤ wNum (S1 7) (S1 6 1) p1 0 ∧ wNum (S1 7) (S1 6 1) p1 0 ≤ 1000000000 := wNum_bd (pOK_b hp 7 (by decide))
            refine lv_aload hx hb dX7_passes_60 (lv_at hl 0 rfl) ?_
            refine va_get (D := D) (ci := 2) (v := .ref ((subA a0 1) 6)) (C := RX0) (T := TX0) (N := 6) hx hb hts (fun w h => List.mem_cons_of_mem _ (List.mem_append_left _ (List.mem_append_left _ (List.mem_append_left _ (List.mem_append_left _ (List.mem_append_right _ h)))))) hown hK hP 6 rfl rfl 0 (by decide) (hts (.fieldLink RX7 76 "MondayFactory$Belt" "row" "LMondayFactory$Row;") (List.mem_of_getElem? (i := 5) rfl)) (fun _ h9 => h9) rfl dX7_passes_62 ?_
            refine lv_iload_n hx hb dX7_passes_65 rfl (lv_at hl 3 rfl) ?_
            refine z_ai0 (va_runV (As := [.int (iI p1)]) (rest := [.int (iI (wNum (S1 7) (S1 6 1) p1 0)), .ref ((subA a0 1) 5)]) ⟨hx, hb, hml, hown, hts⟩ (c_X6_alarm l D k (subA (subA a0 1) 6) (sub2 S1 6)  p1 (pOK_b hp 7 (by decide)) (by have e0 : ((sub2 S1 6) 0 1) = S1 6 1 := rfl; omega) (by omega) _) (cwV 1 hts gX7_passes_X6_alarm rfl rfl rfl (by decide +kernel) ⟨(Nat.le_of_ble_eq_true rfl), (Nat.le_of_ble_eq_true rfl)⟩) (z_preV hK hG hA hP hD hS [7, 8] rfl (by decide) 8 rfl rfl) rfl rfl hl.1 rfl (lv_room (Nat.le_of_ble_eq_true rfl)) dX7_passes_66 ⟨(Nat.le_of_ble_eq_true rfl), (Nat.le_of_ble_eq_true rfl)⟩) hA hP hD hS [7, 8] rfl (fun H locs hP hS => ?_)
            refine z_eqi (z2 := wNum (S1 7) (S1 6 1) p1 1) rfl ?_
            have q_13 : -1000000000 ≤ wNum (S1 7) (S1 6 1) p1 1 ∧ wNum (S1 7) (S1 6 1) p1 1 ≤ 1000000000 := wNum_bd (pOK_b hp 7 (by decide))
            refine lv_iload_n hx hb dX7_passes_69 rfl (lv_at hl 4 rfl) ?_
            refine z_ai0 (va_runV (As := [.int (iI (wNum (S1 7) (S1 6 1) p1 0)), .int (iI (wNum (S1 7) (S1 6 1) p1 1)), .int (iI p2)]) (rest := []) ⟨hx, hb, hml, hown, hts⟩ (c_X0_isPassedBy l D k (subA (subA a0 1) 5) (sub2 S1 5)  (wNum (S1 7) (S1 6 1) p1 0) (wNum (S1 7) (S1 6 1) p1 1) p2 (pOK_b hp 5 (by decide)) (by omega) (by omega) (by omega) _) (cwV 3 hts gX7_passes_X0_isPassedBy rfl rfl rfl (by decide +kernel) ⟨(Nat.le_of_ble_eq_true rfl), (Nat.le_of_ble_eq_true rfl)⟩) (z_preV hK hG hA hP hD hS [6, 7, 8] rfl (by decide) 2 rfl rfl) rfl rfl hl.1 rfl (lv_room (Nat.le_of_ble_eq_true rfl)) dX7_passes_70 ⟨(Nat.le_of_ble_eq_true rfl), (Nat.le_of_ble_eq_true rfl)⟩) hA hP hD hS [6, 7, 8] rfl (fun H locs hP hS => ?_)
            refine z_eqi (z2 := zb (wPassed (S1 5) (wNum (S1 7) (S1 6 1) p1 0) (wNum (S1 7) (S1 6 1) p1 1) p2)) rfl ?_
            refine zi_if_eqB (tgt := 80) hx hb dX7_passes_73 (by decide) (fun c_14 => ?_) (fun c_14 => ?_)
            · refine lv_iconst (v := iI 0) hx hb dX7_passes_80 rfl ?_
              exact z_zret hx hb hr hlocks rfl hP hS dX7_passes_81 (Eq.trans (zif_neg x_3) (Eq.trans (zif_pos x_9) (Eq.trans (zif_neg c_11) (Eq.trans (zif_neg c_14) rfl)))) rfl (Nat.le_refl _) (Nat.le_refl _)
            · refine lv_iconst (v := iI 1) hx hb dX7_passes_76 rfl ?_
              refine lv_goto (tgt := 81) hx hb dX7_passes_77 (by decide) ?_
              exact z_zret hx hb hr hlocks rfl hP hS dX7_passes_81 (Eq.trans (zif_neg x_3) (Eq.trans (zif_pos x_9) (Eq.trans (zif_neg c_11) (Eq.trans (zif_pos c_14) rfl)))) rfl (Nat.le_refl _) (Nat.le_refl _)
        · have x_15 : p0 = 2 := by omega
          refine z_eqi (z2 := 2) x_15 ?_
          refine z_aald hx hb hK hP 2 2 (f := fun j => some ((subA a0 1) (2 + 3 * j))) (q := (subA a0 1) 8) rfl rfl (i := 2) (by omega) (by omega) (by decide) rfl dX7_passes_34 ?_
          refine lv_astore (lv' := [(4, .ref ((subA a0 1) 8)), (0, .ref (a0 0)), (1, .int (iI p0)), (2, .int (iI p1)), (3, .int (iI p2))]) hx hb dX7_passes_35 hl (by decide) rfl (fun ls hl => ?_)
          refine lv_aload hx hb dX7_passes_37 (lv_at hl 0 rfl) ?_
          refine va_get (D := D) (ci := 2) (v := .ref ((subA a0 1) 9)) (C := RX0) (T := TX0) (N := 6) hx hb hts (fun w h => List.mem_cons_of_mem _ (List.mem_append_left _ (List.mem_append_left _ (List.mem_append_left _ (List.mem_append_left _ (List.mem_append_right _ h)))))) hown hK hP 9 rfl rfl 0 (by decide) (hts (.fieldLink RX7 76 "MondayFactory$Belt" "row" "LMondayFactory$Row;") (List.mem_of_getElem? (i := 5) rfl)) (fun _ h9 => h9) rfl dX7_passes_39 ?_
          refine lv_iload_n hx hb dX7_passes_42 rfl (lv_at hl 3 rfl) ?_
          refine z_ai0 (va_runV (As := [.int (iI p1)]) (rest := []) ⟨hx, hb, hml, hown, hts⟩ (c_X6_isBlank l D k (subA (subA a0 1) 9) (sub2 S1 9)  p1 (pOK_b hp 10 (by decide)) (by have e0 : ((sub2 S1 9) 0 1) = S1 9 1 := rfl; omega) (by omega) _) (cwV 1 hts gX7_passes_X6_isBlank rfl rfl rfl (by decide +kernel) ⟨(Nat.le_of_ble_eq_true rfl), (Nat.le_of_ble_eq_true rfl)⟩) (z_preV hK hG hA hP hD hS [10, 11] rfl (by decide) 8 rfl rfl) rfl rfl hl.1 rfl (lv_room (Nat.le_of_ble_eq_true rfl)) dX7_passes_43 ⟨(Nat.le_of_ble_eq_true rfl), (Nat.le_of_ble_eq_true rfl)⟩) hA hP hD hS [10, 11] rfl (fun H locs hP hS => ?_)
          refine z_eqi (z2 := zb (wNum (S1 10) (S1 9 1) p1 0 = -1)) rfl ?_
          have f_16 : -1000000000 ≤ S1 9 1 ∧ S1 9 1 ≤ 1000000000 := (pOK_b hp 9 (by decide)) 1
          refine zi_if_neB (tgt := 76) hx hb dX7_passes_46 (by decide) (fun c_17 => ?_) (fun c_17 => ?_)
          · refine lv_iconst (v := iI 1) hx hb dX7_passes_76 rfl ?_
            refine lv_goto (tgt := 81) hx hb dX7_passes_77 (by decide) ?_
            exact z_zret hx hb hr hlocks rfl hP hS dX7_passes_81 (Eq.trans (zif_neg x_3) (Eq.trans (zif_neg x_9) (Eq.trans (zif_pos c_17) rfl))) rfl (Nat.le_refl _) (Nat.le_refl _)
          · refine lv_aload hx hb dX7_passes_49 (lv_at hl 0 rfl) ?_
            refine lv_aload hx hb dX7_passes_51 (lv_at hl 0 rfl) ?_
            refine va_get (D := D) (ci := 2) (v := .ref ((subA a0 1) 9)) (C := RX0) (T := TX0) (N := 6) hx hb hts (fun w h => List.mem_cons_of_mem _ (List.mem_append_left _ (List.mem_append_left _ (List.mem_append_left _ (List.mem_append_left _ (List.mem_append_right _ h)))))) hown hK hP 9 rfl rfl 0 (by decide) (hts (.fieldLink RX7 76 "MondayFactory$Belt" "row" "LMondayFactory$Row;") (List.mem_of_getElem? (i := 5) rfl)) (fun _ h9 => h9) rfl dX7_passes_53 ?_
            refine lv_iload_n hx hb dX7_passes_56 rfl (lv_at hl 3 rfl) ?_
            refine z_ai0 (va_runV (As := [.int (iI p1)]) (rest := [.ref ((subA a0 1) 8)]) ⟨hx, hb, hml, hown, hts⟩ (c_X6_grey l D k (subA (subA a0 1) 9) (sub2 S1 9)  p1 (pOK_b hp 10 (by decide)) (by have e0 : ((sub2 S1 9) 0 1) = S1 9 1 := rfl; omega) (by omega) _) (cwV 1 hts gX7_passes_X6_grey rfl rfl rfl (by decide +kernel) ⟨(Nat.le_of_ble_eq_true rfl), (Nat.le_of_ble_eq_true rfl)⟩) (z_preV hK hG hA hP hD hS [10, 11] rfl (by decide) 8 rfl rfl) rfl rfl hl.1 rfl (lv_room (Nat.le_of_ble_eq_true rfl)) dX7_passes_57 ⟨(Nat.le_of_ble_eq_true rfl), (Nat.le_of_ble_eq_true rfl)⟩) hA hP hD hS [10, 11] rfl (fun H locs hP hS => ?_)
            refine z_eqi (z2 := wNum (S1 10) (S1 9 1) p1 0) rfl ?_
            have q_18 : -1000000000 ≤ wNum (S1 10) (S1 9 1) p1 0 ∧ wNum (S1 10) (S1 9 1) p1 0 ≤ 1000000000 := wNum_bd (pOK_b hp 10 (by decide))
            refine lv_aload hx hb dX7_passes_60 (lv_at hl 0 rfl) ?_
            refine va_get (D := D) (ci := 2) (v := .ref ((subA a0 1) 9)) (C := RX0) (T := TX0) (N := 6) hx hb hts (fun w h => List.mem_cons_of_mem _ (List.mem_append_left _ (List.mem_append_left _ (List.mem_append_left _ (List.mem_append_left _ (List.mem_append_right _ h)))))) hown hK hP 9 rfl rfl 0 (by decide) (hts (.fieldLink RX7 76 "MondayFactory$Belt" "row" "LMondayFactory$Row;") (List.mem_of_getElem? (i := 5) rfl)) (fun _ h9 => h9) rfl dX7_passes_62 ?_
            refine lv_iload_n hx hb dX7_passes_65 rfl (lv_at hl 3 rfl) ?_
            refine z_ai0 (va_runV (As := [.int (iI p1)]) (rest := [.int (iI (wNum (S1 10) (S1 9 1) p1 0)), .ref ((subA a0 1) 8)]) ⟨hx, hb, hml, hown, hts⟩ (c_X6_alarm l D k (subA (subA a0 1) 9) (sub2 S1 9)  p1 (pOK_b hp 10 (by decide)) (by have e0 : ((sub2 S1 9) 0 1) = S1 9 1 := rfl; omega) (by omega) _) (cwV 1 hts gX7_passes_X6_alarm rfl rfl rfl (by decide +kernel) ⟨(Nat.le_of_ble_eq_true rfl), (Nat.le_of_ble_eq_true rfl)⟩) (z_preV hK hG hA hP hD hS [10, 11] rfl (by decide) 8 rfl rfl) rfl rfl hl.1 rfl (lv_room (Nat.le_of_ble_eq_true rfl)) dX7_passes_66 ⟨(Nat.le_of_ble_eq_true rfl), (Nat.le_of_ble_eq_true rfl)⟩) hA hP hD hS [10, 11] rfl (fun H locs hP hS => ?_)
            refine z_eqi (z2 := wNum (S1 10) (S1 9 1) p1 1) rfl ?_
            have q_19 : -1000000000 ≤ wNum (S1 10) (S1 9 1) p1 1 ∧ wNum (S1 10) (S1 9 1) p1 1 ≤ 1000000000 := wNum_bd (pOK_b hp 10 (by decide))
            refine lv_iload_n hx hb dX7_passes_69 rfl (lv_at hl 4 rfl) ?_
            refine z_ai0 (va_runV (As := [.int (iI (wNum (S1 10) (S1 9 1) p1 0)), .int (iI (wNum (S1 10) (S1 9 1) p1 1)), .int (iI p2)]) (rest := []) ⟨hx, hb, hml, hown, hts⟩ (c_X0_isPassedBy l D k (subA (subA a0 1) 8) (sub2 S1 8)  (wNum (S1 10) (S1 9 1) p1 0) (wNum (S1 10) (S1 9 1) p1 1) p2 (pOK_b hp 8 (by decide)) (by omega) (by omega) (by omega) _) (cwV 3 hts gX7_passes_X0_isPassedBy rfl rfl rfl (by decide +kernel) ⟨(Nat.le_of_ble_eq_true rfl), (Nat.le_of_ble_eq_true rfl)⟩) (z_preV hK hG hA hP hD hS [9, 10, 11] rfl (by decide) 2 rfl rfl) rfl rfl hl.1 rfl (lv_room (Nat.le_of_ble_eq_true rfl)) dX7_passes_70 ⟨(Nat.le_of_ble_eq_true rfl), (Nat.le_of_ble_eq_true rfl)⟩) hA hP hD hS [9, 10, 11] rfl (fun H locs hP hS => ?_)
            refine z_eqi (z2 := zb (wPassed (S1 8) (wNum (S1 10) (S1 9 1) p1 0) (wNum (S1 10) (S1 9 1) p1 1) p2)) rfl ?_
            refine zi_if_eqB (tgt := 80) hx hb dX7_passes_73 (by decide) (fun c_20 => ?_) (fun c_20 => ?_)
            · refine lv_iconst (v := iI 0) hx hb dX7_passes_80 rfl ?_
              exact z_zret hx hb hr hlocks rfl hP hS dX7_passes_81 (Eq.trans (zif_neg x_3) (Eq.trans (zif_neg x_9) (Eq.trans (zif_neg c_17) (Eq.trans (zif_neg c_20) rfl)))) rfl (Nat.le_refl _) (Nat.le_refl _)
            · refine lv_iconst (v := iI 1) hx hb dX7_passes_76 rfl ?_
              refine lv_goto (tgt := 81) hx hb dX7_passes_77 (by decide) ?_
              exact z_zret hx hb hr hlocks rfl hP hS dX7_passes_81 (Eq.trans (zif_neg x_3) (Eq.trans (zif_neg x_9) (Eq.trans (zif_neg c_17) (Eq.trans (zif_pos c_20) rfl)))) rfl (Nat.le_refl _) (Nat.le_refl _)
    · exfalso; omega
set_option maxHeartbeats 4000000 in
set_option maxRecDepth 100000 in
theorem c_X7_passes_b (l : Launch) (hst : l.stackTraces = false) (D : va_G) (k : Nat → ClassId) (a0 : Nat → Nat) (S0 : Nat → Nat → Int) (S1 : Nat → Nat → Int) (p0 : Int) (p1 : Int) (p2 : Int) (hp : pOK S1) (h0 : -2147483648 ≤ p0 ∧ p0 < 2147483648) (h1 : -2147483648 ≤ p1 ∧ p1 < 2147483648) (hc : ¬ (0 ≤ p1 ∧ ((p0 = 0 ∧ p1 < S1 3 1) ∨ (p0 = 1 ∧ p1 < S1 6 1) ∨ (p0 = 2 ∧ p1 < S1 9 1)))) : zMx l yX7_passes wsX7_passes ({ frames := 7, cells := 1, slots := 6, locals := 104 } : Room) D k [.ref (a0 0), .int (iI p0), .int (iI p1), .int (iI p2)] (wFac k a0 S0 ++ wPlant k (subA a0 1) S1) "java/lang/IndexOutOfBoundsException" (wFac k a0 S0 ++ wPlant k (subA a0 1) S1) 1 6 := by
  refine zMx_of (cc := cX7_passes) (maxL := 5) (ret := (some .boolean)) (by decide) rfl (Nat.le_of_ble_eq_true rfl) ?_
  intro p e s m args below meth c A ls hx hb hr hml hown hts hlocks hK hP hD hG hE ht hA hS hl
  have hown : s.vm.findClass RX7 = some m.cls := hown
  have hl : lv_has ls 5 [(0, .ref (a0 0)), (1, .int (iI p0)), (2, .int (iI p1)), (3, .int (iI p2))] := hl
  obtain ⟨H, hH⟩ : ∃ z, z = s.heap := ⟨_, rfl⟩
  obtain ⟨locs, hlc⟩ : ∃ z : List Loc, z = [] := ⟨_, rfl⟩
  rw [← hH] at hP
  have hS : va_S A s.heap H locs := by rw [hH, hlc]; exact hS
  rw [← hlc, ← hH]
  clear hlc hH
  have kp := hp.2
  refine lv_aload_n hx hb dX7_passes_0 rfl (lv_at hl 0 rfl) ?_
  refine lv_iload_n hx hb dX7_passes_1 rfl (lv_at hl 1 rfl) ?_
  refine lv_iload_n hx hb dX7_passes_2 rfl (lv_at hl 2 rfl) ?_
  exact z_axo (vx_runV (As := [.int (iI p0), .int (iI p1)]) (rest := []) ⟨hx, hb, hml, hown, hts⟩ (c_X7_demandPlace_x l hst D k a0 S0 S1  p0 p1 hp (by omega) (by omega) (by omega) _) (cwV 2 hts gX7_passes_X7_demandPlace rfl rfl rfl (by decide +kernel) ⟨(Nat.le_of_ble_eq_true rfl), (Nat.le_of_ble_eq_true rfl)⟩) (z_preVx hK hG hE hA hP hD hS (zrg 0 1 ++ zrg 1 15) (z_mcat (z_hd (n := 1) rfl) (z_sk (n := 1) (off := 0) (m := 15) rfl (z_hdl (n := 15) rfl))) (by decide +kernel) 9 rfl rfl) rfl rfl hl.1 rfl (lv_room (Nat.le_of_ble_eq_true rfl)) dX7_passes_3 ⟨(Nat.le_of_ble_eq_true rfl), (Nat.le_of_ble_eq_true rfl)⟩) hA hP hD hS (zrg 0 1 ++ zrg 1 15) (z_mcat (z_hd (n := 1) rfl) (z_sk (n := 1) (off := 0) (m := 15) rfl (z_hdl (n := 15) rfl))) (z_mfst rfl rfl) ht hlocks (Eq.trans rfl (Eq.symm (zset_same (z_mcat (z_hd (n := 1) rfl) (z_sk (n := 1) (off := 0) (m := 15) rfl (z_hdl (n := 15) rfl)))))) (Nat.le_of_ble_eq_true rfl) (Nat.le_of_ble_eq_true rfl)
set_option maxHeartbeats 4000000 in
set_option maxRecDepth 100000 in
theorem c_X7_passes_w (l : Launch) (hst : l.stackTraces = false) (D : va_G) (k : Nat → ClassId) (a0 : Nat → Nat) (S0 : Nat → Nat → Int) (S1 : Nat → Nat → Int) (p0 : Int) (p1 : Int) (p2 : Int) (hp : pOK S1) (h0 : -2147483648 ≤ p0 ∧ p0 < 2147483648) (h1 : -2147483648 ≤ p1 ∧ p1 < 2147483648) (h2 : -2147483648 ≤ p2 ∧ p2 < 2147483648) (hc : 0 ≤ p1 ∧ ((p0 = 0 ∧ p1 < S1 3 1) ∨ (p0 = 1 ∧ p1 < S1 6 1) ∨ (p0 = 2 ∧ p1 < S1 9 1))) (hw : ¬ (1 ≤ p2 ∧ p2 ≤ 3)) : zMx l yX7_passes wsX7_passes ({ frames := 6, cells := 1, slots := 6, locals := 82 } : Room) D k [.ref (a0 0), .int (iI p0), .int (iI p1), .int (iI p2)] (wFac k a0 S0 ++ wPlant k (subA a0 1) S1) "java/lang/IllegalArgumentException" (wFac k a0 S0 ++ wPlant k (subA a0 1) S1) 1 6 := by
  refine zMx_of (cc := cX7_passes) (maxL := 5) (ret := (some .boolean)) (by decide) rfl (Nat.le_of_ble_eq_true rfl) ?_
  intro p e s m args below meth c A ls hx hb hr hml hown hts hlocks hK hP hD hG hE ht hA hS hl
  have hown : s.vm.findClass RX7 = some m.cls := hown
  have hl : lv_has ls 5 [(0, .ref (a0 0)), (1, .int (iI p0)), (2, .int (iI p1)), (3, .int (iI p2))] := hl
  obtain ⟨H, hH⟩ : ∃ z, z = s.heap := ⟨_, rfl⟩
  obtain ⟨locs, hlc⟩ : ∃ z : List Loc, z = [] := ⟨_, rfl⟩
  rw [← hH] at hP
  have hS : va_S A s.heap H locs := by rw [hH, hlc]; exact hS
  rw [← hlc, ← hH]
  clear hlc hH
  have kp := hp.2
  refine lv_aload_n hx hb dX7_passes_0 rfl (lv_at hl 0 rfl) ?_
  refine lv_iload_n hx hb dX7_passes_1 rfl (lv_at hl 1 rfl) ?_
  refine lv_iload_n hx hb dX7_passes_2 rfl (lv_at hl 2 rfl) ?_
  refine z_av0 (va_runV (As := [.int (iI p0), .int (iI p1)]) (rest := []) ⟨hx, hb, hml, hown, hts⟩ (c_X7_demandPlace_ok l D k a0 S0 S1  p0 p1 hp (by omega) (by omega) (by omega) _) (cwV 2 hts gX7_passes_X7_demandPlace rfl rfl rfl (by decide +kernel) ⟨(Nat.le_of_ble_eq_true rfl), (Nat.le_of_ble_eq_true rfl)⟩) (z_preV hK hG hA hP hD hS (zrg 0 1 ++ zrg 1 15) (z_mcat (z_hd (n := 1) rfl) (z_sk (n := 1) (off := 0) (m := 15) rfl (z_hdl (n := 15) rfl))) (by decide +kernel) 9 rfl rfl) rfl rfl hl.1 rfl (lv_room (Nat.le_of_ble_eq_true rfl)) dX7_passes_3 ⟨(Nat.le_of_ble_eq_true rfl), (Nat.le_of_ble_eq_true rfl)⟩) hA hP hD hS (zrg 0 1 ++ zrg 1 15) (z_mcat (z_hd (n := 1) rfl) (z_sk (n := 1) (off := 0) (m := 15) rfl (z_hdl (n := 15) rfl))) (fun H locs hP hS => ?_)
  refine lv_iload_n hx hb dX7_passes_6 rfl (lv_at hl 3 rfl) ?_
  refine lv_iconst (v := iI 1) hx hb dX7_passes_7 rfl ?_
  refine zi_icmp_lt (tgt := 16) hx hb dX7_passes_8 (by decide) ⟨by omega, by omega⟩ ⟨by omega, by omega⟩ (fun c_1 => ?_) (fun c_1 => ?_)
  · exact z_thrS (cls := "java/lang/IllegalArgumentException") hx hb hst hown zXf_iarg zXm_iarg (hts (.classLink RX7 137 "java/lang/IllegalArgumentException") (List.mem_of_getElem? (i := 1) rfl)) (hts (.initialized "java/lang/IllegalArgumentException") (List.mem_of_getElem? (i := 2) rfl)) (show (139, "there is no such test") ∈ zStrs by decide +kernel) hG hE (fun w h => hts w ((fun w h => List.mem_cons_of_mem _ (List.mem_append_left _ (List.mem_append_left _ (List.mem_append_right _ h)))) w h)) zXn_iarg zXg_iarg hS (hl.1.trans hml.symm) dX7_passes_16 dX7_passes_19 dX7_passes_20 dX7_passes_22 dX7_passes_25 ht (Nat.le_of_ble_eq_true rfl) (Nat.le_of_ble_eq_true rfl) (Nat.le_of_ble_eq_true rfl) (Nat.le_of_ble_eq_true rfl) hlocks (z_to (Eq.symm rfl) hP) (Nat.le_of_ble_eq_true rfl) (Nat.le_of_ble_eq_true rfl)
  · refine lv_iload_n hx hb dX7_passes_11 rfl (lv_at hl 3 rfl) ?_
    refine lv_iconst (v := iI 3) hx hb dX7_passes_12 rfl ?_
    refine zi_icmp_le (tgt := 26) hx hb dX7_passes_13 (by decide) ⟨by omega, by omega⟩ ⟨by omega, by omega⟩ (fun c_2 => ?_) (fun c_2 => ?_)
    · refine lv_aload_n hx hb dX7_passes_26 rfl (lv_at hl 0 rfl) ?_
      refine va_get (D := D) (ci := 9) (v := .ref ((subA a0 1) 0)) (C := RX7) (T := TX7) (N := 11) hx hb hts (fun w h => List.mem_cons_of_mem _ (List.mem_append_left _ (List.mem_append_left _ (List.mem_append_left _ (List.mem_append_left _ (List.mem_append_left _ (List.mem_append_left _ (List.mem_append_right _ h)))))))) hown hK hP 0 rfl rfl 0 (by decide) (hts (.fieldLink RX7 10 "MondayFactory" "plant" "LMondayFactory$Plant;") (List.mem_of_getElem? (i := 3) rfl)) (fun _ h9 => h9) rfl dX7_passes_27 ?_
      refine va_get (D := D) (ci := 7) (v := .ref ((subA a0 1) 1)) (C := RX5) (T := TX5) (N := 11) hx hb hts (fun w h => List.mem_cons_of_mem _ (List.mem_append_left _ (List.mem_append_left _ (List.mem_append_left _ (List.mem_append_left _ (List.mem_append_left _ (List.mem_append_right _ h))))))) hown hK hP 1 rfl rfl 0 (by decide) (hts (.fieldLink RX7 72 "MondayFactory$Plant" "belts" "[LMondayFactory$Belt;") (List.mem_of_getElem? (i := 4) rfl)) (fun _ h9 => h9) rfl dX7_passes_30 ?_
      refine lv_iload_n hx hb dX7_passes_33 rfl (lv_at hl 1 rfl) ?_
      by_cases x_3 : p0 = 0
      · refine z_eqi (z2 := 0) x_3 ?_
        refine z_aald hx hb hK hP 2 2 (f := fun j => some ((subA a0 1) (2 + 3 * j))) (q := (subA a0 1) 2) rfl rfl (i := 0) (by omega) (by omega) (by decide) rfl dX7_passes_34 ?_
        refine lv_astore (lv' := [(4, .ref ((subA a0 1) 2)), (0, .ref (a0 0)), (1, .int (iI p0)), (2, .int (iI p1)), (3, .int (iI p2))]) hx hb dX7_passes_35 hl (by decide) rfl (fun ls hl => ?_)
        refine lv_aload hx hb dX7_passes_37 (lv_at hl 0 rfl) ?_
        refine va_get (D := D) (ci := 2) (v := .ref ((subA a0 1) 3)) (C := RX0) (T := TX0) (N := 6) hx hb hts (fun w h => List.mem_cons_of_mem _ (List.mem_append_left _ (List.mem_append_left _ (List.mem_append_left _ (List.mem_append_left _ (List.mem_append_right _ h)))))) hown hK hP 3 rfl rfl 0 (by decide) (hts (.fieldLink RX7 76 "MondayFactory$Belt" "row" "LMondayFactory$Row;") (List.mem_of_getElem? (i := 5) rfl)) (fun _ h9 => h9) rfl dX7_passes_39 ?_
        refine lv_iload_n hx hb dX7_passes_42 rfl (lv_at hl 3 rfl) ?_
        refine z_ai0 (va_runV (As := [.int (iI p1)]) (rest := []) ⟨hx, hb, hml, hown, hts⟩ (c_X6_isBlank l D k (subA (subA a0 1) 3) (sub2 S1 3)  p1 (pOK_b hp 4 (by decide)) (by have e0 : ((sub2 S1 3) 0 1) = S1 3 1 := rfl; omega) (by omega) _) (cwV 1 hts gX7_passes_X6_isBlank rfl rfl rfl (by decide +kernel) ⟨(Nat.le_of_ble_eq_true rfl), (Nat.le_of_ble_eq_true rfl)⟩) (z_preV hK hG hA hP hD hS [4, 5] rfl (by decide) 8 rfl rfl) rfl rfl hl.1 rfl (lv_room (Nat.le_of_ble_eq_true rfl)) dX7_passes_43 ⟨(Nat.le_of_ble_eq_true rfl), (Nat.le_of_ble_eq_true rfl)⟩) hA hP hD hS [4, 5] rfl (fun H locs hP hS => ?_)
        refine z_eqi (z2 := zb (wNum (S1 4) (S1 3 1) p1 0 = -1)) rfl ?_
        have f_4 : -1000000000 ≤ S1 3 1 ∧ S1 3 1 ≤ 1000000000 := (pOK_b hp 3 (by decide)) 1
        refine zi_if_neB (tgt := 76) hx hb dX7_passes_46 (by decide) (fun c_5 => ?_) (fun c_5 => ?_)
        · refine lv_iconst (v := iI 1) hx hb dX7_passes_76 rfl ?_
          refine lv_goto (tgt := 81) hx hb dX7_passes_77 (by decide) ?_
          exfalso; omega
        · refine lv_aload hx hb dX7_passes_49 (lv_at hl 0 rfl) ?_
          refine lv_aload hx hb dX7_passes_51 (lv_at hl 0 rfl) ?_
          refine va_get (D := D) (ci := 2) (v := .ref ((subA a0 1) 3)) (C := RX0) (T := TX0) (N := 6) hx hb hts (fun w h => List.mem_cons_of_mem _ (List.mem_append_left _ (List.mem_append_left _ (List.mem_append_left _ (List.mem_append_left _ (List.mem_append_right _ h)))))) hown hK hP 3 rfl rfl 0 (by decide) (hts (.fieldLink RX7 76 "MondayFactory$Belt" "row" "LMondayFactory$Row;") (List.mem_of_getElem? (i := 5) rfl)) (fun _ h9 => h9) rfl dX7_passes_53 ?_
          refine lv_iload_n hx hb dX7_passes_56 rfl (lv_at hl 3 rfl) ?_
          refine z_ai0 (va_runV (As := [.int (iI p1)]) (rest := [.ref ((subA a0 1) 2)]) ⟨hx, hb, hml, hown, hts⟩ (c_X6_grey l D k (subA (subA a0 1) 3) (sub2 S1 3)  p1 (pOK_b hp 4 (by decide)) (by have e0 : ((sub2 S1 3) 0 1) = S1 3 1 := rfl; omega) (by omega) _) (cwV 1 hts gX7_passes_X6_grey rfl rfl rfl (by decide +kernel) ⟨(Nat.le_of_ble_eq_true rfl), (Nat.le_of_ble_eq_true rfl)⟩) (z_preV hK hG hA hP hD hS [4, 5] rfl (by decide) 8 rfl rfl) rfl rfl hl.1 rfl (lv_room (Nat.le_of_ble_eq_true rfl)) dX7_passes_57 ⟨(Nat.le_of_ble_eq_true rfl), (Nat.le_of_ble_eq_true rfl)⟩) hA hP hD hS [4, 5] rfl (fun H locs hP hS => ?_)
          refine z_eqi (z2 := wNum (S1 4) (S1 3 1) p1 0) rfl ?_
          have q_6 : -1000000000 ≤ wNum (S1 4) (S1 3 1) p1 0 ∧ wNum (S1 4) (S1 3 1) p1 0 ≤ 1000000000 := wNum_bd (pOK_b hp 4 (by decide))
          refine lv_aload hx hb dX7_passes_60 (lv_at hl 0 rfl) ?_
          refine va_get (D := D) (ci := 2) (v := .ref ((subA a0 1) 3)) (C := RX0) (T := TX0) (N := 6) hx hb hts (fun w h => List.mem_cons_of_mem _ (List.mem_append_left _ (List.mem_append_left _ (List.mem_append_left _ (List.mem_append_left _ (List.mem_append_right _ h)))))) hown hK hP 3 rfl rfl 0 (by decide) (hts (.fieldLink RX7 76 "MondayFactory$Belt" "row" "LMondayFactory$Row;") (List.mem_of_getElem? (i := 5) rfl)) (fun _ h9 => h9) rfl dX7_passes_62 ?_
          refine lv_iload_n hx hb dX7_passes_65 rfl (lv_at hl 3 rfl) ?_
          refine z_ai0 (va_runV (As := [.int (iI p1)]) (rest := [.int (iI (wNum (S1 4) (S1 3 1) p1 0)), .ref ((subA a0 1) 2)]) ⟨hx, hb, hml, hown, hts⟩ (c_X6_alarm l D k (subA (subA a0 1) 3) (sub2 S1 3)  p1 (pOK_b hp 4 (by decide)) (by have e0 : ((sub2 S1 3) 0 1) = S1 3 1 := rfl; omega) (by omega) _) (cwV 1 hts gX7_passes_X6_alarm rfl rfl rfl (by decide +kernel) ⟨(Nat.le_of_ble_eq_true rfl), (Nat.le_of_ble_eq_true rfl)⟩) (z_preV hK hG hA hP hD hS [4, 5] rfl (by decide) 8 rfl rfl) rfl rfl hl.1 rfl (lv_room (Nat.le_of_ble_eq_true rfl)) dX7_passes_66 ⟨(Nat.le_of_ble_eq_true rfl), (Nat.le_of_ble_eq_true rfl)⟩) hA hP hD hS [4, 5] rfl (fun H locs hP hS => ?_)
          refine z_eqi (z2 := wNum (S1 4) (S1 3 1) p1 1) rfl ?_
          have q_7 : -1000000000 ≤ wNum (S1 4) (S1 3 1) p1 1 ∧ wNum (S1 4) (S1 3 1) p1 1 ≤ 1000000000 := wNum_bd (pOK_b hp 4 (by decide))
          refine lv_iload_n hx hb dX7_passes_69 rfl (lv_at hl 4 rfl) ?_
          refine z_ai0 (va_runV (As := [.int (iI (wNum (S1 4) (S1 3 1) p1 0)), .int (iI (wNum (S1 4) (S1 3 1) p1 1)), .int (iI p2)]) (rest := []) ⟨hx, hb, hml, hown, hts⟩ (c_X0_isPassedBy l D k (subA (subA a0 1) 2) (sub2 S1 2)  (wNum (S1 4) (S1 3 1) p1 0) (wNum (S1 4) (S1 3 1) p1 1) p2 (pOK_b hp 2 (by decide)) (by omega) (by omega) (by omega) _) (cwV 3 hts gX7_passes_X0_isPassedBy rfl rfl rfl (by decide +kernel) ⟨(Nat.le_of_ble_eq_true rfl), (Nat.le_of_ble_eq_true rfl)⟩) (z_preV hK hG hA hP hD hS [3, 4, 5] rfl (by decide) 2 rfl rfl) rfl rfl hl.1 rfl (lv_room (Nat.le_of_ble_eq_true rfl)) dX7_passes_70 ⟨(Nat.le_of_ble_eq_true rfl), (Nat.le_of_ble_eq_true rfl)⟩) hA hP hD hS [3, 4, 5] rfl (fun H locs hP hS => ?_)
          refine z_eqi (z2 := zb (wPassed (S1 2) (wNum (S1 4) (S1 3 1) p1 0) (wNum (S1 4) (S1 3 1) p1 1) p2)) rfl ?_
          refine zi_if_eqB (tgt := 80) hx hb dX7_passes_73 (by decide) (fun c_8 => ?_) (fun c_8 => ?_)
          · refine lv_iconst (v := iI 0) hx hb dX7_passes_80 rfl ?_
            exfalso; omega
          · refine lv_iconst (v := iI 1) hx hb dX7_passes_76 rfl ?_
            refine lv_goto (tgt := 81) hx hb dX7_passes_77 (by decide) ?_
            exfalso; omega
      · by_cases x_9 : p0 = 1
        · refine z_eqi (z2 := 1) x_9 ?_
          refine z_aald hx hb hK hP 2 2 (f := fun j => some ((subA a0 1) (2 + 3 * j))) (q := (subA a0 1) 5) rfl rfl (i := 1) (by omega) (by omega) (by decide) rfl dX7_passes_34 ?_
          refine lv_astore (lv' := [(4, .ref ((subA a0 1) 5)), (0, .ref (a0 0)), (1, .int (iI p0)), (2, .int (iI p1)), (3, .int (iI p2))]) hx hb dX7_passes_35 hl (by decide) rfl (fun ls hl => ?_)
          refine lv_aload hx hb dX7_passes_37 (lv_at hl 0 rfl) ?_
          refine va_get (D := D) (ci := 2) (v := .ref ((subA a0 1) 6)) (C := RX0) (T := TX0) (N := 6) hx hb hts (fun w h => List.mem_cons_of_mem _ (List.mem_append_left _ (List.mem_append_left _ (List.mem_append_left _ (List.mem_append_left _ (List.mem_append_right _ h)))))) hown hK hP 6 rfl rfl 0 (by decide) (hts (.fieldLink RX7 76 "MondayFactory$Belt" "row" "LMondayFactory$Row;") (List.mem_of_getElem? (i := 5) rfl)) (fun _ h9 => h9) rfl dX7_passes_39 ?_
          refine lv_iload_n hx hb dX7_passes_42 rfl (lv_at hl 3 rfl) ?_
          refine z_ai0 (va_runV (As := [.int (iI p1)]) (rest := []) ⟨hx, hb, hml, hown, hts⟩ (c_X6_isBlank l D k (subA (subA a0 1) 6) (sub2 S1 6)  p1 (pOK_b hp 7 (by decide)) (by have e0 : ((sub2 S1 6) 0 1) = S1 6 1 := rfl; omega) (by omega) _) (cwV 1 hts gX7_passes_X6_isBlank rfl rfl rfl (by decide +kernel) ⟨(Nat.le_of_ble_eq_true rfl), (Nat.le_of_ble_eq_true rfl)⟩) (z_preV hK hG hA hP hD hS [7, 8] rfl (by decide) 8 rfl rfl) rfl rfl hl.1 rfl (lv_room (Nat.le_of_ble_eq_true rfl)) dX7_passes_43 ⟨(Nat.le_of_ble_eq_true rfl), (Nat.le_of_ble_eq_true rfl)⟩) hA hP hD hS [7, 8] rfl (fun H locs hP hS => ?_)
          refine z_eqi (z2 := zb (wNum (S1 7) (S1 6 1) p1 0 = -1)) rfl ?_
          have f_10 : -1000000000 ≤ S1 6 1 ∧ S1 6 1 ≤ 1000000000 := (pOK_b hp 6 (by decide)) 1
          refine zi_if_neB (tgt := 76) hx hb dX7_passes_46 (by decide) (fun c_11 => ?_) (fun c_11 => ?_)
          · refine lv_iconst (v := iI 1) hx hb dX7_passes_76 rfl ?_
            refine lv_goto (tgt := 81) hx hb dX7_passes_77 (by decide) ?_
            exfalso; omega
          · refine lv_aload hx hb dX7_passes_49 (lv_at hl 0 rfl) ?_
            refine lv_aload hx hb dX7_passes_51 (lv_at hl 0 rfl) ?_
            refine va_get (D := D) (ci := 2) (v := .ref ((subA a0 1) 6)) (C := RX0) (T := TX0) (N := 6) hx hb hts (fun w h => List.mem_cons_of_mem _ (List.mem_append_left _ (List.mem_append_left _ (List.mem_append_left _ (List.mem_append_left _ (List.mem_append_right _ h)))))) hown hK hP 6 rfl rfl 0 (by decide) (hts (.fieldLink RX7 76 "MondayFactory$Belt" "row" "LMondayFactory$Row;") (List.mem_of_getElem? (i := 5) rfl)) (fun _ h9 => h9) rfl dX7_passes_53 ?_
            refine lv_iload_n hx hb dX7_passes_56 rfl (lv_at hl 3 rfl) ?_
            refine z_ai0 (va_runV (As := [.int (iI p1)]) (rest := [.ref ((subA a0 1) 5)]) ⟨hx, hb, hml, hown, hts⟩ (c_X6_grey l D k (subA (subA a0 1) 6) (sub2 S1 6)  p1 (pOK_b hp 7 (by decide)) (by have e0 : ((sub2 S1 6) 0 1) = S1 6 1 := rfl; omega) (by omega) _) (cwV 1 hts gX7_passes_X6_grey rfl rfl rfl (by decide +kernel) ⟨(Nat.le_of_ble_eq_true rfl), (Nat.le_of_ble_eq_true rfl)⟩) (z_preV hK hG hA hP hD hS [7, 8] rfl (by decide) 8 rfl rfl) rfl rfl hl.1 rfl (lv_room (Nat.le_of_ble_eq_true rfl)) dX7_passes_57 ⟨(Nat.le_of_ble_eq_true rfl), (Nat.le_of_ble_eq_true rfl)⟩) hA hP hD hS [7, 8] rfl (fun H locs hP hS => ?_)
            refine z_eqi (z2 := wNum (S1 7) (S1 6 1) p1 0) rfl ?_
            have q_12 : -1000000000 ≤ wNum (S1 7) (S1 6 1) p1 0 ∧ wNum (S1 7) (S1 6 1) p1 0 ≤ 1000000000 := wNum_bd (pOK_b hp 7 (by decide))
            refine lv_aload hx hb dX7_passes_60 (lv_at hl 0 rfl) ?_
            refine va_get (D := D) (ci := 2) (v := .ref ((subA a0 1) 6)) (C := RX0) (T := TX0) (N := 6) hx hb hts (fun w h => List.mem_cons_of_mem _ (List.mem_append_left _ (List.mem_append_left _ (List.mem_append_left _ (List.mem_append_left _ (List.mem_append_right _ h)))))) hown hK hP 6 rfl rfl 0 (by decide) (hts (.fieldLink RX7 76 "MondayFactory$Belt" "row" "LMondayFactory$Row;") (List.mem_of_getElem? (i := 5) rfl)) (fun _ h9 => h9) rfl dX7_passes_62 ?_
            refine lv_iload_n hx hb dX7_passes_65 rfl (lv_at hl 3 rfl) ?_
            refine z_ai0 (va_runV (As := [.int (iI p1)]) (rest := [.int (iI (wNum (S1 7) (S1 6 1) p1 0)), .ref ((subA a0 1) 5)]) ⟨hx, hb, hml, hown, hts⟩ (c_X6_alarm l D k (subA (subA a0 1) 6) (sub2 S1 6)  p1 (pOK_b hp 7 (by decide)) (by have e0 : ((sub2 S1 6) 0 1) = S1 6 1 := rfl; omega) (by omega) _) (cwV 1 hts gX7_passes_X6_alarm rfl rfl rfl (by decide +kernel) ⟨(Nat.le_of_ble_eq_true rfl), (Nat.le_of_ble_eq_true rfl)⟩) (z_preV hK hG hA hP hD hS [7, 8] rfl (by decide) 8 rfl rfl) rfl rfl hl.1 rfl (lv_room (Nat.le_of_ble_eq_true rfl)) dX7_passes_66 ⟨(Nat.le_of_ble_eq_true rfl), (Nat.le_of_ble_eq_true rfl)⟩) hA hP hD hS [7, 8] rfl (fun H locs hP hS => ?_)
            refine z_eqi (z2 := wNum (S1 7) (S1 6 1) p1 1) rfl ?_
            have q_13 : -1000000000 ≤ wNum (S1 7) (S1 6 1) p1 1 ∧ wNum (S1 7) (S1 6 1) p1 1 ≤ 1000000000 := wNum_bd (pOK_b hp 7 (by decide))
            refine lv_iload_n hx hb dX7_passes_69 rfl (lv_at hl 4 rfl) ?_
            refine z_ai0 (va_runV (As := [.int (iI (wNum (S1 7) (S1 6 1) p1 0)), .int (iI (wNum (S1 7) (S1 6 1) p1 1)), .int (iI p2)]) (rest := []) ⟨hx, hb, hml, hown, hts⟩ (c_X0_isPassedBy l D k (subA (subA a0 1) 5) (sub2 S1 5)  (wNum (S1 7) (S1 6 1) p1 0) (wNum (S1 7) (S1 6 1) p1 1) p2 (pOK_b hp 5 (by decide)) (by omega) (by omega) (by omega) _) (cwV 3 hts gX7_passes_X0_isPassedBy rfl rfl rfl (by decide +kernel) ⟨(Nat.le_of_ble_eq_true rfl), (Nat.le_of_ble_eq_true rfl)⟩) (z_preV hK hG hA hP hD hS [6, 7, 8] rfl (by decide) 2 rfl rfl) rfl rfl hl.1 rfl (lv_room (Nat.le_of_ble_eq_true rfl)) dX7_passes_70 ⟨(Nat.le_of_ble_eq_true rfl), (Nat.le_of_ble_eq_true rfl)⟩) hA hP hD hS [6, 7, 8] rfl (fun H locs hP hS => ?_)
            refine z_eqi (z2 := zb (wPassed (S1 5) (wNum (S1 7) (S1 6 1) p1 0) (wNum (S1 7) (S1 6 1) p1 1) p2)) rfl ?_
            refine zi_if_eqB (tgt := 80) hx hb dX7_passes_73 (by decide) (fun c_14 => ?_) (fun c_14 => ?_)
            · refine lv_iconst (v := iI 0) hx hb dX7_passes_80 rfl ?_
              exfalso; omega
            · refine lv_iconst (v := iI 1) hx hb dX7_passes_76 rfl ?_
              refine lv_goto (tgt := 81) hx hb dX7_passes_77 (by decide) ?_
              exfalso; omega
        · have x_15 : p0 = 2 := by omega
          refine z_eqi (z2 := 2) x_15 ?_
          refine z_aald hx hb hK hP 2 2 (f := fun j => some ((subA a0 1) (2 + 3 * j))) (q := (subA a0 1) 8) rfl rfl (i := 2) (by omega) (by omega) (by decide) rfl dX7_passes_34 ?_
          refine lv_astore (lv' := [(4, .ref ((subA a0 1) 8)), (0, .ref (a0 0)), (1, .int (iI p0)), (2, .int (iI p1)), (3, .int (iI p2))]) hx hb dX7_passes_35 hl (by decide) rfl (fun ls hl => ?_)
          refine lv_aload hx hb dX7_passes_37 (lv_at hl 0 rfl) ?_
          refine va_get (D := D) (ci := 2) (v := .ref ((subA a0 1) 9)) (C := RX0) (T := TX0) (N := 6) hx hb hts (fun w h => List.mem_cons_of_mem _ (List.mem_append_left _ (List.mem_append_left _ (List.mem_append_left _ (List.mem_append_left _ (List.mem_append_right _ h)))))) hown hK hP 9 rfl rfl 0 (by decide) (hts (.fieldLink RX7 76 "MondayFactory$Belt" "row" "LMondayFactory$Row;") (List.mem_of_getElem? (i := 5) rfl)) (fun _ h9 => h9) rfl dX7_passes_39 ?_
          refine lv_iload_n hx hb dX7_passes_42 rfl (lv_at hl 3 rfl) ?_
          refine z_ai0 (va_runV (As := [.int (iI p1)]) (rest := []) ⟨hx, hb, hml, hown, hts⟩ (c_X6_isBlank l D k (subA (subA a0 1) 9) (sub2 S1 9)  p1 (pOK_b hp 10 (by decide)) (by have e0 : ((sub2 S1 9) 0 1) = S1 9 1 := rfl; omega) (by omega) _) (cwV 1 hts gX7_passes_X6_isBlank rfl rfl rfl (by decide +kernel) ⟨(Nat.le_of_ble_eq_true rfl), (Nat.le_of_ble_eq_true rfl)⟩) (z_preV hK hG hA hP hD hS [10, 11] rfl (by decide) 8 rfl rfl) rfl rfl hl.1 rfl (lv_room (Nat.le_of_ble_eq_true rfl)) dX7_passes_43 ⟨(Nat.le_of_ble_eq_true rfl), (Nat.le_of_ble_eq_true rfl)⟩) hA hP hD hS [10, 11] rfl (fun H locs hP hS => ?_)
          refine z_eqi (z2 := zb (wNum (S1 10) (S1 9 1) p1 0 = -1)) rfl ?_
          have f_16 : -1000000000 ≤ S1 9 1 ∧ S1 9 1 ≤ 1000000000 := (pOK_b hp 9 (by decide)) 1
          refine zi_if_neB (tgt := 76) hx hb dX7_passes_46 (by decide) (fun c_17 => ?_) (fun c_17 => ?_)
          · refine lv_iconst (v := iI 1) hx hb dX7_passes_76 rfl ?_
            refine lv_goto (tgt := 81) hx hb dX7_passes_77 (by decide) ?_
            exfalso; omega
          · refine lv_aload hx hb dX7_passes_49 (lv_at hl 0 rfl) ?_
            refine lv_aload hx hb dX7_passes_51 (lv_at hl 0 rfl) ?_
            refine va_get (D := D) (ci := 2) (v := .ref ((subA a0 1) 9)) (C := RX0) (T := TX0) (N := 6) hx hb hts (fun w h => List.mem_cons_of_mem _ (List.mem_append_left _ (List.mem_append_left _ (List.mem_append_left _ (List.mem_append_left _ (List.mem_append_right _ h)))))) hown hK hP 9 rfl rfl 0 (by decide) (hts (.fieldLink RX7 76 "MondayFactory$Belt" "row" "LMondayFactory$Row;") (List.mem_of_getElem? (i := 5) rfl)) (fun _ h9 => h9) rfl dX7_passes_53 ?_
            refine lv_iload_n hx hb dX7_passes_56 rfl (lv_at hl 3 rfl) ?_
            refine z_ai0 (va_runV (As := [.int (iI p1)]) (rest := [.ref ((subA a0 1) 8)]) ⟨hx, hb, hml, hown, hts⟩ (c_X6_grey l D k (subA (subA a0 1) 9) (sub2 S1 9)  p1 (pOK_b hp 10 (by decide)) (by have e0 : ((sub2 S1 9) 0 1) = S1 9 1 := rfl; omega) (by omega) _) (cwV 1 hts gX7_passes_X6_grey rfl rfl rfl (by decide +kernel) ⟨(Nat.le_of_ble_eq_true rfl), (Nat.le_of_ble_eq_true rfl)⟩) (z_preV hK hG hA hP hD hS [10, 11] rfl (by decide) 8 rfl rfl) rfl rfl hl.1 rfl (lv_room (Nat.le_of_ble_eq_true rfl)) dX7_passes_57 ⟨(Nat.le_of_ble_eq_true rfl), (Nat.le_of_ble_eq_true rfl)⟩) hA hP hD hS [10, 11] rfl (fun H locs hP hS => ?_)
            refine z_eqi (z2 := wNum (S1 10) (S1 9 1) p1 0) rfl ?_
            have q_18 : -1000000000 ≤ wNum (S1 10) (S1 9 1) p1 0 ∧ wNum (S1 10) (S1 9 1) p1 0 ≤ 1000000000 := wNum_bd (pOK_b hp 10 (by decide))
            refine lv_aload hx hb dX7_passes_60 (lv_at hl 0 rfl) ?_
            refine va_get (D := D) (ci := 2) (v := .ref ((subA a0 1) 9)) (C := RX0) (T := TX0) (N := 6) hx hb hts (fun w h => List.mem_cons_of_mem _ (List.mem_append_left _ (List.mem_append_left _ (List.mem_append_left _ (List.mem_append_left _ (List.mem_append_right _ h)))))) hown hK hP 9 rfl rfl 0 (by decide) (hts (.fieldLink RX7 76 "MondayFactory$Belt" "row" "LMondayFactory$Row;") (List.mem_of_getElem? (i := 5) rfl)) (fun _ h9 => h9) rfl dX7_passes_62 ?_
            refine lv_iload_n hx hb dX7_passes_65 rfl (lv_at hl 3 rfl) ?_
            refine z_ai0 (va_runV (As := [.int (iI p1)]) (rest := [.int (iI (wNum (S1 10) (S1 9 1) p1 0)), .ref ((subA a0 1) 8)]) ⟨hx, hb, hml, hown, hts⟩ (c_X6_alarm l D k (subA (subA a0 1) 9) (sub2 S1 9)  p1 (pOK_b hp 10 (by decide)) (by have e0 : ((sub2 S1 9) 0 1) = S1 9 1 := rfl; omega) (by omega) _) (cwV 1 hts gX7_passes_X6_alarm rfl rfl rfl (by decide +kernel) ⟨(Nat.le_of_ble_eq_true rfl), (Nat.le_of_ble_eq_true rfl)⟩) (z_preV hK hG hA hP hD hS [10, 11] rfl (by decide) 8 rfl rfl) rfl rfl hl.1 rfl (lv_room (Nat.le_of_ble_eq_true rfl)) dX7_passes_66 ⟨(Nat.le_of_ble_eq_true rfl), (Nat.le_of_ble_eq_true rfl)⟩) hA hP hD hS [10, 11] rfl (fun H locs hP hS => ?_)
            refine z_eqi (z2 := wNum (S1 10) (S1 9 1) p1 1) rfl ?_
            have q_19 : -1000000000 ≤ wNum (S1 10) (S1 9 1) p1 1 ∧ wNum (S1 10) (S1 9 1) p1 1 ≤ 1000000000 := wNum_bd (pOK_b hp 10 (by decide))
            refine lv_iload_n hx hb dX7_passes_69 rfl (lv_at hl 4 rfl) ?_
            refine z_ai0 (va_runV (As := [.int (iI (wNum (S1 10) (S1 9 1) p1 0)), .int (iI (wNum (S1 10) (S1 9 1) p1 1)), .int (iI p2)]) (rest := []) ⟨hx, hb, hml, hown, hts⟩ (c_X0_isPassedBy l D k (subA (subA a0 1) 8) (sub2 S1 8)  (wNum (S1 10) (S1 9 1) p1 0) (wNum (S1 10) (S1 9 1) p1 1) p2 (pOK_b hp 8 (by decide)) (by omega) (by omega) (by omega) _) (cwV 3 hts gX7_passes_X0_isPassedBy rfl rfl rfl (by decide +kernel) ⟨(Nat.le_of_ble_eq_true rfl), (Nat.le_of_ble_eq_true rfl)⟩) (z_preV hK hG hA hP hD hS [9, 10, 11] rfl (by decide) 2 rfl rfl) rfl rfl hl.1 rfl (lv_room (Nat.le_of_ble_eq_true rfl)) dX7_passes_70 ⟨(Nat.le_of_ble_eq_true rfl), (Nat.le_of_ble_eq_true rfl)⟩) hA hP hD hS [9, 10, 11] rfl (fun H locs hP hS => ?_)
            refine z_eqi (z2 := zb (wPassed (S1 8) (wNum (S1 10) (S1 9 1) p1 0) (wNum (S1 10) (S1 9 1) p1 1) p2)) rfl ?_
            refine zi_if_eqB (tgt := 80) hx hb dX7_passes_73 (by decide) (fun c_20 => ?_) (fun c_20 => ?_)
            · refine lv_iconst (v := iI 0) hx hb dX7_passes_80 rfl ?_
              exfalso; omega
            · refine lv_iconst (v := iI 1) hx hb dX7_passes_76 rfl ?_
              refine lv_goto (tgt := 81) hx hb dX7_passes_77 (by decide) ?_
              exfalso; omega
    · exact z_thrS (cls := "java/lang/IllegalArgumentException") hx hb hst hown zXf_iarg zXm_iarg (hts (.classLink RX7 137 "java/lang/IllegalArgumentException") (List.mem_of_getElem? (i := 1) rfl)) (hts (.initialized "java/lang/IllegalArgumentException") (List.mem_of_getElem? (i := 2) rfl)) (show (139, "there is no such test") ∈ zStrs by decide +kernel) hG hE (fun w h => hts w ((fun w h => List.mem_cons_of_mem _ (List.mem_append_left _ (List.mem_append_left _ (List.mem_append_right _ h)))) w h)) zXn_iarg zXg_iarg hS (hl.1.trans hml.symm) dX7_passes_16 dX7_passes_19 dX7_passes_20 dX7_passes_22 dX7_passes_25 ht (Nat.le_of_ble_eq_true rfl) (Nat.le_of_ble_eq_true rfl) (Nat.le_of_ble_eq_true rfl) (Nat.le_of_ble_eq_true rfl) hlocks (z_to (Eq.symm rfl) hP) (Nat.le_of_ble_eq_true rfl) (Nat.le_of_ble_eq_true rfl)
set_option maxHeartbeats 4000000 in
set_option maxRecDepth 100000 in
theorem c_X7_next_ok (l : Launch) (D : va_G) (k : Nat → ClassId) (a0 : Nat → Nat) (S0 : Nat → Nat → Int) (S1 : Nat → Nat → Int) (hp : pOK S1) (hc : 1 ≤ S1 13 1) : zMi l yX7_next wsX7_next ({ frames := 2, cells := 0, slots := 0, locals := 47 } : Room) D k [.ref (a0 0)] (wFac k a0 S0 ++ wPlant k (subA a0 1) S1) (sp_X1_freshAt (sub2 S1 13) 0) (wFac k a0 S0 ++ wPlant k (subA a0 1) S1) 0 0 := by
  refine zMi_of (cc := cX7_next) (maxL := 1) (ret := (some .int)) (by decide) rfl (Nat.le_of_ble_eq_true rfl) ?_
  intro p e s m args below meth c A ls hx hb hr hml hown hts hlocks hK hP hD hG hA hS hl
  have hown : s.vm.findClass RX7 = some m.cls := hown
  have hl : lv_has ls 1 [(0, .ref (a0 0))] := hl
  obtain ⟨H, hH⟩ : ∃ z, z = s.heap := ⟨_, rfl⟩
  obtain ⟨locs, hlc⟩ : ∃ z : List Loc, z = [] := ⟨_, rfl⟩
  rw [← hH] at hP
  have hS : va_S A s.heap H locs := by rw [hH, hlc]; exact hS
  rw [← hlc, ← hH]
  clear hlc hH
  have kp := hp.2
  refine lv_aload_n hx hb dX7_next_0 rfl (lv_at hl 0 rfl) ?_
  refine z_av0 (va_runV (As := []) (rest := []) ⟨hx, hb, hml, hown, hts⟩ (c_X7_demandInspector_ok l D k a0 S0 S1   hp (by omega) _) (cwV 0 hts gX7_next_X7_demandInspector rfl rfl rfl (by decide +kernel) ⟨(Nat.le_of_ble_eq_true rfl), (Nat.le_of_ble_eq_true rfl)⟩) (z_preV hK hG hA hP hD hS (zrg 0 1 ++ zrg 1 15) (z_mcat (z_hd (n := 1) rfl) (z_sk (n := 1) (off := 0) (m := 15) rfl (z_hdl (n := 15) rfl))) (by decide +kernel) 9 rfl rfl) rfl rfl hl.1 rfl (lv_room (Nat.le_of_ble_eq_true rfl)) dX7_next_1 ⟨(Nat.le_of_ble_eq_true rfl), (Nat.le_of_ble_eq_true rfl)⟩) hA hP hD hS (zrg 0 1 ++ zrg 1 15) (z_mcat (z_hd (n := 1) rfl) (z_sk (n := 1) (off := 0) (m := 15) rfl (z_hdl (n := 15) rfl))) (fun H locs hP hS => ?_)
  refine lv_aload_n hx hb dX7_next_4 rfl (lv_at hl 0 rfl) ?_
  refine va_get (D := D) (ci := 9) (v := .ref ((subA a0 1) 0)) (C := RX7) (T := TX7) (N := 11) hx hb hts (fun w h => List.mem_cons_of_mem _ (List.mem_append_left _ (List.mem_append_left _ (List.mem_append_left _ (List.mem_append_left _ (List.mem_append_right _ h)))))) hown hK hP 0 rfl rfl 0 (by decide) (hts (.fieldLink RX7 10 "MondayFactory" "plant" "LMondayFactory$Plant;") (List.mem_of_getElem? (i := 1) rfl)) (fun _ h9 => h9) rfl dX7_next_5 ?_
  refine va_get (D := D) (ci := 7) (v := .ref ((subA a0 1) 13)) (C := RX5) (T := TX5) (N := 11) hx hb hts (fun w h => List.mem_cons_of_mem _ (List.mem_append_left _ (List.mem_append_left _ (List.mem_append_left _ (List.mem_append_right _ h))))) hown hK hP 1 rfl rfl 2 (by decide) (hts (.fieldLink RX7 117 "MondayFactory$Plant" "crew" "LMondayFactory$Crew;") (List.mem_of_getElem? (i := 2) rfl)) (fun _ h9 => h9) rfl dX7_next_8 ?_
  refine lv_iconst (v := iI 0) hx hb dX7_next_11 rfl ?_
  refine z_ai0 (va_runV (As := [.int (iI 0)]) (rest := []) ⟨hx, hb, hml, hown, hts⟩ (c_X1_freshAt l D k (subA (subA a0 1) 13) (sub2 S1 13)  0 (pOK_b hp 14 (by decide)) (by have e0 : ((sub2 S1 13) 0 1) = S1 13 1 := rfl; omega) (by omega) _) (cwV 1 hts gX7_next_X1_freshAt rfl rfl rfl (by decide +kernel) ⟨(Nat.le_of_ble_eq_true rfl), (Nat.le_of_ble_eq_true rfl)⟩) (z_preV hK hG hA hP hD hS [14, 15] rfl (by decide) 3 rfl rfl) rfl rfl hl.1 rfl (lv_room (Nat.le_of_ble_eq_true rfl)) dX7_next_12 ⟨(Nat.le_of_ble_eq_true rfl), (Nat.le_of_ble_eq_true rfl)⟩) hA hP hD hS [14, 15] rfl (fun H locs hP hS => ?_)
  refine z_eqi (z2 := sp_X1_freshAt (sub2 S1 13) 0) rfl ?_
  have q_1 : -1 ≤ sp_X1_freshAt (sub2 S1 13) 0 ∧ sp_X1_freshAt (sub2 S1 13) 0 ≤ 3 := fresh_rng (sub2 S1 13) 0 (by have e0 : ((sub2 S1 13) 0 1) = S1 13 1 := rfl; omega)
  exact z_iret hx hb hr hlocks hP hS dX7_next_15 rfl rfl (Nat.le_refl _) (Nat.le_refl _)
set_option maxHeartbeats 4000000 in
set_option maxRecDepth 100000 in
theorem c_X7_next_x (l : Launch) (hst : l.stackTraces = false) (D : va_G) (k : Nat → ClassId) (a0 : Nat → Nat) (S0 : Nat → Nat → Int) (S1 : Nat → Nat → Int) (hp : pOK S1) (hc : S1 13 1 = 0) : zMx l yX7_next wsX7_next ({ frames := 7, cells := 1, slots := 6, locals := 102 } : Room) D k [.ref (a0 0)] (wFac k a0 S0 ++ wPlant k (subA a0 1) S1) "java/util/NoSuchElementException" (wFac k a0 S0 ++ wPlant k (subA a0 1) S1) 1 6 := by
  refine zMx_of (cc := cX7_next) (maxL := 1) (ret := (some .int)) (by decide) rfl (Nat.le_of_ble_eq_true rfl) ?_
  intro p e s m args below meth c A ls hx hb hr hml hown hts hlocks hK hP hD hG hE ht hA hS hl
  have hown : s.vm.findClass RX7 = some m.cls := hown
  have hl : lv_has ls 1 [(0, .ref (a0 0))] := hl
  obtain ⟨H, hH⟩ : ∃ z, z = s.heap := ⟨_, rfl⟩
  obtain ⟨locs, hlc⟩ : ∃ z : List Loc, z = [] := ⟨_, rfl⟩
  rw [← hH] at hP
  have hS : va_S A s.heap H locs := by rw [hH, hlc]; exact hS
  rw [← hlc, ← hH]
  clear hlc hH
  have kp := hp.2
  refine lv_aload_n hx hb dX7_next_0 rfl (lv_at hl 0 rfl) ?_
  exact z_axo (vx_runV (As := []) (rest := []) ⟨hx, hb, hml, hown, hts⟩ (c_X7_demandInspector_x l hst D k a0 S0 S1   hp (by omega) _) (cwV 0 hts gX7_next_X7_demandInspector rfl rfl rfl (by decide +kernel) ⟨(Nat.le_of_ble_eq_true rfl), (Nat.le_of_ble_eq_true rfl)⟩) (z_preVx hK hG hE hA hP hD hS (zrg 0 1 ++ zrg 1 15) (z_mcat (z_hd (n := 1) rfl) (z_sk (n := 1) (off := 0) (m := 15) rfl (z_hdl (n := 15) rfl))) (by decide +kernel) 9 rfl rfl) rfl rfl hl.1 rfl (lv_room (Nat.le_of_ble_eq_true rfl)) dX7_next_1 ⟨(Nat.le_of_ble_eq_true rfl), (Nat.le_of_ble_eq_true rfl)⟩) hA hP hD hS (zrg 0 1 ++ zrg 1 15) (z_mcat (z_hd (n := 1) rfl) (z_sk (n := 1) (off := 0) (m := 15) rfl (z_hdl (n := 15) rfl))) (z_mfst rfl rfl) ht hlocks (Eq.trans rfl (Eq.symm (zset_same (z_mcat (z_hd (n := 1) rfl) (z_sk (n := 1) (off := 0) (m := 15) rfl (z_hdl (n := 15) rfl)))))) (Nat.le_of_ble_eq_true rfl) (Nat.le_of_ble_eq_true rfl)
noncomputable def sp_X7_rejectOf_ok (S0 : Nat → Nat → Int) (S1 : Nat → Nat → Int) (p0 : Int) (p1 : Int) : Int := zif (p1 = 0)
  (wNum (S1 12) (S1 11 1) p0 0)
  (zif (p1 = 1)
    (wNum (S1 12) (S1 11 1) p0 1)
    (zif (p1 = 2)
      (wNum (S1 12) (S1 11 1) p0 2)
      (zif (p1 = 3)
        (wNum (S1 12) (S1 11 1) p0 3)
        (zif (p1 = 4)
          (wWorth (S1 12) (S1 11 1) p0 (S1 0 9))
          (2 + wNum (S1 12) (S1 11 1) p0 2)))))
set_option maxHeartbeats 4000000 in
set_option maxRecDepth 100000 in
theorem c_X7_rejectOf_ok (l : Launch) (D : va_G) (k : Nat → ClassId) (a0 : Nat → Nat) (S0 : Nat → Nat → Int) (S1 : Nat → Nat → Int) (p0 : Int) (p1 : Int) (hp : pOK S1) (h0 : -2147483648 ≤ p0 ∧ p0 < 2147483648) (h1 : -2147483648 ≤ p1 ∧ p1 < 2147483648) (hc : 0 ≤ p0 ∧ p0 < S1 11 1) (hw : 0 ≤ p1 ∧ p1 ≤ 5) : zMi l yX7_rejectOf wsX7_rejectOf ({ frames := 3, cells := 0, slots := 0, locals := 66 } : Room) D k [.ref (a0 0), .int (iI p0), .int (iI p1)] (wFac k a0 S0 ++ wPlant k (subA a0 1) S1) (sp_X7_rejectOf_ok S0 S1 p0 p1) (wFac k a0 S0 ++ wPlant k (subA a0 1) S1) 0 0 := by
  refine zMi_of (cc := cX7_rejectOf) (maxL := 3) (ret := (some .int)) (by decide) rfl (Nat.le_of_ble_eq_true rfl) ?_
  intro p e s m args below meth c A ls hx hb hr hml hown hts hlocks hK hP hD hG hA hS hl
  have hown : s.vm.findClass RX7 = some m.cls := hown
  have hl : lv_has ls 3 [(0, .ref (a0 0)), (1, .int (iI p0)), (2, .int (iI p1))] := hl
  obtain ⟨H, hH⟩ : ∃ z, z = s.heap := ⟨_, rfl⟩
  obtain ⟨locs, hlc⟩ : ∃ z : List Loc, z = [] := ⟨_, rfl⟩
  rw [← hH] at hP
  have hS : va_S A s.heap H locs := by rw [hH, hlc]; exact hS
  rw [← hlc, ← hH]
  clear hlc hH
  have kp := hp.2
  have h97 := (hp.1 0 (by decide)) 9
  refine lv_aload_n hx hb dX7_rejectOf_0 rfl (lv_at hl 0 rfl) ?_
  refine lv_iload_n hx hb dX7_rejectOf_1 rfl (lv_at hl 1 rfl) ?_
  refine z_av0 (va_runV (As := [.int (iI p0)]) (rest := []) ⟨hx, hb, hml, hown, hts⟩ (c_X7_demandReject_ok l D k a0 S0 S1  p0 hp (by omega) (by omega) _) (cwV 1 hts gX7_rejectOf_X7_demandReject rfl rfl rfl (by decide +kernel) ⟨(Nat.le_of_ble_eq_true rfl), (Nat.le_of_ble_eq_true rfl)⟩) (z_preV hK hG hA hP hD hS (zrg 0 1 ++ zrg 1 15) (z_mcat (z_hd (n := 1) rfl) (z_sk (n := 1) (off := 0) (m := 15) rfl (z_hdl (n := 15) rfl))) (by decide +kernel) 9 rfl rfl) rfl rfl hl.1 rfl (lv_room (Nat.le_of_ble_eq_true rfl)) dX7_rejectOf_2 ⟨(Nat.le_of_ble_eq_true rfl), (Nat.le_of_ble_eq_true rfl)⟩) hA hP hD hS (zrg 0 1 ++ zrg 1 15) (z_mcat (z_hd (n := 1) rfl) (z_sk (n := 1) (off := 0) (m := 15) rfl (z_hdl (n := 15) rfl))) (fun H locs hP hS => ?_)
  refine lv_iload_n hx hb dX7_rejectOf_5 rfl (lv_at hl 2 rfl) ?_
  refine lv_iconst (v := iI 5) hx hb dX7_rejectOf_6 rfl ?_
  refine z_av0 (va_runS (As := [.int (iI p1), .int (iI 5)]) (rest := []) ⟨hx, hb, hml, hown, hts⟩ (c_X7_demandWhat_ok l D k   p1 5 (by omega) (by omega) (by omega) _) (va_cwS 2 hts gX7_rejectOf_X7_demandWhat rfl rfl rfl (by decide +kernel) ⟨(Nat.le_of_ble_eq_true rfl), (Nat.le_of_ble_eq_true rfl)⟩) (z_preS hK hG hA hP hD hS [] rfl (by decide)) rfl rfl hl.1 rfl (lv_room (Nat.le_of_ble_eq_true rfl)) dX7_rejectOf_7 ⟨(Nat.le_of_ble_eq_true rfl), (Nat.le_of_ble_eq_true rfl)⟩) hA hP hD hS [] rfl (fun H locs hP hS => ?_)
  refine lv_iload_n hx hb dX7_rejectOf_10 rfl (lv_at hl 2 rfl) ?_
  by_cases w_1 : p1 = 0
  · refine z_tabI hx hb dX7_rejectOf_11 (x := p1) ⟨by omega, by omega⟩ (v := 0) w_1 (by decide) (by decide) (off := 33) (by decide) (tgt := 44) (by decide) ?_
    refine lv_aload_n hx hb dX7_rejectOf_44 rfl (lv_at hl 0 rfl) ?_
    refine va_get (D := D) (ci := 9) (v := .ref ((subA a0 1) 0)) (C := RX7) (T := TX7) (N := 11) hx hb hts (fun w h => List.mem_cons_of_mem _ (List.mem_append_left _ (List.mem_append_left _ (List.mem_append_left _ (List.mem_append_left _ (List.mem_append_left _ (List.mem_append_right _ h))))))) hown hK hP 0 rfl rfl 0 (by decide) (hts (.fieldLink RX7 10 "MondayFactory" "plant" "LMondayFactory$Plant;") (List.mem_of_getElem? (i := 1) rfl)) (fun _ h9 => h9) rfl dX7_rejectOf_45 ?_
    refine va_get (D := D) (ci := 7) (v := .ref ((subA a0 1) 11)) (C := RX5) (T := TX5) (N := 11) hx hb hts (fun w h => List.mem_cons_of_mem _ (List.mem_append_left _ (List.mem_append_left _ (List.mem_append_left _ (List.mem_append_left _ (List.mem_append_right _ h)))))) hown hK hP 1 rfl rfl 1 (by decide) (hts (.fieldLink RX7 179 "MondayFactory$Plant" "shelf" "LMondayFactory$Row;") (List.mem_of_getElem? (i := 2) rfl)) (fun _ h9 => h9) rfl dX7_rejectOf_48 ?_
    refine lv_iload_n hx hb dX7_rejectOf_51 rfl (lv_at hl 1 rfl) ?_
    refine z_ai0 (va_runV (As := [.int (iI p0)]) (rest := []) ⟨hx, hb, hml, hown, hts⟩ (c_X6_grey l D k (subA (subA a0 1) 11) (sub2 S1 11)  p0 (pOK_b hp 12 (by decide)) (by have e0 : ((sub2 S1 11) 0 1) = S1 11 1 := rfl; omega) (by omega) _) (cwV 1 hts gX7_rejectOf_X6_grey rfl rfl rfl (by decide +kernel) ⟨(Nat.le_of_ble_eq_true rfl), (Nat.le_of_ble_eq_true rfl)⟩) (z_preV hK hG hA hP hD hS [12, 13] rfl (by decide) 8 rfl rfl) rfl rfl hl.1 rfl (lv_room (Nat.le_of_ble_eq_true rfl)) dX7_rejectOf_52 ⟨(Nat.le_of_ble_eq_true rfl), (Nat.le_of_ble_eq_true rfl)⟩) hA hP hD hS [12, 13] rfl (fun H locs hP hS => ?_)
    refine z_eqi (z2 := wNum (S1 12) (S1 11 1) p0 0) rfl ?_
    have f_2 : -1000000000 ≤ S1 11 1 ∧ S1 11 1 ≤ 1000000000 := (pOK_b hp 11 (by decide)) 1
    have q_3 : -1000000000 ≤ wNum (S1 12) (S1 11 1) p0 0 ∧ wNum (S1 12) (S1 11 1) p0 0 ≤ 1000000000 := wNum_bd (pOK_b hp 12 (by decide))
    exact z_iret hx hb hr hlocks hP hS dX7_rejectOf_55 (Eq.trans (zif_pos w_1) rfl) rfl (Nat.le_refl _) (Nat.le_refl _)
  · by_cases w_4 : p1 = 1
    · refine z_tabI hx hb dX7_rejectOf_11 (x := p1) ⟨by omega, by omega⟩ (v := 1) w_4 (by decide) (by decide) (off := 45) (by decide) (tgt := 56) (by decide) ?_
      refine lv_aload_n hx hb dX7_rejectOf_56 rfl (lv_at hl 0 rfl) ?_
      refine va_get (D := D) (ci := 9) (v := .ref ((subA a0 1) 0)) (C := RX7) (T := TX7) (N := 11) hx hb hts (fun w h => List.mem_cons_of_mem _ (List.mem_append_left _ (List.mem_append_left _ (List.mem_append_left _ (List.mem_append_left _ (List.mem_append_left _ (List.mem_append_right _ h))))))) hown hK hP 0 rfl rfl 0 (by decide) (hts (.fieldLink RX7 10 "MondayFactory" "plant" "LMondayFactory$Plant;") (List.mem_of_getElem? (i := 1) rfl)) (fun _ h9 => h9) rfl dX7_rejectOf_57 ?_
      refine va_get (D := D) (ci := 7) (v := .ref ((subA a0 1) 11)) (C := RX5) (T := TX5) (N := 11) hx hb hts (fun w h => List.mem_cons_of_mem _ (List.mem_append_left _ (List.mem_append_left _ (List.mem_append_left _ (List.mem_append_left _ (List.mem_append_right _ h)))))) hown hK hP 1 rfl rfl 1 (by decide) (hts (.fieldLink RX7 179 "MondayFactory$Plant" "shelf" "LMondayFactory$Row;") (List.mem_of_getElem? (i := 2) rfl)) (fun _ h9 => h9) rfl dX7_rejectOf_60 ?_
      refine lv_iload_n hx hb dX7_rejectOf_63 rfl (lv_at hl 1 rfl) ?_
      refine z_ai0 (va_runV (As := [.int (iI p0)]) (rest := []) ⟨hx, hb, hml, hown, hts⟩ (c_X6_alarm l D k (subA (subA a0 1) 11) (sub2 S1 11)  p0 (pOK_b hp 12 (by decide)) (by have e0 : ((sub2 S1 11) 0 1) = S1 11 1 := rfl; omega) (by omega) _) (cwV 1 hts gX7_rejectOf_X6_alarm rfl rfl rfl (by decide +kernel) ⟨(Nat.le_of_ble_eq_true rfl), (Nat.le_of_ble_eq_true rfl)⟩) (z_preV hK hG hA hP hD hS [12, 13] rfl (by decide) 8 rfl rfl) rfl rfl hl.1 rfl (lv_room (Nat.le_of_ble_eq_true rfl)) dX7_rejectOf_64 ⟨(Nat.le_of_ble_eq_true rfl), (Nat.le_of_ble_eq_true rfl)⟩) hA hP hD hS [12, 13] rfl (fun H locs hP hS => ?_)
      refine z_eqi (z2 := wNum (S1 12) (S1 11 1) p0 1) rfl ?_
      have f_5 : -1000000000 ≤ S1 11 1 ∧ S1 11 1 ≤ 1000000000 := (pOK_b hp 11 (by decide)) 1
      have q_6 : -1000000000 ≤ wNum (S1 12) (S1 11 1) p0 1 ∧ wNum (S1 12) (S1 11 1) p0 1 ≤ 1000000000 := wNum_bd (pOK_b hp 12 (by decide))
      exact z_iret hx hb hr hlocks hP hS dX7_rejectOf_67 (Eq.trans (zif_neg w_1) (Eq.trans (zif_pos w_4) rfl)) rfl (Nat.le_refl _) (Nat.le_refl _)
    · by_cases w_7 : p1 = 2
      · refine z_tabI hx hb dX7_rejectOf_11 (x := p1) ⟨by omega, by omega⟩ (v := 2) w_7 (by decide) (by decide) (off := 57) (by decide) (tgt := 68) (by decide) ?_
        refine lv_aload_n hx hb dX7_rejectOf_68 rfl (lv_at hl 0 rfl) ?_
        refine va_get (D := D) (ci := 9) (v := .ref ((subA a0 1) 0)) (C := RX7) (T := TX7) (N := 11) hx hb hts (fun w h => List.mem_cons_of_mem _ (List.mem_append_left _ (List.mem_append_left _ (List.mem_append_left _ (List.mem_append_left _ (List.mem_append_left _ (List.mem_append_right _ h))))))) hown hK hP 0 rfl rfl 0 (by decide) (hts (.fieldLink RX7 10 "MondayFactory" "plant" "LMondayFactory$Plant;") (List.mem_of_getElem? (i := 1) rfl)) (fun _ h9 => h9) rfl dX7_rejectOf_69 ?_
        refine va_get (D := D) (ci := 7) (v := .ref ((subA a0 1) 11)) (C := RX5) (T := TX5) (N := 11) hx hb hts (fun w h => List.mem_cons_of_mem _ (List.mem_append_left _ (List.mem_append_left _ (List.mem_append_left _ (List.mem_append_left _ (List.mem_append_right _ h)))))) hown hK hP 1 rfl rfl 1 (by decide) (hts (.fieldLink RX7 179 "MondayFactory$Plant" "shelf" "LMondayFactory$Row;") (List.mem_of_getElem? (i := 2) rfl)) (fun _ h9 => h9) rfl dX7_rejectOf_72 ?_
        refine lv_iload_n hx hb dX7_rejectOf_75 rfl (lv_at hl 1 rfl) ?_
        refine lv_iconst (v := iI 2) hx hb dX7_rejectOf_76 rfl ?_
        refine z_ai0 (va_runV (As := [.int (iI p0), .int (iI 2)]) (rest := []) ⟨hx, hb, hml, hown, hts⟩ (c_X6_number l D k (subA (subA a0 1) 11) (sub2 S1 11)  p0 2 (pOK_b hp 12 (by decide)) (by have e0 : ((sub2 S1 11) 0 1) = S1 11 1 := rfl; omega) (by omega) (by omega) _) (cwV 2 hts gX7_rejectOf_X6_number rfl rfl rfl (by decide +kernel) ⟨(Nat.le_of_ble_eq_true rfl), (Nat.le_of_ble_eq_true rfl)⟩) (z_preV hK hG hA hP hD hS [12, 13] rfl (by decide) 8 rfl rfl) rfl rfl hl.1 rfl (lv_room (Nat.le_of_ble_eq_true rfl)) dX7_rejectOf_77 ⟨(Nat.le_of_ble_eq_true rfl), (Nat.le_of_ble_eq_true rfl)⟩) hA hP hD hS [12, 13] rfl (fun H locs hP hS => ?_)
        refine z_eqi (z2 := wNum (S1 12) (S1 11 1) p0 2) rfl ?_
        have f_8 : -1000000000 ≤ S1 11 1 ∧ S1 11 1 ≤ 1000000000 := (pOK_b hp 11 (by decide)) 1
        have q_9 : -1000000000 ≤ wNum (S1 12) (S1 11 1) p0 2 ∧ wNum (S1 12) (S1 11 1) p0 2 ≤ 1000000000 := wNum_bd (pOK_b hp 12 (by decide))
        exact z_iret hx hb hr hlocks hP hS dX7_rejectOf_80 (Eq.trans (zif_neg w_1) (Eq.trans (zif_neg w_4) (Eq.trans (zif_pos w_7) rfl))) rfl (Nat.le_refl _) (Nat.le_refl _)
      · by_cases w_10 : p1 = 3
        · refine z_tabI hx hb dX7_rejectOf_11 (x := p1) ⟨by omega, by omega⟩ (v := 3) w_10 (by decide) (by decide) (off := 70) (by decide) (tgt := 81) (by decide) ?_
          refine lv_aload_n hx hb dX7_rejectOf_81 rfl (lv_at hl 0 rfl) ?_
          refine va_get (D := D) (ci := 9) (v := .ref ((subA a0 1) 0)) (C := RX7) (T := TX7) (N := 11) hx hb hts (fun w h => List.mem_cons_of_mem _ (List.mem_append_left _ (List.mem_append_left _ (List.mem_append_left _ (List.mem_append_left _ (List.mem_append_left _ (List.mem_append_right _ h))))))) hown hK hP 0 rfl rfl 0 (by decide) (hts (.fieldLink RX7 10 "MondayFactory" "plant" "LMondayFactory$Plant;") (List.mem_of_getElem? (i := 1) rfl)) (fun _ h9 => h9) rfl dX7_rejectOf_82 ?_
          refine va_get (D := D) (ci := 7) (v := .ref ((subA a0 1) 11)) (C := RX5) (T := TX5) (N := 11) hx hb hts (fun w h => List.mem_cons_of_mem _ (List.mem_append_left _ (List.mem_append_left _ (List.mem_append_left _ (List.mem_append_left _ (List.mem_append_right _ h)))))) hown hK hP 1 rfl rfl 1 (by decide) (hts (.fieldLink RX7 179 "MondayFactory$Plant" "shelf" "LMondayFactory$Row;") (List.mem_of_getElem? (i := 2) rfl)) (fun _ h9 => h9) rfl dX7_rejectOf_85 ?_
          refine lv_iload_n hx hb dX7_rejectOf_88 rfl (lv_at hl 1 rfl) ?_
          refine lv_iconst (v := iI 3) hx hb dX7_rejectOf_89 rfl ?_
          refine z_ai0 (va_runV (As := [.int (iI p0), .int (iI 3)]) (rest := []) ⟨hx, hb, hml, hown, hts⟩ (c_X6_number l D k (subA (subA a0 1) 11) (sub2 S1 11)  p0 3 (pOK_b hp 12 (by decide)) (by have e0 : ((sub2 S1 11) 0 1) = S1 11 1 := rfl; omega) (by omega) (by omega) _) (cwV 2 hts gX7_rejectOf_X6_number rfl rfl rfl (by decide +kernel) ⟨(Nat.le_of_ble_eq_true rfl), (Nat.le_of_ble_eq_true rfl)⟩) (z_preV hK hG hA hP hD hS [12, 13] rfl (by decide) 8 rfl rfl) rfl rfl hl.1 rfl (lv_room (Nat.le_of_ble_eq_true rfl)) dX7_rejectOf_90 ⟨(Nat.le_of_ble_eq_true rfl), (Nat.le_of_ble_eq_true rfl)⟩) hA hP hD hS [12, 13] rfl (fun H locs hP hS => ?_)
          refine z_eqi (z2 := wNum (S1 12) (S1 11 1) p0 3) rfl ?_
          have f_11 : -1000000000 ≤ S1 11 1 ∧ S1 11 1 ≤ 1000000000 := (pOK_b hp 11 (by decide)) 1
          have q_12 : -1000000000 ≤ wNum (S1 12) (S1 11 1) p0 3 ∧ wNum (S1 12) (S1 11 1) p0 3 ≤ 1000000000 := wNum_bd (pOK_b hp 12 (by decide))
          exact z_iret hx hb hr hlocks hP hS dX7_rejectOf_93 (Eq.trans (zif_neg w_1) (Eq.trans (zif_neg w_4) (Eq.trans (zif_neg w_7) (Eq.trans (zif_pos w_10) rfl)))) rfl (Nat.le_refl _) (Nat.le_refl _)
        · by_cases w_13 : p1 = 4
          · refine z_tabI hx hb dX7_rejectOf_11 (x := p1) ⟨by omega, by omega⟩ (v := 4) w_13 (by decide) (by decide) (off := 83) (by decide) (tgt := 94) (by decide) ?_
            refine lv_aload_n hx hb dX7_rejectOf_94 rfl (lv_at hl 0 rfl) ?_
            refine va_get (D := D) (ci := 9) (v := .ref ((subA a0 1) 0)) (C := RX7) (T := TX7) (N := 11) hx hb hts (fun w h => List.mem_cons_of_mem _ (List.mem_append_left _ (List.mem_append_left _ (List.mem_append_left _ (List.mem_append_left _ (List.mem_append_left _ (List.mem_append_right _ h))))))) hown hK hP 0 rfl rfl 0 (by decide) (hts (.fieldLink RX7 10 "MondayFactory" "plant" "LMondayFactory$Plant;") (List.mem_of_getElem? (i := 1) rfl)) (fun _ h9 => h9) rfl dX7_rejectOf_95 ?_
            refine lv_iload_n hx hb dX7_rejectOf_98 rfl (lv_at hl 1 rfl) ?_
            refine z_ai0 (va_runV (As := [.int (iI p0)]) (rest := []) ⟨hx, hb, hml, hown, hts⟩ (c_X5_priceOf l D k ((subA a0 1)) S1  p0 (pOK_b hp 12 (by decide)) (by omega) (by omega) (by omega) _) (cwV 1 hts gX7_rejectOf_X5_priceOf rfl rfl rfl (by decide +kernel) ⟨(Nat.le_of_ble_eq_true rfl), (Nat.le_of_ble_eq_true rfl)⟩) (z_preV hK hG hA hP hD hS (zrg 1 15) (z_sk (n := 1) (off := 0) (m := 15) rfl (z_hdl (n := 15) rfl)) (by decide +kernel) 7 rfl rfl) rfl rfl hl.1 rfl (lv_room (Nat.le_of_ble_eq_true rfl)) dX7_rejectOf_99 ⟨(Nat.le_of_ble_eq_true rfl), (Nat.le_of_ble_eq_true rfl)⟩) hA hP hD hS (zrg 1 15) (z_sk (n := 1) (off := 0) (m := 15) rfl (z_hdl (n := 15) rfl)) (fun H locs hP hS => ?_)
            have f_14 : -1000000000 ≤ S1 11 1 ∧ S1 11 1 ≤ 1000000000 := (pOK_b hp 11 (by decide)) 1
            have f_15 : -1000000000 ≤ S1 0 9 ∧ S1 0 9 ≤ 1000000000 := (pOK_b hp 0 (by decide)) 9
            have q_16 : 1 ≤ wWorth (S1 12) (S1 11 1) p0 (S1 0 9) ∧ wWorth (S1 12) (S1 11 1) p0 (S1 0 9) ≤ 2000000100 := wWorth_bd (pOK_b hp 12 (by decide)) (by omega)
            exact z_iret hx hb hr hlocks hP hS dX7_rejectOf_102 (Eq.trans (zif_neg w_1) (Eq.trans (zif_neg w_4) (Eq.trans (zif_neg w_7) (Eq.trans (zif_neg w_10) (Eq.trans (zif_pos w_13) rfl))))) rfl (Nat.le_refl _) (Nat.le_refl _)
          · refine z_tabD hx hb dX7_rejectOf_11 (x := p1) ⟨by omega, by omega⟩ (tgt := 103) (by decide) (by left; omega) ?_
            refine lv_aload_n hx hb dX7_rejectOf_103 rfl (lv_at hl 0 rfl) ?_
            refine va_get (D := D) (ci := 9) (v := .ref ((subA a0 1) 0)) (C := RX7) (T := TX7) (N := 11) hx hb hts (fun w h => List.mem_cons_of_mem _ (List.mem_append_left _ (List.mem_append_left _ (List.mem_append_left _ (List.mem_append_left _ (List.mem_append_left _ (List.mem_append_right _ h))))))) hown hK hP 0 rfl rfl 0 (by decide) (hts (.fieldLink RX7 10 "MondayFactory" "plant" "LMondayFactory$Plant;") (List.mem_of_getElem? (i := 1) rfl)) (fun _ h9 => h9) rfl dX7_rejectOf_104 ?_
            refine lv_iload_n hx hb dX7_rejectOf_107 rfl (lv_at hl 1 rfl) ?_
            refine z_ai0 (va_runV (As := [.int (iI p0)]) (rest := []) ⟨hx, hb, hml, hown, hts⟩ (c_X5_repairCost l D k ((subA a0 1)) S1  p0 (pOK_b hp 12 (by decide)) (by omega) (by omega) _) (cwV 1 hts gX7_rejectOf_X5_repairCost rfl rfl rfl (by decide +kernel) ⟨(Nat.le_of_ble_eq_true rfl), (Nat.le_of_ble_eq_true rfl)⟩) (z_preV hK hG hA hP hD hS (zrg 1 15) (z_sk (n := 1) (off := 0) (m := 15) rfl (z_hdl (n := 15) rfl)) (by decide +kernel) 7 rfl rfl) rfl rfl hl.1 rfl (lv_room (Nat.le_of_ble_eq_true rfl)) dX7_rejectOf_108 ⟨(Nat.le_of_ble_eq_true rfl), (Nat.le_of_ble_eq_true rfl)⟩) hA hP hD hS (zrg 1 15) (z_sk (n := 1) (off := 0) (m := 15) rfl (z_hdl (n := 15) rfl)) (fun H locs hP hS => ?_)
            have f_17 : -1000000000 ≤ S1 11 1 ∧ S1 11 1 ≤ 1000000000 := (pOK_b hp 11 (by decide)) 1
            have q_18 : -1000000000 ≤ wNum (S1 12) (S1 11 1) p0 2 ∧ wNum (S1 12) (S1 11 1) p0 2 ≤ 1000000000 := wNum_bd (pOK_b hp 12 (by decide))
            exact z_iret hx hb hr hlocks hP hS dX7_rejectOf_111 (Eq.trans (zif_neg w_1) (Eq.trans (zif_neg w_4) (Eq.trans (zif_neg w_7) (Eq.trans (zif_neg w_10) (Eq.trans (zif_neg w_13) rfl))))) rfl (Nat.le_refl _) (Nat.le_refl _)
set_option maxHeartbeats 4000000 in
set_option maxRecDepth 100000 in
theorem c_X7_rejectOf_b (l : Launch) (hst : l.stackTraces = false) (D : va_G) (k : Nat → ClassId) (a0 : Nat → Nat) (S0 : Nat → Nat → Int) (S1 : Nat → Nat → Int) (p0 : Int) (p1 : Int) (hp : pOK S1) (h0 : -2147483648 ≤ p0 ∧ p0 < 2147483648) (hc : ¬ (0 ≤ p0 ∧ p0 < S1 11 1)) : zMx l yX7_rejectOf wsX7_rejectOf ({ frames := 7, cells := 1, slots := 6, locals := 103 } : Room) D k [.ref (a0 0), .int (iI p0), .int (iI p1)] (wFac k a0 S0 ++ wPlant k (subA a0 1) S1) "java/lang/IndexOutOfBoundsException" (wFac k a0 S0 ++ wPlant k (subA a0 1) S1) 1 6 := by
  refine zMx_of (cc := cX7_rejectOf) (maxL := 3) (ret := (some .int)) (by decide) rfl (Nat.le_of_ble_eq_true rfl) ?_
  intro p e s m args below meth c A ls hx hb hr hml hown hts hlocks hK hP hD hG hE ht hA hS hl
  have hown : s.vm.findClass RX7 = some m.cls := hown
  have hl : lv_has ls 3 [(0, .ref (a0 0)), (1, .int (iI p0)), (2, .int (iI p1))] := hl
  obtain ⟨H, hH⟩ : ∃ z, z = s.heap := ⟨_, rfl⟩
  obtain ⟨locs, hlc⟩ : ∃ z : List Loc, z = [] := ⟨_, rfl⟩
  rw [← hH] at hP
  have hS : va_S A s.heap H locs := by rw [hH, hlc]; exact hS
  rw [← hlc, ← hH]
  clear hlc hH
  have kp := hp.2
  refine lv_aload_n hx hb dX7_rejectOf_0 rfl (lv_at hl 0 rfl) ?_
  refine lv_iload_n hx hb dX7_rejectOf_1 rfl (lv_at hl 1 rfl) ?_
  exact z_axo (vx_runV (As := [.int (iI p0)]) (rest := []) ⟨hx, hb, hml, hown, hts⟩ (c_X7_demandReject_x l hst D k a0 S0 S1  p0 hp (by omega) (by omega) _) (cwV 1 hts gX7_rejectOf_X7_demandReject rfl rfl rfl (by decide +kernel) ⟨(Nat.le_of_ble_eq_true rfl), (Nat.le_of_ble_eq_true rfl)⟩) (z_preVx hK hG hE hA hP hD hS (zrg 0 1 ++ zrg 1 15) (z_mcat (z_hd (n := 1) rfl) (z_sk (n := 1) (off := 0) (m := 15) rfl (z_hdl (n := 15) rfl))) (by decide +kernel) 9 rfl rfl) rfl rfl hl.1 rfl (lv_room (Nat.le_of_ble_eq_true rfl)) dX7_rejectOf_2 ⟨(Nat.le_of_ble_eq_true rfl), (Nat.le_of_ble_eq_true rfl)⟩) hA hP hD hS (zrg 0 1 ++ zrg 1 15) (z_mcat (z_hd (n := 1) rfl) (z_sk (n := 1) (off := 0) (m := 15) rfl (z_hdl (n := 15) rfl))) (z_mfst rfl rfl) ht hlocks (Eq.trans rfl (Eq.symm (zset_same (z_mcat (z_hd (n := 1) rfl) (z_sk (n := 1) (off := 0) (m := 15) rfl (z_hdl (n := 15) rfl)))))) (Nat.le_of_ble_eq_true rfl) (Nat.le_of_ble_eq_true rfl)
set_option maxHeartbeats 4000000 in
set_option maxRecDepth 100000 in
theorem c_X7_rejectOf_w (l : Launch) (hst : l.stackTraces = false) (D : va_G) (k : Nat → ClassId) (a0 : Nat → Nat) (S0 : Nat → Nat → Int) (S1 : Nat → Nat → Int) (p0 : Int) (p1 : Int) (hp : pOK S1) (h0 : -2147483648 ≤ p0 ∧ p0 < 2147483648) (h1 : -2147483648 ≤ p1 ∧ p1 < 2147483648) (hc : 0 ≤ p0 ∧ p0 < S1 11 1) (hw : ¬ (0 ≤ p1 ∧ p1 ≤ 5)) : zMx l yX7_rejectOf wsX7_rejectOf ({ frames := 7, cells := 1, slots := 6, locals := 103 } : Room) D k [.ref (a0 0), .int (iI p0), .int (iI p1)] (wFac k a0 S0 ++ wPlant k (subA a0 1) S1) "java/lang/IllegalArgumentException" (wFac k a0 S0 ++ wPlant k (subA a0 1) S1) 1 6 := by
  refine zMx_of (cc := cX7_rejectOf) (maxL := 3) (ret := (some .int)) (by decide) rfl (Nat.le_of_ble_eq_true rfl) ?_
  intro p e s m args below meth c A ls hx hb hr hml hown hts hlocks hK hP hD hG hE ht hA hS hl
  have hown : s.vm.findClass RX7 = some m.cls := hown
  have hl : lv_has ls 3 [(0, .ref (a0 0)), (1, .int (iI p0)), (2, .int (iI p1))] := hl
  obtain ⟨H, hH⟩ : ∃ z, z = s.heap := ⟨_, rfl⟩
  obtain ⟨locs, hlc⟩ : ∃ z : List Loc, z = [] := ⟨_, rfl⟩
  rw [← hH] at hP
  have hS : va_S A s.heap H locs := by rw [hH, hlc]; exact hS
  rw [← hlc, ← hH]
  clear hlc hH
  have kp := hp.2
  refine lv_aload_n hx hb dX7_rejectOf_0 rfl (lv_at hl 0 rfl) ?_
  refine lv_iload_n hx hb dX7_rejectOf_1 rfl (lv_at hl 1 rfl) ?_
  refine z_av0 (va_runV (As := [.int (iI p0)]) (rest := []) ⟨hx, hb, hml, hown, hts⟩ (c_X7_demandReject_ok l D k a0 S0 S1  p0 hp (by omega) (by omega) _) (cwV 1 hts gX7_rejectOf_X7_demandReject rfl rfl rfl (by decide +kernel) ⟨(Nat.le_of_ble_eq_true rfl), (Nat.le_of_ble_eq_true rfl)⟩) (z_preV hK hG hA hP hD hS (zrg 0 1 ++ zrg 1 15) (z_mcat (z_hd (n := 1) rfl) (z_sk (n := 1) (off := 0) (m := 15) rfl (z_hdl (n := 15) rfl))) (by decide +kernel) 9 rfl rfl) rfl rfl hl.1 rfl (lv_room (Nat.le_of_ble_eq_true rfl)) dX7_rejectOf_2 ⟨(Nat.le_of_ble_eq_true rfl), (Nat.le_of_ble_eq_true rfl)⟩) hA hP hD hS (zrg 0 1 ++ zrg 1 15) (z_mcat (z_hd (n := 1) rfl) (z_sk (n := 1) (off := 0) (m := 15) rfl (z_hdl (n := 15) rfl))) (fun H locs hP hS => ?_)
  refine lv_iload_n hx hb dX7_rejectOf_5 rfl (lv_at hl 2 rfl) ?_
  refine lv_iconst (v := iI 5) hx hb dX7_rejectOf_6 rfl ?_
  exact z_axo (vx_runS (As := [.int (iI p1), .int (iI 5)]) (rest := []) ⟨hx, hb, hml, hown, hts⟩ (c_X7_demandWhat_x l hst D k   p1 5 (by omega) (by omega) (by omega) _) (va_cwS 2 hts gX7_rejectOf_X7_demandWhat rfl rfl rfl (by decide +kernel) ⟨(Nat.le_of_ble_eq_true rfl), (Nat.le_of_ble_eq_true rfl)⟩) (z_preSx hK hG hE hA hP hD hS [] rfl (by decide)) rfl rfl hl.1 rfl (lv_room (Nat.le_of_ble_eq_true rfl)) dX7_rejectOf_7 ⟨(Nat.le_of_ble_eq_true rfl), (Nat.le_of_ble_eq_true rfl)⟩) hA hP hD hS [] rfl rfl ht hlocks rfl (Nat.le_of_ble_eq_true rfl) (Nat.le_of_ble_eq_true rfl)
set_option maxHeartbeats 4000000 in
set_option maxRecDepth 100000 in
theorem c_X7_best_ok (l : Launch) (D : va_G) (k : Nat → ClassId) (a0 : Nat → Nat) (S0 : Nat → Nat → Int) (S1 : Nat → Nat → Int) (hp : pOK S1) (hc : 1 ≤ S1 11 1) : zMi l yX7_best wsX7_best ({ frames := 4, cells := 0, slots := 0, locals := 88 } : Room) D k [.ref (a0 0)] (wFac k a0 S0 ++ wPlant k (subA a0 1) S1) (wBest (S1 12) (S1 11 1) (S1 0 9)) (wFac k a0 S0 ++ wPlant k (subA a0 1) S1) 0 0 := by
  refine zMi_of (cc := cX7_best) (maxL := 1) (ret := (some .int)) (by decide) rfl (Nat.le_of_ble_eq_true rfl) ?_
  intro p e s m args below meth c A ls hx hb hr hml hown hts hlocks hK hP hD hG hA hS hl
  have hown : s.vm.findClass RX7 = some m.cls := hown
  have hl : lv_has ls 1 [(0, .ref (a0 0))] := hl
  obtain ⟨H, hH⟩ : ∃ z, z = s.heap := ⟨_, rfl⟩
  obtain ⟨locs, hlc⟩ : ∃ z : List Loc, z = [] := ⟨_, rfl⟩
  rw [← hH] at hP
  have hS : va_S A s.heap H locs := by rw [hH, hlc]; exact hS
  rw [← hlc, ← hH]
  clear hlc hH
  have kp := hp.2
  have h97 := (hp.1 0 (by decide)) 9
  refine lv_aload_n hx hb dX7_best_0 rfl (lv_at hl 0 rfl) ?_
  refine va_get (D := D) (ci := 9) (v := .ref ((subA a0 1) 0)) (C := RX7) (T := TX7) (N := 11) hx hb hts (fun w h => List.mem_cons_of_mem _ (List.mem_append_left _ (List.mem_append_left _ (List.mem_append_left _ (List.mem_append_left _ (List.mem_append_right _ h)))))) hown hK hP 0 rfl rfl 0 (by decide) (hts (.fieldLink RX7 10 "MondayFactory" "plant" "LMondayFactory$Plant;") (List.mem_of_getElem? (i := 3) rfl)) (fun _ h9 => h9) rfl dX7_best_1 ?_
  refine va_get (D := D) (ci := 7) (v := .ref ((subA a0 1) 11)) (C := RX5) (T := TX5) (N := 11) hx hb hts (fun w h => List.mem_cons_of_mem _ (List.mem_append_left _ (List.mem_append_left _ (List.mem_append_left _ (List.mem_append_right _ h))))) hown hK hP 1 rfl rfl 1 (by decide) (hts (.fieldLink RX7 179 "MondayFactory$Plant" "shelf" "LMondayFactory$Row;") (List.mem_of_getElem? (i := 4) rfl)) (fun _ h9 => h9) rfl dX7_best_4 ?_
  have f_1 : -1000000000 ≤ S1 11 1 ∧ S1 11 1 ≤ 1000000000 := (pOK_b hp 11 (by decide)) 1
  refine va_get (D := D) (ci := 8) (v := .int (iI (S1 11 1))) (C := RX6) (T := TX6) (N := 2) hx hb hts (fun w h => List.mem_cons_of_mem _ (List.mem_append_left _ (List.mem_append_left _ (List.mem_append_right _ h)))) hown hK hP 12 rfl rfl 1 (by decide) (hts (.fieldLink RX7 82 "MondayFactory$Row" "count" "I") (List.mem_of_getElem? (i := 5) rfl)) (fun _ h9 => h9) rfl dX7_best_7 ?_
  refine zi_if_ne (tgt := 23) hx hb dX7_best_10 (by decide) ⟨by omega, by omega⟩ (fun c_2 => ?_) (fun c_2 => ?_)
  · refine lv_aload_n hx hb dX7_best_23 rfl (lv_at hl 0 rfl) ?_
    refine va_get (D := D) (ci := 9) (v := .ref ((subA a0 1) 0)) (C := RX7) (T := TX7) (N := 11) hx hb hts (fun w h => List.mem_cons_of_mem _ (List.mem_append_left _ (List.mem_append_left _ (List.mem_append_left _ (List.mem_append_left _ (List.mem_append_right _ h)))))) hown hK hP 0 rfl rfl 0 (by decide) (hts (.fieldLink RX7 10 "MondayFactory" "plant" "LMondayFactory$Plant;") (List.mem_of_getElem? (i := 3) rfl)) (fun _ h9 => h9) rfl dX7_best_24 ?_
    refine z_ai0 (va_runV (As := []) (rest := []) ⟨hx, hb, hml, hown, hts⟩ (c_X5_dearest l D k ((subA a0 1)) S1   (pOK_b hp 12 (by decide)) (by omega) (by omega) _) (cwV 0 hts gX7_best_X5_dearest rfl rfl rfl (by decide +kernel) ⟨(Nat.le_of_ble_eq_true rfl), (Nat.le_of_ble_eq_true rfl)⟩) (z_preV hK hG hA hP hD hS (zrg 1 15) (z_sk (n := 1) (off := 0) (m := 15) rfl (z_hdl (n := 15) rfl)) (by decide +kernel) 7 rfl rfl) rfl rfl hl.1 rfl (lv_room (Nat.le_of_ble_eq_true rfl)) dX7_best_27 ⟨(Nat.le_of_ble_eq_true rfl), (Nat.le_of_ble_eq_true rfl)⟩) hA hP hD hS (zrg 1 15) (z_sk (n := 1) (off := 0) (m := 15) rfl (z_hdl (n := 15) rfl)) (fun H locs hP hS => ?_)
    have f_3 : -1000000000 ≤ S1 0 9 ∧ S1 0 9 ≤ 1000000000 := (pOK_b hp 0 (by decide)) 9
    exact z_iret hx hb hr hlocks hP hS dX7_best_30 rfl rfl (Nat.le_refl _) (Nat.le_refl _)
  · exfalso; omega
set_option maxHeartbeats 4000000 in
set_option maxRecDepth 100000 in
theorem c_X7_best_x (l : Launch) (hst : l.stackTraces = false) (D : va_G) (k : Nat → ClassId) (a0 : Nat → Nat) (S0 : Nat → Nat → Int) (S1 : Nat → Nat → Int) (hp : pOK S1) (hc : S1 11 1 = 0) : zMx l yX7_best wsX7_best ({ frames := 6, cells := 1, slots := 6, locals := 88 } : Room) D k [.ref (a0 0)] (wFac k a0 S0 ++ wPlant k (subA a0 1) S1) "java/util/NoSuchElementException" (wFac k a0 S0 ++ wPlant k (subA a0 1) S1) 1 6 := by
  refine zMx_of (cc := cX7_best) (maxL := 1) (ret := (some .int)) (by decide) rfl (Nat.le_of_ble_eq_true rfl) ?_
  intro p e s m args below meth c A ls hx hb hr hml hown hts hlocks hK hP hD hG hE ht hA hS hl
  have hown : s.vm.findClass RX7 = some m.cls := hown
  have hl : lv_has ls 1 [(0, .ref (a0 0))] := hl
  obtain ⟨H, hH⟩ : ∃ z, z = s.heap := ⟨_, rfl⟩
  obtain ⟨locs, hlc⟩ : ∃ z : List Loc, z = [] := ⟨_, rfl⟩
  rw [← hH] at hP
  have hS : va_S A s.heap H locs := by rw [hH, hlc]; exact hS
  rw [← hlc, ← hH]
  clear hlc hH
  have kp := hp.2
  refine lv_aload_n hx hb dX7_best_0 rfl (lv_at hl 0 rfl) ?_
  refine va_get (D := D) (ci := 9) (v := .ref ((subA a0 1) 0)) (C := RX7) (T := TX7) (N := 11) hx hb hts (fun w h => List.mem_cons_of_mem _ (List.mem_append_left _ (List.mem_append_left _ (List.mem_append_left _ (List.mem_append_left _ (List.mem_append_right _ h)))))) hown hK hP 0 rfl rfl 0 (by decide) (hts (.fieldLink RX7 10 "MondayFactory" "plant" "LMondayFactory$Plant;") (List.mem_of_getElem? (i := 3) rfl)) (fun _ h9 => h9) rfl dX7_best_1 ?_
  refine va_get (D := D) (ci := 7) (v := .ref ((subA a0 1) 11)) (C := RX5) (T := TX5) (N := 11) hx hb hts (fun w h => List.mem_cons_of_mem _ (List.mem_append_left _ (List.mem_append_left _ (List.mem_append_left _ (List.mem_append_right _ h))))) hown hK hP 1 rfl rfl 1 (by decide) (hts (.fieldLink RX7 179 "MondayFactory$Plant" "shelf" "LMondayFactory$Row;") (List.mem_of_getElem? (i := 4) rfl)) (fun _ h9 => h9) rfl dX7_best_4 ?_
  have f_1 : -1000000000 ≤ S1 11 1 ∧ S1 11 1 ≤ 1000000000 := (pOK_b hp 11 (by decide)) 1
  refine va_get (D := D) (ci := 8) (v := .int (iI (S1 11 1))) (C := RX6) (T := TX6) (N := 2) hx hb hts (fun w h => List.mem_cons_of_mem _ (List.mem_append_left _ (List.mem_append_left _ (List.mem_append_right _ h)))) hown hK hP 12 rfl rfl 1 (by decide) (hts (.fieldLink RX7 82 "MondayFactory$Row" "count" "I") (List.mem_of_getElem? (i := 5) rfl)) (fun _ h9 => h9) rfl dX7_best_7 ?_
  refine zi_if_ne (tgt := 23) hx hb dX7_best_10 (by decide) ⟨by omega, by omega⟩ (fun c_2 => ?_) (fun c_2 => ?_)
  · refine lv_aload_n hx hb dX7_best_23 rfl (lv_at hl 0 rfl) ?_
    refine va_get (D := D) (ci := 9) (v := .ref ((subA a0 1) 0)) (C := RX7) (T := TX7) (N := 11) hx hb hts (fun w h => List.mem_cons_of_mem _ (List.mem_append_left _ (List.mem_append_left _ (List.mem_append_left _ (List.mem_append_left _ (List.mem_append_right _ h)))))) hown hK hP 0 rfl rfl 0 (by decide) (hts (.fieldLink RX7 10 "MondayFactory" "plant" "LMondayFactory$Plant;") (List.mem_of_getElem? (i := 3) rfl)) (fun _ h9 => h9) rfl dX7_best_24 ?_
    refine z_ai0 (va_runV (As := []) (rest := []) ⟨hx, hb, hml, hown, hts⟩ (c_X5_dearest l D k ((subA a0 1)) S1   (pOK_b hp 12 (by decide)) (by omega) (by omega) _) (cwV 0 hts gX7_best_X5_dearest rfl rfl rfl (by decide +kernel) ⟨(Nat.le_of_ble_eq_true rfl), (Nat.le_of_ble_eq_true rfl)⟩) (z_preV hK hG hA hP hD hS (zrg 1 15) (z_sk (n := 1) (off := 0) (m := 15) rfl (z_hdl (n := 15) rfl)) (by decide +kernel) 7 rfl rfl) rfl rfl hl.1 rfl (lv_room (Nat.le_of_ble_eq_true rfl)) dX7_best_27 ⟨(Nat.le_of_ble_eq_true rfl), (Nat.le_of_ble_eq_true rfl)⟩) hA hP hD hS (zrg 1 15) (z_sk (n := 1) (off := 0) (m := 15) rfl (z_hdl (n := 15) rfl)) (fun H locs hP hS => ?_)
    have f_3 : -1000000000 ≤ S1 0 9 ∧ S1 0 9 ≤ 1000000000 := (pOK_b hp 0 (by decide)) 9
    exfalso; omega
  · exact z_thrSN (cls := "java/util/NoSuchElementException") hx hb hst hown zXf_nose zXm_nose (hts (.classLink RX7 188 "java/util/NoSuchElementException") (List.mem_of_getElem? (i := 1) rfl)) (hts (.initialized "java/util/NoSuchElementException") (List.mem_of_getElem? (i := 2) rfl)) (show (190, "there is no reject") ∈ zStrs by decide +kernel) hG hE (fun w h => hts w ((fun w h => List.mem_cons_of_mem _ (List.mem_append_left _ (List.mem_append_right _ h))) w h)) zXn_nose zXg_nose hS (hl.1.trans hml.symm) dX7_best_13 dX7_best_16 dX7_best_17 dX7_best_19 dX7_best_22 ht (Nat.le_of_ble_eq_true rfl) (Nat.le_of_ble_eq_true rfl) (Nat.le_of_ble_eq_true rfl) (Nat.le_of_ble_eq_true rfl) hlocks (z_to (Eq.symm rfl) hP) (Nat.le_of_ble_eq_true rfl) (Nat.le_of_ble_eq_true rfl)
noncomputable def sp_X7_wouldMend_ok (S0 : Nat → Nat → Int) (S1 : Nat → Nat → Int) (p0 : Int) : Int := zif (wPassed (S1 2) (min 9 (wNum (S1 12) (S1 11 1) p0 0 + 2)) (max 4 (wNum (S1 12) (S1 11 1) p0 1 - 1)) 1)
  (zif (wPassed (S1 2) (min 9 (wNum (S1 12) (S1 11 1) p0 0 + 2)) (max 4 (wNum (S1 12) (S1 11 1) p0 1 - 1)) 2)
    (zif (wPassed (S1 2) (min 9 (wNum (S1 12) (S1 11 1) p0 0 + 2)) (max 4 (wNum (S1 12) (S1 11 1) p0 1 - 1)) 3)
      (1)
      (0))
    (0))
  (0)
set_option maxHeartbeats 4000000 in
set_option maxRecDepth 100000 in
theorem c_X7_wouldMend_ok (l : Launch) (D : va_G) (k : Nat → ClassId) (a0 : Nat → Nat) (S0 : Nat → Nat → Int) (S1 : Nat → Nat → Int) (p0 : Int) (hp : pOK S1) (h0 : -2147483648 ≤ p0 ∧ p0 < 2147483648) (hc : 0 ≤ p0 ∧ p0 < S1 11 1) : zMi l yX7_wouldMend wsX7_wouldMend ({ frames := 3, cells := 0, slots := 0, locals := 65 } : Room) D k [.ref (a0 0), .int (iI p0)] (wFac k a0 S0 ++ wPlant k (subA a0 1) S1) (sp_X7_wouldMend_ok S0 S1 p0) (wFac k a0 S0 ++ wPlant k (subA a0 1) S1) 0 0 := by
  refine zMi_of (cc := cX7_wouldMend) (maxL := 5) (ret := (some .boolean)) (by decide) rfl (Nat.le_of_ble_eq_true rfl) ?_
  intro p e s m args below meth c A ls hx hb hr hml hown hts hlocks hK hP hD hG hA hS hl
  have hown : s.vm.findClass RX7 = some m.cls := hown
  have hl : lv_has ls 5 [(0, .ref (a0 0)), (1, .int (iI p0))] := hl
  obtain ⟨H, hH⟩ : ∃ z, z = s.heap := ⟨_, rfl⟩
  obtain ⟨locs, hlc⟩ : ∃ z : List Loc, z = [] := ⟨_, rfl⟩
  rw [← hH] at hP
  have hS : va_S A s.heap H locs := by rw [hH, hlc]; exact hS
  rw [← hlc, ← hH]
  clear hlc hH
  have kp := hp.2
  refine lv_aload_n hx hb dX7_wouldMend_0 rfl (lv_at hl 0 rfl) ?_
  refine lv_iload_n hx hb dX7_wouldMend_1 rfl (lv_at hl 1 rfl) ?_
  refine z_av0 (va_runV (As := [.int (iI p0)]) (rest := []) ⟨hx, hb, hml, hown, hts⟩ (c_X7_demandReject_ok l D k a0 S0 S1  p0 hp (by omega) (by omega) _) (cwV 1 hts gX7_wouldMend_X7_demandReject rfl rfl rfl (by decide +kernel) ⟨(Nat.le_of_ble_eq_true rfl), (Nat.le_of_ble_eq_true rfl)⟩) (z_preV hK hG hA hP hD hS (zrg 0 1 ++ zrg 1 15) (z_mcat (z_hd (n := 1) rfl) (z_sk (n := 1) (off := 0) (m := 15) rfl (z_hdl (n := 15) rfl))) (by decide +kernel) 9 rfl rfl) rfl rfl hl.1 rfl (lv_room (Nat.le_of_ble_eq_true rfl)) dX7_wouldMend_2 ⟨(Nat.le_of_ble_eq_true rfl), (Nat.le_of_ble_eq_true rfl)⟩) hA hP hD hS (zrg 0 1 ++ zrg 1 15) (z_mcat (z_hd (n := 1) rfl) (z_sk (n := 1) (off := 0) (m := 15) rfl (z_hdl (n := 15) rfl))) (fun H locs hP hS => ?_)
  refine lv_aload_n hx hb dX7_wouldMend_5 rfl (lv_at hl 0 rfl) ?_
  refine va_get (D := D) (ci := 9) (v := .ref ((subA a0 1) 0)) (C := RX7) (T := TX7) (N := 11) hx hb hts (fun w h => List.mem_cons_of_mem _ (List.mem_append_left _ (List.mem_append_left _ (List.mem_append_left _ (List.mem_append_left _ (List.mem_append_left _ (List.mem_append_right _ h))))))) hown hK hP 0 rfl rfl 0 (by decide) (hts (.fieldLink RX7 10 "MondayFactory" "plant" "LMondayFactory$Plant;") (List.mem_of_getElem? (i := 1) rfl)) (fun _ h9 => h9) rfl dX7_wouldMend_6 ?_
  refine lv_iload_n hx hb dX7_wouldMend_9 rfl (lv_at hl 1 rfl) ?_
  refine z_ai0 (va_runV (As := [.int (iI p0)]) (rest := []) ⟨hx, hb, hml, hown, hts⟩ (c_X5_repairedGrey l D k ((subA a0 1)) S1  p0 (pOK_b hp 12 (by decide)) (by omega) (by omega) _) (cwV 1 hts gX7_wouldMend_X5_repairedGrey rfl rfl rfl (by decide +kernel) ⟨(Nat.le_of_ble_eq_true rfl), (Nat.le_of_ble_eq_true rfl)⟩) (z_preV hK hG hA hP hD hS (zrg 1 15) (z_sk (n := 1) (off := 0) (m := 15) rfl (z_hdl (n := 15) rfl)) (by decide +kernel) 7 rfl rfl) rfl rfl hl.1 rfl (lv_room (Nat.le_of_ble_eq_true rfl)) dX7_wouldMend_10 ⟨(Nat.le_of_ble_eq_true rfl), (Nat.le_of_ble_eq_true rfl)⟩) hA hP hD hS (zrg 1 15) (z_sk (n := 1) (off := 0) (m := 15) rfl (z_hdl (n := 15) rfl)) (fun H locs hP hS => ?_)
  have f_1 : -1000000000 ≤ S1 11 1 ∧ S1 11 1 ≤ 1000000000 := (pOK_b hp 11 (by decide)) 1
  have q_2 : -1000000000 ≤ wNum (S1 12) (S1 11 1) p0 0 ∧ wNum (S1 12) (S1 11 1) p0 0 ≤ 1000000000 := wNum_bd (pOK_b hp 12 (by decide))
  refine lv_istore_n (lv' := [(2, .int (iI (min 9 (wNum (S1 12) (S1 11 1) p0 0 + 2)))), (0, .ref (a0 0)), (1, .int (iI p0))]) hx hb dX7_wouldMend_13 rfl hl (by decide) rfl (fun ls hl => ?_)
  refine lv_aload_n hx hb dX7_wouldMend_14 rfl (lv_at hl 1 rfl) ?_
  refine va_get (D := D) (ci := 9) (v := .ref ((subA a0 1) 0)) (C := RX7) (T := TX7) (N := 11) hx hb hts (fun w h => List.mem_cons_of_mem _ (List.mem_append_left _ (List.mem_append_left _ (List.mem_append_left _ (List.mem_append_left _ (List.mem_append_left _ (List.mem_append_right _ h))))))) hown hK hP 0 rfl rfl 0 (by decide) (hts (.fieldLink RX7 10 "MondayFactory" "plant" "LMondayFactory$Plant;") (List.mem_of_getElem? (i := 1) rfl)) (fun _ h9 => h9) rfl dX7_wouldMend_15 ?_
  refine lv_iload_n hx hb dX7_wouldMend_18 rfl (lv_at hl 2 rfl) ?_
  refine z_ai0 (va_runV (As := [.int (iI p0)]) (rest := []) ⟨hx, hb, hml, hown, hts⟩ (c_X5_repairedAlarm l D k ((subA a0 1)) S1  p0 (pOK_b hp 12 (by decide)) (by omega) (by omega) _) (cwV 1 hts gX7_wouldMend_X5_repairedAlarm rfl rfl rfl (by decide +kernel) ⟨(Nat.le_of_ble_eq_true rfl), (Nat.le_of_ble_eq_true rfl)⟩) (z_preV hK hG hA hP hD hS (zrg 1 15) (z_sk (n := 1) (off := 0) (m := 15) rfl (z_hdl (n := 15) rfl)) (by decide +kernel) 7 rfl rfl) rfl rfl hl.1 rfl (lv_room (Nat.le_of_ble_eq_true rfl)) dX7_wouldMend_19 ⟨(Nat.le_of_ble_eq_true rfl), (Nat.le_of_ble_eq_true rfl)⟩) hA hP hD hS (zrg 1 15) (z_sk (n := 1) (off := 0) (m := 15) rfl (z_hdl (n := 15) rfl)) (fun H locs hP hS => ?_)
  have q_3 : -1000000000 ≤ wNum (S1 12) (S1 11 1) p0 1 ∧ wNum (S1 12) (S1 11 1) p0 1 ≤ 1000000000 := wNum_bd (pOK_b hp 12 (by decide))
  refine lv_istore_n (lv' := [(3, .int (iI (max 4 (wNum (S1 12) (S1 11 1) p0 1 - 1)))), (2, .int (iI (min 9 (wNum (S1 12) (S1 11 1) p0 0 + 2)))), (0, .ref (a0 0)), (1, .int (iI p0))]) hx hb dX7_wouldMend_22 rfl hl (by decide) rfl (fun ls hl => ?_)
  refine lv_iconst (v := iI 1) hx hb dX7_wouldMend_23 rfl ?_
  refine lv_istore (lv' := [(4, .int (iI 1)), (3, .int (iI (max 4 (wNum (S1 12) (S1 11 1) p0 1 - 1)))), (2, .int (iI (min 9 (wNum (S1 12) (S1 11 1) p0 0 + 2)))), (0, .ref (a0 0)), (1, .int (iI p0))]) hx hb dX7_wouldMend_24 hl (by decide) rfl (fun ls hl => ?_)
  refine lv_iload hx hb dX7_wouldMend_26 (lv_at hl 0 rfl) ?_
  refine lv_iconst (v := iI 3) hx hb dX7_wouldMend_28 rfl ?_
  refine zi_icmp_gt (tgt := 59) hx hb dX7_wouldMend_29 (by decide) ⟨by omega, by omega⟩ ⟨by omega, by omega⟩ (fun c_4 => absurd c_4 (by omega)) (fun _ => ?_)
  refine lv_aload_n hx hb dX7_wouldMend_32 rfl (lv_at hl 3 rfl) ?_
  refine va_get (D := D) (ci := 9) (v := .ref ((subA a0 1) 0)) (C := RX7) (T := TX7) (N := 11) hx hb hts (fun w h => List.mem_cons_of_mem _ (List.mem_append_left _ (List.mem_append_left _ (List.mem_append_left _ (List.mem_append_left _ (List.mem_append_left _ (List.mem_append_right _ h))))))) hown hK hP 0 rfl rfl 0 (by decide) (hts (.fieldLink RX7 10 "MondayFactory" "plant" "LMondayFactory$Plant;") (List.mem_of_getElem? (i := 1) rfl)) (fun _ h9 => h9) rfl dX7_wouldMend_33 ?_
  refine va_get (D := D) (ci := 7) (v := .ref ((subA a0 1) 1)) (C := RX5) (T := TX5) (N := 11) hx hb hts (fun w h => List.mem_cons_of_mem _ (List.mem_append_left _ (List.mem_append_left _ (List.mem_append_left _ (List.mem_append_left _ (List.mem_append_right _ h)))))) hown hK hP 1 rfl rfl 0 (by decide) (hts (.fieldLink RX7 72 "MondayFactory$Plant" "belts" "[LMondayFactory$Belt;") (List.mem_of_getElem? (i := 2) rfl)) (fun _ h9 => h9) rfl dX7_wouldMend_36 ?_
  refine lv_iconst (v := iI 0) hx hb dX7_wouldMend_39 rfl ?_
  refine z_aald hx hb hK hP 2 2 (f := fun j => some ((subA a0 1) (2 + 3 * j))) (q := (subA a0 1) 2) rfl rfl (i := 0) (by omega) (by omega) (by decide) rfl dX7_wouldMend_40 ?_
  refine lv_iload_n hx hb dX7_wouldMend_41 rfl (lv_at hl 2 rfl) ?_
  refine lv_iload_n hx hb dX7_wouldMend_42 rfl (lv_at hl 1 rfl) ?_
  refine lv_iload hx hb dX7_wouldMend_43 (lv_at hl 0 rfl) ?_
  refine z_ai0 (va_runV (As := [.int (iI (min 9 (wNum (S1 12) (S1 11 1) p0 0 + 2))), .int (iI (max 4 (wNum (S1 12) (S1 11 1) p0 1 - 1))), .int (iI 1)]) (rest := []) ⟨hx, hb, hml, hown, hts⟩ (c_X0_isPassedBy l D k (subA (subA a0 1) 2) (sub2 S1 2)  (min 9 (wNum (S1 12) (S1 11 1) p0 0 + 2)) (max 4 (wNum (S1 12) (S1 11 1) p0 1 - 1)) 1 (pOK_b hp 2 (by decide)) (by omega) (by omega) (by omega) _) (cwV 3 hts gX7_wouldMend_X0_isPassedBy rfl rfl rfl (by decide +kernel) ⟨(Nat.le_of_ble_eq_true rfl), (Nat.le_of_ble_eq_true rfl)⟩) (z_preV hK hG hA hP hD hS [3, 4, 5] rfl (by decide) 2 rfl rfl) rfl rfl hl.1 rfl (lv_room (Nat.le_of_ble_eq_true rfl)) dX7_wouldMend_45 ⟨(Nat.le_of_ble_eq_true rfl), (Nat.le_of_ble_eq_true rfl)⟩) hA hP hD hS [3, 4, 5] rfl (fun H locs hP hS => ?_)
  refine z_eqi (z2 := zb (wPassed (S1 2) (min 9 (wNum (S1 12) (S1 11 1) p0 0 + 2)) (max 4 (wNum (S1 12) (S1 11 1) p0 1 - 1)) 1)) rfl ?_
  refine zi_if_neB (tgt := 53) hx hb dX7_wouldMend_48 (by decide) (fun c_5 => ?_) (fun c_5 => ?_)
  · refine lv_iinc (v := iI (2)) (lv' := [(4, .int (iI 2)), (3, .int (iI (max 4 (wNum (S1 12) (S1 11 1) p0 1 - 1)))), (2, .int (iI (min 9 (wNum (S1 12) (S1 11 1) p0 0 + 2)))), (0, .ref (a0 0)), (1, .int (iI p0))]) hx hb dX7_wouldMend_53 hl (k := 0) rfl (iI_add 1 1) (by decide) rfl (fun ls hl => ?_)
    refine lv_goto (tgt := 26) hx hb dX7_wouldMend_56 (by decide) ?_
    refine lv_iload hx hb dX7_wouldMend_26 (lv_at hl 0 rfl) ?_
    refine lv_iconst (v := iI 3) hx hb dX7_wouldMend_28 rfl ?_
    refine zi_icmp_gt (tgt := 59) hx hb dX7_wouldMend_29 (by decide) ⟨by omega, by omega⟩ ⟨by omega, by omega⟩ (fun c_6 => absurd c_6 (by omega)) (fun _ => ?_)
    refine lv_aload_n hx hb dX7_wouldMend_32 rfl (lv_at hl 3 rfl) ?_
    refine va_get (D := D) (ci := 9) (v := .ref ((subA a0 1) 0)) (C := RX7) (T := TX7) (N := 11) hx hb hts (fun w h => List.mem_cons_of_mem _ (List.mem_append_left _ (List.mem_append_left _ (List.mem_append_left _ (List.mem_append_left _ (List.mem_append_left _ (List.mem_append_right _ h))))))) hown hK hP 0 rfl rfl 0 (by decide) (hts (.fieldLink RX7 10 "MondayFactory" "plant" "LMondayFactory$Plant;") (List.mem_of_getElem? (i := 1) rfl)) (fun _ h9 => h9) rfl dX7_wouldMend_33 ?_
    refine va_get (D := D) (ci := 7) (v := .ref ((subA a0 1) 1)) (C := RX5) (T := TX5) (N := 11) hx hb hts (fun w h => List.mem_cons_of_mem _ (List.mem_append_left _ (List.mem_append_left _ (List.mem_append_left _ (List.mem_append_left _ (List.mem_append_right _ h)))))) hown hK hP 1 rfl rfl 0 (by decide) (hts (.fieldLink RX7 72 "MondayFactory$Plant" "belts" "[LMondayFactory$Belt;") (List.mem_of_getElem? (i := 2) rfl)) (fun _ h9 => h9) rfl dX7_wouldMend_36 ?_
    refine lv_iconst (v := iI 0) hx hb dX7_wouldMend_39 rfl ?_
    refine z_aald hx hb hK hP 2 2 (f := fun j => some ((subA a0 1) (2 + 3 * j))) (q := (subA a0 1) 2) rfl rfl (i := 0) (by omega) (by omega) (by decide) rfl dX7_wouldMend_40 ?_
    refine lv_iload_n hx hb dX7_wouldMend_41 rfl (lv_at hl 2 rfl) ?_
    refine lv_iload_n hx hb dX7_wouldMend_42 rfl (lv_at hl 1 rfl) ?_
    refine lv_iload hx hb dX7_wouldMend_43 (lv_at hl 0 rfl) ?_
    refine z_ai0 (va_runV (As := [.int (iI (min 9 (wNum (S1 12) (S1 11 1) p0 0 + 2))), .int (iI (max 4 (wNum (S1 12) (S1 11 1) p0 1 - 1))), .int (iI 2)]) (rest := []) ⟨hx, hb, hml, hown, hts⟩ (c_X0_isPassedBy l D k (subA (subA a0 1) 2) (sub2 S1 2)  (min 9 (wNum (S1 12) (S1 11 1) p0 0 + 2)) (max 4 (wNum (S1 12) (S1 11 1) p0 1 - 1)) 2 (pOK_b hp 2 (by decide)) (by omega) (by omega) (by omega) _) (cwV 3 hts gX7_wouldMend_X0_isPassedBy rfl rfl rfl (by decide +kernel) ⟨(Nat.le_of_ble_eq_true rfl), (Nat.le_of_ble_eq_true rfl)⟩) (z_preV hK hG hA hP hD hS [3, 4, 5] rfl (by decide) 2 rfl rfl) rfl rfl hl.1 rfl (lv_room (Nat.le_of_ble_eq_true rfl)) dX7_wouldMend_45 ⟨(Nat.le_of_ble_eq_true rfl), (Nat.le_of_ble_eq_true rfl)⟩) hA hP hD hS [3, 4, 5] rfl (fun H locs hP hS => ?_)
    refine z_eqi (z2 := zb (wPassed (S1 2) (min 9 (wNum (S1 12) (S1 11 1) p0 0 + 2)) (max 4 (wNum (S1 12) (S1 11 1) p0 1 - 1)) 2)) rfl ?_
    refine zi_if_neB (tgt := 53) hx hb dX7_wouldMend_48 (by decide) (fun c_7 => ?_) (fun c_7 => ?_)
    · refine lv_iinc (v := iI (3)) (lv' := [(4, .int (iI 3)), (3, .int (iI (max 4 (wNum (S1 12) (S1 11 1) p0 1 - 1)))), (2, .int (iI (min 9 (wNum (S1 12) (S1 11 1) p0 0 + 2)))), (0, .ref (a0 0)), (1, .int (iI p0))]) hx hb dX7_wouldMend_53 hl (k := 0) rfl (iI_add 2 1) (by decide) rfl (fun ls hl => ?_)
      refine lv_goto (tgt := 26) hx hb dX7_wouldMend_56 (by decide) ?_
      refine lv_iload hx hb dX7_wouldMend_26 (lv_at hl 0 rfl) ?_
      refine lv_iconst (v := iI 3) hx hb dX7_wouldMend_28 rfl ?_
      refine zi_icmp_gt (tgt := 59) hx hb dX7_wouldMend_29 (by decide) ⟨by omega, by omega⟩ ⟨by omega, by omega⟩ (fun c_8 => absurd c_8 (by omega)) (fun _ => ?_)
      refine lv_aload_n hx hb dX7_wouldMend_32 rfl (lv_at hl 3 rfl) ?_
      refine va_get (D := D) (ci := 9) (v := .ref ((subA a0 1) 0)) (C := RX7) (T := TX7) (N := 11) hx hb hts (fun w h => List.mem_cons_of_mem _ (List.mem_append_left _ (List.mem_append_left _ (List.mem_append_left _ (List.mem_append_left _ (List.mem_append_left _ (List.mem_append_right _ h))))))) hown hK hP 0 rfl rfl 0 (by decide) (hts (.fieldLink RX7 10 "MondayFactory" "plant" "LMondayFactory$Plant;") (List.mem_of_getElem? (i := 1) rfl)) (fun _ h9 => h9) rfl dX7_wouldMend_33 ?_
      refine va_get (D := D) (ci := 7) (v := .ref ((subA a0 1) 1)) (C := RX5) (T := TX5) (N := 11) hx hb hts (fun w h => List.mem_cons_of_mem _ (List.mem_append_left _ (List.mem_append_left _ (List.mem_append_left _ (List.mem_append_left _ (List.mem_append_right _ h)))))) hown hK hP 1 rfl rfl 0 (by decide) (hts (.fieldLink RX7 72 "MondayFactory$Plant" "belts" "[LMondayFactory$Belt;") (List.mem_of_getElem? (i := 2) rfl)) (fun _ h9 => h9) rfl dX7_wouldMend_36 ?_
      refine lv_iconst (v := iI 0) hx hb dX7_wouldMend_39 rfl ?_
      refine z_aald hx hb hK hP 2 2 (f := fun j => some ((subA a0 1) (2 + 3 * j))) (q := (subA a0 1) 2) rfl rfl (i := 0) (by omega) (by omega) (by decide) rfl dX7_wouldMend_40 ?_
      refine lv_iload_n hx hb dX7_wouldMend_41 rfl (lv_at hl 2 rfl) ?_
      refine lv_iload_n hx hb dX7_wouldMend_42 rfl (lv_at hl 1 rfl) ?_
      refine lv_iload hx hb dX7_wouldMend_43 (lv_at hl 0 rfl) ?_
      refine z_ai0 (va_runV (As := [.int (iI (min 9 (wNum (S1 12) (S1 11 1) p0 0 + 2))), .int (iI (max 4 (wNum (S1 12) (S1 11 1) p0 1 - 1))), .int (iI 3)]) (rest := []) ⟨hx, hb, hml, hown, hts⟩ (c_X0_isPassedBy l D k (subA (subA a0 1) 2) (sub2 S1 2)  (min 9 (wNum (S1 12) (S1 11 1) p0 0 + 2)) (max 4 (wNum (S1 12) (S1 11 1) p0 1 - 1)) 3 (pOK_b hp 2 (by decide)) (by omega) (by omega) (by omega) _) (cwV 3 hts gX7_wouldMend_X0_isPassedBy rfl rfl rfl (by decide +kernel) ⟨(Nat.le_of_ble_eq_true rfl), (Nat.le_of_ble_eq_true rfl)⟩) (z_preV hK hG hA hP hD hS [3, 4, 5] rfl (by decide) 2 rfl rfl) rfl rfl hl.1 rfl (lv_room (Nat.le_of_ble_eq_true rfl)) dX7_wouldMend_45 ⟨(Nat.le_of_ble_eq_true rfl), (Nat.le_of_ble_eq_true rfl)⟩) hA hP hD hS [3, 4, 5] rfl (fun H locs hP hS => ?_)
      refine z_eqi (z2 := zb (wPassed (S1 2) (min 9 (wNum (S1 12) (S1 11 1) p0 0 + 2)) (max 4 (wNum (S1 12) (S1 11 1) p0 1 - 1)) 3)) rfl ?_
      refine zi_if_neB (tgt := 53) hx hb dX7_wouldMend_48 (by decide) (fun c_9 => ?_) (fun c_9 => ?_)
      · refine lv_iinc (v := iI (4)) (lv' := [(4, .int (iI 4)), (3, .int (iI (max 4 (wNum (S1 12) (S1 11 1) p0 1 - 1)))), (2, .int (iI (min 9 (wNum (S1 12) (S1 11 1) p0 0 + 2)))), (0, .ref (a0 0)), (1, .int (iI p0))]) hx hb dX7_wouldMend_53 hl (k := 0) rfl (iI_add 3 1) (by decide) rfl (fun ls hl => ?_)
        refine lv_goto (tgt := 26) hx hb dX7_wouldMend_56 (by decide) ?_
        refine lv_iload hx hb dX7_wouldMend_26 (lv_at hl 0 rfl) ?_
        refine lv_iconst (v := iI 3) hx hb dX7_wouldMend_28 rfl ?_
        refine zi_icmp_gt (tgt := 59) hx hb dX7_wouldMend_29 (by decide) ⟨by omega, by omega⟩ ⟨by omega, by omega⟩ (fun _ => ?_) (fun c_10 => absurd c_10 (by omega))
        refine lv_iconst (v := iI 1) hx hb dX7_wouldMend_59 rfl ?_
        exact z_zret hx hb hr hlocks rfl hP hS dX7_wouldMend_60 (Eq.trans (zif_pos c_5) (Eq.trans (zif_pos c_7) (Eq.trans (zif_pos c_9) rfl))) rfl (Nat.le_refl _) (Nat.le_refl _)
      · refine lv_iconst (v := iI 0) hx hb dX7_wouldMend_51 rfl ?_
        exact z_zret hx hb hr hlocks rfl hP hS dX7_wouldMend_52 (Eq.trans (zif_pos c_5) (Eq.trans (zif_pos c_7) (Eq.trans (zif_neg c_9) rfl))) rfl (Nat.le_refl _) (Nat.le_refl _)
    · refine lv_iconst (v := iI 0) hx hb dX7_wouldMend_51 rfl ?_
      exact z_zret hx hb hr hlocks rfl hP hS dX7_wouldMend_52 (Eq.trans (zif_pos c_5) (Eq.trans (zif_neg c_7) rfl)) rfl (Nat.le_refl _) (Nat.le_refl _)
  · refine lv_iconst (v := iI 0) hx hb dX7_wouldMend_51 rfl ?_
    exact z_zret hx hb hr hlocks rfl hP hS dX7_wouldMend_52 (Eq.trans (zif_neg c_5) rfl) rfl (Nat.le_refl _) (Nat.le_refl _)
set_option maxHeartbeats 4000000 in
set_option maxRecDepth 100000 in
theorem c_X7_wouldMend_x (l : Launch) (hst : l.stackTraces = false) (D : va_G) (k : Nat → ClassId) (a0 : Nat → Nat) (S0 : Nat → Nat → Int) (S1 : Nat → Nat → Int) (p0 : Int) (hp : pOK S1) (h0 : -2147483648 ≤ p0 ∧ p0 < 2147483648) (hc : ¬ (0 ≤ p0 ∧ p0 < S1 11 1)) : zMx l yX7_wouldMend wsX7_wouldMend ({ frames := 7, cells := 1, slots := 6, locals := 103 } : Room) D k [.ref (a0 0), .int (iI p0)] (wFac k a0 S0 ++ wPlant k (subA a0 1) S1) "java/lang/IndexOutOfBoundsException" (wFac k a0 S0 ++ wPlant k (subA a0 1) S1) 1 6 := by
  refine zMx_of (cc := cX7_wouldMend) (maxL := 5) (ret := (some .boolean)) (by decide) rfl (Nat.le_of_ble_eq_true rfl) ?_
  intro p e s m args below meth c A ls hx hb hr hml hown hts hlocks hK hP hD hG hE ht hA hS hl
  have hown : s.vm.findClass RX7 = some m.cls := hown
  have hl : lv_has ls 5 [(0, .ref (a0 0)), (1, .int (iI p0))] := hl
  obtain ⟨H, hH⟩ : ∃ z, z = s.heap := ⟨_, rfl⟩
  obtain ⟨locs, hlc⟩ : ∃ z : List Loc, z = [] := ⟨_, rfl⟩
  rw [← hH] at hP
  have hS : va_S A s.heap H locs := by rw [hH, hlc]; exact hS
  rw [← hlc, ← hH]
  clear hlc hH
  have kp := hp.2
  refine lv_aload_n hx hb dX7_wouldMend_0 rfl (lv_at hl 0 rfl) ?_
  refine lv_iload_n hx hb dX7_wouldMend_1 rfl (lv_at hl 1 rfl) ?_
  exact z_axo (vx_runV (As := [.int (iI p0)]) (rest := []) ⟨hx, hb, hml, hown, hts⟩ (c_X7_demandReject_x l hst D k a0 S0 S1  p0 hp (by omega) (by omega) _) (cwV 1 hts gX7_wouldMend_X7_demandReject rfl rfl rfl (by decide +kernel) ⟨(Nat.le_of_ble_eq_true rfl), (Nat.le_of_ble_eq_true rfl)⟩) (z_preVx hK hG hE hA hP hD hS (zrg 0 1 ++ zrg 1 15) (z_mcat (z_hd (n := 1) rfl) (z_sk (n := 1) (off := 0) (m := 15) rfl (z_hdl (n := 15) rfl))) (by decide +kernel) 9 rfl rfl) rfl rfl hl.1 rfl (lv_room (Nat.le_of_ble_eq_true rfl)) dX7_wouldMend_2 ⟨(Nat.le_of_ble_eq_true rfl), (Nat.le_of_ble_eq_true rfl)⟩) hA hP hD hS (zrg 0 1 ++ zrg 1 15) (z_mcat (z_hd (n := 1) rfl) (z_sk (n := 1) (off := 0) (m := 15) rfl (z_hdl (n := 15) rfl))) (z_mfst rfl rfl) ht hlocks (Eq.trans rfl (Eq.symm (zset_same (z_mcat (z_hd (n := 1) rfl) (z_sk (n := 1) (off := 0) (m := 15) rfl (z_hdl (n := 15) rfl)))))) (Nat.le_of_ble_eq_true rfl) (Nat.le_of_ble_eq_true rfl)
set_option maxHeartbeats 4000000 in
set_option maxRecDepth 100000 in
theorem c_X7_fresh_ok (l : Launch) (D : va_G) (k : Nat → ClassId) (a0 : Nat → Nat) (S0 : Nat → Nat → Int) (S1 : Nat → Nat → Int) (p0 : Int) (hp : pOK S1) (h0 : -2147483648 ≤ p0 ∧ p0 < 2147483648) (hc : 0 ≤ p0 ∧ p0 < S1 13 1) : zMi l yX7_fresh wsX7_fresh ({ frames := 2, cells := 0, slots := 0, locals := 47 } : Room) D k [.ref (a0 0), .int (iI p0)] (wFac k a0 S0 ++ wPlant k (subA a0 1) S1) (sp_X1_freshAt (sub2 S1 13) p0) (wFac k a0 S0 ++ wPlant k (subA a0 1) S1) 0 0 := by
  refine zMi_of (cc := cX7_fresh) (maxL := 2) (ret := (some .int)) (by decide) rfl (Nat.le_of_ble_eq_true rfl) ?_
  intro p e s m args below meth c A ls hx hb hr hml hown hts hlocks hK hP hD hG hA hS hl
  have hown : s.vm.findClass RX7 = some m.cls := hown
  have hl : lv_has ls 2 [(0, .ref (a0 0)), (1, .int (iI p0))] := hl
  obtain ⟨H, hH⟩ : ∃ z, z = s.heap := ⟨_, rfl⟩
  obtain ⟨locs, hlc⟩ : ∃ z : List Loc, z = [] := ⟨_, rfl⟩
  rw [← hH] at hP
  have hS : va_S A s.heap H locs := by rw [hH, hlc]; exact hS
  rw [← hlc, ← hH]
  clear hlc hH
  have kp := hp.2
  refine lv_aload_n hx hb dX7_fresh_0 rfl (lv_at hl 0 rfl) ?_
  refine va_get (D := D) (ci := 9) (v := .ref ((subA a0 1) 0)) (C := RX7) (T := TX7) (N := 11) hx hb hts (fun w h => List.mem_cons_of_mem _ (List.mem_append_left _ (List.mem_append_left _ (List.mem_append_left _ (List.mem_append_left _ (List.mem_append_right _ h)))))) hown hK hP 0 rfl rfl 0 (by decide) (hts (.fieldLink RX7 10 "MondayFactory" "plant" "LMondayFactory$Plant;") (List.mem_of_getElem? (i := 3) rfl)) (fun _ h9 => h9) rfl dX7_fresh_1 ?_
  refine va_get (D := D) (ci := 7) (v := .ref ((subA a0 1) 13)) (C := RX5) (T := TX5) (N := 11) hx hb hts (fun w h => List.mem_cons_of_mem _ (List.mem_append_left _ (List.mem_append_left _ (List.mem_append_left _ (List.mem_append_right _ h))))) hown hK hP 1 rfl rfl 2 (by decide) (hts (.fieldLink RX7 117 "MondayFactory$Plant" "crew" "LMondayFactory$Crew;") (List.mem_of_getElem? (i := 4) rfl)) (fun _ h9 => h9) rfl dX7_fresh_4 ?_
  refine lv_iload_n hx hb dX7_fresh_7 rfl (lv_at hl 1 rfl) ?_
  refine z_ai0 (va_runV (As := [.int (iI p0)]) (rest := []) ⟨hx, hb, hml, hown, hts⟩ (c_X1_has l D k (subA (subA a0 1) 13) (sub2 S1 13)  p0 (by have e0 : ((sub2 S1 13) 0 1) = S1 13 1 := rfl; omega) (by omega) _) (cwV 1 hts gX7_fresh_X1_has rfl rfl rfl (by decide +kernel) ⟨(Nat.le_of_ble_eq_true rfl), (Nat.le_of_ble_eq_true rfl)⟩) (z_preV hK hG hA hP hD hS [14, 15] rfl (by decide) 3 rfl rfl) rfl rfl hl.1 rfl (lv_room (Nat.le_of_ble_eq_true rfl)) dX7_fresh_8 ⟨(Nat.le_of_ble_eq_true rfl), (Nat.le_of_ble_eq_true rfl)⟩) hA hP hD hS [14, 15] rfl (fun H locs hP hS => ?_)
  refine z_eqi (z2 := zb (0 ≤ p0 ∧ p0 < S1 13 1)) rfl ?_
  have f_1 : -1000000000 ≤ S1 13 1 ∧ S1 13 1 ≤ 1000000000 := (pOK_b hp 13 (by decide)) 1
  refine zi_if_neB (tgt := 24) hx hb dX7_fresh_11 (by decide) (fun c_2 => ?_) (fun c_2 => ?_)
  · refine lv_aload_n hx hb dX7_fresh_24 rfl (lv_at hl 0 rfl) ?_
    refine va_get (D := D) (ci := 9) (v := .ref ((subA a0 1) 0)) (C := RX7) (T := TX7) (N := 11) hx hb hts (fun w h => List.mem_cons_of_mem _ (List.mem_append_left _ (List.mem_append_left _ (List.mem_append_left _ (List.mem_append_left _ (List.mem_append_right _ h)))))) hown hK hP 0 rfl rfl 0 (by decide) (hts (.fieldLink RX7 10 "MondayFactory" "plant" "LMondayFactory$Plant;") (List.mem_of_getElem? (i := 3) rfl)) (fun _ h9 => h9) rfl dX7_fresh_25 ?_
    refine va_get (D := D) (ci := 7) (v := .ref ((subA a0 1) 13)) (C := RX5) (T := TX5) (N := 11) hx hb hts (fun w h => List.mem_cons_of_mem _ (List.mem_append_left _ (List.mem_append_left _ (List.mem_append_left _ (List.mem_append_right _ h))))) hown hK hP 1 rfl rfl 2 (by decide) (hts (.fieldLink RX7 117 "MondayFactory$Plant" "crew" "LMondayFactory$Crew;") (List.mem_of_getElem? (i := 4) rfl)) (fun _ h9 => h9) rfl dX7_fresh_28 ?_
    refine lv_iload_n hx hb dX7_fresh_31 rfl (lv_at hl 1 rfl) ?_
    refine z_ai0 (va_runV (As := [.int (iI p0)]) (rest := []) ⟨hx, hb, hml, hown, hts⟩ (c_X1_freshAt l D k (subA (subA a0 1) 13) (sub2 S1 13)  p0 (pOK_b hp 14 (by decide)) (by have e0 : ((sub2 S1 13) 0 1) = S1 13 1 := rfl; omega) (by omega) _) (cwV 1 hts gX7_fresh_X1_freshAt rfl rfl rfl (by decide +kernel) ⟨(Nat.le_of_ble_eq_true rfl), (Nat.le_of_ble_eq_true rfl)⟩) (z_preV hK hG hA hP hD hS [14, 15] rfl (by decide) 3 rfl rfl) rfl rfl hl.1 rfl (lv_room (Nat.le_of_ble_eq_true rfl)) dX7_fresh_32 ⟨(Nat.le_of_ble_eq_true rfl), (Nat.le_of_ble_eq_true rfl)⟩) hA hP hD hS [14, 15] rfl (fun H locs hP hS => ?_)
    refine z_eqi (z2 := sp_X1_freshAt (sub2 S1 13) p0) rfl ?_
    have q_3 : -1 ≤ sp_X1_freshAt (sub2 S1 13) p0 ∧ sp_X1_freshAt (sub2 S1 13) p0 ≤ 3 := fresh_rng (sub2 S1 13) p0 (by have e0 : ((sub2 S1 13) 0 1) = S1 13 1 := rfl; omega)
    exact z_iret hx hb hr hlocks hP hS dX7_fresh_35 rfl rfl (Nat.le_refl _) (Nat.le_refl _)
  · exfalso; omega
set_option maxHeartbeats 4000000 in
set_option maxRecDepth 100000 in
theorem c_X7_fresh_x (l : Launch) (hst : l.stackTraces = false) (D : va_G) (k : Nat → ClassId) (a0 : Nat → Nat) (S0 : Nat → Nat → Int) (S1 : Nat → Nat → Int) (p0 : Int) (hp : pOK S1) (h0 : -2147483648 ≤ p0 ∧ p0 < 2147483648) (hc : ¬ (0 ≤ p0 ∧ p0 < S1 13 1)) : zMx l yX7_fresh wsX7_fresh ({ frames := 6, cells := 1, slots := 6, locals := 82 } : Room) D k [.ref (a0 0), .int (iI p0)] (wFac k a0 S0 ++ wPlant k (subA a0 1) S1) "java/util/NoSuchElementException" (wFac k a0 S0 ++ wPlant k (subA a0 1) S1) 1 6 := by
  refine zMx_of (cc := cX7_fresh) (maxL := 2) (ret := (some .int)) (by decide) rfl (Nat.le_of_ble_eq_true rfl) ?_
  intro p e s m args below meth c A ls hx hb hr hml hown hts hlocks hK hP hD hG hE ht hA hS hl
  have hown : s.vm.findClass RX7 = some m.cls := hown
  have hl : lv_has ls 2 [(0, .ref (a0 0)), (1, .int (iI p0))] := hl
  obtain ⟨H, hH⟩ : ∃ z, z = s.heap := ⟨_, rfl⟩
  obtain ⟨locs, hlc⟩ : ∃ z : List Loc, z = [] := ⟨_, rfl⟩
  rw [← hH] at hP
  have hS : va_S A s.heap H locs := by rw [hH, hlc]; exact hS
  rw [← hlc, ← hH]
  clear hlc hH
  have kp := hp.2
  refine lv_aload_n hx hb dX7_fresh_0 rfl (lv_at hl 0 rfl) ?_
  refine va_get (D := D) (ci := 9) (v := .ref ((subA a0 1) 0)) (C := RX7) (T := TX7) (N := 11) hx hb hts (fun w h => List.mem_cons_of_mem _ (List.mem_append_left _ (List.mem_append_left _ (List.mem_append_left _ (List.mem_append_left _ (List.mem_append_right _ h)))))) hown hK hP 0 rfl rfl 0 (by decide) (hts (.fieldLink RX7 10 "MondayFactory" "plant" "LMondayFactory$Plant;") (List.mem_of_getElem? (i := 3) rfl)) (fun _ h9 => h9) rfl dX7_fresh_1 ?_
  refine va_get (D := D) (ci := 7) (v := .ref ((subA a0 1) 13)) (C := RX5) (T := TX5) (N := 11) hx hb hts (fun w h => List.mem_cons_of_mem _ (List.mem_append_left _ (List.mem_append_left _ (List.mem_append_left _ (List.mem_append_right _ h))))) hown hK hP 1 rfl rfl 2 (by decide) (hts (.fieldLink RX7 117 "MondayFactory$Plant" "crew" "LMondayFactory$Crew;") (List.mem_of_getElem? (i := 4) rfl)) (fun _ h9 => h9) rfl dX7_fresh_4 ?_
  refine lv_iload_n hx hb dX7_fresh_7 rfl (lv_at hl 1 rfl) ?_
  refine z_ai0 (va_runV (As := [.int (iI p0)]) (rest := []) ⟨hx, hb, hml, hown, hts⟩ (c_X1_has l D k (subA (subA a0 1) 13) (sub2 S1 13)  p0 (by have e0 : ((sub2 S1 13) 0 1) = S1 13 1 := rfl; omega) (by omega) _) (cwV 1 hts gX7_fresh_X1_has rfl rfl rfl (by decide +kernel) ⟨(Nat.le_of_ble_eq_true rfl), (Nat.le_of_ble_eq_true rfl)⟩) (z_preV hK hG hA hP hD hS [14, 15] rfl (by decide) 3 rfl rfl) rfl rfl hl.1 rfl (lv_room (Nat.le_of_ble_eq_true rfl)) dX7_fresh_8 ⟨(Nat.le_of_ble_eq_true rfl), (Nat.le_of_ble_eq_true rfl)⟩) hA hP hD hS [14, 15] rfl (fun H locs hP hS => ?_)
  refine z_eqi (z2 := zb (0 ≤ p0 ∧ p0 < S1 13 1)) rfl ?_
  have f_1 : -1000000000 ≤ S1 13 1 ∧ S1 13 1 ≤ 1000000000 := (pOK_b hp 13 (by decide)) 1
  refine zi_if_neB (tgt := 24) hx hb dX7_fresh_11 (by decide) (fun c_2 => ?_) (fun c_2 => ?_)
  · refine lv_aload_n hx hb dX7_fresh_24 rfl (lv_at hl 0 rfl) ?_
    refine va_get (D := D) (ci := 9) (v := .ref ((subA a0 1) 0)) (C := RX7) (T := TX7) (N := 11) hx hb hts (fun w h => List.mem_cons_of_mem _ (List.mem_append_left _ (List.mem_append_left _ (List.mem_append_left _ (List.mem_append_left _ (List.mem_append_right _ h)))))) hown hK hP 0 rfl rfl 0 (by decide) (hts (.fieldLink RX7 10 "MondayFactory" "plant" "LMondayFactory$Plant;") (List.mem_of_getElem? (i := 3) rfl)) (fun _ h9 => h9) rfl dX7_fresh_25 ?_
    refine va_get (D := D) (ci := 7) (v := .ref ((subA a0 1) 13)) (C := RX5) (T := TX5) (N := 11) hx hb hts (fun w h => List.mem_cons_of_mem _ (List.mem_append_left _ (List.mem_append_left _ (List.mem_append_left _ (List.mem_append_right _ h))))) hown hK hP 1 rfl rfl 2 (by decide) (hts (.fieldLink RX7 117 "MondayFactory$Plant" "crew" "LMondayFactory$Crew;") (List.mem_of_getElem? (i := 4) rfl)) (fun _ h9 => h9) rfl dX7_fresh_28 ?_
    refine lv_iload_n hx hb dX7_fresh_31 rfl (lv_at hl 1 rfl) ?_
    refine z_ai0 (va_runV (As := [.int (iI p0)]) (rest := []) ⟨hx, hb, hml, hown, hts⟩ (c_X1_freshAt l D k (subA (subA a0 1) 13) (sub2 S1 13)  p0 (pOK_b hp 14 (by decide)) (by have e0 : ((sub2 S1 13) 0 1) = S1 13 1 := rfl; omega) (by omega) _) (cwV 1 hts gX7_fresh_X1_freshAt rfl rfl rfl (by decide +kernel) ⟨(Nat.le_of_ble_eq_true rfl), (Nat.le_of_ble_eq_true rfl)⟩) (z_preV hK hG hA hP hD hS [14, 15] rfl (by decide) 3 rfl rfl) rfl rfl hl.1 rfl (lv_room (Nat.le_of_ble_eq_true rfl)) dX7_fresh_32 ⟨(Nat.le_of_ble_eq_true rfl), (Nat.le_of_ble_eq_true rfl)⟩) hA hP hD hS [14, 15] rfl (fun H locs hP hS => ?_)
    refine z_eqi (z2 := sp_X1_freshAt (sub2 S1 13) p0) rfl ?_
    have q_3 : -1 ≤ sp_X1_freshAt (sub2 S1 13) p0 ∧ sp_X1_freshAt (sub2 S1 13) p0 ≤ 3 := fresh_rng (sub2 S1 13) p0 (by have e0 : ((sub2 S1 13) 0 1) = S1 13 1 := rfl; omega)
    exfalso; omega
  · exact z_thrSN (cls := "java/util/NoSuchElementException") hx hb hst hown zXf_nose zXm_nose (hts (.classLink RX7 188 "java/util/NoSuchElementException") (List.mem_of_getElem? (i := 1) rfl)) (hts (.initialized "java/util/NoSuchElementException") (List.mem_of_getElem? (i := 2) rfl)) (show (209, "there is no such place") ∈ zStrs by decide +kernel) hG hE (fun w h => hts w ((fun w h => List.mem_cons_of_mem _ (List.mem_append_left _ (List.mem_append_right _ h))) w h)) zXn_nose zXg_nose hS (hl.1.trans hml.symm) dX7_fresh_14 dX7_fresh_17 dX7_fresh_18 dX7_fresh_20 dX7_fresh_23 ht (Nat.le_of_ble_eq_true rfl) (Nat.le_of_ble_eq_true rfl) (Nat.le_of_ble_eq_true rfl) (Nat.le_of_ble_eq_true rfl) hlocks (z_to (Eq.symm rfl) hP) (Nat.le_of_ble_eq_true rfl) (Nat.le_of_ble_eq_true rfl)
set_option maxHeartbeats 4000000 in
set_option maxRecDepth 100000 in
theorem c_X7_greyest_ok (l : Launch) (D : va_G) (k : Nat → ClassId) (a0 : Nat → Nat) (S0 : Nat → Nat → Int) (S1 : Nat → Nat → Int) (p0 : Int) (hp : pOK S1) (h0 : -2147483648 ≤ p0 ∧ p0 < 2147483648) (hc : 0 ≤ p0 ∧ p0 < 3) : zMi l yX7_greyest wsX7_greyest ({ frames := 5, cells := 0, slots := 0, locals := 114 } : Room) D k [.ref (a0 0), .int (iI p0)] (wFac k a0 S0 ++ wPlant k (subA a0 1) S1) (sp_X5_greyestAt S1 p0) (wFac k a0 S0 ++ wPlant k (subA a0 1) S1) 0 0 := by
  refine zMi_of (cc := cX7_greyest) (maxL := 2) (ret := (some .int)) (by decide) rfl (Nat.le_of_ble_eq_true rfl) ?_
  intro p e s m args below meth c A ls hx hb hr hml hown hts hlocks hK hP hD hG hA hS hl
  have hown : s.vm.findClass RX7 = some m.cls := hown
  have hl : lv_has ls 2 [(0, .ref (a0 0)), (1, .int (iI p0))] := hl
  obtain ⟨H, hH⟩ : ∃ z, z = s.heap := ⟨_, rfl⟩
  obtain ⟨locs, hlc⟩ : ∃ z : List Loc, z = [] := ⟨_, rfl⟩
  rw [← hH] at hP
  have hS : va_S A s.heap H locs := by rw [hH, hlc]; exact hS
  rw [← hlc, ← hH]
  clear hlc hH
  have kp := hp.2
  refine lv_iload_n hx hb dX7_greyest_0 rfl (lv_at hl 1 rfl) ?_
  refine z_ai0 (va_runS (As := [.int (iI p0)]) (rest := []) ⟨hx, hb, hml, hown, hts⟩ (c_X7_isBelt l D k   p0 (by omega) _) (va_cwS 1 hts gX7_greyest_X7_isBelt rfl rfl rfl (by decide +kernel) ⟨(Nat.le_of_ble_eq_true rfl), (Nat.le_of_ble_eq_true rfl)⟩) (z_preS hK hG hA hP hD hS [] rfl (by decide)) rfl rfl hl.1 rfl (lv_room (Nat.le_of_ble_eq_true rfl)) dX7_greyest_1 ⟨(Nat.le_of_ble_eq_true rfl), (Nat.le_of_ble_eq_true rfl)⟩) hA hP hD hS [] rfl (fun H locs hP hS => ?_)
  refine zi_if_neB (tgt := 17) hx hb dX7_greyest_4 (by decide) (fun c_1 => ?_) (fun c_1 => ?_)
  · refine lv_aload_n hx hb dX7_greyest_17 rfl (lv_at hl 0 rfl) ?_
    refine va_get (D := D) (ci := 9) (v := .ref ((subA a0 1) 0)) (C := RX7) (T := TX7) (N := 11) hx hb hts (fun w h => List.mem_cons_of_mem _ (List.mem_append_left _ (List.mem_append_left _ (List.mem_append_left _ (List.mem_append_left _ (List.mem_append_left _ (List.mem_append_right _ h))))))) hown hK hP 0 rfl rfl 0 (by decide) (hts (.fieldLink RX7 10 "MondayFactory" "plant" "LMondayFactory$Plant;") (List.mem_of_getElem? (i := 3) rfl)) (fun _ h9 => h9) rfl dX7_greyest_18 ?_
    refine lv_iload_n hx hb dX7_greyest_21 rfl (lv_at hl 1 rfl) ?_
    refine z_ai0 (va_runV (As := [.int (iI p0)]) (rest := []) ⟨hx, hb, hml, hown, hts⟩ (c_X5_greyestAt l D k ((subA a0 1)) S1  p0 (pOK_b hp 4 (by decide)) (pOK_b hp 7 (by decide)) (pOK_b hp 10 (by decide)) (pOK_t hp 4 (by decide)) (pOK_t hp 7 (by decide)) (pOK_t hp 10 (by decide)) (by omega) (by omega) (by omega) (by omega) _) (cwV 1 hts gX7_greyest_X5_greyestAt rfl rfl rfl (by decide +kernel) ⟨(Nat.le_of_ble_eq_true rfl), (Nat.le_of_ble_eq_true rfl)⟩) (z_preV hK hG hA hP hD hS (zrg 1 15) (z_sk (n := 1) (off := 0) (m := 15) rfl (z_hdl (n := 15) rfl)) (by decide +kernel) 7 rfl rfl) rfl rfl hl.1 rfl (lv_room (Nat.le_of_ble_eq_true rfl)) dX7_greyest_22 ⟨(Nat.le_of_ble_eq_true rfl), (Nat.le_of_ble_eq_true rfl)⟩) hA hP hD hS (zrg 1 15) (z_sk (n := 1) (off := 0) (m := 15) rfl (z_hdl (n := 15) rfl)) (fun H locs hP hS => ?_)
    exact z_iret hx hb hr hlocks hP hS dX7_greyest_25 rfl rfl (Nat.le_refl _) (Nat.le_refl _)
  · exfalso; omega
set_option maxHeartbeats 4000000 in
set_option maxRecDepth 100000 in
theorem c_X7_greyest_x (l : Launch) (hst : l.stackTraces = false) (D : va_G) (k : Nat → ClassId) (a0 : Nat → Nat) (S0 : Nat → Nat → Int) (S1 : Nat → Nat → Int) (p0 : Int) (hp : pOK S1) (h0 : -2147483648 ≤ p0 ∧ p0 < 2147483648) (hc : ¬ (0 ≤ p0 ∧ p0 < 3)) : zMx l yX7_greyest wsX7_greyest ({ frames := 6, cells := 1, slots := 6, locals := 82 } : Room) D k [.ref (a0 0), .int (iI p0)] (wFac k a0 S0 ++ wPlant k (subA a0 1) S1) "java/util/NoSuchElementException" (wFac k a0 S0 ++ wPlant k (subA a0 1) S1) 1 6 := by
  refine zMx_of (cc := cX7_greyest) (maxL := 2) (ret := (some .int)) (by decide) rfl (Nat.le_of_ble_eq_true rfl) ?_
  intro p e s m args below meth c A ls hx hb hr hml hown hts hlocks hK hP hD hG hE ht hA hS hl
  have hown : s.vm.findClass RX7 = some m.cls := hown
  have hl : lv_has ls 2 [(0, .ref (a0 0)), (1, .int (iI p0))] := hl
  obtain ⟨H, hH⟩ : ∃ z, z = s.heap := ⟨_, rfl⟩
  obtain ⟨locs, hlc⟩ : ∃ z : List Loc, z = [] := ⟨_, rfl⟩
  rw [← hH] at hP
  have hS : va_S A s.heap H locs := by rw [hH, hlc]; exact hS
  rw [← hlc, ← hH]
  clear hlc hH
  have kp := hp.2
  refine lv_iload_n hx hb dX7_greyest_0 rfl (lv_at hl 1 rfl) ?_
  refine z_ai0 (va_runS (As := [.int (iI p0)]) (rest := []) ⟨hx, hb, hml, hown, hts⟩ (c_X7_isBelt l D k   p0 (by omega) _) (va_cwS 1 hts gX7_greyest_X7_isBelt rfl rfl rfl (by decide +kernel) ⟨(Nat.le_of_ble_eq_true rfl), (Nat.le_of_ble_eq_true rfl)⟩) (z_preS hK hG hA hP hD hS [] rfl (by decide)) rfl rfl hl.1 rfl (lv_room (Nat.le_of_ble_eq_true rfl)) dX7_greyest_1 ⟨(Nat.le_of_ble_eq_true rfl), (Nat.le_of_ble_eq_true rfl)⟩) hA hP hD hS [] rfl (fun H locs hP hS => ?_)
  refine zi_if_neB (tgt := 17) hx hb dX7_greyest_4 (by decide) (fun c_1 => absurd c_1 (by omega)) (fun _ => ?_)
  exact z_thrSN (cls := "java/util/NoSuchElementException") hx hb hst hown zXf_nose zXm_nose (hts (.classLink RX7 188 "java/util/NoSuchElementException") (List.mem_of_getElem? (i := 1) rfl)) (hts (.initialized "java/util/NoSuchElementException") (List.mem_of_getElem? (i := 2) rfl)) (show (209, "there is no such place") ∈ zStrs by decide +kernel) hG hE (fun w h => hts w ((fun w h => List.mem_cons_of_mem _ (List.mem_append_left _ (List.mem_append_right _ h))) w h)) zXn_nose zXg_nose hS (hl.1.trans hml.symm) dX7_greyest_7 dX7_greyest_10 dX7_greyest_11 dX7_greyest_13 dX7_greyest_16 ht (Nat.le_of_ble_eq_true rfl) (Nat.le_of_ble_eq_true rfl) (Nat.le_of_ble_eq_true rfl) (Nat.le_of_ble_eq_true rfl) hlocks (z_to (Eq.symm rfl) hP) (Nat.le_of_ble_eq_true rfl) (Nat.le_of_ble_eq_true rfl)
set_option maxHeartbeats 4000000 in
set_option maxRecDepth 100000 in
theorem c_X7_leastGrey_0 (l : Launch) (D : va_G) (k : Nat → ClassId) (a0 : Nat → Nat) (S0 : Nat → Nat → Int) (S1 : Nat → Nat → Int) (hp : pOK S1) : zMi l yX7_leastGrey wsX7_leastGrey ({ frames := 2, cells := 0, slots := 0, locals := 44 } : Room) D k [.ref (a0 0), .int (iI 0)] (wFac k a0 S0 ++ wPlant k (subA a0 1) S1) (wLeast (S1 4) (S1 3 1)) (wFac k a0 S0 ++ wPlant k (subA a0 1) S1) 0 0 := by
  refine zMi_of (cc := cX7_leastGrey) (maxL := 5) (ret := (some .int)) (by decide) rfl (Nat.le_of_ble_eq_true rfl) ?_
  intro p e s m args below meth c A ls hx hb hr hml hown hts hlocks hK hP hD hG hA hS hl
  have hown : s.vm.findClass RX7 = some m.cls := hown
  have hl : lv_has ls 5 [(0, .ref (a0 0)), (1, .int (iI 0))] := hl
  obtain ⟨H, hH⟩ : ∃ z, z = s.heap := ⟨_, rfl⟩
  obtain ⟨locs, hlc⟩ : ∃ z : List Loc, z = [] := ⟨_, rfl⟩
  rw [← hH] at hP
  have hS : va_S A s.heap H locs := by rw [hH, hlc]; exact hS
  rw [← hlc, ← hH]
  clear hlc hH
  have kp := hp.2
  refine lv_aload_n hx hb dX7_leastGrey_0 rfl (lv_at hl 0 rfl) ?_
  refine lv_iload_n hx hb dX7_leastGrey_1 rfl (lv_at hl 1 rfl) ?_
  refine z_av0 (va_runV (As := [.int (iI 0)]) (rest := []) ⟨hx, hb, hml, hown, hts⟩ (c_X7_demandBelt_ok l D k a0 S0  0 (by omega) (by omega) _) (cwV 1 hts gX7_leastGrey_X7_demandBelt rfl rfl rfl (by decide +kernel) ⟨(Nat.le_of_ble_eq_true rfl), (Nat.le_of_ble_eq_true rfl)⟩) (z_preV hK hG hA hP hD hS [0] rfl (by decide) 9 rfl rfl) rfl rfl hl.1 rfl (lv_room (Nat.le_of_ble_eq_true rfl)) dX7_leastGrey_2 ⟨(Nat.le_of_ble_eq_true rfl), (Nat.le_of_ble_eq_true rfl)⟩) hA hP hD hS [0] rfl (fun H locs hP hS => ?_)
  refine lv_aload_n hx hb dX7_leastGrey_5 rfl (lv_at hl 0 rfl) ?_
  refine va_get (D := D) (ci := 9) (v := .ref ((subA a0 1) 0)) (C := RX7) (T := TX7) (N := 11) hx hb hts (fun w h => List.mem_cons_of_mem _ (List.mem_append_left _ (List.mem_append_left _ (List.mem_append_left _ (List.mem_append_left _ (List.mem_append_left _ (List.mem_append_right _ h))))))) hown hK hP 0 rfl rfl 0 (by decide) (hts (.fieldLink RX7 10 "MondayFactory" "plant" "LMondayFactory$Plant;") (List.mem_of_getElem? (i := 1) rfl)) (fun _ h9 => h9) rfl dX7_leastGrey_6 ?_
  refine va_get (D := D) (ci := 7) (v := .ref ((subA a0 1) 1)) (C := RX5) (T := TX5) (N := 11) hx hb hts (fun w h => List.mem_cons_of_mem _ (List.mem_append_left _ (List.mem_append_left _ (List.mem_append_left _ (List.mem_append_left _ (List.mem_append_right _ h)))))) hown hK hP 1 rfl rfl 0 (by decide) (hts (.fieldLink RX7 72 "MondayFactory$Plant" "belts" "[LMondayFactory$Belt;") (List.mem_of_getElem? (i := 2) rfl)) (fun _ h9 => h9) rfl dX7_leastGrey_9 ?_
  refine lv_iload_n hx hb dX7_leastGrey_12 rfl (lv_at hl 1 rfl) ?_
  refine z_aald hx hb hK hP 2 2 (f := fun j => some ((subA a0 1) (2 + 3 * j))) (q := (subA a0 1) 2) rfl rfl (i := 0) (by omega) (by omega) (by decide) rfl dX7_leastGrey_13 ?_
  refine va_get (D := D) (ci := 2) (v := .ref ((subA a0 1) 3)) (C := RX0) (T := TX0) (N := 6) hx hb hts (fun w h => List.mem_cons_of_mem _ (List.mem_append_left _ (List.mem_append_left _ (List.mem_append_left _ (List.mem_append_right _ h))))) hown hK hP 3 rfl rfl 0 (by decide) (hts (.fieldLink RX7 76 "MondayFactory$Belt" "row" "LMondayFactory$Row;") (List.mem_of_getElem? (i := 3) rfl)) (fun _ h9 => h9) rfl dX7_leastGrey_14 ?_
  refine lv_astore_n (lv' := [(2, .ref ((subA a0 1) 3)), (0, .ref (a0 0)), (1, .int (iI 0))]) hx hb dX7_leastGrey_17 rfl hl (by decide) rfl (fun ls hl => ?_)
  refine lv_bipush (v := iI 9) hx hb dX7_leastGrey_18 (by decide) ?_
  refine lv_istore_n (lv' := [(3, .int (iI 9)), (2, .ref ((subA a0 1) 3)), (0, .ref (a0 0)), (1, .int (iI 0))]) hx hb dX7_leastGrey_20 rfl hl (by decide) rfl (fun ls hl => ?_)
  refine lv_iconst (v := iI 0) hx hb dX7_leastGrey_21 rfl ?_
  refine lv_istore (lv' := [(4, .int (iI 0)), (3, .int (iI 9)), (2, .ref ((subA a0 1) 3)), (0, .ref (a0 0)), (1, .int (iI 0))]) hx hb dX7_leastGrey_22 hl (by decide) rfl (fun ls hl => ?_)
  have lp24_0 : ∀ (n : Nat) (x3 : Int) (x4 : Int), (5 - x4).toNat < n → (0 ≤ x4) → (x4 ≤ S1 3 1) → (-1000000000 ≤ x3 ∧ x3 ≤ 9) → (x3 = foldI (wLeastF (S1 4) (S1 3 1)) 9 x4) → ∀ (H : Heap) (locs : List Loc) (ls : Array Slot), va_P D vwCl (wFac k a0 S0 ++ wPlant k (subA a0 1) S1) H → va_D A (wFac k a0 S0 ++ wPlant k (subA a0 1) S1) → va_S A s.heap H locs → lv_has ls 5 [(4, .int (iI x4)), (3, .int (iI x3)), (2, .ref ((subA a0 1) 3)), (0, .ref (a0 0)), (1, .int (iI 0))] → W p l e ({ frames := 2, cells := 0, slots := 0, locals := 44 } : Room) s m args below meth c H locs 0 0 (MQ below (zQi D A (wLeast (S1 4) (S1 3 1)) (wFac k a0 S0 ++ wPlant k (subA a0 1) S1)) args s 0 0 A) (F0 m 24 ls []) := by
    intro n24
    induction n24 with
    | zero => intro x3 x4 hm; exact absurd hm (Nat.not_lt_zero _)
    | succ n24 ih24 =>
      intro x3 x4 hm24 i0 i1 ib iF  H locs ls hP hD hS hl
      refine lv_iload hx hb dX7_leastGrey_24 (lv_at hl 0 rfl) ?_
      refine lv_aload_n hx hb dX7_leastGrey_26 rfl (lv_at hl 2 rfl) ?_
      have f_1 : -1000000000 ≤ S1 3 1 ∧ S1 3 1 ≤ 1000000000 := (pOK_b hp 3 (by decide)) 1
      refine va_get (D := D) (ci := 8) (v := .int (iI (S1 3 1))) (C := RX6) (T := TX6) (N := 2) hx hb hts (fun w h => List.mem_cons_of_mem _ (List.mem_append_left _ (List.mem_append_left _ (List.mem_append_right _ h)))) hown hK hP 4 rfl rfl 1 (by decide) (hts (.fieldLink RX7 82 "MondayFactory$Row" "count" "I") (List.mem_of_getElem? (i := 4) rfl)) (fun _ h9 => h9) rfl dX7_leastGrey_27 ?_
      refine zi_icmp_ge (tgt := 59) hx hb dX7_leastGrey_30 (by decide) ⟨by omega, by omega⟩ ⟨by omega, by omega⟩ (fun c_2 => ?_) (fun c_2 => ?_)
      · have v_3 : x3 = wLeast (S1 4) (S1 3 1) := (by rw [iF, show x4 = S1 3 1 by omega]; rfl)
        rw [v_3] at hl
        refine lv_iload_n hx hb dX7_leastGrey_59 rfl (lv_at hl 1 rfl) ?_
        exact z_iret hx hb hr hlocks hP hS dX7_leastGrey_60 rfl rfl (Nat.le_refl _) (Nat.le_refl _)
      · refine lv_aload_n hx hb dX7_leastGrey_33 rfl (lv_at hl 2 rfl) ?_
        refine lv_iload hx hb dX7_leastGrey_34 (lv_at hl 0 rfl) ?_
        refine z_ai0 (va_runV (As := [.int (iI x4)]) (rest := []) ⟨hx, hb, hml, hown, hts⟩ (c_X6_isBlank l D k (subA (subA a0 1) 3) (sub2 S1 3)  x4 (pOK_b hp 4 (by decide)) (by have e0 : ((sub2 S1 3) 0 1) = S1 3 1 := rfl; omega) (by omega) _) (cwV 1 hts gX7_leastGrey_X6_isBlank rfl rfl rfl (by decide +kernel) ⟨(Nat.le_of_ble_eq_true rfl), (Nat.le_of_ble_eq_true rfl)⟩) (z_preV hK hG hA hP hD hS [4, 5] rfl (by decide) 8 rfl rfl) rfl rfl hl.1 rfl (lv_room (Nat.le_of_ble_eq_true rfl)) dX7_leastGrey_36 ⟨(Nat.le_of_ble_eq_true rfl), (Nat.le_of_ble_eq_true rfl)⟩) hA hP hD hS [4, 5] rfl (fun H locs hP hS => ?_)
        refine z_eqi (z2 := zb (wNum (S1 4) (S1 3 1) x4 0 = -1)) rfl ?_
        refine zi_if_neB (tgt := 53) hx hb dX7_leastGrey_39 (by decide) (fun c_4 => ?_) (fun c_4 => ?_)
        · refine lv_iinc (v := iI (x4 + 1)) (lv' := [(4, .int (iI (x4 + 1))), (3, .int (iI x3)), (2, .ref ((subA a0 1) 3)), (0, .ref (a0 0)), (1, .int (iI 0))]) hx hb dX7_leastGrey_53 hl (k := 0) rfl (iI_add _ _) (by decide) rfl (fun ls hl => ?_)
          refine lv_goto (tgt := 24) hx hb dX7_leastGrey_56 (by decide) ?_
          exact ih24 x3 (x4 + 1) (by omega) (by omega) (by omega) (by omega) (foldI_e i0 (by rw [← iF]; unfold wLeastF; first | exact (zif_pos (by assumption)).symm | exact (zif_neg (by assumption)).symm))  H locs ls hP hD hS (lv_sub hl [0, 1, 2, 3, 4] rfl)
        · refine lv_iload_n hx hb dX7_leastGrey_42 rfl (lv_at hl 1 rfl) ?_
          refine lv_aload_n hx hb dX7_leastGrey_43 rfl (lv_at hl 2 rfl) ?_
          refine lv_iload hx hb dX7_leastGrey_44 (lv_at hl 0 rfl) ?_
          refine z_ai0 (va_runV (As := [.int (iI x4)]) (rest := [.int (iI x3)]) ⟨hx, hb, hml, hown, hts⟩ (c_X6_grey l D k (subA (subA a0 1) 3) (sub2 S1 3)  x4 (pOK_b hp 4 (by decide)) (by have e0 : ((sub2 S1 3) 0 1) = S1 3 1 := rfl; omega) (by omega) _) (cwV 1 hts gX7_leastGrey_X6_grey rfl rfl rfl (by decide +kernel) ⟨(Nat.le_of_ble_eq_true rfl), (Nat.le_of_ble_eq_true rfl)⟩) (z_preV hK hG hA hP hD hS [4, 5] rfl (by decide) 8 rfl rfl) rfl rfl hl.1 rfl (lv_room (Nat.le_of_ble_eq_true rfl)) dX7_leastGrey_46 ⟨(Nat.le_of_ble_eq_true rfl), (Nat.le_of_ble_eq_true rfl)⟩) hA hP hD hS [4, 5] rfl (fun H locs hP hS => ?_)
          refine z_eqi (z2 := wNum (S1 4) (S1 3 1) x4 0) rfl ?_
          have q_5 : -1000000000 ≤ wNum (S1 4) (S1 3 1) x4 0 ∧ wNum (S1 4) (S1 3 1) x4 0 ≤ 1000000000 := wNum_bd (pOK_b hp 4 (by decide))
          refine z_mmin hx hb (hml.trans hl.1.symm) hown (hts (.methodLink RX7 171 Lib.Math.min.name) (List.mem_of_getElem? (i := 5) rfl)) (hts (.static Lib.Math.min.name) (List.mem_of_getElem? (i := 6) rfl)) (hts (.initialized "java/lang/Math") (List.mem_of_getElem? (i := 7) rfl)) (hts (.code Lib.Math.min.name Lib.Math.min.code 2 (some .int)) (List.mem_of_getElem? (i := 8) rfl)) (Nat.le_of_ble_eq_true rfl) (Nat.le_of_ble_eq_true rfl) (Nat.le_of_ble_eq_true rfl) (Nat.le_of_ble_eq_true rfl) ⟨by omega, by omega⟩ ⟨by omega, by omega⟩ dX7_leastGrey_49 ?_
          refine lv_istore_n (lv' := [(3, .int (iI (min x3 (wNum (S1 4) (S1 3 1) x4 0)))), (4, .int (iI x4)), (2, .ref ((subA a0 1) 3)), (0, .ref (a0 0)), (1, .int (iI 0))]) hx hb dX7_leastGrey_52 rfl hl (by decide) rfl (fun ls hl => ?_)
          refine lv_iinc (v := iI (x4 + 1)) (lv' := [(4, .int (iI (x4 + 1))), (3, .int (iI (min x3 (wNum (S1 4) (S1 3 1) x4 0)))), (2, .ref ((subA a0 1) 3)), (0, .ref (a0 0)), (1, .int (iI 0))]) hx hb dX7_leastGrey_53 hl (k := 1) rfl (iI_add _ _) (by decide) rfl (fun ls hl => ?_)
          refine lv_goto (tgt := 24) hx hb dX7_leastGrey_56 (by decide) ?_
          exact ih24 (min x3 (wNum (S1 4) (S1 3 1) x4 0)) (x4 + 1) (by omega) (by omega) (by omega) (by omega) (foldI_e i0 (by rw [← iF]; unfold wLeastF; first | exact (zif_pos (by assumption)).symm | exact (zif_neg (by assumption)).symm))  H locs ls hP hD hS (lv_sub hl [0, 1, 2, 3, 4] rfl)
  exact lp24_0 6 9 0 (by omega) (by omega) (by omega) (by omega) rfl  H locs ls hP hD hS (lv_sub hl [0, 1, 2, 3, 4] rfl)
set_option maxHeartbeats 4000000 in
set_option maxRecDepth 100000 in
theorem c_X7_leastGrey_1 (l : Launch) (D : va_G) (k : Nat → ClassId) (a0 : Nat → Nat) (S0 : Nat → Nat → Int) (S1 : Nat → Nat → Int) (hp : pOK S1) : zMi l yX7_leastGrey wsX7_leastGrey ({ frames := 2, cells := 0, slots := 0, locals := 44 } : Room) D k [.ref (a0 0), .int (iI 1)] (wFac k a0 S0 ++ wPlant k (subA a0 1) S1) (wLeast (S1 7) (S1 6 1)) (wFac k a0 S0 ++ wPlant k (subA a0 1) S1) 0 0 := by
  refine zMi_of (cc := cX7_leastGrey) (maxL := 5) (ret := (some .int)) (by decide) rfl (Nat.le_of_ble_eq_true rfl) ?_
  intro p e s m args below meth c A ls hx hb hr hml hown hts hlocks hK hP hD hG hA hS hl
  have hown : s.vm.findClass RX7 = some m.cls := hown
  have hl : lv_has ls 5 [(0, .ref (a0 0)), (1, .int (iI 1))] := hl
  obtain ⟨H, hH⟩ : ∃ z, z = s.heap := ⟨_, rfl⟩
  obtain ⟨locs, hlc⟩ : ∃ z : List Loc, z = [] := ⟨_, rfl⟩
  rw [← hH] at hP
  have hS : va_S A s.heap H locs := by rw [hH, hlc]; exact hS
  rw [← hlc, ← hH]
  clear hlc hH
  have kp := hp.2
  refine lv_aload_n hx hb dX7_leastGrey_0 rfl (lv_at hl 0 rfl) ?_
  refine lv_iload_n hx hb dX7_leastGrey_1 rfl (lv_at hl 1 rfl) ?_
  refine z_av0 (va_runV (As := [.int (iI 1)]) (rest := []) ⟨hx, hb, hml, hown, hts⟩ (c_X7_demandBelt_ok l D k a0 S0  1 (by omega) (by omega) _) (cwV 1 hts gX7_leastGrey_X7_demandBelt rfl rfl rfl (by decide +kernel) ⟨(Nat.le_of_ble_eq_true rfl), (Nat.le_of_ble_eq_true rfl)⟩) (z_preV hK hG hA hP hD hS [0] rfl (by decide) 9 rfl rfl) rfl rfl hl.1 rfl (lv_room (Nat.le_of_ble_eq_true rfl)) dX7_leastGrey_2 ⟨(Nat.le_of_ble_eq_true rfl), (Nat.le_of_ble_eq_true rfl)⟩) hA hP hD hS [0] rfl (fun H locs hP hS => ?_)
  refine lv_aload_n hx hb dX7_leastGrey_5 rfl (lv_at hl 0 rfl) ?_
  refine va_get (D := D) (ci := 9) (v := .ref ((subA a0 1) 0)) (C := RX7) (T := TX7) (N := 11) hx hb hts (fun w h => List.mem_cons_of_mem _ (List.mem_append_left _ (List.mem_append_left _ (List.mem_append_left _ (List.mem_append_left _ (List.mem_append_left _ (List.mem_append_right _ h))))))) hown hK hP 0 rfl rfl 0 (by decide) (hts (.fieldLink RX7 10 "MondayFactory" "plant" "LMondayFactory$Plant;") (List.mem_of_getElem? (i := 1) rfl)) (fun _ h9 => h9) rfl dX7_leastGrey_6 ?_
  refine va_get (D := D) (ci := 7) (v := .ref ((subA a0 1) 1)) (C := RX5) (T := TX5) (N := 11) hx hb hts (fun w h => List.mem_cons_of_mem _ (List.mem_append_left _ (List.mem_append_left _ (List.mem_append_left _ (List.mem_append_left _ (List.mem_append_right _ h)))))) hown hK hP 1 rfl rfl 0 (by decide) (hts (.fieldLink RX7 72 "MondayFactory$Plant" "belts" "[LMondayFactory$Belt;") (List.mem_of_getElem? (i := 2) rfl)) (fun _ h9 => h9) rfl dX7_leastGrey_9 ?_
  refine lv_iload_n hx hb dX7_leastGrey_12 rfl (lv_at hl 1 rfl) ?_
  refine z_aald hx hb hK hP 2 2 (f := fun j => some ((subA a0 1) (2 + 3 * j))) (q := (subA a0 1) 5) rfl rfl (i := 1) (by omega) (by omega) (by decide) rfl dX7_leastGrey_13 ?_
  refine va_get (D := D) (ci := 2) (v := .ref ((subA a0 1) 6)) (C := RX0) (T := TX0) (N := 6) hx hb hts (fun w h => List.mem_cons_of_mem _ (List.mem_append_left _ (List.mem_append_left _ (List.mem_append_left _ (List.mem_append_right _ h))))) hown hK hP 6 rfl rfl 0 (by decide) (hts (.fieldLink RX7 76 "MondayFactory$Belt" "row" "LMondayFactory$Row;") (List.mem_of_getElem? (i := 3) rfl)) (fun _ h9 => h9) rfl dX7_leastGrey_14 ?_
  refine lv_astore_n (lv' := [(2, .ref ((subA a0 1) 6)), (0, .ref (a0 0)), (1, .int (iI 1))]) hx hb dX7_leastGrey_17 rfl hl (by decide) rfl (fun ls hl => ?_)
  refine lv_bipush (v := iI 9) hx hb dX7_leastGrey_18 (by decide) ?_
  refine lv_istore_n (lv' := [(3, .int (iI 9)), (2, .ref ((subA a0 1) 6)), (0, .ref (a0 0)), (1, .int (iI 1))]) hx hb dX7_leastGrey_20 rfl hl (by decide) rfl (fun ls hl => ?_)
  refine lv_iconst (v := iI 0) hx hb dX7_leastGrey_21 rfl ?_
  refine lv_istore (lv' := [(4, .int (iI 0)), (3, .int (iI 9)), (2, .ref ((subA a0 1) 6)), (0, .ref (a0 0)), (1, .int (iI 1))]) hx hb dX7_leastGrey_22 hl (by decide) rfl (fun ls hl => ?_)
  have lp24_0 : ∀ (n : Nat) (x3 : Int) (x4 : Int), (5 - x4).toNat < n → (0 ≤ x4) → (x4 ≤ S1 6 1) → (-1000000000 ≤ x3 ∧ x3 ≤ 9) → (x3 = foldI (wLeastF (S1 7) (S1 6 1)) 9 x4) → ∀ (H : Heap) (locs : List Loc) (ls : Array Slot), va_P D vwCl (wFac k a0 S0 ++ wPlant k (subA a0 1) S1) H → va_D A (wFac k a0 S0 ++ wPlant k (subA a0 1) S1) → va_S A s.heap H locs → lv_has ls 5 [(4, .int (iI x4)), (3, .int (iI x3)), (2, .ref ((subA a0 1) 6)), (0, .ref (a0 0)), (1, .int (iI 1))] → W p l e ({ frames := 2, cells := 0, slots := 0, locals := 44 } : Room) s m args below meth c H locs 0 0 (MQ below (zQi D A (wLeast (S1 7) (S1 6 1)) (wFac k a0 S0 ++ wPlant k (subA a0 1) S1)) args s 0 0 A) (F0 m 24 ls []) := by
    intro n24
    induction n24 with
    | zero => intro x3 x4 hm; exact absurd hm (Nat.not_lt_zero _)
    | succ n24 ih24 =>
      intro x3 x4 hm24 i0 i1 ib iF  H locs ls hP hD hS hl
      refine lv_iload hx hb dX7_leastGrey_24 (lv_at hl 0 rfl) ?_
      refine lv_aload_n hx hb dX7_leastGrey_26 rfl (lv_at hl 2 rfl) ?_
      have f_1 : -1000000000 ≤ S1 6 1 ∧ S1 6 1 ≤ 1000000000 := (pOK_b hp 6 (by decide)) 1
      refine va_get (D := D) (ci := 8) (v := .int (iI (S1 6 1))) (C := RX6) (T := TX6) (N := 2) hx hb hts (fun w h => List.mem_cons_of_mem _ (List.mem_append_left _ (List.mem_append_left _ (List.mem_append_right _ h)))) hown hK hP 7 rfl rfl 1 (by decide) (hts (.fieldLink RX7 82 "MondayFactory$Row" "count" "I") (List.mem_of_getElem? (i := 4) rfl)) (fun _ h9 => h9) rfl dX7_leastGrey_27 ?_
      refine zi_icmp_ge (tgt := 59) hx hb dX7_leastGrey_30 (by decide) ⟨by omega, by omega⟩ ⟨by omega, by omega⟩ (fun c_2 => ?_) (fun c_2 => ?_)
      · have v_3 : x3 = wLeast (S1 7) (S1 6 1) := (by rw [iF, show x4 = S1 6 1 by omega]; rfl)
        rw [v_3] at hl
        refine lv_iload_n hx hb dX7_leastGrey_59 rfl (lv_at hl 1 rfl) ?_
        exact z_iret hx hb hr hlocks hP hS dX7_leastGrey_60 rfl rfl (Nat.le_refl _) (Nat.le_refl _)
      · refine lv_aload_n hx hb dX7_leastGrey_33 rfl (lv_at hl 2 rfl) ?_
        refine lv_iload hx hb dX7_leastGrey_34 (lv_at hl 0 rfl) ?_
        refine z_ai0 (va_runV (As := [.int (iI x4)]) (rest := []) ⟨hx, hb, hml, hown, hts⟩ (c_X6_isBlank l D k (subA (subA a0 1) 6) (sub2 S1 6)  x4 (pOK_b hp 7 (by decide)) (by have e0 : ((sub2 S1 6) 0 1) = S1 6 1 := rfl; omega) (by omega) _) (cwV 1 hts gX7_leastGrey_X6_isBlank rfl rfl rfl (by decide +kernel) ⟨(Nat.le_of_ble_eq_true rfl), (Nat.le_of_ble_eq_true rfl)⟩) (z_preV hK hG hA hP hD hS [7, 8] rfl (by decide) 8 rfl rfl) rfl rfl hl.1 rfl (lv_room (Nat.le_of_ble_eq_true rfl)) dX7_leastGrey_36 ⟨(Nat.le_of_ble_eq_true rfl), (Nat.le_of_ble_eq_true rfl)⟩) hA hP hD hS [7, 8] rfl (fun H locs hP hS => ?_)
        refine z_eqi (z2 := zb (wNum (S1 7) (S1 6 1) x4 0 = -1)) rfl ?_
        refine zi_if_neB (tgt := 53) hx hb dX7_leastGrey_39 (by decide) (fun c_4 => ?_) (fun c_4 => ?_)
        · refine lv_iinc (v := iI (x4 + 1)) (lv' := [(4, .int (iI (x4 + 1))), (3, .int (iI x3)), (2, .ref ((subA a0 1) 6)), (0, .ref (a0 0)), (1, .int (iI 1))]) hx hb dX7_leastGrey_53 hl (k := 0) rfl (iI_add _ _) (by decide) rfl (fun ls hl => ?_)
          refine lv_goto (tgt := 24) hx hb dX7_leastGrey_56 (by decide) ?_
          exact ih24 x3 (x4 + 1) (by omega) (by omega) (by omega) (by omega) (foldI_e i0 (by rw [← iF]; unfold wLeastF; first | exact (zif_pos (by assumption)).symm | exact (zif_neg (by assumption)).symm))  H locs ls hP hD hS (lv_sub hl [0, 1, 2, 3, 4] rfl)
        · refine lv_iload_n hx hb dX7_leastGrey_42 rfl (lv_at hl 1 rfl) ?_
          refine lv_aload_n hx hb dX7_leastGrey_43 rfl (lv_at hl 2 rfl) ?_
          refine lv_iload hx hb dX7_leastGrey_44 (lv_at hl 0 rfl) ?_
          refine z_ai0 (va_runV (As := [.int (iI x4)]) (rest := [.int (iI x3)]) ⟨hx, hb, hml, hown, hts⟩ (c_X6_grey l D k (subA (subA a0 1) 6) (sub2 S1 6)  x4 (pOK_b hp 7 (by decide)) (by have e0 : ((sub2 S1 6) 0 1) = S1 6 1 := rfl; omega) (by omega) _) (cwV 1 hts gX7_leastGrey_X6_grey rfl rfl rfl (by decide +kernel) ⟨(Nat.le_of_ble_eq_true rfl), (Nat.le_of_ble_eq_true rfl)⟩) (z_preV hK hG hA hP hD hS [7, 8] rfl (by decide) 8 rfl rfl) rfl rfl hl.1 rfl (lv_room (Nat.le_of_ble_eq_true rfl)) dX7_leastGrey_46 ⟨(Nat.le_of_ble_eq_true rfl), (Nat.le_of_ble_eq_true rfl)⟩) hA hP hD hS [7, 8] rfl (fun H locs hP hS => ?_)
          refine z_eqi (z2 := wNum (S1 7) (S1 6 1) x4 0) rfl ?_
          have q_5 : -1000000000 ≤ wNum (S1 7) (S1 6 1) x4 0 ∧ wNum (S1 7) (S1 6 1) x4 0 ≤ 1000000000 := wNum_bd (pOK_b hp 7 (by decide))
          refine z_mmin hx hb (hml.trans hl.1.symm) hown (hts (.methodLink RX7 171 Lib.Math.min.name) (List.mem_of_getElem? (i := 5) rfl)) (hts (.static Lib.Math.min.name) (List.mem_of_getElem? (i := 6) rfl)) (hts (.initialized "java/lang/Math") (List.mem_of_getElem? (i := 7) rfl)) (hts (.code Lib.Math.min.name Lib.Math.min.code 2 (some .int)) (List.mem_of_getElem? (i := 8) rfl)) (Nat.le_of_ble_eq_true rfl) (Nat.le_of_ble_eq_true rfl) (Nat.le_of_ble_eq_true rfl) (Nat.le_of_ble_eq_true rfl) ⟨by omega, by omega⟩ ⟨by omega, by omega⟩ dX7_leastGrey_49 ?_
          refine lv_istore_n (lv' := [(3, .int (iI (min x3 (wNum (S1 7) (S1 6 1) x4 0)))), (4, .int (iI x4)), (2, .ref ((subA a0 1) 6)), (0, .ref (a0 0)), (1, .int (iI 1))]) hx hb dX7_leastGrey_52 rfl hl (by decide) rfl (fun ls hl => ?_)
          refine lv_iinc (v := iI (x4 + 1)) (lv' := [(4, .int (iI (x4 + 1))), (3, .int (iI (min x3 (wNum (S1 7) (S1 6 1) x4 0)))), (2, .ref ((subA a0 1) 6)), (0, .ref (a0 0)), (1, .int (iI 1))]) hx hb dX7_leastGrey_53 hl (k := 1) rfl (iI_add _ _) (by decide) rfl (fun ls hl => ?_)
          refine lv_goto (tgt := 24) hx hb dX7_leastGrey_56 (by decide) ?_
          exact ih24 (min x3 (wNum (S1 7) (S1 6 1) x4 0)) (x4 + 1) (by omega) (by omega) (by omega) (by omega) (foldI_e i0 (by rw [← iF]; unfold wLeastF; first | exact (zif_pos (by assumption)).symm | exact (zif_neg (by assumption)).symm))  H locs ls hP hD hS (lv_sub hl [0, 1, 2, 3, 4] rfl)
  exact lp24_0 6 9 0 (by omega) (by omega) (by omega) (by omega) rfl  H locs ls hP hD hS (lv_sub hl [0, 1, 2, 3, 4] rfl)
set_option maxHeartbeats 4000000 in
set_option maxRecDepth 100000 in
theorem c_X7_leastGrey_2 (l : Launch) (D : va_G) (k : Nat → ClassId) (a0 : Nat → Nat) (S0 : Nat → Nat → Int) (S1 : Nat → Nat → Int) (hp : pOK S1) : zMi l yX7_leastGrey wsX7_leastGrey ({ frames := 2, cells := 0, slots := 0, locals := 44 } : Room) D k [.ref (a0 0), .int (iI 2)] (wFac k a0 S0 ++ wPlant k (subA a0 1) S1) (wLeast (S1 10) (S1 9 1)) (wFac k a0 S0 ++ wPlant k (subA a0 1) S1) 0 0 := by
  refine zMi_of (cc := cX7_leastGrey) (maxL := 5) (ret := (some .int)) (by decide) rfl (Nat.le_of_ble_eq_true rfl) ?_
  intro p e s m args below meth c A ls hx hb hr hml hown hts hlocks hK hP hD hG hA hS hl
  have hown : s.vm.findClass RX7 = some m.cls := hown
  have hl : lv_has ls 5 [(0, .ref (a0 0)), (1, .int (iI 2))] := hl
  obtain ⟨H, hH⟩ : ∃ z, z = s.heap := ⟨_, rfl⟩
  obtain ⟨locs, hlc⟩ : ∃ z : List Loc, z = [] := ⟨_, rfl⟩
  rw [← hH] at hP
  have hS : va_S A s.heap H locs := by rw [hH, hlc]; exact hS
  rw [← hlc, ← hH]
  clear hlc hH
  have kp := hp.2
  refine lv_aload_n hx hb dX7_leastGrey_0 rfl (lv_at hl 0 rfl) ?_
  refine lv_iload_n hx hb dX7_leastGrey_1 rfl (lv_at hl 1 rfl) ?_
  refine z_av0 (va_runV (As := [.int (iI 2)]) (rest := []) ⟨hx, hb, hml, hown, hts⟩ (c_X7_demandBelt_ok l D k a0 S0  2 (by omega) (by omega) _) (cwV 1 hts gX7_leastGrey_X7_demandBelt rfl rfl rfl (by decide +kernel) ⟨(Nat.le_of_ble_eq_true rfl), (Nat.le_of_ble_eq_true rfl)⟩) (z_preV hK hG hA hP hD hS [0] rfl (by decide) 9 rfl rfl) rfl rfl hl.1 rfl (lv_room (Nat.le_of_ble_eq_true rfl)) dX7_leastGrey_2 ⟨(Nat.le_of_ble_eq_true rfl), (Nat.le_of_ble_eq_true rfl)⟩) hA hP hD hS [0] rfl (fun H locs hP hS => ?_)
  refine lv_aload_n hx hb dX7_leastGrey_5 rfl (lv_at hl 0 rfl) ?_
  refine va_get (D := D) (ci := 9) (v := .ref ((subA a0 1) 0)) (C := RX7) (T := TX7) (N := 11) hx hb hts (fun w h => List.mem_cons_of_mem _ (List.mem_append_left _ (List.mem_append_left _ (List.mem_append_left _ (List.mem_append_left _ (List.mem_append_left _ (List.mem_append_right _ h))))))) hown hK hP 0 rfl rfl 0 (by decide) (hts (.fieldLink RX7 10 "MondayFactory" "plant" "LMondayFactory$Plant;") (List.mem_of_getElem? (i := 1) rfl)) (fun _ h9 => h9) rfl dX7_leastGrey_6 ?_
  refine va_get (D := D) (ci := 7) (v := .ref ((subA a0 1) 1)) (C := RX5) (T := TX5) (N := 11) hx hb hts (fun w h => List.mem_cons_of_mem _ (List.mem_append_left _ (List.mem_append_left _ (List.mem_append_left _ (List.mem_append_left _ (List.mem_append_right _ h)))))) hown hK hP 1 rfl rfl 0 (by decide) (hts (.fieldLink RX7 72 "MondayFactory$Plant" "belts" "[LMondayFactory$Belt;") (List.mem_of_getElem? (i := 2) rfl)) (fun _ h9 => h9) rfl dX7_leastGrey_9 ?_
  refine lv_iload_n hx hb dX7_leastGrey_12 rfl (lv_at hl 1 rfl) ?_
  refine z_aald hx hb hK hP 2 2 (f := fun j => some ((subA a0 1) (2 + 3 * j))) (q := (subA a0 1) 8) rfl rfl (i := 2) (by omega) (by omega) (by decide) rfl dX7_leastGrey_13 ?_
  refine va_get (D := D) (ci := 2) (v := .ref ((subA a0 1) 9)) (C := RX0) (T := TX0) (N := 6) hx hb hts (fun w h => List.mem_cons_of_mem _ (List.mem_append_left _ (List.mem_append_left _ (List.mem_append_left _ (List.mem_append_right _ h))))) hown hK hP 9 rfl rfl 0 (by decide) (hts (.fieldLink RX7 76 "MondayFactory$Belt" "row" "LMondayFactory$Row;") (List.mem_of_getElem? (i := 3) rfl)) (fun _ h9 => h9) rfl dX7_leastGrey_14 ?_
  refine lv_astore_n (lv' := [(2, .ref ((subA a0 1) 9)), (0, .ref (a0 0)), (1, .int (iI 2))]) hx hb dX7_leastGrey_17 rfl hl (by decide) rfl (fun ls hl => ?_)
  refine lv_bipush (v := iI 9) hx hb dX7_leastGrey_18 (by decide) ?_
  refine lv_istore_n (lv' := [(3, .int (iI 9)), (2, .ref ((subA a0 1) 9)), (0, .ref (a0 0)), (1, .int (iI 2))]) hx hb dX7_leastGrey_20 rfl hl (by decide) rfl (fun ls hl => ?_)
  refine lv_iconst (v := iI 0) hx hb dX7_leastGrey_21 rfl ?_
  refine lv_istore (lv' := [(4, .int (iI 0)), (3, .int (iI 9)), (2, .ref ((subA a0 1) 9)), (0, .ref (a0 0)), (1, .int (iI 2))]) hx hb dX7_leastGrey_22 hl (by decide) rfl (fun ls hl => ?_)
  have lp24_0 : ∀ (n : Nat) (x3 : Int) (x4 : Int), (5 - x4).toNat < n → (0 ≤ x4) → (x4 ≤ S1 9 1) → (-1000000000 ≤ x3 ∧ x3 ≤ 9) → (x3 = foldI (wLeastF (S1 10) (S1 9 1)) 9 x4) → ∀ (H : Heap) (locs : List Loc) (ls : Array Slot), va_P D vwCl (wFac k a0 S0 ++ wPlant k (subA a0 1) S1) H → va_D A (wFac k a0 S0 ++ wPlant k (subA a0 1) S1) → va_S A s.heap H locs → lv_has ls 5 [(4, .int (iI x4)), (3, .int (iI x3)), (2, .ref ((subA a0 1) 9)), (0, .ref (a0 0)), (1, .int (iI 2))] → W p l e ({ frames := 2, cells := 0, slots := 0, locals := 44 } : Room) s m args below meth c H locs 0 0 (MQ below (zQi D A (wLeast (S1 10) (S1 9 1)) (wFac k a0 S0 ++ wPlant k (subA a0 1) S1)) args s 0 0 A) (F0 m 24 ls []) := by
    intro n24
    induction n24 with
    | zero => intro x3 x4 hm; exact absurd hm (Nat.not_lt_zero _)
    | succ n24 ih24 =>
      intro x3 x4 hm24 i0 i1 ib iF  H locs ls hP hD hS hl
      refine lv_iload hx hb dX7_leastGrey_24 (lv_at hl 0 rfl) ?_
      refine lv_aload_n hx hb dX7_leastGrey_26 rfl (lv_at hl 2 rfl) ?_
      have f_1 : -1000000000 ≤ S1 9 1 ∧ S1 9 1 ≤ 1000000000 := (pOK_b hp 9 (by decide)) 1
      refine va_get (D := D) (ci := 8) (v := .int (iI (S1 9 1))) (C := RX6) (T := TX6) (N := 2) hx hb hts (fun w h => List.mem_cons_of_mem _ (List.mem_append_left _ (List.mem_append_left _ (List.mem_append_right _ h)))) hown hK hP 10 rfl rfl 1 (by decide) (hts (.fieldLink RX7 82 "MondayFactory$Row" "count" "I") (List.mem_of_getElem? (i := 4) rfl)) (fun _ h9 => h9) rfl dX7_leastGrey_27 ?_
      refine zi_icmp_ge (tgt := 59) hx hb dX7_leastGrey_30 (by decide) ⟨by omega, by omega⟩ ⟨by omega, by omega⟩ (fun c_2 => ?_) (fun c_2 => ?_)
      · have v_3 : x3 = wLeast (S1 10) (S1 9 1) := (by rw [iF, show x4 = S1 9 1 by omega]; rfl)
        rw [v_3] at hl
        refine lv_iload_n hx hb dX7_leastGrey_59 rfl (lv_at hl 1 rfl) ?_
        exact z_iret hx hb hr hlocks hP hS dX7_leastGrey_60 rfl rfl (Nat.le_refl _) (Nat.le_refl _)
      · refine lv_aload_n hx hb dX7_leastGrey_33 rfl (lv_at hl 2 rfl) ?_
        refine lv_iload hx hb dX7_leastGrey_34 (lv_at hl 0 rfl) ?_
        refine z_ai0 (va_runV (As := [.int (iI x4)]) (rest := []) ⟨hx, hb, hml, hown, hts⟩ (c_X6_isBlank l D k (subA (subA a0 1) 9) (sub2 S1 9)  x4 (pOK_b hp 10 (by decide)) (by have e0 : ((sub2 S1 9) 0 1) = S1 9 1 := rfl; omega) (by omega) _) (cwV 1 hts gX7_leastGrey_X6_isBlank rfl rfl rfl (by decide +kernel) ⟨(Nat.le_of_ble_eq_true rfl), (Nat.le_of_ble_eq_true rfl)⟩) (z_preV hK hG hA hP hD hS [10, 11] rfl (by decide) 8 rfl rfl) rfl rfl hl.1 rfl (lv_room (Nat.le_of_ble_eq_true rfl)) dX7_leastGrey_36 ⟨(Nat.le_of_ble_eq_true rfl), (Nat.le_of_ble_eq_true rfl)⟩) hA hP hD hS [10, 11] rfl (fun H locs hP hS => ?_)
        refine z_eqi (z2 := zb (wNum (S1 10) (S1 9 1) x4 0 = -1)) rfl ?_
        refine zi_if_neB (tgt := 53) hx hb dX7_leastGrey_39 (by decide) (fun c_4 => ?_) (fun c_4 => ?_)
        · refine lv_iinc (v := iI (x4 + 1)) (lv' := [(4, .int (iI (x4 + 1))), (3, .int (iI x3)), (2, .ref ((subA a0 1) 9)), (0, .ref (a0 0)), (1, .int (iI 2))]) hx hb dX7_leastGrey_53 hl (k := 0) rfl (iI_add _ _) (by decide) rfl (fun ls hl => ?_)
          refine lv_goto (tgt := 24) hx hb dX7_leastGrey_56 (by decide) ?_
          exact ih24 x3 (x4 + 1) (by omega) (by omega) (by omega) (by omega) (foldI_e i0 (by rw [← iF]; unfold wLeastF; first | exact (zif_pos (by assumption)).symm | exact (zif_neg (by assumption)).symm))  H locs ls hP hD hS (lv_sub hl [0, 1, 2, 3, 4] rfl)
        · refine lv_iload_n hx hb dX7_leastGrey_42 rfl (lv_at hl 1 rfl) ?_
          refine lv_aload_n hx hb dX7_leastGrey_43 rfl (lv_at hl 2 rfl) ?_
          refine lv_iload hx hb dX7_leastGrey_44 (lv_at hl 0 rfl) ?_
          refine z_ai0 (va_runV (As := [.int (iI x4)]) (rest := [.int (iI x3)]) ⟨hx, hb, hml, hown, hts⟩ (c_X6_grey l D k (subA (subA a0 1) 9) (sub2 S1 9)  x4 (pOK_b hp 10 (by decide)) (by have e0 : ((sub2 S1 9) 0 1) = S1 9 1 := rfl; omega) (by omega) _) (cwV 1 hts gX7_leastGrey_X6_grey rfl rfl rfl (by decide +kernel) ⟨(Nat.le_of_ble_eq_true rfl), (Nat.le_of_ble_eq_true rfl)⟩) (z_preV hK hG hA hP hD hS [10, 11] rfl (by decide) 8 rfl rfl) rfl rfl hl.1 rfl (lv_room (Nat.le_of_ble_eq_true rfl)) dX7_leastGrey_46 ⟨(Nat.le_of_ble_eq_true rfl), (Nat.le_of_ble_eq_true rfl)⟩) hA hP hD hS [10, 11] rfl (fun H locs hP hS => ?_)
          refine z_eqi (z2 := wNum (S1 10) (S1 9 1) x4 0) rfl ?_
          have q_5 : -1000000000 ≤ wNum (S1 10) (S1 9 1) x4 0 ∧ wNum (S1 10) (S1 9 1) x4 0 ≤ 1000000000 := wNum_bd (pOK_b hp 10 (by decide))
          refine z_mmin hx hb (hml.trans hl.1.symm) hown (hts (.methodLink RX7 171 Lib.Math.min.name) (List.mem_of_getElem? (i := 5) rfl)) (hts (.static Lib.Math.min.name) (List.mem_of_getElem? (i := 6) rfl)) (hts (.initialized "java/lang/Math") (List.mem_of_getElem? (i := 7) rfl)) (hts (.code Lib.Math.min.name Lib.Math.min.code 2 (some .int)) (List.mem_of_getElem? (i := 8) rfl)) (Nat.le_of_ble_eq_true rfl) (Nat.le_of_ble_eq_true rfl) (Nat.le_of_ble_eq_true rfl) (Nat.le_of_ble_eq_true rfl) ⟨by omega, by omega⟩ ⟨by omega, by omega⟩ dX7_leastGrey_49 ?_
          refine lv_istore_n (lv' := [(3, .int (iI (min x3 (wNum (S1 10) (S1 9 1) x4 0)))), (4, .int (iI x4)), (2, .ref ((subA a0 1) 9)), (0, .ref (a0 0)), (1, .int (iI 2))]) hx hb dX7_leastGrey_52 rfl hl (by decide) rfl (fun ls hl => ?_)
          refine lv_iinc (v := iI (x4 + 1)) (lv' := [(4, .int (iI (x4 + 1))), (3, .int (iI (min x3 (wNum (S1 10) (S1 9 1) x4 0)))), (2, .ref ((subA a0 1) 9)), (0, .ref (a0 0)), (1, .int (iI 2))]) hx hb dX7_leastGrey_53 hl (k := 1) rfl (iI_add _ _) (by decide) rfl (fun ls hl => ?_)
          refine lv_goto (tgt := 24) hx hb dX7_leastGrey_56 (by decide) ?_
          exact ih24 (min x3 (wNum (S1 10) (S1 9 1) x4 0)) (x4 + 1) (by omega) (by omega) (by omega) (by omega) (foldI_e i0 (by rw [← iF]; unfold wLeastF; first | exact (zif_pos (by assumption)).symm | exact (zif_neg (by assumption)).symm))  H locs ls hP hD hS (lv_sub hl [0, 1, 2, 3, 4] rfl)
  exact lp24_0 6 9 0 (by omega) (by omega) (by omega) (by omega) rfl  H locs ls hP hD hS (lv_sub hl [0, 1, 2, 3, 4] rfl)
set_option maxHeartbeats 4000000 in
set_option maxRecDepth 100000 in
theorem c_X7_leastGrey_x (l : Launch) (hst : l.stackTraces = false) (D : va_G) (k : Nat → ClassId) (a0 : Nat → Nat) (S0 : Nat → Nat → Int) (S1 : Nat → Nat → Int) (p0 : Int) (hp : pOK S1) (h0 : -2147483648 ≤ p0 ∧ p0 < 2147483648) (hc : ¬ (0 ≤ p0 ∧ p0 < 3)) : zMx l yX7_leastGrey wsX7_leastGrey ({ frames := 7, cells := 1, slots := 6, locals := 103 } : Room) D k [.ref (a0 0), .int (iI p0)] (wFac k a0 S0 ++ wPlant k (subA a0 1) S1) "java/lang/IndexOutOfBoundsException" (wFac k a0 S0 ++ wPlant k (subA a0 1) S1) 1 6 := by
  refine zMx_of (cc := cX7_leastGrey) (maxL := 5) (ret := (some .int)) (by decide) rfl (Nat.le_of_ble_eq_true rfl) ?_
  intro p e s m args below meth c A ls hx hb hr hml hown hts hlocks hK hP hD hG hE ht hA hS hl
  have hown : s.vm.findClass RX7 = some m.cls := hown
  have hl : lv_has ls 5 [(0, .ref (a0 0)), (1, .int (iI p0))] := hl
  obtain ⟨H, hH⟩ : ∃ z, z = s.heap := ⟨_, rfl⟩
  obtain ⟨locs, hlc⟩ : ∃ z : List Loc, z = [] := ⟨_, rfl⟩
  rw [← hH] at hP
  have hS : va_S A s.heap H locs := by rw [hH, hlc]; exact hS
  rw [← hlc, ← hH]
  clear hlc hH
  have kp := hp.2
  refine lv_aload_n hx hb dX7_leastGrey_0 rfl (lv_at hl 0 rfl) ?_
  refine lv_iload_n hx hb dX7_leastGrey_1 rfl (lv_at hl 1 rfl) ?_
  exact z_axo (vx_runV (As := [.int (iI p0)]) (rest := []) ⟨hx, hb, hml, hown, hts⟩ (c_X7_demandBelt_x l hst D k a0 S0  p0 (by omega) (by omega) _) (cwV 1 hts gX7_leastGrey_X7_demandBelt rfl rfl rfl (by decide +kernel) ⟨(Nat.le_of_ble_eq_true rfl), (Nat.le_of_ble_eq_true rfl)⟩) (z_preVx hK hG hE hA hP hD hS [0] rfl (by decide) 9 rfl rfl) rfl rfl hl.1 rfl (lv_room (Nat.le_of_ble_eq_true rfl)) dX7_leastGrey_2 ⟨(Nat.le_of_ble_eq_true rfl), (Nat.le_of_ble_eq_true rfl)⟩) hA hP hD hS [0] rfl rfl ht hlocks rfl (Nat.le_of_ble_eq_true rfl) (Nat.le_of_ble_eq_true rfl)
set_option maxHeartbeats 4000000 in
set_option maxRecDepth 100000 in
theorem c_X7_line_0 (l : Launch) (D : va_G) (k : Nat → ClassId) (a0 : Nat → Nat) (S0 : Nat → Nat → Int) (S1 : Nat → Nat → Int) (S2 : Nat → Nat → Int) (hp : pOK S1) (hV : ∀ k w : Int, 0 ≤ w → w ≤ 3 → -48 ≤ wNum (S1 4) (S1 3 1) k w ∧ wNum (S1 4) (S1 3 1) k w ≤ 60000) (hl1 : -48 ≤ S1 2 1 ∧ S1 2 1 ≤ 60000) (hl2 : -48 ≤ S1 2 2 ∧ S1 2 2 ≤ 60000) : zMi l yX7_line wsX7_line ({ frames := 4, cells := 0, slots := 0, locals := 88 } : Room) D k [.ref (a0 0), .int (iI 0)] (wFac k a0 S0 ++ (wPlant k (subA a0 1) S1 ++ wLine k (subA a0 185) S2)) ((wLineB (S1 2) (S1 4) (S1 3 1) (S2 1)).2) (wFac k a0 S0 ++ (wPlant k (subA a0 1) S1 ++ wLine k (subA a0 185) (upA (upA (up2 (up2 (up2 (up2 (up2 (up2 (up2 (up2 (up2 S2 0 1 0) 1 0 ((48 + (S1 2 1)))) 0 1 (((0)) + 1)) 1 1 47) 0 1 (((((0)) + 1)) + 1)) 1 2 ((48 + (S1 2 2)))) 0 1 ((((((((0)) + 1)) + 1))) + 1)) 1 3 58) 0 1 ((((((((((0)) + 1)) + 1))) + 1)) + 1)) 0 (upZ (S2 0) 1 (wLineB (S1 2) (S1 4) (S1 3 1) (S2 1)).2)) 1 ((wLineB (S1 2) (S1 4) (S1 3 1) (S2 1)).1)))) 0 0 := by
  refine zMi_of (cc := cX7_line) (maxL := 2) (ret := (some .int)) (by decide) rfl (Nat.le_of_ble_eq_true rfl) ?_
  intro p e s m args below meth c A ls hx hb hr hml hown hts hlocks hK hP hD hG hA hS hl
  have hown : s.vm.findClass RX7 = some m.cls := hown
  have hl : lv_has ls 2 [(0, .ref (a0 0)), (1, .int (iI 0))] := hl
  obtain ⟨H, hH⟩ : ∃ z, z = s.heap := ⟨_, rfl⟩
  obtain ⟨locs, hlc⟩ : ∃ z : List Loc, z = [] := ⟨_, rfl⟩
  rw [← hH] at hP
  have hS : va_S A s.heap H locs := by rw [hH, hlc]; exact hS
  rw [← hlc, ← hH]
  clear hlc hH
  have kp := hp.2
  refine lv_aload_n hx hb dX7_line_0 rfl (lv_at hl 0 rfl) ?_
  refine lv_iload_n hx hb dX7_line_1 rfl (lv_at hl 1 rfl) ?_
  refine z_av0 (va_runV (As := [.int (iI 0)]) (rest := []) ⟨hx, hb, hml, hown, hts⟩ (c_X7_demandBelt_ok l D k a0 S0  0 (by omega) (by omega) _) (cwV 1 hts gX7_line_X7_demandBelt rfl rfl rfl (by decide +kernel) ⟨(Nat.le_of_ble_eq_true rfl), (Nat.le_of_ble_eq_true rfl)⟩) (z_preV hK hG hA hP hD hS [0] rfl (by decide) 9 rfl rfl) rfl rfl hl.1 rfl (lv_room (Nat.le_of_ble_eq_true rfl)) dX7_line_2 ⟨(Nat.le_of_ble_eq_true rfl), (Nat.le_of_ble_eq_true rfl)⟩) hA hP hD hS [0] rfl (fun H locs hP hS => ?_)
  refine lv_aload_n hx hb dX7_line_5 rfl (lv_at hl 0 rfl) ?_
  refine va_get (D := D) (ci := 9) (v := .ref ((subA a0 185) 0)) (C := RX7) (T := TX7) (N := 11) hx hb hts (fun w h => List.mem_cons_of_mem _ (List.mem_append_left _ (List.mem_append_left _ (List.mem_append_left _ (List.mem_append_left _ (List.mem_append_left _ (List.mem_append_left _ (List.mem_append_right _ h)))))))) hown hK hP 0 rfl rfl 6 (by decide) (hts (.fieldLink RX7 42 "MondayFactory" "written" "LMondayFactory$Line;") (List.mem_of_getElem? (i := 1) rfl)) (fun _ h9 => h9) rfl dX7_line_6 ?_
  refine lv_aload_n hx hb dX7_line_9 rfl (lv_at hl 0 rfl) ?_
  refine va_get (D := D) (ci := 9) (v := .ref ((subA a0 1) 0)) (C := RX7) (T := TX7) (N := 11) hx hb hts (fun w h => List.mem_cons_of_mem _ (List.mem_append_left _ (List.mem_append_left _ (List.mem_append_left _ (List.mem_append_left _ (List.mem_append_left _ (List.mem_append_left _ (List.mem_append_right _ h)))))))) hown hK hP 0 rfl rfl 0 (by decide) (hts (.fieldLink RX7 10 "MondayFactory" "plant" "LMondayFactory$Plant;") (List.mem_of_getElem? (i := 2) rfl)) (fun _ h9 => h9) rfl dX7_line_10 ?_
  refine va_get (D := D) (ci := 7) (v := .ref ((subA a0 1) 1)) (C := RX5) (T := TX5) (N := 11) hx hb hts (fun w h => List.mem_cons_of_mem _ (List.mem_append_left _ (List.mem_append_left _ (List.mem_append_left _ (List.mem_append_left _ (List.mem_append_left _ (List.mem_append_right _ h))))))) hown hK hP 1 rfl rfl 0 (by decide) (hts (.fieldLink RX7 72 "MondayFactory$Plant" "belts" "[LMondayFactory$Belt;") (List.mem_of_getElem? (i := 3) rfl)) (fun _ h9 => h9) rfl dX7_line_13 ?_
  refine lv_iload_n hx hb dX7_line_16 rfl (lv_at hl 1 rfl) ?_
  refine z_aald hx hb hK hP 2 2 (f := fun j => some ((subA a0 1) (2 + 3 * j))) (q := (subA a0 1) 2) rfl rfl (i := 0) (by omega) (by omega) (by decide) rfl dX7_line_17 ?_
  refine z_av (va_runV (As := [.ref ((subA a0 1) 2)]) (rest := []) ⟨hx, hb, hml, hown, hts⟩ (c_X4_writeBelt l D k ((subA a0 185)) S2 (subA (subA a0 1) 2) (sub2 S1 2)   (pOK_b hp 4 (by decide)) (pOK_b hp 2 (by decide)) (by have e0 : ((sub2 S1 2) 1 1) = S1 3 1 := rfl; omega) (by have e0 : ((sub2 S1 2) 0 1) = S1 2 1 := rfl; omega) (by have e0 : ((sub2 S1 2) 0 2) = S1 2 2 := rfl; omega) hV _) (cwV 1 hts gX7_line_X4_writeBelt rfl rfl rfl (by decide +kernel) ⟨(Nat.le_of_ble_eq_true rfl), (Nat.le_of_ble_eq_true rfl)⟩) (z_preV hK hG hA hP hD hS [16, 17, 3, 4, 5] rfl (by decide) 6 rfl rfl) rfl rfl hl.1 rfl (lv_room (Nat.le_of_ble_eq_true rfl)) dX7_line_18 ⟨(Nat.le_of_ble_eq_true rfl), (Nat.le_of_ble_eq_true rfl)⟩) hA hP hD hS [16, 17, 3, 4, 5] rfl rfl (fun H locs hP hD hS => ?_)
  have hP : va_P D vwCl (wFac k a0 S0 ++ (wPlant k (subA a0 1) S1 ++ wLine k (subA a0 185) (upA (upA (up2 (up2 (up2 (up2 (up2 (up2 (up2 (up2 (up2 S2 0 1 0) 1 0 ((48 + (S1 2 1)))) 0 1 (((0)) + 1)) 1 1 47) 0 1 (((((0)) + 1)) + 1)) 1 2 ((48 + (S1 2 2)))) 0 1 ((((((((0)) + 1)) + 1))) + 1)) 1 3 58) 0 1 ((((((((((0)) + 1)) + 1))) + 1)) + 1)) 0 (upZ (S2 0) 1 (wLineB (S1 2) (S1 4) (S1 3 1) (S2 1)).2)) 1 ((wLineB (S1 2) (S1 4) (S1 3 1) (S2 1)).1)))) H := hP
  have hD : va_D A (wFac k a0 S0 ++ (wPlant k (subA a0 1) S1 ++ wLine k (subA a0 185) (upA (upA (up2 (up2 (up2 (up2 (up2 (up2 (up2 (up2 (up2 S2 0 1 0) 1 0 ((48 + (S1 2 1)))) 0 1 (((0)) + 1)) 1 1 47) 0 1 (((((0)) + 1)) + 1)) 1 2 ((48 + (S1 2 2)))) 0 1 ((((((((0)) + 1)) + 1))) + 1)) 1 3 58) 0 1 ((((((((((0)) + 1)) + 1))) + 1)) + 1)) 0 (upZ (S2 0) 1 (wLineB (S1 2) (S1 4) (S1 3 1) (S2 1)).2)) 1 ((wLineB (S1 2) (S1 4) (S1 3 1) (S2 1)).1)))) := hD
  refine lv_aload_n hx hb dX7_line_21 rfl (lv_at hl 0 rfl) ?_
  refine va_get (D := D) (ci := 9) (v := .ref ((subA a0 185) 0)) (C := RX7) (T := TX7) (N := 11) hx hb hts (fun w h => List.mem_cons_of_mem _ (List.mem_append_left _ (List.mem_append_left _ (List.mem_append_left _ (List.mem_append_left _ (List.mem_append_left _ (List.mem_append_left _ (List.mem_append_right _ h)))))))) hown hK hP 0 rfl rfl 6 (by decide) (hts (.fieldLink RX7 42 "MondayFactory" "written" "LMondayFactory$Line;") (List.mem_of_getElem? (i := 1) rfl)) (fun _ h9 => h9) rfl dX7_line_22 ?_
  refine va_get (D := D) (ci := 6) (v := .int (iI ((wLineB (S1 2) (S1 4) (S1 3 1) (S2 1)).2))) (C := RX4) (T := TX4) (N := 2) hx hb hts (fun w h => List.mem_cons_of_mem _ (List.mem_append_left _ (List.mem_append_left _ (List.mem_append_left _ (List.mem_append_left _ (List.mem_append_right _ h)))))) hown hK hP 16 rfl rfl 1 (by decide) (hts (.fieldLink RX7 221 "MondayFactory$Line" "length" "I") (List.mem_of_getElem? (i := 4) rfl)) (fun _ h9 => h9) rfl dX7_line_25 ?_
  exact z_iret hx hb hr hlocks hP hS dX7_line_28 rfl rfl (Nat.le_refl _) (Nat.le_refl _)
set_option maxHeartbeats 4000000 in
set_option maxRecDepth 100000 in
theorem c_X7_line_1 (l : Launch) (D : va_G) (k : Nat → ClassId) (a0 : Nat → Nat) (S0 : Nat → Nat → Int) (S1 : Nat → Nat → Int) (S2 : Nat → Nat → Int) (hp : pOK S1) (hV : ∀ k w : Int, 0 ≤ w → w ≤ 3 → -48 ≤ wNum (S1 7) (S1 6 1) k w ∧ wNum (S1 7) (S1 6 1) k w ≤ 60000) (hl1 : -48 ≤ S1 5 1 ∧ S1 5 1 ≤ 60000) (hl2 : -48 ≤ S1 5 2 ∧ S1 5 2 ≤ 60000) : zMi l yX7_line wsX7_line ({ frames := 4, cells := 0, slots := 0, locals := 88 } : Room) D k [.ref (a0 0), .int (iI 1)] (wFac k a0 S0 ++ (wPlant k (subA a0 1) S1 ++ wLine k (subA a0 185) S2)) ((wLineB (S1 5) (S1 7) (S1 6 1) (S2 1)).2) (wFac k a0 S0 ++ (wPlant k (subA a0 1) S1 ++ wLine k (subA a0 185) (upA (upA (up2 (up2 (up2 (up2 (up2 (up2 (up2 (up2 (up2 S2 0 1 0) 1 0 ((48 + (S1 5 1)))) 0 1 (((0)) + 1)) 1 1 47) 0 1 (((((0)) + 1)) + 1)) 1 2 ((48 + (S1 5 2)))) 0 1 ((((((((0)) + 1)) + 1))) + 1)) 1 3 58) 0 1 ((((((((((0)) + 1)) + 1))) + 1)) + 1)) 0 (upZ (S2 0) 1 (wLineB (S1 5) (S1 7) (S1 6 1) (S2 1)).2)) 1 ((wLineB (S1 5) (S1 7) (S1 6 1) (S2 1)).1)))) 0 0 := by
  refine zMi_of (cc := cX7_line) (maxL := 2) (ret := (some .int)) (by decide) rfl (Nat.le_of_ble_eq_true rfl) ?_
  intro p e s m args below meth c A ls hx hb hr hml hown hts hlocks hK hP hD hG hA hS hl
  have hown : s.vm.findClass RX7 = some m.cls := hown
  have hl : lv_has ls 2 [(0, .ref (a0 0)), (1, .int (iI 1))] := hl
  obtain ⟨H, hH⟩ : ∃ z, z = s.heap := ⟨_, rfl⟩
  obtain ⟨locs, hlc⟩ : ∃ z : List Loc, z = [] := ⟨_, rfl⟩
  rw [← hH] at hP
  have hS : va_S A s.heap H locs := by rw [hH, hlc]; exact hS
  rw [← hlc, ← hH]
  clear hlc hH
  have kp := hp.2
  refine lv_aload_n hx hb dX7_line_0 rfl (lv_at hl 0 rfl) ?_
  refine lv_iload_n hx hb dX7_line_1 rfl (lv_at hl 1 rfl) ?_
  refine z_av0 (va_runV (As := [.int (iI 1)]) (rest := []) ⟨hx, hb, hml, hown, hts⟩ (c_X7_demandBelt_ok l D k a0 S0  1 (by omega) (by omega) _) (cwV 1 hts gX7_line_X7_demandBelt rfl rfl rfl (by decide +kernel) ⟨(Nat.le_of_ble_eq_true rfl), (Nat.le_of_ble_eq_true rfl)⟩) (z_preV hK hG hA hP hD hS [0] rfl (by decide) 9 rfl rfl) rfl rfl hl.1 rfl (lv_room (Nat.le_of_ble_eq_true rfl)) dX7_line_2 ⟨(Nat.le_of_ble_eq_true rfl), (Nat.le_of_ble_eq_true rfl)⟩) hA hP hD hS [0] rfl (fun H locs hP hS => ?_)
  refine lv_aload_n hx hb dX7_line_5 rfl (lv_at hl 0 rfl) ?_
  refine va_get (D := D) (ci := 9) (v := .ref ((subA a0 185) 0)) (C := RX7) (T := TX7) (N := 11) hx hb hts (fun w h => List.mem_cons_of_mem _ (List.mem_append_left _ (List.mem_append_left _ (List.mem_append_left _ (List.mem_append_left _ (List.mem_append_left _ (List.mem_append_left _ (List.mem_append_right _ h)))))))) hown hK hP 0 rfl rfl 6 (by decide) (hts (.fieldLink RX7 42 "MondayFactory" "written" "LMondayFactory$Line;") (List.mem_of_getElem? (i := 1) rfl)) (fun _ h9 => h9) rfl dX7_line_6 ?_
  refine lv_aload_n hx hb dX7_line_9 rfl (lv_at hl 0 rfl) ?_
  refine va_get (D := D) (ci := 9) (v := .ref ((subA a0 1) 0)) (C := RX7) (T := TX7) (N := 11) hx hb hts (fun w h => List.mem_cons_of_mem _ (List.mem_append_left _ (List.mem_append_left _ (List.mem_append_left _ (List.mem_append_left _ (List.mem_append_left _ (List.mem_append_left _ (List.mem_append_right _ h)))))))) hown hK hP 0 rfl rfl 0 (by decide) (hts (.fieldLink RX7 10 "MondayFactory" "plant" "LMondayFactory$Plant;") (List.mem_of_getElem? (i := 2) rfl)) (fun _ h9 => h9) rfl dX7_line_10 ?_
  refine va_get (D := D) (ci := 7) (v := .ref ((subA a0 1) 1)) (C := RX5) (T := TX5) (N := 11) hx hb hts (fun w h => List.mem_cons_of_mem _ (List.mem_append_left _ (List.mem_append_left _ (List.mem_append_left _ (List.mem_append_left _ (List.mem_append_left _ (List.mem_append_right _ h))))))) hown hK hP 1 rfl rfl 0 (by decide) (hts (.fieldLink RX7 72 "MondayFactory$Plant" "belts" "[LMondayFactory$Belt;") (List.mem_of_getElem? (i := 3) rfl)) (fun _ h9 => h9) rfl dX7_line_13 ?_
  refine lv_iload_n hx hb dX7_line_16 rfl (lv_at hl 1 rfl) ?_
  refine z_aald hx hb hK hP 2 2 (f := fun j => some ((subA a0 1) (2 + 3 * j))) (q := (subA a0 1) 5) rfl rfl (i := 1) (by omega) (by omega) (by decide) rfl dX7_line_17 ?_
  refine z_av (va_runV (As := [.ref ((subA a0 1) 5)]) (rest := []) ⟨hx, hb, hml, hown, hts⟩ (c_X4_writeBelt l D k ((subA a0 185)) S2 (subA (subA a0 1) 5) (sub2 S1 5)   (pOK_b hp 7 (by decide)) (pOK_b hp 5 (by decide)) (by have e0 : ((sub2 S1 5) 1 1) = S1 6 1 := rfl; omega) (by have e0 : ((sub2 S1 5) 0 1) = S1 5 1 := rfl; omega) (by have e0 : ((sub2 S1 5) 0 2) = S1 5 2 := rfl; omega) hV _) (cwV 1 hts gX7_line_X4_writeBelt rfl rfl rfl (by decide +kernel) ⟨(Nat.le_of_ble_eq_true rfl), (Nat.le_of_ble_eq_true rfl)⟩) (z_preV hK hG hA hP hD hS [16, 17, 6, 7, 8] rfl (by decide) 6 rfl rfl) rfl rfl hl.1 rfl (lv_room (Nat.le_of_ble_eq_true rfl)) dX7_line_18 ⟨(Nat.le_of_ble_eq_true rfl), (Nat.le_of_ble_eq_true rfl)⟩) hA hP hD hS [16, 17, 6, 7, 8] rfl rfl (fun H locs hP hD hS => ?_)
  have hP : va_P D vwCl (wFac k a0 S0 ++ (wPlant k (subA a0 1) S1 ++ wLine k (subA a0 185) (upA (upA (up2 (up2 (up2 (up2 (up2 (up2 (up2 (up2 (up2 S2 0 1 0) 1 0 ((48 + (S1 5 1)))) 0 1 (((0)) + 1)) 1 1 47) 0 1 (((((0)) + 1)) + 1)) 1 2 ((48 + (S1 5 2)))) 0 1 ((((((((0)) + 1)) + 1))) + 1)) 1 3 58) 0 1 ((((((((((0)) + 1)) + 1))) + 1)) + 1)) 0 (upZ (S2 0) 1 (wLineB (S1 5) (S1 7) (S1 6 1) (S2 1)).2)) 1 ((wLineB (S1 5) (S1 7) (S1 6 1) (S2 1)).1)))) H := hP
  have hD : va_D A (wFac k a0 S0 ++ (wPlant k (subA a0 1) S1 ++ wLine k (subA a0 185) (upA (upA (up2 (up2 (up2 (up2 (up2 (up2 (up2 (up2 (up2 S2 0 1 0) 1 0 ((48 + (S1 5 1)))) 0 1 (((0)) + 1)) 1 1 47) 0 1 (((((0)) + 1)) + 1)) 1 2 ((48 + (S1 5 2)))) 0 1 ((((((((0)) + 1)) + 1))) + 1)) 1 3 58) 0 1 ((((((((((0)) + 1)) + 1))) + 1)) + 1)) 0 (upZ (S2 0) 1 (wLineB (S1 5) (S1 7) (S1 6 1) (S2 1)).2)) 1 ((wLineB (S1 5) (S1 7) (S1 6 1) (S2 1)).1)))) := hD
  refine lv_aload_n hx hb dX7_line_21 rfl (lv_at hl 0 rfl) ?_
  refine va_get (D := D) (ci := 9) (v := .ref ((subA a0 185) 0)) (C := RX7) (T := TX7) (N := 11) hx hb hts (fun w h => List.mem_cons_of_mem _ (List.mem_append_left _ (List.mem_append_left _ (List.mem_append_left _ (List.mem_append_left _ (List.mem_append_left _ (List.mem_append_left _ (List.mem_append_right _ h)))))))) hown hK hP 0 rfl rfl 6 (by decide) (hts (.fieldLink RX7 42 "MondayFactory" "written" "LMondayFactory$Line;") (List.mem_of_getElem? (i := 1) rfl)) (fun _ h9 => h9) rfl dX7_line_22 ?_
  refine va_get (D := D) (ci := 6) (v := .int (iI ((wLineB (S1 5) (S1 7) (S1 6 1) (S2 1)).2))) (C := RX4) (T := TX4) (N := 2) hx hb hts (fun w h => List.mem_cons_of_mem _ (List.mem_append_left _ (List.mem_append_left _ (List.mem_append_left _ (List.mem_append_left _ (List.mem_append_right _ h)))))) hown hK hP 16 rfl rfl 1 (by decide) (hts (.fieldLink RX7 221 "MondayFactory$Line" "length" "I") (List.mem_of_getElem? (i := 4) rfl)) (fun _ h9 => h9) rfl dX7_line_25 ?_
  exact z_iret hx hb hr hlocks hP hS dX7_line_28 rfl rfl (Nat.le_refl _) (Nat.le_refl _)
set_option maxHeartbeats 4000000 in
set_option maxRecDepth 100000 in
theorem c_X7_line_2 (l : Launch) (D : va_G) (k : Nat → ClassId) (a0 : Nat → Nat) (S0 : Nat → Nat → Int) (S1 : Nat → Nat → Int) (S2 : Nat → Nat → Int) (hp : pOK S1) (hV : ∀ k w : Int, 0 ≤ w → w ≤ 3 → -48 ≤ wNum (S1 10) (S1 9 1) k w ∧ wNum (S1 10) (S1 9 1) k w ≤ 60000) (hl1 : -48 ≤ S1 8 1 ∧ S1 8 1 ≤ 60000) (hl2 : -48 ≤ S1 8 2 ∧ S1 8 2 ≤ 60000) : zMi l yX7_line wsX7_line ({ frames := 4, cells := 0, slots := 0, locals := 88 } : Room) D k [.ref (a0 0), .int (iI 2)] (wFac k a0 S0 ++ (wPlant k (subA a0 1) S1 ++ wLine k (subA a0 185) S2)) ((wLineB (S1 8) (S1 10) (S1 9 1) (S2 1)).2) (wFac k a0 S0 ++ (wPlant k (subA a0 1) S1 ++ wLine k (subA a0 185) (upA (upA (up2 (up2 (up2 (up2 (up2 (up2 (up2 (up2 (up2 S2 0 1 0) 1 0 ((48 + (S1 8 1)))) 0 1 (((0)) + 1)) 1 1 47) 0 1 (((((0)) + 1)) + 1)) 1 2 ((48 + (S1 8 2)))) 0 1 ((((((((0)) + 1)) + 1))) + 1)) 1 3 58) 0 1 ((((((((((0)) + 1)) + 1))) + 1)) + 1)) 0 (upZ (S2 0) 1 (wLineB (S1 8) (S1 10) (S1 9 1) (S2 1)).2)) 1 ((wLineB (S1 8) (S1 10) (S1 9 1) (S2 1)).1)))) 0 0 := by
  refine zMi_of (cc := cX7_line) (maxL := 2) (ret := (some .int)) (by decide) rfl (Nat.le_of_ble_eq_true rfl) ?_
  intro p e s m args below meth c A ls hx hb hr hml hown hts hlocks hK hP hD hG hA hS hl
  have hown : s.vm.findClass RX7 = some m.cls := hown
  have hl : lv_has ls 2 [(0, .ref (a0 0)), (1, .int (iI 2))] := hl
  obtain ⟨H, hH⟩ : ∃ z, z = s.heap := ⟨_, rfl⟩
  obtain ⟨locs, hlc⟩ : ∃ z : List Loc, z = [] := ⟨_, rfl⟩
  rw [← hH] at hP
  have hS : va_S A s.heap H locs := by rw [hH, hlc]; exact hS
  rw [← hlc, ← hH]
  clear hlc hH
  have kp := hp.2
  refine lv_aload_n hx hb dX7_line_0 rfl (lv_at hl 0 rfl) ?_
  refine lv_iload_n hx hb dX7_line_1 rfl (lv_at hl 1 rfl) ?_
  refine z_av0 (va_runV (As := [.int (iI 2)]) (rest := []) ⟨hx, hb, hml, hown, hts⟩ (c_X7_demandBelt_ok l D k a0 S0  2 (by omega) (by omega) _) (cwV 1 hts gX7_line_X7_demandBelt rfl rfl rfl (by decide +kernel) ⟨(Nat.le_of_ble_eq_true rfl), (Nat.le_of_ble_eq_true rfl)⟩) (z_preV hK hG hA hP hD hS [0] rfl (by decide) 9 rfl rfl) rfl rfl hl.1 rfl (lv_room (Nat.le_of_ble_eq_true rfl)) dX7_line_2 ⟨(Nat.le_of_ble_eq_true rfl), (Nat.le_of_ble_eq_true rfl)⟩) hA hP hD hS [0] rfl (fun H locs hP hS => ?_)
  refine lv_aload_n hx hb dX7_line_5 rfl (lv_at hl 0 rfl) ?_
  refine va_get (D := D) (ci := 9) (v := .ref ((subA a0 185) 0)) (C := RX7) (T := TX7) (N := 11) hx hb hts (fun w h => List.mem_cons_of_mem _ (List.mem_append_left _ (List.mem_append_left _ (List.mem_append_left _ (List.mem_append_left _ (List.mem_append_left _ (List.mem_append_left _ (List.mem_append_right _ h)))))))) hown hK hP 0 rfl rfl 6 (by decide) (hts (.fieldLink RX7 42 "MondayFactory" "written" "LMondayFactory$Line;") (List.mem_of_getElem? (i := 1) rfl)) (fun _ h9 => h9) rfl dX7_line_6 ?_
  refine lv_aload_n hx hb dX7_line_9 rfl (lv_at hl 0 rfl) ?_
  refine va_get (D := D) (ci := 9) (v := .ref ((subA a0 1) 0)) (C := RX7) (T := TX7) (N := 11) hx hb hts (fun w h => List.mem_cons_of_mem _ (List.mem_append_left _ (List.mem_append_left _ (List.mem_append_left _ (List.mem_append_left _ (List.mem_append_left _ (List.mem_append_left _ (List.mem_append_right _ h)))))))) hown hK hP 0 rfl rfl 0 (by decide) (hts (.fieldLink RX7 10 "MondayFactory" "plant" "LMondayFactory$Plant;") (List.mem_of_getElem? (i := 2) rfl)) (fun _ h9 => h9) rfl dX7_line_10 ?_
  refine va_get (D := D) (ci := 7) (v := .ref ((subA a0 1) 1)) (C := RX5) (T := TX5) (N := 11) hx hb hts (fun w h => List.mem_cons_of_mem _ (List.mem_append_left _ (List.mem_append_left _ (List.mem_append_left _ (List.mem_append_left _ (List.mem_append_left _ (List.mem_append_right _ h))))))) hown hK hP 1 rfl rfl 0 (by decide) (hts (.fieldLink RX7 72 "MondayFactory$Plant" "belts" "[LMondayFactory$Belt;") (List.mem_of_getElem? (i := 3) rfl)) (fun _ h9 => h9) rfl dX7_line_13 ?_
  refine lv_iload_n hx hb dX7_line_16 rfl (lv_at hl 1 rfl) ?_
  refine z_aald hx hb hK hP 2 2 (f := fun j => some ((subA a0 1) (2 + 3 * j))) (q := (subA a0 1) 8) rfl rfl (i := 2) (by omega) (by omega) (by decide) rfl dX7_line_17 ?_
  refine z_av (va_runV (As := [.ref ((subA a0 1) 8)]) (rest := []) ⟨hx, hb, hml, hown, hts⟩ (c_X4_writeBelt l D k ((subA a0 185)) S2 (subA (subA a0 1) 8) (sub2 S1 8)   (pOK_b hp 10 (by decide)) (pOK_b hp 8 (by decide)) (by have e0 : ((sub2 S1 8) 1 1) = S1 9 1 := rfl; omega) (by have e0 : ((sub2 S1 8) 0 1) = S1 8 1 := rfl; omega) (by have e0 : ((sub2 S1 8) 0 2) = S1 8 2 := rfl; omega) hV _) (cwV 1 hts gX7_line_X4_writeBelt rfl rfl rfl (by decide +kernel) ⟨(Nat.le_of_ble_eq_true rfl), (Nat.le_of_ble_eq_true rfl)⟩) (z_preV hK hG hA hP hD hS [16, 17, 9, 10, 11] rfl (by decide) 6 rfl rfl) rfl rfl hl.1 rfl (lv_room (Nat.le_of_ble_eq_true rfl)) dX7_line_18 ⟨(Nat.le_of_ble_eq_true rfl), (Nat.le_of_ble_eq_true rfl)⟩) hA hP hD hS [16, 17, 9, 10, 11] rfl rfl (fun H locs hP hD hS => ?_)
  have hP : va_P D vwCl (wFac k a0 S0 ++ (wPlant k (subA a0 1) S1 ++ wLine k (subA a0 185) (upA (upA (up2 (up2 (up2 (up2 (up2 (up2 (up2 (up2 (up2 S2 0 1 0) 1 0 ((48 + (S1 8 1)))) 0 1 (((0)) + 1)) 1 1 47) 0 1 (((((0)) + 1)) + 1)) 1 2 ((48 + (S1 8 2)))) 0 1 ((((((((0)) + 1)) + 1))) + 1)) 1 3 58) 0 1 ((((((((((0)) + 1)) + 1))) + 1)) + 1)) 0 (upZ (S2 0) 1 (wLineB (S1 8) (S1 10) (S1 9 1) (S2 1)).2)) 1 ((wLineB (S1 8) (S1 10) (S1 9 1) (S2 1)).1)))) H := hP
  have hD : va_D A (wFac k a0 S0 ++ (wPlant k (subA a0 1) S1 ++ wLine k (subA a0 185) (upA (upA (up2 (up2 (up2 (up2 (up2 (up2 (up2 (up2 (up2 S2 0 1 0) 1 0 ((48 + (S1 8 1)))) 0 1 (((0)) + 1)) 1 1 47) 0 1 (((((0)) + 1)) + 1)) 1 2 ((48 + (S1 8 2)))) 0 1 ((((((((0)) + 1)) + 1))) + 1)) 1 3 58) 0 1 ((((((((((0)) + 1)) + 1))) + 1)) + 1)) 0 (upZ (S2 0) 1 (wLineB (S1 8) (S1 10) (S1 9 1) (S2 1)).2)) 1 ((wLineB (S1 8) (S1 10) (S1 9 1) (S2 1)).1)))) := hD
  refine lv_aload_n hx hb dX7_line_21 rfl (lv_at hl 0 rfl) ?_
  refine va_get (D := D) (ci := 9) (v := .ref ((subA a0 185) 0)) (C := RX7) (T := TX7) (N := 11) hx hb hts (fun w h => List.mem_cons_of_mem _ (List.mem_append_left _ (List.mem_append_left _ (List.mem_append_left _ (List.mem_append_left _ (List.mem_append_left _ (List.mem_append_left _ (List.mem_append_right _ h)))))))) hown hK hP 0 rfl rfl 6 (by decide) (hts (.fieldLink RX7 42 "MondayFactory" "written" "LMondayFactory$Line;") (List.mem_of_getElem? (i := 1) rfl)) (fun _ h9 => h9) rfl dX7_line_22 ?_
  refine va_get (D := D) (ci := 6) (v := .int (iI ((wLineB (S1 8) (S1 10) (S1 9 1) (S2 1)).2))) (C := RX4) (T := TX4) (N := 2) hx hb hts (fun w h => List.mem_cons_of_mem _ (List.mem_append_left _ (List.mem_append_left _ (List.mem_append_left _ (List.mem_append_left _ (List.mem_append_right _ h)))))) hown hK hP 16 rfl rfl 1 (by decide) (hts (.fieldLink RX7 221 "MondayFactory$Line" "length" "I") (List.mem_of_getElem? (i := 4) rfl)) (fun _ h9 => h9) rfl dX7_line_25 ?_
  exact z_iret hx hb hr hlocks hP hS dX7_line_28 rfl rfl (Nat.le_refl _) (Nat.le_refl _)
set_option maxHeartbeats 4000000 in
set_option maxRecDepth 100000 in
theorem c_X7_line_x (l : Launch) (hst : l.stackTraces = false) (D : va_G) (k : Nat → ClassId) (a0 : Nat → Nat) (S0 : Nat → Nat → Int) (S1 : Nat → Nat → Int) (S2 : Nat → Nat → Int) (p0 : Int) (hp : pOK S1) (h0 : -2147483648 ≤ p0 ∧ p0 < 2147483648) (hc : ¬ (0 ≤ p0 ∧ p0 < 3)) : zMx l yX7_line wsX7_line ({ frames := 7, cells := 1, slots := 6, locals := 103 } : Room) D k [.ref (a0 0), .int (iI p0)] (wFac k a0 S0 ++ (wPlant k (subA a0 1) S1 ++ wLine k (subA a0 185) S2)) "java/lang/IndexOutOfBoundsException" (wFac k a0 S0 ++ (wPlant k (subA a0 1) S1 ++ wLine k (subA a0 185) S2)) 1 6 := by
  refine zMx_of (cc := cX7_line) (maxL := 2) (ret := (some .int)) (by decide) rfl (Nat.le_of_ble_eq_true rfl) ?_
  intro p e s m args below meth c A ls hx hb hr hml hown hts hlocks hK hP hD hG hE ht hA hS hl
  have hown : s.vm.findClass RX7 = some m.cls := hown
  have hl : lv_has ls 2 [(0, .ref (a0 0)), (1, .int (iI p0))] := hl
  obtain ⟨H, hH⟩ : ∃ z, z = s.heap := ⟨_, rfl⟩
  obtain ⟨locs, hlc⟩ : ∃ z : List Loc, z = [] := ⟨_, rfl⟩
  rw [← hH] at hP
  have hS : va_S A s.heap H locs := by rw [hH, hlc]; exact hS
  rw [← hlc, ← hH]
  clear hlc hH
  have kp := hp.2
  refine lv_aload_n hx hb dX7_line_0 rfl (lv_at hl 0 rfl) ?_
  refine lv_iload_n hx hb dX7_line_1 rfl (lv_at hl 1 rfl) ?_
  exact z_axo (vx_runV (As := [.int (iI p0)]) (rest := []) ⟨hx, hb, hml, hown, hts⟩ (c_X7_demandBelt_x l hst D k a0 S0  p0 (by omega) (by omega) _) (cwV 1 hts gX7_line_X7_demandBelt rfl rfl rfl (by decide +kernel) ⟨(Nat.le_of_ble_eq_true rfl), (Nat.le_of_ble_eq_true rfl)⟩) (z_preVx hK hG hE hA hP hD hS [0] rfl (by decide) 9 rfl rfl) rfl rfl hl.1 rfl (lv_room (Nat.le_of_ble_eq_true rfl)) dX7_line_2 ⟨(Nat.le_of_ble_eq_true rfl), (Nat.le_of_ble_eq_true rfl)⟩) hA hP hD hS [0] rfl rfl ht hlocks rfl (Nat.le_of_ble_eq_true rfl) (Nat.le_of_ble_eq_true rfl)
set_option maxHeartbeats 4000000 in
set_option maxRecDepth 100000 in
theorem c_X7_shelfLine (l : Launch) (D : va_G) (k : Nat → ClassId) (a0 : Nat → Nat) (S0 : Nat → Nat → Int) (S1 : Nat → Nat → Int) (S2 : Nat → Nat → Int) (hp : pOK S1) (hV : ∀ k w : Int, 0 ≤ w → w ≤ 3 → -48 ≤ wNum (S1 12) (S1 11 1) k w ∧ wNum (S1 12) (S1 11 1) k w ≤ 60000) : zMi l yX7_shelfLine wsX7_shelfLine ({ frames := 4, cells := 0, slots := 0, locals := 88 } : Room) D k [.ref (a0 0)] (wFac k a0 S0 ++ (wPlant k (subA a0 1) S1 ++ wLine k (subA a0 185) S2)) ((wShelfB (S1 12) (S1 11 1) (S2 1)).2) (wFac k a0 S0 ++ (wPlant k (subA a0 1) S1 ++ wLine k (subA a0 185) (upA (upA (up2 S2 0 1 0) 0 (upZ (S2 0) 1 (wShelfB (S1 12) (S1 11 1) (S2 1)).2)) 1 ((wShelfB (S1 12) (S1 11 1) (S2 1)).1)))) 0 0 := by
  refine zMi_of (cc := cX7_shelfLine) (maxL := 1) (ret := (some .int)) (by decide) rfl (Nat.le_of_ble_eq_true rfl) ?_
  intro p e s m args below meth c A ls hx hb hr hml hown hts hlocks hK hP hD hG hA hS hl
  have hown : s.vm.findClass RX7 = some m.cls := hown
  have hl : lv_has ls 1 [(0, .ref (a0 0))] := hl
  obtain ⟨H, hH⟩ : ∃ z, z = s.heap := ⟨_, rfl⟩
  obtain ⟨locs, hlc⟩ : ∃ z : List Loc, z = [] := ⟨_, rfl⟩
  rw [← hH] at hP
  have hS : va_S A s.heap H locs := by rw [hH, hlc]; exact hS
  rw [← hlc, ← hH]
  clear hlc hH
  have kp := hp.2
  refine lv_aload_n hx hb dX7_shelfLine_0 rfl (lv_at hl 0 rfl) ?_
  refine va_get (D := D) (ci := 9) (v := .ref ((subA a0 185) 0)) (C := RX7) (T := TX7) (N := 11) hx hb hts (fun w h => List.mem_cons_of_mem _ (List.mem_append_left _ (List.mem_append_left _ (List.mem_append_left _ (List.mem_append_left _ (List.mem_append_right _ h)))))) hown hK hP 0 rfl rfl 6 (by decide) (hts (.fieldLink RX7 42 "MondayFactory" "written" "LMondayFactory$Line;") (List.mem_of_getElem? (i := 1) rfl)) (fun _ h9 => h9) rfl dX7_shelfLine_1 ?_
  refine lv_aload_n hx hb dX7_shelfLine_4 rfl (lv_at hl 0 rfl) ?_
  refine va_get (D := D) (ci := 9) (v := .ref ((subA a0 1) 0)) (C := RX7) (T := TX7) (N := 11) hx hb hts (fun w h => List.mem_cons_of_mem _ (List.mem_append_left _ (List.mem_append_left _ (List.mem_append_left _ (List.mem_append_left _ (List.mem_append_right _ h)))))) hown hK hP 0 rfl rfl 0 (by decide) (hts (.fieldLink RX7 10 "MondayFactory" "plant" "LMondayFactory$Plant;") (List.mem_of_getElem? (i := 2) rfl)) (fun _ h9 => h9) rfl dX7_shelfLine_5 ?_
  refine va_get (D := D) (ci := 7) (v := .ref ((subA a0 1) 11)) (C := RX5) (T := TX5) (N := 11) hx hb hts (fun w h => List.mem_cons_of_mem _ (List.mem_append_left _ (List.mem_append_left _ (List.mem_append_left _ (List.mem_append_right _ h))))) hown hK hP 1 rfl rfl 1 (by decide) (hts (.fieldLink RX7 179 "MondayFactory$Plant" "shelf" "LMondayFactory$Row;") (List.mem_of_getElem? (i := 3) rfl)) (fun _ h9 => h9) rfl dX7_shelfLine_8 ?_
  refine z_av (va_runV (As := [.ref ((subA a0 1) 11)]) (rest := []) ⟨hx, hb, hml, hown, hts⟩ (c_X4_writeShelf l D k ((subA a0 185)) S2 (subA (subA a0 1) 11) (sub2 S1 11)   (pOK_b hp 12 (by decide)) (by have e0 : ((sub2 S1 11) 0 1) = S1 11 1 := rfl; omega) hV _) (cwV 1 hts gX7_shelfLine_X4_writeShelf rfl rfl rfl (by decide +kernel) ⟨(Nat.le_of_ble_eq_true rfl), (Nat.le_of_ble_eq_true rfl)⟩) (z_preV hK hG hA hP hD hS [16, 17, 12, 13] rfl (by decide) 6 rfl rfl) rfl rfl hl.1 rfl (lv_room (Nat.le_of_ble_eq_true rfl)) dX7_shelfLine_11 ⟨(Nat.le_of_ble_eq_true rfl), (Nat.le_of_ble_eq_true rfl)⟩) hA hP hD hS [16, 17, 12, 13] rfl rfl (fun H locs hP hD hS => ?_)
  have hP : va_P D vwCl (wFac k a0 S0 ++ (wPlant k (subA a0 1) S1 ++ wLine k (subA a0 185) (upA (upA (up2 S2 0 1 0) 0 (upZ (S2 0) 1 (wShelfB (S1 12) (S1 11 1) (S2 1)).2)) 1 ((wShelfB (S1 12) (S1 11 1) (S2 1)).1)))) H := hP
  have hD : va_D A (wFac k a0 S0 ++ (wPlant k (subA a0 1) S1 ++ wLine k (subA a0 185) (upA (upA (up2 S2 0 1 0) 0 (upZ (S2 0) 1 (wShelfB (S1 12) (S1 11 1) (S2 1)).2)) 1 ((wShelfB (S1 12) (S1 11 1) (S2 1)).1)))) := hD
  refine lv_aload_n hx hb dX7_shelfLine_14 rfl (lv_at hl 0 rfl) ?_
  refine va_get (D := D) (ci := 9) (v := .ref ((subA a0 185) 0)) (C := RX7) (T := TX7) (N := 11) hx hb hts (fun w h => List.mem_cons_of_mem _ (List.mem_append_left _ (List.mem_append_left _ (List.mem_append_left _ (List.mem_append_left _ (List.mem_append_right _ h)))))) hown hK hP 0 rfl rfl 6 (by decide) (hts (.fieldLink RX7 42 "MondayFactory" "written" "LMondayFactory$Line;") (List.mem_of_getElem? (i := 1) rfl)) (fun _ h9 => h9) rfl dX7_shelfLine_15 ?_
  refine va_get (D := D) (ci := 6) (v := .int (iI ((wShelfB (S1 12) (S1 11 1) (S2 1)).2))) (C := RX4) (T := TX4) (N := 2) hx hb hts (fun w h => List.mem_cons_of_mem _ (List.mem_append_left _ (List.mem_append_left _ (List.mem_append_right _ h)))) hown hK hP 16 rfl rfl 1 (by decide) (hts (.fieldLink RX7 221 "MondayFactory$Line" "length" "I") (List.mem_of_getElem? (i := 4) rfl)) (fun _ h9 => h9) rfl dX7_shelfLine_18 ?_
  exact z_iret hx hb hr hlocks hP hS dX7_shelfLine_21 rfl rfl (Nat.le_refl _) (Nat.le_refl _)
set_option maxHeartbeats 4000000 in
set_option maxRecDepth 100000 in
theorem c_X7_character_ok (l : Launch) (D : va_G) (k : Nat → ClassId) (a0 : Nat → Nat) (S0 : Nat → Nat → Int) (S1 : Nat → Nat → Int) (p0 : Int) (hc15 : 0 ≤ S1 0 1 ∧ S1 0 1 ≤ 39) (h0 : -2147483648 ≤ p0 ∧ p0 < 2147483648) (hS1 : ∀ j : Nat, 0 ≤ S1 1 j ∧ S1 1 j < 65536) (hc : 0 ≤ p0 ∧ p0 < S1 0 1) : zMi l yX7_character wsX7_character ({ frames := 0, cells := 0, slots := 0, locals := 0 } : Room) D k [.ref (a0 0), .int (iI p0)] (wFac k a0 S0 ++ wLine k (subA a0 185) S1) (S1 1 p0.toNat) (wFac k a0 S0 ++ wLine k (subA a0 185) S1) 0 0 := by
  refine zMi_of (cc := cX7_character) (maxL := 2) (ret := (some .char)) (by decide) rfl (Nat.le_of_ble_eq_true rfl) ?_
  intro p e s m args below meth c A ls hx hb hr hml hown hts hlocks hK hP hD hG hA hS hl
  have hown : s.vm.findClass RX7 = some m.cls := hown
  have hl : lv_has ls 2 [(0, .ref (a0 0)), (1, .int (iI p0))] := hl
  obtain ⟨H, hH⟩ : ∃ z, z = s.heap := ⟨_, rfl⟩
  obtain ⟨locs, hlc⟩ : ∃ z : List Loc, z = [] := ⟨_, rfl⟩
  rw [← hH] at hP
  have hS : va_S A s.heap H locs := by rw [hH, hlc]; exact hS
  rw [← hlc, ← hH]
  clear hlc hH
  refine lv_iload_n hx hb dX7_character_0 rfl (lv_at hl 1 rfl) ?_
  refine zi_if_lt (tgt := 15) hx hb dX7_character_1 (by decide) ⟨by omega, by omega⟩ (fun c_1 => ?_) (fun c_1 => ?_)
  · exfalso; omega
  · refine lv_iload_n hx hb dX7_character_4 rfl (lv_at hl 1 rfl) ?_
    refine lv_aload_n hx hb dX7_character_5 rfl (lv_at hl 0 rfl) ?_
    refine va_get (D := D) (ci := 9) (v := .ref ((subA a0 185) 0)) (C := RX7) (T := TX7) (N := 11) hx hb hts (fun w h => List.mem_cons_of_mem _ (List.mem_append_left _ (List.mem_append_left _ (List.mem_append_left _ (List.mem_append_right _ h))))) hown hK hP 0 rfl rfl 6 (by decide) (hts (.fieldLink RX7 42 "MondayFactory" "written" "LMondayFactory$Line;") (List.mem_of_getElem? (i := 3) rfl)) (fun _ h9 => h9) rfl dX7_character_6 ?_
    refine va_get (D := D) (ci := 6) (v := .int (iI (S1 0 1))) (C := RX4) (T := TX4) (N := 2) hx hb hts (fun w h => List.mem_cons_of_mem _ (List.mem_append_left _ (List.mem_append_left _ (List.mem_append_right _ h)))) hown hK hP 1 rfl rfl 1 (by decide) (hts (.fieldLink RX7 221 "MondayFactory$Line" "length" "I") (List.mem_of_getElem? (i := 4) rfl)) (fun _ h9 => h9) rfl dX7_character_9 ?_
    refine zi_icmp_lt (tgt := 25) hx hb dX7_character_12 (by decide) ⟨by omega, by omega⟩ ⟨by omega, by omega⟩ (fun c_2 => ?_) (fun c_2 => ?_)
    · refine lv_aload_n hx hb dX7_character_25 rfl (lv_at hl 0 rfl) ?_
      refine va_get (D := D) (ci := 9) (v := .ref ((subA a0 185) 0)) (C := RX7) (T := TX7) (N := 11) hx hb hts (fun w h => List.mem_cons_of_mem _ (List.mem_append_left _ (List.mem_append_left _ (List.mem_append_left _ (List.mem_append_right _ h))))) hown hK hP 0 rfl rfl 6 (by decide) (hts (.fieldLink RX7 42 "MondayFactory" "written" "LMondayFactory$Line;") (List.mem_of_getElem? (i := 3) rfl)) (fun _ h9 => h9) rfl dX7_character_26 ?_
      refine va_get (D := D) (ci := 6) (v := .ref ((subA a0 185) 1)) (C := RX4) (T := TX4) (N := 2) hx hb hts (fun w h => List.mem_cons_of_mem _ (List.mem_append_left _ (List.mem_append_left _ (List.mem_append_right _ h)))) hown hK hP 1 rfl rfl 0 (by decide) (hts (.fieldLink RX7 230 "MondayFactory$Line" "signs" "[C") (List.mem_of_getElem? (i := 5) rfl)) (fun _ h9 => h9) rfl dX7_character_29 ?_
      refine lv_iload_n hx hb dX7_character_32 rfl (lv_at hl 1 rfl) ?_
      have qs := hS1 p0.toNat
      refine z_cald hx hb hK hP 2 1 (f := S1 1) rfl rfl (i := p0) (by omega) (by omega) (by decide) p0.toNat rfl dX7_character_33 ?_
      exact z_zret hx hb hr hlocks (iI_narC (by omega) (by omega)) hP hS dX7_character_34 rfl rfl (Nat.le_refl _) (Nat.le_refl _)
    · exfalso; omega
set_option maxHeartbeats 4000000 in
set_option maxRecDepth 100000 in
theorem c_X7_character_x (l : Launch) (hst : l.stackTraces = false) (D : va_G) (k : Nat → ClassId) (a0 : Nat → Nat) (S0 : Nat → Nat → Int) (S1 : Nat → Nat → Int) (p0 : Int) (hc15 : 0 ≤ S1 0 1 ∧ S1 0 1 ≤ 39) (h0 : -2147483648 ≤ p0 ∧ p0 < 2147483648) (hc : ¬ (0 ≤ p0 ∧ p0 < S1 0 1)) : zMx l yX7_character wsX7_character ({ frames := 6, cells := 1, slots := 6, locals := 82 } : Room) D k [.ref (a0 0), .int (iI p0)] (wFac k a0 S0 ++ wLine k (subA a0 185) S1) "java/lang/IndexOutOfBoundsException" (wFac k a0 S0 ++ wLine k (subA a0 185) S1) 1 6 := by
  refine zMx_of (cc := cX7_character) (maxL := 2) (ret := (some .char)) (by decide) rfl (Nat.le_of_ble_eq_true rfl) ?_
  intro p e s m args below meth c A ls hx hb hr hml hown hts hlocks hK hP hD hG hE ht hA hS hl
  have hown : s.vm.findClass RX7 = some m.cls := hown
  have hl : lv_has ls 2 [(0, .ref (a0 0)), (1, .int (iI p0))] := hl
  obtain ⟨H, hH⟩ : ∃ z, z = s.heap := ⟨_, rfl⟩
  obtain ⟨locs, hlc⟩ : ∃ z : List Loc, z = [] := ⟨_, rfl⟩
  rw [← hH] at hP
  have hS : va_S A s.heap H locs := by rw [hH, hlc]; exact hS
  rw [← hlc, ← hH]
  clear hlc hH
  refine lv_iload_n hx hb dX7_character_0 rfl (lv_at hl 1 rfl) ?_
  refine zi_if_lt (tgt := 15) hx hb dX7_character_1 (by decide) ⟨by omega, by omega⟩ (fun c_1 => ?_) (fun c_1 => ?_)
  · exact z_thrS (cls := "java/lang/IndexOutOfBoundsException") hx hb hst hown zXf_ioob zXm_ioob (hts (.classLink RX7 126 "java/lang/IndexOutOfBoundsException") (List.mem_of_getElem? (i := 1) rfl)) (hts (.initialized "java/lang/IndexOutOfBoundsException") (List.mem_of_getElem? (i := 2) rfl)) (show (228, "there is no such index") ∈ zStrs by decide +kernel) hG hE (fun w h => hts w ((fun w h => List.mem_cons_of_mem _ (List.mem_append_left _ (List.mem_append_right _ h))) w h)) zXn_ioob zXg_ioob hS (hl.1.trans hml.symm) dX7_character_15 dX7_character_18 dX7_character_19 dX7_character_21 dX7_character_24 ht (Nat.le_of_ble_eq_true rfl) (Nat.le_of_ble_eq_true rfl) (Nat.le_of_ble_eq_true rfl) (Nat.le_of_ble_eq_true rfl) hlocks (z_to (Eq.symm rfl) hP) (Nat.le_of_ble_eq_true rfl) (Nat.le_of_ble_eq_true rfl)
  · refine lv_iload_n hx hb dX7_character_4 rfl (lv_at hl 1 rfl) ?_
    refine lv_aload_n hx hb dX7_character_5 rfl (lv_at hl 0 rfl) ?_
    refine va_get (D := D) (ci := 9) (v := .ref ((subA a0 185) 0)) (C := RX7) (T := TX7) (N := 11) hx hb hts (fun w h => List.mem_cons_of_mem _ (List.mem_append_left _ (List.mem_append_left _ (List.mem_append_left _ (List.mem_append_right _ h))))) hown hK hP 0 rfl rfl 6 (by decide) (hts (.fieldLink RX7 42 "MondayFactory" "written" "LMondayFactory$Line;") (List.mem_of_getElem? (i := 3) rfl)) (fun _ h9 => h9) rfl dX7_character_6 ?_
    refine va_get (D := D) (ci := 6) (v := .int (iI (S1 0 1))) (C := RX4) (T := TX4) (N := 2) hx hb hts (fun w h => List.mem_cons_of_mem _ (List.mem_append_left _ (List.mem_append_left _ (List.mem_append_right _ h)))) hown hK hP 1 rfl rfl 1 (by decide) (hts (.fieldLink RX7 221 "MondayFactory$Line" "length" "I") (List.mem_of_getElem? (i := 4) rfl)) (fun _ h9 => h9) rfl dX7_character_9 ?_
    refine zi_icmp_lt (tgt := 25) hx hb dX7_character_12 (by decide) ⟨by omega, by omega⟩ ⟨by omega, by omega⟩ (fun c_2 => ?_) (fun c_2 => ?_)
    · refine lv_aload_n hx hb dX7_character_25 rfl (lv_at hl 0 rfl) ?_
      refine va_get (D := D) (ci := 9) (v := .ref ((subA a0 185) 0)) (C := RX7) (T := TX7) (N := 11) hx hb hts (fun w h => List.mem_cons_of_mem _ (List.mem_append_left _ (List.mem_append_left _ (List.mem_append_left _ (List.mem_append_right _ h))))) hown hK hP 0 rfl rfl 6 (by decide) (hts (.fieldLink RX7 42 "MondayFactory" "written" "LMondayFactory$Line;") (List.mem_of_getElem? (i := 3) rfl)) (fun _ h9 => h9) rfl dX7_character_26 ?_
      refine va_get (D := D) (ci := 6) (v := .ref ((subA a0 185) 1)) (C := RX4) (T := TX4) (N := 2) hx hb hts (fun w h => List.mem_cons_of_mem _ (List.mem_append_left _ (List.mem_append_left _ (List.mem_append_right _ h)))) hown hK hP 1 rfl rfl 0 (by decide) (hts (.fieldLink RX7 230 "MondayFactory$Line" "signs" "[C") (List.mem_of_getElem? (i := 5) rfl)) (fun _ h9 => h9) rfl dX7_character_29 ?_
      refine lv_iload_n hx hb dX7_character_32 rfl (lv_at hl 1 rfl) ?_
      refine z_cald hx hb hK hP 2 1 (f := S1 1) rfl rfl (i := p0) (by omega) (by omega) (by decide) p0.toNat rfl dX7_character_33 ?_
      exfalso; omega
    · exact z_thrS (cls := "java/lang/IndexOutOfBoundsException") hx hb hst hown zXf_ioob zXm_ioob (hts (.classLink RX7 126 "java/lang/IndexOutOfBoundsException") (List.mem_of_getElem? (i := 1) rfl)) (hts (.initialized "java/lang/IndexOutOfBoundsException") (List.mem_of_getElem? (i := 2) rfl)) (show (228, "there is no such index") ∈ zStrs by decide +kernel) hG hE (fun w h => hts w ((fun w h => List.mem_cons_of_mem _ (List.mem_append_left _ (List.mem_append_right _ h))) w h)) zXn_ioob zXg_ioob hS (hl.1.trans hml.symm) dX7_character_15 dX7_character_18 dX7_character_19 dX7_character_21 dX7_character_24 ht (Nat.le_of_ble_eq_true rfl) (Nat.le_of_ble_eq_true rfl) (Nat.le_of_ble_eq_true rfl) (Nat.le_of_ble_eq_true rfl) hlocks (z_to (Eq.symm rfl) hP) (Nat.le_of_ble_eq_true rfl) (Nat.le_of_ble_eq_true rfl)
set_option maxHeartbeats 4000000 in
set_option maxRecDepth 100000 in
theorem c_X7_append_ok (l : Launch) (D : va_G) (k : Nat → ClassId) (a0 : Nat → Nat) (S0 : Nat → Nat → Int) (S1 : Nat → Nat → Int) (p0 : Int) (h0 : 0 ≤ p0 ∧ p0 < 65536) (hc : 0 ≤ S1 0 1 ∧ S1 0 1 < 60) : zMi l yX7_append wsX7_append ({ frames := 1, cells := 0, slots := 0, locals := 21 } : Room) D k [.ref (a0 0), .int (iI p0)] (wFac k a0 S0 ++ wInput k (subA a0 183) S1) ((S1 0 1) + 1) (wFac k a0 S0 ++ wInput k (subA a0 183) (up2 (up2 S1 1 ((S1 0 1).toNat) p0) 0 1 ((S1 0 1) + 1))) 0 0 := by
  refine zMi_of (cc := cX7_append) (maxL := 2) (ret := (some .int)) (by decide) rfl (Nat.le_of_ble_eq_true rfl) ?_
  intro p e s m args below meth c A ls hx hb hr hml hown hts hlocks hK hP hD hG hA hS hl
  have hown : s.vm.findClass RX7 = some m.cls := hown
  have hl : lv_has ls 2 [(0, .ref (a0 0)), (1, .int (iI p0))] := hl
  obtain ⟨H, hH⟩ : ∃ z, z = s.heap := ⟨_, rfl⟩
  obtain ⟨locs, hlc⟩ : ∃ z : List Loc, z = [] := ⟨_, rfl⟩
  rw [← hH] at hP
  have hS : va_S A s.heap H locs := by rw [hH, hlc]; exact hS
  rw [← hlc, ← hH]
  clear hlc hH
  refine lv_aload_n hx hb dX7_append_0 rfl (lv_at hl 0 rfl) ?_
  refine va_get (D := D) (ci := 9) (v := .ref ((subA a0 183) 0)) (C := RX7) (T := TX7) (N := 11) hx hb hts (fun w h => List.mem_cons_of_mem _ (List.mem_append_left _ (List.mem_append_left _ (List.mem_append_left _ (List.mem_append_right _ h))))) hown hK hP 0 rfl rfl 5 (by decide) (hts (.fieldLink RX7 35 "MondayFactory" "input" "LMondayFactory$Input;") (List.mem_of_getElem? (i := 3) rfl)) (fun _ h9 => h9) rfl dX7_append_1 ?_
  refine va_get (D := D) (ci := 5) (v := .int (iI (S1 0 1))) (C := RX3) (T := TX3) (N := 2) hx hb hts (fun w h => List.mem_cons_of_mem _ (List.mem_append_left _ (List.mem_append_left _ (List.mem_append_right _ h)))) hown hK hP 1 rfl rfl 1 (by decide) (hts (.fieldLink RX7 234 "MondayFactory$Input" "length" "I") (List.mem_of_getElem? (i := 4) rfl)) (fun _ h9 => h9) rfl dX7_append_4 ?_
  refine lv_bipush (v := iI 60) hx hb dX7_append_7 (by decide) ?_
  refine zi_icmp_lt (tgt := 22) hx hb dX7_append_9 (by decide) ⟨by omega, by omega⟩ ⟨by omega, by omega⟩ (fun c_1 => ?_) (fun c_1 => ?_)
  · refine lv_aload_n hx hb dX7_append_22 rfl (lv_at hl 0 rfl) ?_
    refine va_get (D := D) (ci := 9) (v := .ref ((subA a0 183) 0)) (C := RX7) (T := TX7) (N := 11) hx hb hts (fun w h => List.mem_cons_of_mem _ (List.mem_append_left _ (List.mem_append_left _ (List.mem_append_left _ (List.mem_append_right _ h))))) hown hK hP 0 rfl rfl 5 (by decide) (hts (.fieldLink RX7 35 "MondayFactory" "input" "LMondayFactory$Input;") (List.mem_of_getElem? (i := 3) rfl)) (fun _ h9 => h9) rfl dX7_append_23 ?_
    refine lv_iload_n hx hb dX7_append_26 rfl (lv_at hl 1 rfl) ?_
    refine z_av (va_runV (As := [.int (iI p0)]) (rest := []) ⟨hx, hb, hml, hown, hts⟩ (c_X3_add l D k ((subA a0 183)) S1  p0 (by omega) (by omega) _) (cwV 1 hts gX7_append_X3_add rfl rfl rfl (by decide +kernel) ⟨(Nat.le_of_ble_eq_true rfl), (Nat.le_of_ble_eq_true rfl)⟩) (z_preV hK hG hA hP hD hS [1, 2] rfl (by decide) 5 rfl rfl) rfl rfl hl.1 rfl (lv_room (Nat.le_of_ble_eq_true rfl)) dX7_append_27 ⟨(Nat.le_of_ble_eq_true rfl), (Nat.le_of_ble_eq_true rfl)⟩) hA hP hD hS [1, 2] rfl rfl (fun H locs hP hD hS => ?_)
    have hP : va_P D vwCl (wFac k a0 S0 ++ wInput k (subA a0 183) (up2 (up2 S1 1 ((S1 0 1).toNat) p0) 0 1 ((S1 0 1) + 1))) H := hP
    have hD : va_D A (wFac k a0 S0 ++ wInput k (subA a0 183) (up2 (up2 S1 1 ((S1 0 1).toNat) p0) 0 1 ((S1 0 1) + 1))) := hD
    refine lv_aload_n hx hb dX7_append_30 rfl (lv_at hl 0 rfl) ?_
    refine va_get (D := D) (ci := 9) (v := .ref ((subA a0 183) 0)) (C := RX7) (T := TX7) (N := 11) hx hb hts (fun w h => List.mem_cons_of_mem _ (List.mem_append_left _ (List.mem_append_left _ (List.mem_append_left _ (List.mem_append_right _ h))))) hown hK hP 0 rfl rfl 5 (by decide) (hts (.fieldLink RX7 35 "MondayFactory" "input" "LMondayFactory$Input;") (List.mem_of_getElem? (i := 3) rfl)) (fun _ h9 => h9) rfl dX7_append_31 ?_
    refine va_get (D := D) (ci := 5) (v := .int (iI ((S1 0 1) + 1))) (C := RX3) (T := TX3) (N := 2) hx hb hts (fun w h => List.mem_cons_of_mem _ (List.mem_append_left _ (List.mem_append_left _ (List.mem_append_right _ h)))) hown hK hP 1 rfl rfl 1 (by decide) (hts (.fieldLink RX7 234 "MondayFactory$Input" "length" "I") (List.mem_of_getElem? (i := 4) rfl)) (fun _ h9 => h9) rfl dX7_append_34 ?_
    exact z_iret hx hb hr hlocks hP hS dX7_append_37 rfl rfl (Nat.le_refl _) (Nat.le_refl _)
  · exfalso; omega
set_option maxHeartbeats 4000000 in
set_option maxRecDepth 100000 in
theorem c_X7_append_x (l : Launch) (hst : l.stackTraces = false) (D : va_G) (k : Nat → ClassId) (a0 : Nat → Nat) (S0 : Nat → Nat → Int) (S1 : Nat → Nat → Int) (p0 : Int) (h0 : 0 ≤ p0 ∧ p0 < 65536) (hc : S1 0 1 = 60) : zMx l yX7_append wsX7_append ({ frames := 6, cells := 1, slots := 6, locals := 82 } : Room) D k [.ref (a0 0), .int (iI p0)] (wFac k a0 S0 ++ wInput k (subA a0 183) S1) "java/lang/IllegalStateException" (wFac k a0 S0 ++ wInput k (subA a0 183) S1) 1 6 := by
  refine zMx_of (cc := cX7_append) (maxL := 2) (ret := (some .int)) (by decide) rfl (Nat.le_of_ble_eq_true rfl) ?_
  intro p e s m args below meth c A ls hx hb hr hml hown hts hlocks hK hP hD hG hE ht hA hS hl
  have hown : s.vm.findClass RX7 = some m.cls := hown
  have hl : lv_has ls 2 [(0, .ref (a0 0)), (1, .int (iI p0))] := hl
  obtain ⟨H, hH⟩ : ∃ z, z = s.heap := ⟨_, rfl⟩
  obtain ⟨locs, hlc⟩ : ∃ z : List Loc, z = [] := ⟨_, rfl⟩
  rw [← hH] at hP
  have hS : va_S A s.heap H locs := by rw [hH, hlc]; exact hS
  rw [← hlc, ← hH]
  clear hlc hH
  refine lv_aload_n hx hb dX7_append_0 rfl (lv_at hl 0 rfl) ?_
  refine va_get (D := D) (ci := 9) (v := .ref ((subA a0 183) 0)) (C := RX7) (T := TX7) (N := 11) hx hb hts (fun w h => List.mem_cons_of_mem _ (List.mem_append_left _ (List.mem_append_left _ (List.mem_append_left _ (List.mem_append_right _ h))))) hown hK hP 0 rfl rfl 5 (by decide) (hts (.fieldLink RX7 35 "MondayFactory" "input" "LMondayFactory$Input;") (List.mem_of_getElem? (i := 3) rfl)) (fun _ h9 => h9) rfl dX7_append_1 ?_
  refine va_get (D := D) (ci := 5) (v := .int (iI (S1 0 1))) (C := RX3) (T := TX3) (N := 2) hx hb hts (fun w h => List.mem_cons_of_mem _ (List.mem_append_left _ (List.mem_append_left _ (List.mem_append_right _ h)))) hown hK hP 1 rfl rfl 1 (by decide) (hts (.fieldLink RX7 234 "MondayFactory$Input" "length" "I") (List.mem_of_getElem? (i := 4) rfl)) (fun _ h9 => h9) rfl dX7_append_4 ?_
  refine lv_bipush (v := iI 60) hx hb dX7_append_7 (by decide) ?_
  refine zi_icmp_lt (tgt := 22) hx hb dX7_append_9 (by decide) ⟨by omega, by omega⟩ ⟨by omega, by omega⟩ (fun c_1 => ?_) (fun c_1 => ?_)
  · refine lv_aload_n hx hb dX7_append_22 rfl (lv_at hl 0 rfl) ?_
    refine va_get (D := D) (ci := 9) (v := .ref ((subA a0 183) 0)) (C := RX7) (T := TX7) (N := 11) hx hb hts (fun w h => List.mem_cons_of_mem _ (List.mem_append_left _ (List.mem_append_left _ (List.mem_append_left _ (List.mem_append_right _ h))))) hown hK hP 0 rfl rfl 5 (by decide) (hts (.fieldLink RX7 35 "MondayFactory" "input" "LMondayFactory$Input;") (List.mem_of_getElem? (i := 3) rfl)) (fun _ h9 => h9) rfl dX7_append_23 ?_
    refine lv_iload_n hx hb dX7_append_26 rfl (lv_at hl 1 rfl) ?_
    refine z_av (va_runV (As := [.int (iI p0)]) (rest := []) ⟨hx, hb, hml, hown, hts⟩ (c_X3_add l D k ((subA a0 183)) S1  p0 (by omega) (by omega) _) (cwV 1 hts gX7_append_X3_add rfl rfl rfl (by decide +kernel) ⟨(Nat.le_of_ble_eq_true rfl), (Nat.le_of_ble_eq_true rfl)⟩) (z_preV hK hG hA hP hD hS [1, 2] rfl (by decide) 5 rfl rfl) rfl rfl hl.1 rfl (lv_room (Nat.le_of_ble_eq_true rfl)) dX7_append_27 ⟨(Nat.le_of_ble_eq_true rfl), (Nat.le_of_ble_eq_true rfl)⟩) hA hP hD hS [1, 2] rfl rfl (fun H locs hP hD hS => ?_)
    have hP : va_P D vwCl (wFac k a0 S0 ++ wInput k (subA a0 183) (up2 (up2 S1 1 ((S1 0 1).toNat) p0) 0 1 ((S1 0 1) + 1))) H := hP
    have hD : va_D A (wFac k a0 S0 ++ wInput k (subA a0 183) (up2 (up2 S1 1 ((S1 0 1).toNat) p0) 0 1 ((S1 0 1) + 1))) := hD
    refine lv_aload_n hx hb dX7_append_30 rfl (lv_at hl 0 rfl) ?_
    refine va_get (D := D) (ci := 9) (v := .ref ((subA a0 183) 0)) (C := RX7) (T := TX7) (N := 11) hx hb hts (fun w h => List.mem_cons_of_mem _ (List.mem_append_left _ (List.mem_append_left _ (List.mem_append_left _ (List.mem_append_right _ h))))) hown hK hP 0 rfl rfl 5 (by decide) (hts (.fieldLink RX7 35 "MondayFactory" "input" "LMondayFactory$Input;") (List.mem_of_getElem? (i := 3) rfl)) (fun _ h9 => h9) rfl dX7_append_31 ?_
    refine va_get (D := D) (ci := 5) (v := .int (iI ((S1 0 1) + 1))) (C := RX3) (T := TX3) (N := 2) hx hb hts (fun w h => List.mem_cons_of_mem _ (List.mem_append_left _ (List.mem_append_left _ (List.mem_append_right _ h)))) hown hK hP 1 rfl rfl 1 (by decide) (hts (.fieldLink RX7 234 "MondayFactory$Input" "length" "I") (List.mem_of_getElem? (i := 4) rfl)) (fun _ h9 => h9) rfl dX7_append_34 ?_
    exfalso; omega
  · exact z_thrS (cls := "java/lang/IllegalStateException") hx hb hst hown zXf_ista zXm_ista (hts (.classLink RX7 235 "java/lang/IllegalStateException") (List.mem_of_getElem? (i := 1) rfl)) (hts (.initialized "java/lang/IllegalStateException") (List.mem_of_getElem? (i := 2) rfl)) (show (237, "the input is full") ∈ zStrs by decide +kernel) hG hE (fun w h => hts w ((fun w h => List.mem_cons_of_mem _ (List.mem_append_left _ (List.mem_append_right _ h))) w h)) zXn_ista zXg_ista hS (hl.1.trans hml.symm) dX7_append_12 dX7_append_15 dX7_append_16 dX7_append_18 dX7_append_21 ht (Nat.le_of_ble_eq_true rfl) (Nat.le_of_ble_eq_true rfl) (Nat.le_of_ble_eq_true rfl) (Nat.le_of_ble_eq_true rfl) hlocks (z_to (Eq.symm rfl) hP) (Nat.le_of_ble_eq_true rfl) (Nat.le_of_ble_eq_true rfl)
set_option maxHeartbeats 4000000 in
set_option maxRecDepth 100000 in
theorem c_X7_errorPosition (l : Launch) (D : va_G) (k : Nat → ClassId) (a0 : Nat → Nat) (S0 : Nat → Nat → Int) : zMi l yX7_errorPosition wsX7_errorPosition ({ frames := 0, cells := 0, slots := 0, locals := 0 } : Room) D k [.ref (a0 0)] (wFac k a0 S0) (S0 0 8) (wFac k a0 S0) 0 0 := by
  refine zMi_of (cc := cX7_errorPosition) (maxL := 1) (ret := (some .int)) (by decide) rfl (Nat.le_of_ble_eq_true rfl) ?_
  intro p e s m args below meth c A ls hx hb hr hml hown hts hlocks hK hP hD hG hA hS hl
  have hown : s.vm.findClass RX7 = some m.cls := hown
  have hl : lv_has ls 1 [(0, .ref (a0 0))] := hl
  obtain ⟨H, hH⟩ : ∃ z, z = s.heap := ⟨_, rfl⟩
  obtain ⟨locs, hlc⟩ : ∃ z : List Loc, z = [] := ⟨_, rfl⟩
  rw [← hH] at hP
  have hS : va_S A s.heap H locs := by rw [hH, hlc]; exact hS
  rw [← hlc, ← hH]
  clear hlc hH
  refine lv_aload_n hx hb dX7_errorPosition_0 rfl (lv_at hl 0 rfl) ?_
  refine va_get (D := D) (ci := 9) (v := .int (iI (S0 0 8))) (C := RX7) (T := TX7) (N := 11) hx hb hts (fun w h => List.mem_cons_of_mem _ (List.mem_append_right _ h)) hown hK hP 0 rfl rfl 8 (by decide) (hts (.fieldLink RX7 50 "MondayFactory" "latestError" "I") (List.mem_of_getElem? (i := 1) rfl)) (fun _ h9 => h9) rfl dX7_errorPosition_1 ?_
  exact z_iret hx hb hr hlocks hP hS dX7_errorPosition_4 rfl rfl (Nat.le_refl _) (Nat.le_refl _)
noncomputable def sp_X7_refusal_ok (S0 : Nat → Nat → Int) (p0 : Int) : Int := zif (p0 = 0)
  (S0 0 9)
  (S0 0 10)
set_option maxHeartbeats 4000000 in
set_option maxRecDepth 100000 in
theorem c_X7_refusal_ok (l : Launch) (D : va_G) (k : Nat → ClassId) (a0 : Nat → Nat) (S0 : Nat → Nat → Int) (p0 : Int) (h0 : -2147483648 ≤ p0 ∧ p0 < 2147483648) (hr9 : 0 ≤ S0 0 9 ∧ S0 0 9 ≤ 5) (hc : ¬ S0 0 9 = 0) : zMi l yX7_refusal wsX7_refusal ({ frames := 0, cells := 0, slots := 0, locals := 0 } : Room) D k [.ref (a0 0), .int (iI p0)] (wFac k a0 S0) (sp_X7_refusal_ok S0 p0) (wFac k a0 S0) 0 0 := by
  refine zMi_of (cc := cX7_refusal) (maxL := 2) (ret := (some .int)) (by decide) rfl (Nat.le_of_ble_eq_true rfl) ?_
  intro p e s m args below meth c A ls hx hb hr hml hown hts hlocks hK hP hD hG hA hS hl
  have hown : s.vm.findClass RX7 = some m.cls := hown
  have hl : lv_has ls 2 [(0, .ref (a0 0)), (1, .int (iI p0))] := hl
  obtain ⟨H, hH⟩ : ∃ z, z = s.heap := ⟨_, rfl⟩
  obtain ⟨locs, hlc⟩ : ∃ z : List Loc, z = [] := ⟨_, rfl⟩
  rw [← hH] at hP
  have hS : va_S A s.heap H locs := by rw [hH, hlc]; exact hS
  rw [← hlc, ← hH]
  clear hlc hH
  refine lv_aload_n hx hb dX7_refusal_0 rfl (lv_at hl 0 rfl) ?_
  refine va_get (D := D) (ci := 9) (v := .int (iI (S0 0 9))) (C := RX7) (T := TX7) (N := 11) hx hb hts (fun w h => List.mem_cons_of_mem _ (List.mem_append_left _ (List.mem_append_right _ h))) hown hK hP 0 rfl rfl 9 (by decide) (hts (.fieldLink RX7 54 "MondayFactory" "latestReason" "I") (List.mem_of_getElem? (i := 3) rfl)) (fun _ h9 => h9) rfl dX7_refusal_1 ?_
  refine zi_if_ne (tgt := 18) hx hb dX7_refusal_4 (by decide) ⟨by omega, by omega⟩ (fun c_1 => ?_) (fun c_1 => ?_)
  · refine lv_iload_n hx hb dX7_refusal_18 rfl (lv_at hl 1 rfl) ?_
    refine zi_if_eq (tgt := 29) hx hb dX7_refusal_19 (by decide) ⟨by omega, by omega⟩ (fun c_2 => ?_) (fun c_2 => ?_)
    · refine lv_aload_n hx hb dX7_refusal_29 rfl (lv_at hl 0 rfl) ?_
      refine va_get (D := D) (ci := 9) (v := .int (iI (S0 0 9))) (C := RX7) (T := TX7) (N := 11) hx hb hts (fun w h => List.mem_cons_of_mem _ (List.mem_append_left _ (List.mem_append_right _ h))) hown hK hP 0 rfl rfl 9 (by decide) (hts (.fieldLink RX7 54 "MondayFactory" "latestReason" "I") (List.mem_of_getElem? (i := 3) rfl)) (fun _ h9 => h9) rfl dX7_refusal_30 ?_
      exact z_iret hx hb hr hlocks hP hS dX7_refusal_33 (Eq.trans (zif_pos c_2) rfl) rfl (Nat.le_refl _) (Nat.le_refl _)
    · refine lv_aload_n hx hb dX7_refusal_22 rfl (lv_at hl 0 rfl) ?_
      refine va_get (D := D) (ci := 9) (v := .int (iI (S0 0 10))) (C := RX7) (T := TX7) (N := 11) hx hb hts (fun w h => List.mem_cons_of_mem _ (List.mem_append_left _ (List.mem_append_right _ h))) hown hK hP 0 rfl rfl 10 (by decide) (hts (.fieldLink RX7 57 "MondayFactory" "latestDetail" "I") (List.mem_of_getElem? (i := 4) rfl)) (fun _ h9 => h9) rfl dX7_refusal_23 ?_
      refine lv_goto (tgt := 33) hx hb dX7_refusal_26 (by decide) ?_
      exact z_iret hx hb hr hlocks hP hS dX7_refusal_33 (Eq.trans (zif_neg c_2) rfl) rfl (Nat.le_refl _) (Nat.le_refl _)
  · exfalso; omega
set_option maxHeartbeats 4000000 in
set_option maxRecDepth 100000 in
theorem c_X7_refusal_x (l : Launch) (hst : l.stackTraces = false) (D : va_G) (k : Nat → ClassId) (a0 : Nat → Nat) (S0 : Nat → Nat → Int) (p0 : Int) (h0 : -2147483648 ≤ p0 ∧ p0 < 2147483648) (hc : S0 0 9 = 0) : zMx l yX7_refusal wsX7_refusal ({ frames := 6, cells := 1, slots := 6, locals := 82 } : Room) D k [.ref (a0 0), .int (iI p0)] (wFac k a0 S0) "java/util/NoSuchElementException" (wFac k a0 S0) 1 6 := by
  refine zMx_of (cc := cX7_refusal) (maxL := 2) (ret := (some .int)) (by decide) rfl (Nat.le_of_ble_eq_true rfl) ?_
  intro p e s m args below meth c A ls hx hb hr hml hown hts hlocks hK hP hD hG hE ht hA hS hl
  have hown : s.vm.findClass RX7 = some m.cls := hown
  have hl : lv_has ls 2 [(0, .ref (a0 0)), (1, .int (iI p0))] := hl
  obtain ⟨H, hH⟩ : ∃ z, z = s.heap := ⟨_, rfl⟩
  obtain ⟨locs, hlc⟩ : ∃ z : List Loc, z = [] := ⟨_, rfl⟩
  rw [← hH] at hP
  have hS : va_S A s.heap H locs := by rw [hH, hlc]; exact hS
  rw [← hlc, ← hH]
  clear hlc hH
  refine lv_aload_n hx hb dX7_refusal_0 rfl (lv_at hl 0 rfl) ?_
  refine va_get (D := D) (ci := 9) (v := .int (iI (S0 0 9))) (C := RX7) (T := TX7) (N := 11) hx hb hts (fun w h => List.mem_cons_of_mem _ (List.mem_append_left _ (List.mem_append_right _ h))) hown hK hP 0 rfl rfl 9 (by decide) (hts (.fieldLink RX7 54 "MondayFactory" "latestReason" "I") (List.mem_of_getElem? (i := 3) rfl)) (fun _ h9 => h9) rfl dX7_refusal_1 ?_
  refine zi_if_ne (tgt := 18) hx hb dX7_refusal_4 (by decide) ⟨by omega, by omega⟩ (fun c_1 => ?_) (fun c_1 => ?_)
  · refine lv_iload_n hx hb dX7_refusal_18 rfl (lv_at hl 1 rfl) ?_
    refine zi_if_eq (tgt := 29) hx hb dX7_refusal_19 (by decide) ⟨by omega, by omega⟩ (fun c_2 => ?_) (fun c_2 => ?_)
    · refine lv_aload_n hx hb dX7_refusal_29 rfl (lv_at hl 0 rfl) ?_
      refine va_get (D := D) (ci := 9) (v := .int (iI (S0 0 9))) (C := RX7) (T := TX7) (N := 11) hx hb hts (fun w h => List.mem_cons_of_mem _ (List.mem_append_left _ (List.mem_append_right _ h))) hown hK hP 0 rfl rfl 9 (by decide) (hts (.fieldLink RX7 54 "MondayFactory" "latestReason" "I") (List.mem_of_getElem? (i := 3) rfl)) (fun _ h9 => h9) rfl dX7_refusal_30 ?_
      exfalso; omega
    · refine lv_aload_n hx hb dX7_refusal_22 rfl (lv_at hl 0 rfl) ?_
      refine va_get (D := D) (ci := 9) (v := .int (iI (S0 0 10))) (C := RX7) (T := TX7) (N := 11) hx hb hts (fun w h => List.mem_cons_of_mem _ (List.mem_append_left _ (List.mem_append_right _ h))) hown hK hP 0 rfl rfl 10 (by decide) (hts (.fieldLink RX7 57 "MondayFactory" "latestDetail" "I") (List.mem_of_getElem? (i := 4) rfl)) (fun _ h9 => h9) rfl dX7_refusal_23 ?_
      refine lv_goto (tgt := 33) hx hb dX7_refusal_26 (by decide) ?_
      exfalso; omega
  · exact z_thrWN (cls := "java/util/NoSuchElementException") hx hb hst hown zXf_nose zXm_nose (hts (.classLink RX7 188 "java/util/NoSuchElementException") (List.mem_of_getElem? (i := 1) rfl)) (hts (.initialized "java/util/NoSuchElementException") (List.mem_of_getElem? (i := 2) rfl)) (show (265, "nothing was refused") ∈ zStrs by decide +kernel) hG hE (fun w h => hts w ((fun w h => List.mem_cons_of_mem _ (List.mem_append_right _ h)) w h)) zXn_nose zXg_nose hS (hl.1.trans hml.symm) dX7_refusal_7 dX7_refusal_10 dX7_refusal_11 dX7_refusal_14 dX7_refusal_17 ht (Nat.le_of_ble_eq_true rfl) (Nat.le_of_ble_eq_true rfl) (Nat.le_of_ble_eq_true rfl) (Nat.le_of_ble_eq_true rfl) hlocks (z_to (Eq.symm rfl) hP) (Nat.le_of_ble_eq_true rfl) (Nat.le_of_ble_eq_true rfl)
noncomputable def sp_X7_account_ok (S0 : Nat → Nat → Int) (S1 : Nat → Nat → Int) (S2 : Nat → Nat → Int) (S3 : Nat → Nat → Int) (p0 : Int) : Int := zif (p0 = 13)
  (S3 0 1)
  (zif (p0 = 14)
    (S2 0 2)
    (sp_X5_accountOf S1 p0))
set_option maxHeartbeats 4000000 in
set_option maxRecDepth 100000 in
theorem c_X7_account_ok (l : Launch) (D : va_G) (k : Nat → ClassId) (a0 : Nat → Nat) (S0 : Nat → Nat → Int) (S1 : Nat → Nat → Int) (S2 : Nat → Nat → Int) (S3 : Nat → Nat → Int) (p0 : Int) (hp : pOK S1) (h0 : -2147483648 ≤ p0 ∧ p0 < 2147483648) (hc : 0 ≤ p0 ∧ p0 ≤ 14) : zMi l yX7_account wsX7_account ({ frames := 5, cells := 0, slots := 0, locals := 112 } : Room) D k [.ref (a0 0), .int (iI p0)] (wFac k a0 S0 ++ (wPlant k (subA a0 1) S1 ++ (wHist k (subA a0 61) S2 ++ wInput k (subA a0 183) S3))) (sp_X7_account_ok S0 S1 S2 S3 p0) (wFac k a0 S0 ++ (wPlant k (subA a0 1) S1 ++ (wHist k (subA a0 61) S2 ++ wInput k (subA a0 183) S3))) 0 0 := by
  refine zMi_of (cc := cX7_account) (maxL := 2) (ret := (some .int)) (by decide) rfl (Nat.le_of_ble_eq_true rfl) ?_
  intro p e s m args below meth c A ls hx hb hr hml hown hts hlocks hK hP hD hG hA hS hl
  have hown : s.vm.findClass RX7 = some m.cls := hown
  have hl : lv_has ls 2 [(0, .ref (a0 0)), (1, .int (iI p0))] := hl
  obtain ⟨H, hH⟩ : ∃ z, z = s.heap := ⟨_, rfl⟩
  obtain ⟨locs, hlc⟩ : ∃ z : List Loc, z = [] := ⟨_, rfl⟩
  rw [← hH] at hP
  have hS : va_S A s.heap H locs := by rw [hH, hlc]; exact hS
  rw [← hlc, ← hH]
  clear hlc hH
  have kp := hp.2
  refine lv_iload_n hx hb dX7_account_0 rfl (lv_at hl 1 rfl) ?_
  refine lv_bipush (v := iI 14) hx hb dX7_account_1 (by decide) ?_
  refine z_av0 (va_runS (As := [.int (iI p0), .int (iI 14)]) (rest := []) ⟨hx, hb, hml, hown, hts⟩ (c_X7_demandWhat_ok l D k   p0 14 (by omega) (by omega) (by omega) _) (va_cwS 2 hts gX7_account_X7_demandWhat rfl rfl rfl (by decide +kernel) ⟨(Nat.le_of_ble_eq_true rfl), (Nat.le_of_ble_eq_true rfl)⟩) (z_preS hK hG hA hP hD hS [] rfl (by decide)) rfl rfl hl.1 rfl (lv_room (Nat.le_of_ble_eq_true rfl)) dX7_account_3 ⟨(Nat.le_of_ble_eq_true rfl), (Nat.le_of_ble_eq_true rfl)⟩) hA hP hD hS [] rfl (fun H locs hP hS => ?_)
  refine lv_iload_n hx hb dX7_account_6 rfl (lv_at hl 1 rfl) ?_
  by_cases w_1 : p0 = 13
  · refine z_lookup hx hb dX7_account_7 (by decide) (x := p0) ⟨by omega, by omega⟩ (off := 25) (tgt := 32) (by rw [w_1]; decide) (by decide) ?_
    refine lv_aload_n hx hb dX7_account_32 rfl (lv_at hl 0 rfl) ?_
    refine va_get (D := D) (ci := 9) (v := .ref ((subA a0 183) 0)) (C := RX7) (T := TX7) (N := 11) hx hb hts (fun w h => List.mem_cons_of_mem _ (List.mem_append_left _ (List.mem_append_left _ (List.mem_append_left _ (List.mem_append_left _ (List.mem_append_left _ (List.mem_append_left _ (List.mem_append_left _ (List.mem_append_left _ (List.mem_append_right _ h)))))))))) hown hK hP 0 rfl rfl 5 (by decide) (hts (.fieldLink RX7 35 "MondayFactory" "input" "LMondayFactory$Input;") (List.mem_of_getElem? (i := 1) rfl)) (fun _ h9 => h9) rfl dX7_account_33 ?_
    refine va_get (D := D) (ci := 5) (v := .int (iI (S3 0 1))) (C := RX3) (T := TX3) (N := 2) hx hb hts (fun w h => List.mem_cons_of_mem _ (List.mem_append_left _ (List.mem_append_left _ (List.mem_append_left _ (List.mem_append_left _ (List.mem_append_left _ (List.mem_append_left _ (List.mem_append_left _ (List.mem_append_right _ h))))))))) hown hK hP 18 rfl rfl 1 (by decide) (hts (.fieldLink RX7 234 "MondayFactory$Input" "length" "I") (List.mem_of_getElem? (i := 2) rfl)) (fun _ h9 => h9) rfl dX7_account_36 ?_
    exact z_iret hx hb hr hlocks hP hS dX7_account_39 (Eq.trans (zif_pos w_1) rfl) rfl (Nat.le_refl _) (Nat.le_refl _)
  · by_cases w_2 : p0 = 14
    · refine z_lookup hx hb dX7_account_7 (by decide) (x := p0) ⟨by omega, by omega⟩ (off := 33) (tgt := 40) (by rw [w_2]; decide) (by decide) ?_
      refine lv_aload_n hx hb dX7_account_40 rfl (lv_at hl 0 rfl) ?_
      refine va_get (D := D) (ci := 9) (v := .ref ((subA a0 61) 0)) (C := RX7) (T := TX7) (N := 11) hx hb hts (fun w h => List.mem_cons_of_mem _ (List.mem_append_left _ (List.mem_append_left _ (List.mem_append_left _ (List.mem_append_left _ (List.mem_append_left _ (List.mem_append_left _ (List.mem_append_left _ (List.mem_append_left _ (List.mem_append_right _ h)))))))))) hown hK hP 0 rfl rfl 4 (by decide) (hts (.fieldLink RX7 28 "MondayFactory" "history" "LMondayFactory$History;") (List.mem_of_getElem? (i := 3) rfl)) (fun _ h9 => h9) rfl dX7_account_41 ?_
      refine va_get (D := D) (ci := 4) (v := .int (iI (S2 0 2))) (C := RX2) (T := TX2) (N := 3) hx hb hts (fun w h => List.mem_cons_of_mem _ (List.mem_append_left _ (List.mem_append_left _ (List.mem_append_left _ (List.mem_append_left _ (List.mem_append_left _ (List.mem_append_left _ (List.mem_append_right _ h)))))))) hown hK hP 16 rfl rfl 2 (by decide) (hts (.fieldLink RX7 267 "MondayFactory$History" "count" "I") (List.mem_of_getElem? (i := 4) rfl)) (fun _ h9 => h9) rfl dX7_account_44 ?_
      exact z_iret hx hb hr hlocks hP hS dX7_account_47 (Eq.trans (zif_neg w_1) (Eq.trans (zif_pos w_2) rfl)) rfl (Nat.le_refl _) (Nat.le_refl _)
    · refine z_lookup hx hb dX7_account_7 (by decide) (x := p0) ⟨by omega, by omega⟩ (off := 41) (tgt := 48) (by simp [Op.lookupswitch.offset, Ne.symm w_1, Ne.symm w_2]) (by decide) ?_
      refine lv_aload_n hx hb dX7_account_48 rfl (lv_at hl 0 rfl) ?_
      refine va_get (D := D) (ci := 9) (v := .ref ((subA a0 1) 0)) (C := RX7) (T := TX7) (N := 11) hx hb hts (fun w h => List.mem_cons_of_mem _ (List.mem_append_left _ (List.mem_append_left _ (List.mem_append_left _ (List.mem_append_left _ (List.mem_append_left _ (List.mem_append_left _ (List.mem_append_left _ (List.mem_append_left _ (List.mem_append_right _ h)))))))))) hown hK hP 0 rfl rfl 0 (by decide) (hts (.fieldLink RX7 10 "MondayFactory" "plant" "LMondayFactory$Plant;") (List.mem_of_getElem? (i := 5) rfl)) (fun _ h9 => h9) rfl dX7_account_49 ?_
      refine lv_iload_n hx hb dX7_account_52 rfl (lv_at hl 1 rfl) ?_
      refine z_ai0 (va_runV (As := [.int (iI p0)]) (rest := []) ⟨hx, hb, hml, hown, hts⟩ (c_X5_accountOf l D k ((subA a0 1)) S1  p0 (pOK_b hp 0 (by decide)) (pOK_b hp 2 (by decide)) (pOK_b hp 5 (by decide)) (pOK_b hp 8 (by decide)) (pOK_b hp 4 (by decide)) (pOK_b hp 7 (by decide)) (pOK_b hp 10 (by decide)) (by omega) (by omega) (by omega) (by omega) (by omega) (by omega) _) (cwV 1 hts gX7_account_X5_accountOf rfl rfl rfl (by decide +kernel) ⟨(Nat.le_of_ble_eq_true rfl), (Nat.le_of_ble_eq_true rfl)⟩) (z_preV hK hG hA hP hD hS (zrg 1 15) (z_sk (n := 1) (off := 0) (m := 15) rfl (z_hd (n := 15) rfl)) (by decide +kernel) 7 rfl rfl) rfl rfl hl.1 rfl (lv_room (Nat.le_of_ble_eq_true rfl)) dX7_account_53 ⟨(Nat.le_of_ble_eq_true rfl), (Nat.le_of_ble_eq_true rfl)⟩) hA hP hD hS (zrg 1 15) (z_sk (n := 1) (off := 0) (m := 15) rfl (z_hd (n := 15) rfl)) (fun H locs hP hS => ?_)
      exact z_iret hx hb hr hlocks hP hS dX7_account_56 (Eq.trans (zif_neg w_1) (Eq.trans (zif_neg w_2) rfl)) rfl (Nat.le_refl _) (Nat.le_refl _)
set_option maxHeartbeats 4000000 in
set_option maxRecDepth 100000 in
theorem c_X7_account_x (l : Launch) (hst : l.stackTraces = false) (D : va_G) (k : Nat → ClassId) (a0 : Nat → Nat) (S0 : Nat → Nat → Int) (S1 : Nat → Nat → Int) (S2 : Nat → Nat → Int) (S3 : Nat → Nat → Int) (p0 : Int) (hp : pOK S1) (h0 : -2147483648 ≤ p0 ∧ p0 < 2147483648) (hc : ¬ (0 ≤ p0 ∧ p0 ≤ 14)) : zMx l yX7_account wsX7_account ({ frames := 7, cells := 1, slots := 6, locals := 103 } : Room) D k [.ref (a0 0), .int (iI p0)] (wFac k a0 S0 ++ (wPlant k (subA a0 1) S1 ++ (wHist k (subA a0 61) S2 ++ wInput k (subA a0 183) S3))) "java/lang/IllegalArgumentException" (wFac k a0 S0 ++ (wPlant k (subA a0 1) S1 ++ (wHist k (subA a0 61) S2 ++ wInput k (subA a0 183) S3))) 1 6 := by
  refine zMx_of (cc := cX7_account) (maxL := 2) (ret := (some .int)) (by decide) rfl (Nat.le_of_ble_eq_true rfl) ?_
  intro p e s m args below meth c A ls hx hb hr hml hown hts hlocks hK hP hD hG hE ht hA hS hl
  have hown : s.vm.findClass RX7 = some m.cls := hown
  have hl : lv_has ls 2 [(0, .ref (a0 0)), (1, .int (iI p0))] := hl
  obtain ⟨H, hH⟩ : ∃ z, z = s.heap := ⟨_, rfl⟩
  obtain ⟨locs, hlc⟩ : ∃ z : List Loc, z = [] := ⟨_, rfl⟩
  rw [← hH] at hP
  have hS : va_S A s.heap H locs := by rw [hH, hlc]; exact hS
  rw [← hlc, ← hH]
  clear hlc hH
  have kp := hp.2
  refine lv_iload_n hx hb dX7_account_0 rfl (lv_at hl 1 rfl) ?_
  refine lv_bipush (v := iI 14) hx hb dX7_account_1 (by decide) ?_
  exact z_axo (vx_runS (As := [.int (iI p0), .int (iI 14)]) (rest := []) ⟨hx, hb, hml, hown, hts⟩ (c_X7_demandWhat_x l hst D k   p0 14 (by omega) (by omega) (by omega) _) (va_cwS 2 hts gX7_account_X7_demandWhat rfl rfl rfl (by decide +kernel) ⟨(Nat.le_of_ble_eq_true rfl), (Nat.le_of_ble_eq_true rfl)⟩) (z_preSx hK hG hE hA hP hD hS [] rfl (by decide)) rfl rfl hl.1 rfl (lv_room (Nat.le_of_ble_eq_true rfl)) dX7_account_3 ⟨(Nat.le_of_ble_eq_true rfl), (Nat.le_of_ble_eq_true rfl)⟩) hA hP hD hS [] rfl rfl ht hlocks rfl (Nat.le_of_ble_eq_true rfl) (Nat.le_of_ble_eq_true rfl)
