/-- the front carrier of a belt goes on to the next -/
noncomputable def rPass (G : Nat → Int) (p0 : Int) : Nat → Int := zif (G (15 + 26 * p0 + 0).toNat = 0) G (rGoes (rPuts G (p0 + 1) (G (15 + 26 * p0 + (6 + 4 * 0 + 0)).toNat) (G (15 + 26 * p0 + (6 + 4 * 0 + 1)).toNat) (G (15 + 26 * p0 + (6 + 4 * 0 + 2)).toNat) (G (15 + 26 * p0 + (6 + 4 * 0 + 3)).toNat)) p0)
theorem rPass_n {G : Nat → Int} {p0 : Int} {j : Nat} (h : 0 ≤ p0 ∧ p0 ≤ 1) (h1 : 0 ≤ G (15 + 26 * p0 + 0).toNat ∧ G (15 + 26 * p0 + 0).toNat ≤ 5) (h2 : 0 ≤ G (15 + 26 * (p0 + 1) + 0).toNat ∧ G (15 + 26 * (p0 + 1) + 0).toNat ≤ 4) (hj : (j : Int) < 15 + 26 * p0 ∨ 15 + 26 * (p0 + 1) + 26 ≤ j) : rPass G p0 j = G j := by
  unfold rPass
  rcases Classical.em (G (15 + 26 * p0 + 0).toNat = 0) with c | c
  · rw [zif_pos c]
  · rw [zif_neg c]
    have e : ∀ b g a m, rPuts G (p0 + 1) b g a m (15 + 26 * p0 + 0).toNat = G (15 + 26 * p0 + 0).toNat := fun _ _ _ _ => rPuts_n (by omega) h2 (by omega)
    exact (rGoes_n (by omega) (by rw [e]; omega) (by omega)).trans (rPuts_n (by omega) h2 (by omega))
theorem rPass_own {G : Nat → Int} {p0 : Int} (h : 0 ≤ p0 ∧ p0 ≤ 1) (h1 : 0 ≤ G (15 + 26 * p0 + 0).toNat ∧ G (15 + 26 * p0 + 0).toNat ≤ 5) (h2 : 0 ≤ G (15 + 26 * (p0 + 1) + 0).toNat ∧ G (15 + 26 * (p0 + 1) + 0).toNat ≤ 4) : 0 ≤ rPass G p0 (15 + 26 * p0 + 0).toNat ∧ rPass G p0 (15 + 26 * p0 + 0).toNat ≤ 4 := by
  unfold rPass
  rcases Classical.em (G (15 + 26 * p0 + 0).toNat = 0) with c | c
  · rw [zif_pos c]; omega
  · rw [zif_neg c]
    have e : ∀ b g a m, rPuts G (p0 + 1) b g a m (15 + 26 * p0 + 0).toNat = G (15 + 26 * p0 + 0).toNat := fun _ _ _ _ => rPuts_n (by omega) h2 (by omega)
    unfold rGoes
    rw [e, zer_out (by omega), shf_out (by omega), upZ_s]
    omega
theorem zBf.pass {G : Nat → Int} (hB : zBf G) {p0 : Int} (h : 0 ≤ p0 ∧ p0 ≤ 1) (h1 : 0 ≤ G (15 + 26 * p0 + 0).toNat ∧ G (15 + 26 * p0 + 0).toNat ≤ 5) (h2 : 0 ≤ G (15 + 26 * (p0 + 1) + 0).toNat ∧ G (15 + 26 * (p0 + 1) + 0).toNat ≤ 4) : zBf (rPass G p0) := by
  unfold rPass
  rcases Classical.em (G (15 + 26 * p0 + 0).toNat = 0) with c | c
  · rw [zif_pos c]; exact hB
  · rw [zif_neg c]
    have e : ∀ b g a m, rPuts G (p0 + 1) b g a m (15 + 26 * p0 + 0).toNat = G (15 + 26 * p0 + 0).toNat := fun _ _ _ _ => rPuts_n (by omega) h2 (by omega)
    exact zBf.goes (hB.puts (hB _) (hB _) (hB _) (hB _) h2) (by rw [e]; omega)
set_option maxHeartbeats 4000000 in
set_option maxRecDepth 100000 in
theorem c_X8_passesOn (l : Launch) (D : va_G) (k : Nat → ClassId) (a0 : Nat → Nat) (S0 : Nat → Nat → Int) (p0 : Int) (hB : zBf (S0 1)) (h0 : 0 ≤ p0 ∧ p0 ≤ 1) (h1 : 0 ≤ S0 1 (15 + 26 * p0 + 0).toNat ∧ S0 1 (15 + 26 * p0 + 0).toNat ≤ 5) (h2 : 0 ≤ S0 1 (15 + 26 * (p0 + 1) + 0).toNat ∧ S0 1 (15 + 26 * (p0 + 1) + 0).toNat ≤ 4) : zMv l yX8_passesOn wsX8_passesOn ({ frames := 2, cells := 0, slots := 0, locals := 49 } : Room) D k [.ref (a0 0), .int (iI p0)] (wRef k a0 S0) (wRef k a0 (upA S0 1 (rPass (S0 1) p0))) 0 0 := by
  refine zMv_of (cc := cX8_passesOn) (maxL := 2) (ret := none) (by decide) rfl (Nat.le_of_ble_eq_true rfl) ?_
  intro p e s m args below meth c A ls hx hb hr hml hown hts hlocks hK hP hD hG hA hS hl
  have hown : s.vm.findClass RX8 = some m.cls := hown
  have hl : lv_has ls 2 [(0, .ref (a0 0)), (1, .int (iI p0))] := hl
  obtain ⟨H, hH⟩ : ∃ z, z = s.heap := ⟨_, rfl⟩
  obtain ⟨locs, hlc⟩ : ∃ z : List Loc, z = [] := ⟨_, rfl⟩
  rw [← hH] at hP
  have hS : va_S A s.heap H locs := by rw [hH, hlc]; exact hS
  rw [← hlc, ← hH]
  clear hlc hH
  refine lv_aload_n hx hb dX8_passesOn_0 rfl (lv_at hl 0 rfl) ?_
  refine lv_iload_n hx hb dX8_passesOn_1 rfl (lv_at hl 1 rfl) ?_
  refine lv_iconst (v := iI 0) hx hb dX8_passesOn_2 rfl ?_
  refine z_ai0 (va_runV (As := [.int (iI p0), .int (iI 0)]) (rest := []) ⟨hx, hb, hml, hown, hts⟩ (c_X8_of l D k a0 S0  p0 0 (by omega) (by omega) _) (cwV 2 hts gX8_passesOn_X8_of rfl rfl rfl (by decide +kernel) ⟨(Nat.le_of_ble_eq_true rfl), (Nat.le_of_ble_eq_true rfl)⟩) (z_preV hK hG hA hP hD hS [0, 1, 2, 3, 4, 5, 6, 7] rfl (by decide) 10 rfl rfl) rfl rfl hl.1 rfl (lv_room (Nat.le_of_ble_eq_true rfl)) dX8_passesOn_3 ⟨(Nat.le_of_ble_eq_true rfl), (Nat.le_of_ble_eq_true rfl)⟩) hA hP hD hS [0, 1, 2, 3, 4, 5, 6, 7] rfl (fun H locs hP hS => ?_)
  have f_1 := hB (((15 + (26 * p0)) + 0).toNat)
  refine zi_if_ne (tgt := 10) hx hb dX8_passesOn_6 (by decide) ⟨by omega, by omega⟩ (fun c_2 => ?_) (fun c_2 => ?_)
  · refine lv_aload_n hx hb dX8_passesOn_10 rfl (lv_at hl 0 rfl) ?_
    refine lv_iload_n hx hb dX8_passesOn_11 rfl (lv_at hl 1 rfl) ?_
    refine lv_iconst (v := iI 1) hx hb dX8_passesOn_12 rfl ?_
    refine zi_add hx hb dX8_passesOn_13 ?_
    refine lv_aload_n hx hb dX8_passesOn_14 rfl (lv_at hl 0 rfl) ?_
    refine lv_iload_n hx hb dX8_passesOn_15 rfl (lv_at hl 1 rfl) ?_
    refine lv_iconst (v := iI 0) hx hb dX8_passesOn_16 rfl ?_
    refine lv_iconst (v := iI 0) hx hb dX8_passesOn_17 rfl ?_
    refine z_ai0 (va_runV (As := [.int (iI p0), .int (iI 0), .int (iI 0)]) (rest := [.int (iI (p0 + 1)), .ref (a0 0)]) ⟨hx, hb, hml, hown, hts⟩ (c_X8_on l D k a0 S0  p0 0 0 (by omega) (by omega) _) (cwV 3 hts gX8_passesOn_X8_on rfl rfl rfl (by decide +kernel) ⟨(Nat.le_of_ble_eq_true rfl), (Nat.le_of_ble_eq_true rfl)⟩) (z_preV hK hG hA hP hD hS [0, 1, 2, 3, 4, 5, 6, 7] rfl (by decide) 10 rfl rfl) rfl rfl hl.1 rfl (lv_room (Nat.le_of_ble_eq_true rfl)) dX8_passesOn_18 ⟨(Nat.le_of_ble_eq_true rfl), (Nat.le_of_ble_eq_true rfl)⟩) hA hP hD hS [0, 1, 2, 3, 4, 5, 6, 7] rfl (fun H locs hP hS => ?_)
    have f_3 := hB (((15 + (26 * p0)) + ((6 + (4 * 0)) + 0)).toNat)
    refine lv_aload_n hx hb dX8_passesOn_21 rfl (lv_at hl 0 rfl) ?_
    refine lv_iload_n hx hb dX8_passesOn_22 rfl (lv_at hl 1 rfl) ?_
    refine lv_iconst (v := iI 0) hx hb dX8_passesOn_23 rfl ?_
    refine lv_iconst (v := iI 1) hx hb dX8_passesOn_24 rfl ?_
    refine z_ai0 (va_runV (As := [.int (iI p0), .int (iI 0), .int (iI 1)]) (rest := [.int (iI (S0 1 (((15 + (26 * p0)) + ((6 + (4 * 0)) + 0)).toNat))), .int (iI (p0 + 1)), .ref (a0 0)]) ⟨hx, hb, hml, hown, hts⟩ (c_X8_on l D k a0 S0  p0 0 1 (by omega) (by omega) _) (cwV 3 hts gX8_passesOn_X8_on rfl rfl rfl (by decide +kernel) ⟨(Nat.le_of_ble_eq_true rfl), (Nat.le_of_ble_eq_true rfl)⟩) (z_preV hK hG hA hP hD hS [0, 1, 2, 3, 4, 5, 6, 7] rfl (by decide) 10 rfl rfl) rfl rfl hl.1 rfl (lv_room (Nat.le_of_ble_eq_true rfl)) dX8_passesOn_25 ⟨(Nat.le_of_ble_eq_true rfl), (Nat.le_of_ble_eq_true rfl)⟩) hA hP hD hS [0, 1, 2, 3, 4, 5, 6, 7] rfl (fun H locs hP hS => ?_)
    have f_4 := hB (((15 + (26 * p0)) + ((6 + (4 * 0)) + 1)).toNat)
    refine lv_aload_n hx hb dX8_passesOn_28 rfl (lv_at hl 0 rfl) ?_
    refine lv_iload_n hx hb dX8_passesOn_29 rfl (lv_at hl 1 rfl) ?_
    refine lv_iconst (v := iI 0) hx hb dX8_passesOn_30 rfl ?_
    refine lv_iconst (v := iI 2) hx hb dX8_passesOn_31 rfl ?_
    refine z_ai0 (va_runV (As := [.int (iI p0), .int (iI 0), .int (iI 2)]) (rest := [.int (iI (S0 1 (((15 + (26 * p0)) + ((6 + (4 * 0)) + 1)).toNat))), .int (iI (S0 1 (((15 + (26 * p0)) + ((6 + (4 * 0)) + 0)).toNat))), .int (iI (p0 + 1)), .ref (a0 0)]) ⟨hx, hb, hml, hown, hts⟩ (c_X8_on l D k a0 S0  p0 0 2 (by omega) (by omega) _) (cwV 3 hts gX8_passesOn_X8_on rfl rfl rfl (by decide +kernel) ⟨(Nat.le_of_ble_eq_true rfl), (Nat.le_of_ble_eq_true rfl)⟩) (z_preV hK hG hA hP hD hS [0, 1, 2, 3, 4, 5, 6, 7] rfl (by decide) 10 rfl rfl) rfl rfl hl.1 rfl (lv_room (Nat.le_of_ble_eq_true rfl)) dX8_passesOn_32 ⟨(Nat.le_of_ble_eq_true rfl), (Nat.le_of_ble_eq_true rfl)⟩) hA hP hD hS [0, 1, 2, 3, 4, 5, 6, 7] rfl (fun H locs hP hS => ?_)
    have f_5 := hB (((15 + (26 * p0)) + ((6 + (4 * 0)) + 2)).toNat)
    refine lv_aload_n hx hb dX8_passesOn_35 rfl (lv_at hl 0 rfl) ?_
    refine lv_iload_n hx hb dX8_passesOn_36 rfl (lv_at hl 1 rfl) ?_
    refine lv_iconst (v := iI 0) hx hb dX8_passesOn_37 rfl ?_
    refine lv_iconst (v := iI 3) hx hb dX8_passesOn_38 rfl ?_
    refine z_ai0 (va_runV (As := [.int (iI p0), .int (iI 0), .int (iI 3)]) (rest := [.int (iI (S0 1 (((15 + (26 * p0)) + ((6 + (4 * 0)) + 2)).toNat))), .int (iI (S0 1 (((15 + (26 * p0)) + ((6 + (4 * 0)) + 1)).toNat))), .int (iI (S0 1 (((15 + (26 * p0)) + ((6 + (4 * 0)) + 0)).toNat))), .int (iI (p0 + 1)), .ref (a0 0)]) ⟨hx, hb, hml, hown, hts⟩ (c_X8_on l D k a0 S0  p0 0 3 (by omega) (by omega) _) (cwV 3 hts gX8_passesOn_X8_on rfl rfl rfl (by decide +kernel) ⟨(Nat.le_of_ble_eq_true rfl), (Nat.le_of_ble_eq_true rfl)⟩) (z_preV hK hG hA hP hD hS [0, 1, 2, 3, 4, 5, 6, 7] rfl (by decide) 10 rfl rfl) rfl rfl hl.1 rfl (lv_room (Nat.le_of_ble_eq_true rfl)) dX8_passesOn_39 ⟨(Nat.le_of_ble_eq_true rfl), (Nat.le_of_ble_eq_true rfl)⟩) hA hP hD hS [0, 1, 2, 3, 4, 5, 6, 7] rfl (fun H locs hP hS => ?_)
    have f_6 := hB (((15 + (26 * p0)) + ((6 + (4 * 0)) + 3)).toNat)
    refine z_ai (va_runV (As := [.int (iI (p0 + 1)), .int (iI (S0 1 (((15 + (26 * p0)) + ((6 + (4 * 0)) + 0)).toNat))), .int (iI (S0 1 (((15 + (26 * p0)) + ((6 + (4 * 0)) + 1)).toNat))), .int (iI (S0 1 (((15 + (26 * p0)) + ((6 + (4 * 0)) + 2)).toNat))), .int (iI (S0 1 (((15 + (26 * p0)) + ((6 + (4 * 0)) + 3)).toNat)))]) (rest := []) ⟨hx, hb, hml, hown, hts⟩ (c_X8_puts l D k a0 S0  (p0 + 1) (S0 1 (((15 + (26 * p0)) + ((6 + (4 * 0)) + 0)).toNat)) (S0 1 (((15 + (26 * p0)) + ((6 + (4 * 0)) + 1)).toNat)) (S0 1 (((15 + (26 * p0)) + ((6 + (4 * 0)) + 2)).toNat)) (S0 1 (((15 + (26 * p0)) + ((6 + (4 * 0)) + 3)).toNat)) (by omega) (by omega) _) (cwV 5 hts gX8_passesOn_X8_puts rfl rfl rfl (by decide +kernel) ⟨(Nat.le_of_ble_eq_true rfl), (Nat.le_of_ble_eq_true rfl)⟩) (z_preV hK hG hA hP hD hS [0, 1, 2, 3, 4, 5, 6, 7] rfl (by decide) 10 rfl rfl) rfl rfl hl.1 rfl (lv_room (Nat.le_of_ble_eq_true rfl)) dX8_passesOn_42 ⟨(Nat.le_of_ble_eq_true rfl), (Nat.le_of_ble_eq_true rfl)⟩) hA hP hD hS [0, 1, 2, 3, 4, 5, 6, 7] rfl rfl (fun H locs hP hD hS => ?_)
    have hP : va_P D vwCl (wRef k a0 (upA S0 1 (rPuts (S0 1) (p0 + 1) (S0 1 (((15 + (26 * p0)) + ((6 + (4 * 0)) + 0)).toNat)) (S0 1 (((15 + (26 * p0)) + ((6 + (4 * 0)) + 1)).toNat)) (S0 1 (((15 + (26 * p0)) + ((6 + (4 * 0)) + 2)).toNat)) (S0 1 (((15 + (26 * p0)) + ((6 + (4 * 0)) + 3)).toNat))))) H := hP
    have hD : va_D A (wRef k a0 (upA S0 1 (rPuts (S0 1) (p0 + 1) (S0 1 (((15 + (26 * p0)) + ((6 + (4 * 0)) + 0)).toNat)) (S0 1 (((15 + (26 * p0)) + ((6 + (4 * 0)) + 1)).toNat)) (S0 1 (((15 + (26 * p0)) + ((6 + (4 * 0)) + 2)).toNat)) (S0 1 (((15 + (26 * p0)) + ((6 + (4 * 0)) + 3)).toNat))))) := hD
    refine lv_pop hx hb dX8_passesOn_45 rfl ?_
    refine lv_aload_n hx hb dX8_passesOn_46 rfl (lv_at hl 0 rfl) ?_
    refine lv_iload_n hx hb dX8_passesOn_47 rfl (lv_at hl 1 rfl) ?_
    refine z_av (va_runV (As := [.int (iI p0)]) (rest := []) ⟨hx, hb, hml, hown, hts⟩ (c_X8_goes l D k a0 (upA S0 1 (rPuts (S0 1) (p0 + 1) (S0 1 (((15 + (26 * p0)) + ((6 + (4 * 0)) + 0)).toNat)) (S0 1 (((15 + (26 * p0)) + ((6 + (4 * 0)) + 1)).toNat)) (S0 1 (((15 + (26 * p0)) + ((6 + (4 * 0)) + 2)).toNat)) (S0 1 (((15 + (26 * p0)) + ((6 + (4 * 0)) + 3)).toNat))))  p0 (by omega) (by have e0 : ((upA S0 1 (rPuts (S0 1) (p0 + 1) (S0 1 (((15 + (26 * p0)) + ((6 + (4 * 0)) + 0)).toNat)) (S0 1 (((15 + (26 * p0)) + ((6 + (4 * 0)) + 1)).toNat)) (S0 1 (((15 + (26 * p0)) + ((6 + (4 * 0)) + 2)).toNat)) (S0 1 (((15 + (26 * p0)) + ((6 + (4 * 0)) + 3)).toNat)))) 1 (15 + 26 * p0 + 0).toNat) = S0 1 ((15 + 26 * p0 + 0).toNat) := (show (rPuts (S0 1) (p0 + 1) (S0 1 (((15 + (26 * p0)) + ((6 + (4 * 0)) + 0)).toNat)) (S0 1 (((15 + (26 * p0)) + ((6 + (4 * 0)) + 1)).toNat)) (S0 1 (((15 + (26 * p0)) + ((6 + (4 * 0)) + 2)).toNat)) (S0 1 (((15 + (26 * p0)) + ((6 + (4 * 0)) + 3)).toNat))) ((15 + 26 * p0 + 0).toNat) = S0 1 ((15 + 26 * p0 + 0).toNat) from (Eq.trans (rPuts_n (by omega) (by omega) (by omega)) rfl)); omega) _) (cwV 1 hts gX8_passesOn_X8_goes rfl rfl rfl (by decide +kernel) ⟨(Nat.le_of_ble_eq_true rfl), (Nat.le_of_ble_eq_true rfl)⟩) (z_preV hK hG hA hP hD hS [0, 1, 2, 3, 4, 5, 6, 7] rfl (by decide) 10 rfl rfl) rfl rfl hl.1 rfl (lv_room (Nat.le_of_ble_eq_true rfl)) dX8_passesOn_48 ⟨(Nat.le_of_ble_eq_true rfl), (Nat.le_of_ble_eq_true rfl)⟩) hA hP hD hS [0, 1, 2, 3, 4, 5, 6, 7] rfl rfl (fun H locs hP hD hS => ?_)
    have hP : va_P D vwCl (wRef k a0 (upA (upA S0 1 (rPuts (S0 1) (p0 + 1) (S0 1 (((15 + (26 * p0)) + ((6 + (4 * 0)) + 0)).toNat)) (S0 1 (((15 + (26 * p0)) + ((6 + (4 * 0)) + 1)).toNat)) (S0 1 (((15 + (26 * p0)) + ((6 + (4 * 0)) + 2)).toNat)) (S0 1 (((15 + (26 * p0)) + ((6 + (4 * 0)) + 3)).toNat)))) 1 (rGoes ((rPuts (S0 1) (p0 + 1) (S0 1 (((15 + (26 * p0)) + ((6 + (4 * 0)) + 0)).toNat)) (S0 1 (((15 + (26 * p0)) + ((6 + (4 * 0)) + 1)).toNat)) (S0 1 (((15 + (26 * p0)) + ((6 + (4 * 0)) + 2)).toNat)) (S0 1 (((15 + (26 * p0)) + ((6 + (4 * 0)) + 3)).toNat)))) p0))) H := hP
    have hD : va_D A (wRef k a0 (upA (upA S0 1 (rPuts (S0 1) (p0 + 1) (S0 1 (((15 + (26 * p0)) + ((6 + (4 * 0)) + 0)).toNat)) (S0 1 (((15 + (26 * p0)) + ((6 + (4 * 0)) + 1)).toNat)) (S0 1 (((15 + (26 * p0)) + ((6 + (4 * 0)) + 2)).toNat)) (S0 1 (((15 + (26 * p0)) + ((6 + (4 * 0)) + 3)).toNat)))) 1 (rGoes ((rPuts (S0 1) (p0 + 1) (S0 1 (((15 + (26 * p0)) + ((6 + (4 * 0)) + 0)).toNat)) (S0 1 (((15 + (26 * p0)) + ((6 + (4 * 0)) + 1)).toNat)) (S0 1 (((15 + (26 * p0)) + ((6 + (4 * 0)) + 2)).toNat)) (S0 1 (((15 + (26 * p0)) + ((6 + (4 * 0)) + 3)).toNat)))) p0))) := hD
    exact z_vret hx hb hr hlocks hP hS dX8_passesOn_51 (congrArg (fun z => wRef k a0 (upA S0 1 z)) (show rPass (S0 1) p0 = rGoes ((rPuts (S0 1) (p0 + 1) (S0 1 (((15 + (26 * p0)) + ((6 + (4 * 0)) + 0)).toNat)) (S0 1 (((15 + (26 * p0)) + ((6 + (4 * 0)) + 1)).toNat)) (S0 1 (((15 + (26 * p0)) + ((6 + (4 * 0)) + 2)).toNat)) (S0 1 (((15 + (26 * p0)) + ((6 + (4 * 0)) + 3)).toNat)))) p0 from (by unfold rPass; first | exact zif_pos (by assumption) | exact zif_neg (by assumption)))) (Nat.le_refl _) (Nat.le_refl _)
  · exact z_vret hx hb hr hlocks hP hS dX8_passesOn_9 (congrArg (fun z => wRef k a0 (upA S0 1 z)) (show rPass (S0 1) p0 = S0 1 from (by unfold rPass; first | exact zif_pos (by assumption) | exact zif_neg (by assumption)))) (Nat.le_refl _) (Nat.le_refl _)
