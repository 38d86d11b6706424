/-- a carrier more behind the belt's others -/
def rPuts (G : Nat → Int) (p0 p1 p2 p3 p4 : Int) : Nat → Int := upZ (upZ (upZ (upZ (upZ G (15 + 26 * p0 + (6 + 4 * G (15 + 26 * p0 + 0).toNat + 0)).toNat p1) (15 + 26 * p0 + (6 + 4 * G (15 + 26 * p0 + 0).toNat + 1)).toNat p2) (15 + 26 * p0 + (6 + 4 * G (15 + 26 * p0 + 0).toNat + 2)).toNat p3) (15 + 26 * p0 + (6 + 4 * G (15 + 26 * p0 + 0).toNat + 3)).toNat p4) (15 + 26 * p0 + 0).toNat (G (15 + 26 * p0 + 0).toNat + 1)
theorem rPuts_n {G : Nat → Int} {p0 p1 p2 p3 p4 : Int} {j : Nat} (h : 0 ≤ p0 ∧ p0 ≤ 2) (hc : 0 ≤ G (15 + 26 * p0 + 0).toNat ∧ G (15 + 26 * p0 + 0).toNat ≤ 4) (hj : (j : Int) < 15 + 26 * p0 ∨ 15 + 26 * p0 + 26 ≤ j) : rPuts G p0 p1 p2 p3 p4 j = G j := by
  unfold rPuts
  rw [upZ_n (by omega), upZ_n (by omega), upZ_n (by omega), upZ_n (by omega), upZ_n (by omega)]
theorem zBf.puts {G : Nat → Int} (h : zBf G) {p0 p1 p2 p3 p4 : Int} (h1 : -1000000000 ≤ p1 ∧ p1 ≤ 1000000000) (h2 : -1000000000 ≤ p2 ∧ p2 ≤ 1000000000) (h3 : -1000000000 ≤ p3 ∧ p3 ≤ 1000000000) (h4 : -1000000000 ≤ p4 ∧ p4 ≤ 1000000000) (h5 : 0 ≤ G (15 + 26 * p0 + 0).toNat ∧ G (15 + 26 * p0 + 0).toNat ≤ 4) : zBf (rPuts G p0 p1 p2 p3 p4) :=
  ((((h.up (by omega)).up (by omega)).up (by omega)).up (by omega)).up (by omega)
/-- the front carrier gone -/
def rGoes (G : Nat → Int) (p0 : Int) : Nat → Int := zer (shf (upZ G (15 + 26 * p0 + 0).toNat (G (15 + 26 * p0 + 0).toNat - 1)) (15 + 26 * p0 + 6).toNat (15 + 26 * p0 + (6 + 4 * (G (15 + 26 * p0 + 0).toNat - 1))).toNat 4) (15 + 26 * p0 + (6 + 4 * (G (15 + 26 * p0 + 0).toNat - 1))).toNat (15 + 26 * p0 + (6 + 4 * (G (15 + 26 * p0 + 0).toNat - 1) + 4)).toNat
theorem rGoes_n {G : Nat → Int} {p0 : Int} {j : Nat} (h : 0 ≤ p0 ∧ p0 ≤ 2) (hc : 1 ≤ G (15 + 26 * p0 + 0).toNat ∧ G (15 + 26 * p0 + 0).toNat ≤ 5) (hj : (j : Int) < 15 + 26 * p0 ∨ 15 + 26 * p0 + 26 ≤ j) : rGoes G p0 j = G j := by
  unfold rGoes
  rw [zer_out (by omega), shf_out (by omega), upZ_n (by omega)]
theorem rGoes_own {G : Nat → Int} {p0 : Int} (h : 0 ≤ p0 ∧ p0 ≤ 2) (hc : 1 ≤ G (15 + 26 * p0 + 0).toNat ∧ G (15 + 26 * p0 + 0).toNat ≤ 5) : rGoes G p0 (15 + 26 * p0 + 0).toNat = G (15 + 26 * p0 + 0).toNat - 1 := by
  unfold rGoes
  rw [zer_out (by omega), shf_out (by omega), upZ_s]
theorem zBf.goes {G : Nat → Int} (h : zBf G) {p0 : Int} (h1 : 1 ≤ G (15 + 26 * p0 + 0).toNat ∧ G (15 + 26 * p0 + 0).toNat ≤ 5) : zBf (rGoes G p0) := ((h.up (by omega)).shf _ _ _).zer _ _
theorem goes_s1 {G : Nat → Int} {p0 x : Int} (h : 0 ≤ p0 ∧ p0 ≤ 2) (hx : 6 ≤ x) : upZ (shf G (15 + 26 * p0 + 6).toNat (15 + 26 * p0 + x).toNat 4) (15 + 26 * p0 + x).toNat (shf G (15 + 26 * p0 + 6).toNat (15 + 26 * p0 + x).toNat 4 (15 + 26 * p0 + (x + 4)).toNat) = shf G (15 + 26 * p0 + 6).toNat (15 + 26 * p0 + (x + 1)).toNat 4 := by
  rw [show (15 + 26 * p0 + (x + 4)).toNat = (15 + 26 * p0 + x).toNat + 4 by omega, show (15 + 26 * p0 + (x + 1)).toNat = (15 + 26 * p0 + x).toNat + 1 by omega]
  exact shf_step (by omega) (by omega) rfl
theorem goes_s2 {G : Nat → Int} {p0 y x : Int} (h : 0 ≤ p0 ∧ p0 ≤ 2) (hy : 0 ≤ y) (hx : 0 ≤ x) : upZ (zer G (15 + 26 * p0 + y).toNat (15 + 26 * p0 + (y + x)).toNat) (15 + 26 * p0 + (y + x)).toNat 0 = zer G (15 + 26 * p0 + y).toNat (15 + 26 * p0 + (y + (x + 1))).toNat := by
  rw [show (15 + 26 * p0 + (y + (x + 1))).toNat = (15 + 26 * p0 + (y + x)).toNat + 1 by omega]
  exact zer_step (by omega)
/-- a reject gone from the shelf -/
def rOff (G : Nat → Int) (p0 : Int) : Nat → Int := zer (shf (upZ G 10 (G 10 - 1)) (93 + 4 * p0).toNat (93 + 4 * (G 10 - 1)).toNat 4) (93 + 4 * (G 10 - 1)).toNat (93 + 4 * (G 10 - 1) + 4).toNat
theorem zBf.off {G : Nat → Int} (h : zBf G) {p0 : Int} (h1 : 1 ≤ G 10 ∧ G 10 ≤ 8) : zBf (rOff G p0) := ((h.up (by omega)).shf _ _ _).zer _ _
theorem off_s1 {G : Nat → Int} {lo : Nat} {x : Int} (h : (lo : Int) ≤ x) : upZ (shf G lo x.toNat 4) x.toNat (shf G lo x.toNat 4 (x + 4).toNat) = shf G lo (x + 1).toNat 4 := by
  rw [show (x + 4).toNat = x.toNat + 4 by omega, show (x + 1).toNat = x.toNat + 1 by omega]
  exact shf_step (by omega) (by omega) rfl
theorem off_s2 {G : Nat → Int} {y x : Int} (hy : 0 ≤ y) (hx : 0 ≤ x) : upZ (zer G y.toNat (y + x).toNat) (y + x).toNat 0 = zer G y.toNat (y + (x + 1)).toNat := by
  rw [show (y + (x + 1)).toNat = (y + x).toNat + 1 by omega]
  exact zer_step (by omega)
theorem copies_s {f g : Nat → Int} {sp dp x : Int} (h1 : 0 ≤ sp) (h2 : 0 ≤ dp) (hx : 0 ≤ x) : upZ (cpyZ f g sp.toNat dp.toNat x.toNat) (dp + x).toNat (f (sp + x).toNat) = cpyZ f g sp.toNat dp.toNat (x + 1).toNat := by
  rw [show (x + 1).toNat = x.toNat + 1 by omega, show (dp + x).toNat = dp.toNat + x.toNat by omega, show (sp + x).toNat = sp.toNat + x.toNat by omega]
  exact cpyZ_step
theorem keeps_s {K : Nat → Int} {x : Int} (hx : 0 ≤ x) : upZ (shf K 0 x.toNat 125) x.toNat (shf K 0 x.toNat 125 (x + 125).toNat) = shf K 0 (x + 1).toNat 125 := by
  rw [show (x + 125).toNat = x.toNat + 125 by omega, show (x + 1).toNat = x.toNat + 1 by omega]
  exact shf_step (by omega) (by omega) rfl
noncomputable def sp_X8_puts (S0 : Nat → Nat → Int) (p0 : Int) (p1 : Int) (p2 : Int) (p3 : Int) (p4 : Int) : Int := (S0 1 (((15 + (26 * p0)) + 0).toNat)) + 1
set_option maxHeartbeats 4000000 in
set_option maxRecDepth 100000 in
theorem c_X8_puts (l : Launch) (D : va_G) (k : Nat → ClassId) (a0 : Nat → Nat) (S0 : Nat → Nat → Int) (p0 : Int) (p1 : Int) (p2 : Int) (p3 : Int) (p4 : Int) (h0 : 0 ≤ p0 ∧ p0 ≤ 2) (h1 : 0 ≤ S0 1 (15 + 26 * p0 + 0).toNat ∧ S0 1 (15 + 26 * p0 + 0).toNat ≤ 4) : zMi l yX8_puts wsX8_puts ({ frames := 1, cells := 0, slots := 0, locals := 23 } : Room) D k [.ref (a0 0), .int (iI p0), .int (iI p1), .int (iI p2), .int (iI p3), .int (iI p4)] (wRef k a0 S0) (sp_X8_puts S0 p0 p1 p2 p3 p4) (wRef k a0 (upA S0 1 (rPuts (S0 1) p0 p1 p2 p3 p4))) 0 0 := by
  refine zMi_of (cc := cX8_puts) (maxL := 7) (ret := (some .int)) (by decide) rfl (Nat.le_of_ble_eq_true rfl) ?_
  intro p e s m args below meth c A ls hx hb hr hml hown hts hlocks hK hP hD hG hA hS hl
  have hown : s.vm.findClass RX8 = some m.cls := hown
  have hl : lv_has ls 7 [(0, .ref (a0 0)), (1, .int (iI p0)), (2, .int (iI p1)), (3, .int (iI p2)), (4, .int (iI p3)), (5, .int (iI p4))] := hl
  obtain ⟨H, hH⟩ : ∃ z, z = s.heap := ⟨_, rfl⟩
  obtain ⟨locs, hlc⟩ : ∃ z : List Loc, z = [] := ⟨_, rfl⟩
  rw [← hH] at hP
  have hS : va_S A s.heap H locs := by rw [hH, hlc]; exact hS
  rw [← hlc, ← hH]
  clear hlc hH
  refine lv_bipush (v := iI 6) hx hb dX8_puts_0 (by decide) ?_
  refine lv_iconst (v := iI 4) hx hb dX8_puts_2 rfl ?_
  refine lv_aload_n hx hb dX8_puts_3 rfl (lv_at hl 0 rfl) ?_
  refine lv_iload_n hx hb dX8_puts_4 rfl (lv_at hl 1 rfl) ?_
  refine lv_iconst (v := iI 0) hx hb dX8_puts_5 rfl ?_
  refine z_ai0 (va_runV (As := [.int (iI p0), .int (iI 0)]) (rest := [.int (iI 4), .int (iI 6)]) ⟨hx, hb, hml, hown, hts⟩ (c_X8_of l D k a0 S0  p0 0 (by omega) (by omega) _) (cwV 2 hts gX8_puts_X8_of rfl rfl rfl (by decide +kernel) ⟨(Nat.le_of_ble_eq_true rfl), (Nat.le_of_ble_eq_true rfl)⟩) (z_preV hK hG hA hP hD hS [0, 1, 2, 3, 4, 5, 6, 7] rfl (by decide) 10 rfl rfl) rfl rfl hl.1 rfl (lv_room (Nat.le_of_ble_eq_true rfl)) dX8_puts_6 ⟨(Nat.le_of_ble_eq_true rfl), (Nat.le_of_ble_eq_true rfl)⟩) hA hP hD hS [0, 1, 2, 3, 4, 5, 6, 7] rfl (fun H locs hP hS => ?_)
  refine zi_mul hx hb dX8_puts_9 ?_
  refine zi_add hx hb dX8_puts_10 ?_
  refine lv_istore (lv' := [(6, .int (iI (6 + (4 * (S0 1 (((15 + (26 * p0)) + 0).toNat)))))), (0, .ref (a0 0)), (1, .int (iI p0)), (2, .int (iI p1)), (3, .int (iI p2)), (4, .int (iI p3)), (5, .int (iI p4))]) hx hb dX8_puts_11 hl (by decide) rfl (fun ls hl => ?_)
  refine lv_aload_n hx hb dX8_puts_13 rfl (lv_at hl 1 rfl) ?_
  refine lv_iload_n hx hb dX8_puts_14 rfl (lv_at hl 2 rfl) ?_
  refine lv_iload hx hb dX8_puts_15 (lv_at hl 0 rfl) ?_
  refine lv_iconst (v := iI 0) hx hb dX8_puts_17 rfl ?_
  refine zi_add hx hb dX8_puts_18 ?_
  refine lv_iload_n hx hb dX8_puts_19 rfl (lv_at hl 3 rfl) ?_
  refine z_av (va_runV (As := [.int (iI p0), .int (iI ((6 + (4 * (S0 1 (((15 + (26 * p0)) + 0).toNat)))) + 0)), .int (iI p1)]) (rest := []) ⟨hx, hb, hml, hown, hts⟩ (c_X8_lays l D k a0 S0  p0 ((6 + (4 * (S0 1 (((15 + (26 * p0)) + 0).toNat)))) + 0) p1 (by omega) (by omega) _) (cwV 3 hts gX8_puts_X8_lays rfl rfl rfl (by decide +kernel) ⟨(Nat.le_of_ble_eq_true rfl), (Nat.le_of_ble_eq_true rfl)⟩) (z_preV hK hG hA hP hD hS [0, 1, 2, 3, 4, 5, 6, 7] rfl (by decide) 10 rfl rfl) rfl rfl hl.1 rfl (lv_room (Nat.le_of_ble_eq_true rfl)) dX8_puts_20 ⟨(Nat.le_of_ble_eq_true rfl), (Nat.le_of_ble_eq_true rfl)⟩) hA hP hD hS [0, 1, 2, 3, 4, 5, 6, 7] rfl rfl (fun H locs hP hD hS => ?_)
  have hP : va_P D vwCl (wRef k a0 (up2 S0 1 (((15 + (26 * p0)) + ((6 + (4 * (S0 1 (((15 + (26 * p0)) + 0).toNat)))) + 0)).toNat) p1)) H := hP
  have hD : va_D A (wRef k a0 (up2 S0 1 (((15 + (26 * p0)) + ((6 + (4 * (S0 1 (((15 + (26 * p0)) + 0).toNat)))) + 0)).toNat) p1)) := hD
  refine lv_aload_n hx hb dX8_puts_23 rfl (lv_at hl 1 rfl) ?_
  refine lv_iload_n hx hb dX8_puts_24 rfl (lv_at hl 2 rfl) ?_
  refine lv_iload hx hb dX8_puts_25 (lv_at hl 0 rfl) ?_
  refine lv_iconst (v := iI 1) hx hb dX8_puts_27 rfl ?_
  refine zi_add hx hb dX8_puts_28 ?_
  refine lv_iload_n hx hb dX8_puts_29 rfl (lv_at hl 4 rfl) ?_
  refine z_av (va_runV (As := [.int (iI p0), .int (iI ((6 + (4 * (S0 1 (((15 + (26 * p0)) + 0).toNat)))) + 1)), .int (iI p2)]) (rest := []) ⟨hx, hb, hml, hown, hts⟩ (c_X8_lays l D k a0 (up2 S0 1 (((15 + (26 * p0)) + ((6 + (4 * (S0 1 (((15 + (26 * p0)) + 0).toNat)))) + 0)).toNat) p1)  p0 ((6 + (4 * (S0 1 (((15 + (26 * p0)) + 0).toNat)))) + 1) p2 (by omega) (by omega) _) (cwV 3 hts gX8_puts_X8_lays rfl rfl rfl (by decide +kernel) ⟨(Nat.le_of_ble_eq_true rfl), (Nat.le_of_ble_eq_true rfl)⟩) (z_preV hK hG hA hP hD hS [0, 1, 2, 3, 4, 5, 6, 7] rfl (by decide) 10 rfl rfl) rfl rfl hl.1 rfl (lv_room (Nat.le_of_ble_eq_true rfl)) dX8_puts_30 ⟨(Nat.le_of_ble_eq_true rfl), (Nat.le_of_ble_eq_true rfl)⟩) hA hP hD hS [0, 1, 2, 3, 4, 5, 6, 7] rfl rfl (fun H locs hP hD hS => ?_)
  have hP : va_P D vwCl (wRef k a0 (up2 (up2 S0 1 (((15 + (26 * p0)) + ((6 + (4 * (S0 1 (((15 + (26 * p0)) + 0).toNat)))) + 0)).toNat) p1) 1 (((15 + (26 * p0)) + ((6 + (4 * (S0 1 (((15 + (26 * p0)) + 0).toNat)))) + 1)).toNat) p2)) H := hP
  have hD : va_D A (wRef k a0 (up2 (up2 S0 1 (((15 + (26 * p0)) + ((6 + (4 * (S0 1 (((15 + (26 * p0)) + 0).toNat)))) + 0)).toNat) p1) 1 (((15 + (26 * p0)) + ((6 + (4 * (S0 1 (((15 + (26 * p0)) + 0).toNat)))) + 1)).toNat) p2)) := hD
  refine lv_aload_n hx hb dX8_puts_33 rfl (lv_at hl 1 rfl) ?_
  refine lv_iload_n hx hb dX8_puts_34 rfl (lv_at hl 2 rfl) ?_
  refine lv_iload hx hb dX8_puts_35 (lv_at hl 0 rfl) ?_
  refine lv_iconst (v := iI 2) hx hb dX8_puts_37 rfl ?_
  refine zi_add hx hb dX8_puts_38 ?_
  refine lv_iload hx hb dX8_puts_39 (lv_at hl 5 rfl) ?_
  refine z_av (va_runV (As := [.int (iI p0), .int (iI ((6 + (4 * (S0 1 (((15 + (26 * p0)) + 0).toNat)))) + 2)), .int (iI p3)]) (rest := []) ⟨hx, hb, hml, hown, hts⟩ (c_X8_lays l D k a0 (up2 (up2 S0 1 (((15 + (26 * p0)) + ((6 + (4 * (S0 1 (((15 + (26 * p0)) + 0).toNat)))) + 0)).toNat) p1) 1 (((15 + (26 * p0)) + ((6 + (4 * (S0 1 (((15 + (26 * p0)) + 0).toNat)))) + 1)).toNat) p2)  p0 ((6 + (4 * (S0 1 (((15 + (26 * p0)) + 0).toNat)))) + 2) p3 (by omega) (by omega) _) (cwV 3 hts gX8_puts_X8_lays rfl rfl rfl (by decide +kernel) ⟨(Nat.le_of_ble_eq_true rfl), (Nat.le_of_ble_eq_true rfl)⟩) (z_preV hK hG hA hP hD hS [0, 1, 2, 3, 4, 5, 6, 7] rfl (by decide) 10 rfl rfl) rfl rfl hl.1 rfl (lv_room (Nat.le_of_ble_eq_true rfl)) dX8_puts_41 ⟨(Nat.le_of_ble_eq_true rfl), (Nat.le_of_ble_eq_true rfl)⟩) hA hP hD hS [0, 1, 2, 3, 4, 5, 6, 7] rfl rfl (fun H locs hP hD hS => ?_)
  have hP : va_P D vwCl (wRef k a0 (up2 (up2 (up2 S0 1 (((15 + (26 * p0)) + ((6 + (4 * (S0 1 (((15 + (26 * p0)) + 0).toNat)))) + 0)).toNat) p1) 1 (((15 + (26 * p0)) + ((6 + (4 * (S0 1 (((15 + (26 * p0)) + 0).toNat)))) + 1)).toNat) p2) 1 (((15 + (26 * p0)) + ((6 + (4 * (S0 1 (((15 + (26 * p0)) + 0).toNat)))) + 2)).toNat) p3)) H := hP
  have hD : va_D A (wRef k a0 (up2 (up2 (up2 S0 1 (((15 + (26 * p0)) + ((6 + (4 * (S0 1 (((15 + (26 * p0)) + 0).toNat)))) + 0)).toNat) p1) 1 (((15 + (26 * p0)) + ((6 + (4 * (S0 1 (((15 + (26 * p0)) + 0).toNat)))) + 1)).toNat) p2) 1 (((15 + (26 * p0)) + ((6 + (4 * (S0 1 (((15 + (26 * p0)) + 0).toNat)))) + 2)).toNat) p3)) := hD
  refine lv_aload_n hx hb dX8_puts_44 rfl (lv_at hl 1 rfl) ?_
  refine lv_iload_n hx hb dX8_puts_45 rfl (lv_at hl 2 rfl) ?_
  refine lv_iload hx hb dX8_puts_46 (lv_at hl 0 rfl) ?_
  refine lv_iconst (v := iI 3) hx hb dX8_puts_48 rfl ?_
  refine zi_add hx hb dX8_puts_49 ?_
  refine lv_iload hx hb dX8_puts_50 (lv_at hl 6 rfl) ?_
  refine z_av (va_runV (As := [.int (iI p0), .int (iI ((6 + (4 * (S0 1 (((15 + (26 * p0)) + 0).toNat)))) + 3)), .int (iI p4)]) (rest := []) ⟨hx, hb, hml, hown, hts⟩ (c_X8_lays l D k a0 (up2 (up2 (up2 S0 1 (((15 + (26 * p0)) + ((6 + (4 * (S0 1 (((15 + (26 * p0)) + 0).toNat)))) + 0)).toNat) p1) 1 (((15 + (26 * p0)) + ((6 + (4 * (S0 1 (((15 + (26 * p0)) + 0).toNat)))) + 1)).toNat) p2) 1 (((15 + (26 * p0)) + ((6 + (4 * (S0 1 (((15 + (26 * p0)) + 0).toNat)))) + 2)).toNat) p3)  p0 ((6 + (4 * (S0 1 (((15 + (26 * p0)) + 0).toNat)))) + 3) p4 (by omega) (by omega) _) (cwV 3 hts gX8_puts_X8_lays rfl rfl rfl (by decide +kernel) ⟨(Nat.le_of_ble_eq_true rfl), (Nat.le_of_ble_eq_true rfl)⟩) (z_preV hK hG hA hP hD hS [0, 1, 2, 3, 4, 5, 6, 7] rfl (by decide) 10 rfl rfl) rfl rfl hl.1 rfl (lv_room (Nat.le_of_ble_eq_true rfl)) dX8_puts_52 ⟨(Nat.le_of_ble_eq_true rfl), (Nat.le_of_ble_eq_true rfl)⟩) hA hP hD hS [0, 1, 2, 3, 4, 5, 6, 7] rfl rfl (fun H locs hP hD hS => ?_)
  have hP : va_P D vwCl (wRef k a0 (up2 (up2 (up2 (up2 S0 1 (((15 + (26 * p0)) + ((6 + (4 * (S0 1 (((15 + (26 * p0)) + 0).toNat)))) + 0)).toNat) p1) 1 (((15 + (26 * p0)) + ((6 + (4 * (S0 1 (((15 + (26 * p0)) + 0).toNat)))) + 1)).toNat) p2) 1 (((15 + (26 * p0)) + ((6 + (4 * (S0 1 (((15 + (26 * p0)) + 0).toNat)))) + 2)).toNat) p3) 1 (((15 + (26 * p0)) + ((6 + (4 * (S0 1 (((15 + (26 * p0)) + 0).toNat)))) + 3)).toNat) p4)) H := hP
  have hD : va_D A (wRef k a0 (up2 (up2 (up2 (up2 S0 1 (((15 + (26 * p0)) + ((6 + (4 * (S0 1 (((15 + (26 * p0)) + 0).toNat)))) + 0)).toNat) p1) 1 (((15 + (26 * p0)) + ((6 + (4 * (S0 1 (((15 + (26 * p0)) + 0).toNat)))) + 1)).toNat) p2) 1 (((15 + (26 * p0)) + ((6 + (4 * (S0 1 (((15 + (26 * p0)) + 0).toNat)))) + 2)).toNat) p3) 1 (((15 + (26 * p0)) + ((6 + (4 * (S0 1 (((15 + (26 * p0)) + 0).toNat)))) + 3)).toNat) p4)) := hD
  refine lv_aload_n hx hb dX8_puts_55 rfl (lv_at hl 1 rfl) ?_
  refine lv_iload_n hx hb dX8_puts_56 rfl (lv_at hl 2 rfl) ?_
  refine lv_iconst (v := iI 0) hx hb dX8_puts_57 rfl ?_
  refine lv_aload_n hx hb dX8_puts_58 rfl (lv_at hl 1 rfl) ?_
  refine lv_iload_n hx hb dX8_puts_59 rfl (lv_at hl 2 rfl) ?_
  refine lv_iconst (v := iI 0) hx hb dX8_puts_60 rfl ?_
  refine z_ai0 (va_runV (As := [.int (iI p0), .int (iI 0)]) (rest := [.int (iI 0), .int (iI p0), .ref (a0 0)]) ⟨hx, hb, hml, hown, hts⟩ (c_X8_of l D k a0 (up2 (up2 (up2 (up2 S0 1 (((15 + (26 * p0)) + ((6 + (4 * (S0 1 (((15 + (26 * p0)) + 0).toNat)))) + 0)).toNat) p1) 1 (((15 + (26 * p0)) + ((6 + (4 * (S0 1 (((15 + (26 * p0)) + 0).toNat)))) + 1)).toNat) p2) 1 (((15 + (26 * p0)) + ((6 + (4 * (S0 1 (((15 + (26 * p0)) + 0).toNat)))) + 2)).toNat) p3) 1 (((15 + (26 * p0)) + ((6 + (4 * (S0 1 (((15 + (26 * p0)) + 0).toNat)))) + 3)).toNat) p4)  p0 0 (by omega) (by omega) _) (cwV 2 hts gX8_puts_X8_of rfl rfl rfl (by decide +kernel) ⟨(Nat.le_of_ble_eq_true rfl), (Nat.le_of_ble_eq_true rfl)⟩) (z_preV hK hG hA hP hD hS [0, 1, 2, 3, 4, 5, 6, 7] rfl (by decide) 10 rfl rfl) rfl rfl hl.1 rfl (lv_room (Nat.le_of_ble_eq_true rfl)) dX8_puts_61 ⟨(Nat.le_of_ble_eq_true rfl), (Nat.le_of_ble_eq_true rfl)⟩) hA hP hD hS [0, 1, 2, 3, 4, 5, 6, 7] rfl (fun H locs hP hS => ?_)
  refine z_eqi (z2 := S0 1 (((15 + (26 * p0)) + 0).toNat)) (show (upZ (upZ (upZ (upZ (S0 1) (((15 + (26 * p0)) + ((6 + (4 * (S0 1 (((15 + (26 * p0)) + 0).toNat)))) + 0)).toNat) p1) (((15 + (26 * p0)) + ((6 + (4 * (S0 1 (((15 + (26 * p0)) + 0).toNat)))) + 1)).toNat) p2) (((15 + (26 * p0)) + ((6 + (4 * (S0 1 (((15 + (26 * p0)) + 0).toNat)))) + 2)).toNat) p3) (((15 + (26 * p0)) + ((6 + (4 * (S0 1 (((15 + (26 * p0)) + 0).toNat)))) + 3)).toNat) p4) (((15 + (26 * p0)) + 0).toNat) = S0 1 (((15 + (26 * p0)) + 0).toNat) from (Eq.trans (upZ_n (by omega)) (Eq.trans (upZ_n (by omega)) (Eq.trans (upZ_n (by omega)) (Eq.trans (upZ_n (by omega)) rfl))))) ?_
  refine lv_iconst (v := iI 1) hx hb dX8_puts_64 rfl ?_
  refine zi_add hx hb dX8_puts_65 ?_
  refine z_av (va_runV (As := [.int (iI p0), .int (iI 0), .int (iI ((S0 1 (((15 + (26 * p0)) + 0).toNat)) + 1))]) (rest := []) ⟨hx, hb, hml, hown, hts⟩ (c_X8_lays l D k a0 (up2 (up2 (up2 (up2 S0 1 (((15 + (26 * p0)) + ((6 + (4 * (S0 1 (((15 + (26 * p0)) + 0).toNat)))) + 0)).toNat) p1) 1 (((15 + (26 * p0)) + ((6 + (4 * (S0 1 (((15 + (26 * p0)) + 0).toNat)))) + 1)).toNat) p2) 1 (((15 + (26 * p0)) + ((6 + (4 * (S0 1 (((15 + (26 * p0)) + 0).toNat)))) + 2)).toNat) p3) 1 (((15 + (26 * p0)) + ((6 + (4 * (S0 1 (((15 + (26 * p0)) + 0).toNat)))) + 3)).toNat) p4)  p0 0 ((S0 1 (((15 + (26 * p0)) + 0).toNat)) + 1) (by omega) (by omega) _) (cwV 3 hts gX8_puts_X8_lays rfl rfl rfl (by decide +kernel) ⟨(Nat.le_of_ble_eq_true rfl), (Nat.le_of_ble_eq_true rfl)⟩) (z_preV hK hG hA hP hD hS [0, 1, 2, 3, 4, 5, 6, 7] rfl (by decide) 10 rfl rfl) rfl rfl hl.1 rfl (lv_room (Nat.le_of_ble_eq_true rfl)) dX8_puts_66 ⟨(Nat.le_of_ble_eq_true rfl), (Nat.le_of_ble_eq_true rfl)⟩) hA hP hD hS [0, 1, 2, 3, 4, 5, 6, 7] rfl rfl (fun H locs hP hD hS => ?_)
  have hP : va_P D vwCl (wRef k a0 (up2 (up2 (up2 (up2 (up2 S0 1 (((15 + (26 * p0)) + ((6 + (4 * (S0 1 (((15 + (26 * p0)) + 0).toNat)))) + 0)).toNat) p1) 1 (((15 + (26 * p0)) + ((6 + (4 * (S0 1 (((15 + (26 * p0)) + 0).toNat)))) + 1)).toNat) p2) 1 (((15 + (26 * p0)) + ((6 + (4 * (S0 1 (((15 + (26 * p0)) + 0).toNat)))) + 2)).toNat) p3) 1 (((15 + (26 * p0)) + ((6 + (4 * (S0 1 (((15 + (26 * p0)) + 0).toNat)))) + 3)).toNat) p4) 1 (((15 + (26 * p0)) + 0).toNat) (((S0 1 (((15 + (26 * p0)) + 0).toNat)) + 1)))) H := hP
  have hD : va_D A (wRef k a0 (up2 (up2 (up2 (up2 (up2 S0 1 (((15 + (26 * p0)) + ((6 + (4 * (S0 1 (((15 + (26 * p0)) + 0).toNat)))) + 0)).toNat) p1) 1 (((15 + (26 * p0)) + ((6 + (4 * (S0 1 (((15 + (26 * p0)) + 0).toNat)))) + 1)).toNat) p2) 1 (((15 + (26 * p0)) + ((6 + (4 * (S0 1 (((15 + (26 * p0)) + 0).toNat)))) + 2)).toNat) p3) 1 (((15 + (26 * p0)) + ((6 + (4 * (S0 1 (((15 + (26 * p0)) + 0).toNat)))) + 3)).toNat) p4) 1 (((15 + (26 * p0)) + 0).toNat) (((S0 1 (((15 + (26 * p0)) + 0).toNat)) + 1)))) := hD
  refine lv_aload_n hx hb dX8_puts_69 rfl (lv_at hl 1 rfl) ?_
  refine lv_iload_n hx hb dX8_puts_70 rfl (lv_at hl 2 rfl) ?_
  refine lv_iconst (v := iI 0) hx hb dX8_puts_71 rfl ?_
  refine z_ai0 (va_runV (As := [.int (iI p0), .int (iI 0)]) (rest := []) ⟨hx, hb, hml, hown, hts⟩ (c_X8_of l D k a0 (up2 (up2 (up2 (up2 (up2 S0 1 (((15 + (26 * p0)) + ((6 + (4 * (S0 1 (((15 + (26 * p0)) + 0).toNat)))) + 0)).toNat) p1) 1 (((15 + (26 * p0)) + ((6 + (4 * (S0 1 (((15 + (26 * p0)) + 0).toNat)))) + 1)).toNat) p2) 1 (((15 + (26 * p0)) + ((6 + (4 * (S0 1 (((15 + (26 * p0)) + 0).toNat)))) + 2)).toNat) p3) 1 (((15 + (26 * p0)) + ((6 + (4 * (S0 1 (((15 + (26 * p0)) + 0).toNat)))) + 3)).toNat) p4) 1 (((15 + (26 * p0)) + 0).toNat) (((S0 1 (((15 + (26 * p0)) + 0).toNat)) + 1)))  p0 0 (by omega) (by omega) _) (cwV 2 hts gX8_puts_X8_of rfl rfl rfl (by decide +kernel) ⟨(Nat.le_of_ble_eq_true rfl), (Nat.le_of_ble_eq_true rfl)⟩) (z_preV hK hG hA hP hD hS [0, 1, 2, 3, 4, 5, 6, 7] rfl (by decide) 10 rfl rfl) rfl rfl hl.1 rfl (lv_room (Nat.le_of_ble_eq_true rfl)) dX8_puts_72 ⟨(Nat.le_of_ble_eq_true rfl), (Nat.le_of_ble_eq_true rfl)⟩) hA hP hD hS [0, 1, 2, 3, 4, 5, 6, 7] rfl (fun H locs hP hS => ?_)
  refine z_eqi (z2 := (S0 1 (((15 + (26 * p0)) + 0).toNat)) + 1) (show (upZ (upZ (upZ (upZ (upZ (S0 1) (((15 + (26 * p0)) + ((6 + (4 * (S0 1 (((15 + (26 * p0)) + 0).toNat)))) + 0)).toNat) p1) (((15 + (26 * p0)) + ((6 + (4 * (S0 1 (((15 + (26 * p0)) + 0).toNat)))) + 1)).toNat) p2) (((15 + (26 * p0)) + ((6 + (4 * (S0 1 (((15 + (26 * p0)) + 0).toNat)))) + 2)).toNat) p3) (((15 + (26 * p0)) + ((6 + (4 * (S0 1 (((15 + (26 * p0)) + 0).toNat)))) + 3)).toNat) p4) (((15 + (26 * p0)) + 0).toNat) (((S0 1 (((15 + (26 * p0)) + 0).toNat)) + 1))) (((15 + (26 * p0)) + 0).toNat) = (S0 1 (((15 + (26 * p0)) + 0).toNat)) + 1 from (Eq.trans upZ_s rfl)) ?_
  exact z_iret hx hb hr hlocks hP hS dX8_puts_75 rfl (congrArg (fun z => wRef k a0 (upA S0 1 z)) (show rPuts (S0 1) p0 p1 p2 p3 p4 = upZ (upZ (upZ (upZ (upZ (S0 1) (((15 + (26 * p0)) + ((6 + (4 * (S0 1 (((15 + (26 * p0)) + 0).toNat)))) + 0)).toNat) p1) (((15 + (26 * p0)) + ((6 + (4 * (S0 1 (((15 + (26 * p0)) + 0).toNat)))) + 1)).toNat) p2) (((15 + (26 * p0)) + ((6 + (4 * (S0 1 (((15 + (26 * p0)) + 0).toNat)))) + 2)).toNat) p3) (((15 + (26 * p0)) + ((6 + (4 * (S0 1 (((15 + (26 * p0)) + 0).toNat)))) + 3)).toNat) p4) (((15 + (26 * p0)) + 0).toNat) (((S0 1 (((15 + (26 * p0)) + 0).toNat)) + 1)) from rfl)) (Nat.le_refl _) (Nat.le_refl _)
set_option maxHeartbeats 4000000 in
set_option maxRecDepth 100000 in
theorem c_X8_goes (l : Launch) (D : va_G) (k : Nat → ClassId) (a0 : Nat → Nat) (S0 : Nat → Nat → Int) (p0 : Int) (h0 : 0 ≤ p0 ∧ p0 ≤ 2) (h1 : 1 ≤ S0 1 (15 + 26 * p0 + 0).toNat ∧ S0 1 (15 + 26 * p0 + 0).toNat ≤ 5) : zMv l yX8_goes wsX8_goes ({ frames := 1, cells := 0, slots := 0, locals := 23 } : Room) D k [.ref (a0 0), .int (iI p0)] (wRef k a0 S0) (wRef k a0 (upA S0 1 (rGoes (S0 1) p0))) 0 0 := by
  refine zMv_of (cc := cX8_goes) (maxL := 3) (ret := none) (by decide) rfl (Nat.le_of_ble_eq_true rfl) ?_
  intro p e s m args below meth c A ls hx hb hr hml hown hts hlocks hK hP hD hG hA hS hl
  have hown : s.vm.findClass RX8 = some m.cls := hown
  have hl : lv_has ls 3 [(0, .ref (a0 0)), (1, .int (iI p0))] := hl
  obtain ⟨H, hH⟩ : ∃ z, z = s.heap := ⟨_, rfl⟩
  obtain ⟨locs, hlc⟩ : ∃ z : List Loc, z = [] := ⟨_, rfl⟩
  rw [← hH] at hP
  have hS : va_S A s.heap H locs := by rw [hH, hlc]; exact hS
  rw [← hlc, ← hH]
  clear hlc hH
  refine lv_aload_n hx hb dX8_goes_0 rfl (lv_at hl 0 rfl) ?_
  refine lv_iload_n hx hb dX8_goes_1 rfl (lv_at hl 1 rfl) ?_
  refine lv_iconst (v := iI 0) hx hb dX8_goes_2 rfl ?_
  refine lv_aload_n hx hb dX8_goes_3 rfl (lv_at hl 0 rfl) ?_
  refine lv_iload_n hx hb dX8_goes_4 rfl (lv_at hl 1 rfl) ?_
  refine lv_iconst (v := iI 0) hx hb dX8_goes_5 rfl ?_
  refine z_ai0 (va_runV (As := [.int (iI p0), .int (iI 0)]) (rest := [.int (iI 0), .int (iI p0), .ref (a0 0)]) ⟨hx, hb, hml, hown, hts⟩ (c_X8_of l D k a0 S0  p0 0 (by omega) (by omega) _) (cwV 2 hts gX8_goes_X8_of rfl rfl rfl (by decide +kernel) ⟨(Nat.le_of_ble_eq_true rfl), (Nat.le_of_ble_eq_true rfl)⟩) (z_preV hK hG hA hP hD hS [0, 1, 2, 3, 4, 5, 6, 7] rfl (by decide) 10 rfl rfl) rfl rfl hl.1 rfl (lv_room (Nat.le_of_ble_eq_true rfl)) dX8_goes_6 ⟨(Nat.le_of_ble_eq_true rfl), (Nat.le_of_ble_eq_true rfl)⟩) hA hP hD hS [0, 1, 2, 3, 4, 5, 6, 7] rfl (fun H locs hP hS => ?_)
  refine lv_iconst (v := iI 1) hx hb dX8_goes_9 rfl ?_
  refine zi_sub hx hb dX8_goes_10 ?_
  refine z_av (va_runV (As := [.int (iI p0), .int (iI 0), .int (iI ((S0 1 (((15 + (26 * p0)) + 0).toNat)) - 1))]) (rest := []) ⟨hx, hb, hml, hown, hts⟩ (c_X8_lays l D k a0 S0  p0 0 ((S0 1 (((15 + (26 * p0)) + 0).toNat)) - 1) (by omega) (by omega) _) (cwV 3 hts gX8_goes_X8_lays rfl rfl rfl (by decide +kernel) ⟨(Nat.le_of_ble_eq_true rfl), (Nat.le_of_ble_eq_true rfl)⟩) (z_preV hK hG hA hP hD hS [0, 1, 2, 3, 4, 5, 6, 7] rfl (by decide) 10 rfl rfl) rfl rfl hl.1 rfl (lv_room (Nat.le_of_ble_eq_true rfl)) dX8_goes_11 ⟨(Nat.le_of_ble_eq_true rfl), (Nat.le_of_ble_eq_true rfl)⟩) hA hP hD hS [0, 1, 2, 3, 4, 5, 6, 7] rfl rfl (fun H locs hP hD hS => ?_)
  have hP : va_P D vwCl (wRef k a0 (up2 S0 1 (((15 + (26 * p0)) + 0).toNat) (((S0 1 (((15 + (26 * p0)) + 0).toNat)) - 1)))) H := hP
  have hD : va_D A (wRef k a0 (up2 S0 1 (((15 + (26 * p0)) + 0).toNat) (((S0 1 (((15 + (26 * p0)) + 0).toNat)) - 1)))) := hD
  refine lv_bipush (v := iI 6) hx hb dX8_goes_14 (by decide) ?_
  refine lv_istore_n (lv' := [(2, .int (iI 6)), (0, .ref (a0 0)), (1, .int (iI p0))]) hx hb dX8_goes_16 rfl hl (by decide) rfl (fun ls hl => ?_)
  have lp17_0 : ∀ (n : Nat) (x2 : Int) (F1 : Nat → Int), (30 - x2).toNat < n → (6 ≤ x2) → (x2 ≤ 6 + 4 * (S0 1 (15 + 26 * p0 + 0).toNat - 1)) → (F1 = shf (upZ (S0 1) (15 + 26 * p0 + 0).toNat (S0 1 (15 + 26 * p0 + 0).toNat - 1)) (15 + 26 * p0 + 6).toNat (15 + 26 * p0 + x2).toNat 4) → ∀ (H : Heap) (locs : List Loc) (ls : Array Slot), va_P D vwCl (wRef k a0 (upA (up2 S0 1 (((15 + (26 * p0)) + 0).toNat) (((S0 1 (((15 + (26 * p0)) + 0).toNat)) - 1))) 1 F1)) H → va_D A (wRef k a0 (upA (up2 S0 1 (((15 + (26 * p0)) + 0).toNat) (((S0 1 (((15 + (26 * p0)) + 0).toNat)) - 1))) 1 F1)) → va_S A s.heap H locs → lv_has ls 3 [(2, .int (iI x2)), (0, .ref (a0 0)), (1, .int (iI p0))] → W p l e ({ frames := 1, cells := 0, slots := 0, locals := 23 } : Room) s m args below meth c H locs 0 0 (MQ below (zQv D A (wRef k a0 (upA S0 1 (rGoes (S0 1) p0)))) args s 0 0 A) (F0 m 17 ls []) := by
    intro n17
    induction n17 with
    | zero => intro x2 F1 hm; exact absurd hm (Nat.not_lt_zero _)
    | succ n17 ih17 =>
      intro x2 F1 hm17 i0 i1 iF  H locs ls hP hD hS hl
      have g0 : F1 (15 + 26 * p0 + 0).toNat = S0 1 (15 + 26 * p0 + 0).toNat - 1 := by rw [iF, shf_out (by omega)]; exact upZ_s
      refine lv_iload_n hx hb dX8_goes_17 rfl (lv_at hl 0 rfl) ?_
      refine lv_bipush (v := iI 6) hx hb dX8_goes_18 (by decide) ?_
      refine lv_iconst (v := iI 4) hx hb dX8_goes_20 rfl ?_
      refine lv_aload_n hx hb dX8_goes_21 rfl (lv_at hl 1 rfl) ?_
      refine lv_iload_n hx hb dX8_goes_22 rfl (lv_at hl 2 rfl) ?_
      refine lv_iconst (v := iI 0) hx hb dX8_goes_23 rfl ?_
      refine z_ai0 (va_runV (As := [.int (iI p0), .int (iI 0)]) (rest := [.int (iI 4), .int (iI 6), .int (iI x2)]) ⟨hx, hb, hml, hown, hts⟩ (c_X8_of l D k a0 (upA (up2 S0 1 (((15 + (26 * p0)) + 0).toNat) (((S0 1 (((15 + (26 * p0)) + 0).toNat)) - 1))) 1 F1)  p0 0 (by omega) (by omega) _) (cwV 2 hts gX8_goes_X8_of rfl rfl rfl (by decide +kernel) ⟨(Nat.le_of_ble_eq_true rfl), (Nat.le_of_ble_eq_true rfl)⟩) (z_preV hK hG hA hP hD hS [0, 1, 2, 3, 4, 5, 6, 7] rfl (by decide) 10 rfl rfl) rfl rfl hl.1 rfl (lv_room (Nat.le_of_ble_eq_true rfl)) dX8_goes_24 ⟨(Nat.le_of_ble_eq_true rfl), (Nat.le_of_ble_eq_true rfl)⟩) hA hP hD hS [0, 1, 2, 3, 4, 5, 6, 7] rfl (fun H locs hP hS => ?_)
      refine z_eqi (z2 := F1 (((15 + (26 * p0)) + 0).toNat)) rfl ?_
      refine zi_mul hx hb dX8_goes_27 ?_
      refine zi_add hx hb dX8_goes_28 ?_
      refine zi_icmp_ge (tgt := 52) hx hb dX8_goes_29 (by decide) ⟨by omega, by omega⟩ ⟨by omega, by omega⟩ (fun c_1 => ?_) (fun c_1 => ?_)
      · have v_2 : F1 = shf (upZ (S0 1) (15 + 26 * p0 + 0).toNat (S0 1 (15 + 26 * p0 + 0).toNat - 1)) (15 + 26 * p0 + 6).toNat (15 + 26 * p0 + (6 + 4 * (S0 1 (15 + 26 * p0 + 0).toNat - 1))).toNat 4 := (by rw [iF, show x2 = 6 + 4 * (S0 1 (15 + 26 * p0 + 0).toNat - 1) by omega])
        rw [v_2] at hP hD
        have v_3 : x2 = 6 + 4 * (S0 1 (15 + 26 * p0 + 0).toNat - 1) := (by omega)
        rw [v_3] at hl
        refine lv_iconst (v := iI 0) hx hb dX8_goes_52 rfl ?_
        refine lv_istore_n (lv' := [(2, .int (iI 0)), (0, .ref (a0 0)), (1, .int (iI p0))]) hx hb dX8_goes_53 rfl hl (by decide) rfl (fun ls hl => ?_)
        have lp54_0 : ∀ (n : Nat) (y2 : Int) (F2 : Nat → Int), (4 - y2).toNat < n → (0 ≤ y2) → (y2 ≤ 4) → (F2 = zer (shf (upZ (S0 1) (15 + 26 * p0 + 0).toNat (S0 1 (15 + 26 * p0 + 0).toNat - 1)) (15 + 26 * p0 + 6).toNat (15 + 26 * p0 + (6 + 4 * (S0 1 (15 + 26 * p0 + 0).toNat - 1))).toNat 4) (15 + 26 * p0 + (6 + 4 * (S0 1 (15 + 26 * p0 + 0).toNat - 1))).toNat (15 + 26 * p0 + (6 + 4 * (S0 1 (15 + 26 * p0 + 0).toNat - 1) + y2)).toNat) → ∀ (H : Heap) (locs : List Loc) (ls : Array Slot), va_P D vwCl (wRef k a0 (upA (upA (up2 S0 1 (((15 + (26 * p0)) + 0).toNat) (((S0 1 (((15 + (26 * p0)) + 0).toNat)) - 1))) 1 (shf (upZ (S0 1) (15 + 26 * p0 + 0).toNat (S0 1 (15 + 26 * p0 + 0).toNat - 1)) (15 + 26 * p0 + 6).toNat (15 + 26 * p0 + (6 + 4 * (S0 1 (15 + 26 * p0 + 0).toNat - 1))).toNat 4)) 1 F2)) H → va_D A (wRef k a0 (upA (upA (up2 S0 1 (((15 + (26 * p0)) + 0).toNat) (((S0 1 (((15 + (26 * p0)) + 0).toNat)) - 1))) 1 (shf (upZ (S0 1) (15 + 26 * p0 + 0).toNat (S0 1 (15 + 26 * p0 + 0).toNat - 1)) (15 + 26 * p0 + 6).toNat (15 + 26 * p0 + (6 + 4 * (S0 1 (15 + 26 * p0 + 0).toNat - 1))).toNat 4)) 1 F2)) → va_S A s.heap H locs → lv_has ls 3 [(2, .int (iI y2)), (0, .ref (a0 0)), (1, .int (iI p0))] → W p l e ({ frames := 1, cells := 0, slots := 0, locals := 23 } : Room) s m args below meth c H locs 0 0 (MQ below (zQv D A (wRef k a0 (upA S0 1 (rGoes (S0 1) p0)))) args s 0 0 A) (F0 m 54 ls []) := by
          intro n54
          induction n54 with
          | zero => intro y2 F2 hm; exact absurd hm (Nat.not_lt_zero _)
          | succ n54 ih54 =>
            intro y2 F2 hm54 j0 j1 jF  H locs ls hP hD hS hl
            have g1 : F2 (15 + 26 * p0 + 0).toNat = S0 1 (15 + 26 * p0 + 0).toNat - 1 := by rw [jF, zer_out (by omega), shf_out (by omega)]; exact upZ_s
            refine lv_iload_n hx hb dX8_goes_54 rfl (lv_at hl 0 rfl) ?_
            refine lv_iconst (v := iI 4) hx hb dX8_goes_55 rfl ?_
            refine zi_icmp_ge (tgt := 84) hx hb dX8_goes_56 (by decide) ⟨by omega, by omega⟩ ⟨by omega, by omega⟩ (fun c_4 => ?_) (fun c_4 => ?_)
            · have v_5 : F2 = rGoes (S0 1) p0 := (by rw [jF, show y2 = 4 by omega]; rfl)
              rw [v_5] at hP hD
              exact z_vret hx hb hr hlocks hP hS dX8_goes_84 (congrArg (fun z => wRef k a0 (upA S0 1 z)) (show rGoes (S0 1) p0 = rGoes (S0 1) p0 from rfl)) (Nat.le_refl _) (Nat.le_refl _)
            · refine lv_aload_n hx hb dX8_goes_59 rfl (lv_at hl 1 rfl) ?_
              refine lv_iload_n hx hb dX8_goes_60 rfl (lv_at hl 2 rfl) ?_
              refine lv_bipush (v := iI 6) hx hb dX8_goes_61 (by decide) ?_
              refine lv_iconst (v := iI 4) hx hb dX8_goes_63 rfl ?_
              refine lv_aload_n hx hb dX8_goes_64 rfl (lv_at hl 1 rfl) ?_
              refine lv_iload_n hx hb dX8_goes_65 rfl (lv_at hl 2 rfl) ?_
              refine lv_iconst (v := iI 0) hx hb dX8_goes_66 rfl ?_
              refine z_ai0 (va_runV (As := [.int (iI p0), .int (iI 0)]) (rest := [.int (iI 4), .int (iI 6), .int (iI p0), .ref (a0 0)]) ⟨hx, hb, hml, hown, hts⟩ (c_X8_of l D k a0 (upA (upA (up2 S0 1 (((15 + (26 * p0)) + 0).toNat) (((S0 1 (((15 + (26 * p0)) + 0).toNat)) - 1))) 1 (shf (upZ (S0 1) (15 + 26 * p0 + 0).toNat (S0 1 (15 + 26 * p0 + 0).toNat - 1)) (15 + 26 * p0 + 6).toNat (15 + 26 * p0 + (6 + 4 * (S0 1 (15 + 26 * p0 + 0).toNat - 1))).toNat 4)) 1 F2)  p0 0 (by omega) (by omega) _) (cwV 2 hts gX8_goes_X8_of rfl rfl rfl (by decide +kernel) ⟨(Nat.le_of_ble_eq_true rfl), (Nat.le_of_ble_eq_true rfl)⟩) (z_preV hK hG hA hP hD hS [0, 1, 2, 3, 4, 5, 6, 7] rfl (by decide) 10 rfl rfl) rfl rfl hl.1 rfl (lv_room (Nat.le_of_ble_eq_true rfl)) dX8_goes_67 ⟨(Nat.le_of_ble_eq_true rfl), (Nat.le_of_ble_eq_true rfl)⟩) hA hP hD hS [0, 1, 2, 3, 4, 5, 6, 7] rfl (fun H locs hP hS => ?_)
              refine z_eqi (z2 := F2 (((15 + (26 * p0)) + 0).toNat)) rfl ?_
              refine zi_mul hx hb dX8_goes_70 ?_
              refine zi_add hx hb dX8_goes_71 ?_
              refine lv_iload_n hx hb dX8_goes_72 rfl (lv_at hl 0 rfl) ?_
              refine zi_add hx hb dX8_goes_73 ?_
              refine lv_iconst (v := iI 0) hx hb dX8_goes_74 rfl ?_
              refine z_av (va_runV (As := [.int (iI p0), .int (iI ((6 + (4 * (F2 (((15 + (26 * p0)) + 0).toNat)))) + y2)), .int (iI 0)]) (rest := []) ⟨hx, hb, hml, hown, hts⟩ (c_X8_lays l D k a0 (upA (upA (up2 S0 1 (((15 + (26 * p0)) + 0).toNat) (((S0 1 (((15 + (26 * p0)) + 0).toNat)) - 1))) 1 (shf (upZ (S0 1) (15 + 26 * p0 + 0).toNat (S0 1 (15 + 26 * p0 + 0).toNat - 1)) (15 + 26 * p0 + 6).toNat (15 + 26 * p0 + (6 + 4 * (S0 1 (15 + 26 * p0 + 0).toNat - 1))).toNat 4)) 1 F2)  p0 ((6 + (4 * (F2 (((15 + (26 * p0)) + 0).toNat)))) + y2) 0 (by omega) (by omega) _) (cwV 3 hts gX8_goes_X8_lays rfl rfl rfl (by decide +kernel) ⟨(Nat.le_of_ble_eq_true rfl), (Nat.le_of_ble_eq_true rfl)⟩) (z_preV hK hG hA hP hD hS [0, 1, 2, 3, 4, 5, 6, 7] rfl (by decide) 10 rfl rfl) rfl rfl hl.1 rfl (lv_room (Nat.le_of_ble_eq_true rfl)) dX8_goes_75 ⟨(Nat.le_of_ble_eq_true rfl), (Nat.le_of_ble_eq_true rfl)⟩) hA hP hD hS [0, 1, 2, 3, 4, 5, 6, 7] rfl rfl (fun H locs hP hD hS => ?_)
              have hP : va_P D vwCl (wRef k a0 (up2 (upA (upA (up2 S0 1 (((15 + (26 * p0)) + 0).toNat) (((S0 1 (((15 + (26 * p0)) + 0).toNat)) - 1))) 1 (shf (upZ (S0 1) (15 + 26 * p0 + 0).toNat (S0 1 (15 + 26 * p0 + 0).toNat - 1)) (15 + 26 * p0 + 6).toNat (15 + 26 * p0 + (6 + 4 * (S0 1 (15 + 26 * p0 + 0).toNat - 1))).toNat 4)) 1 F2) 1 (((15 + (26 * p0)) + ((6 + (4 * (F2 (((15 + (26 * p0)) + 0).toNat)))) + y2)).toNat) 0)) H := hP
              have hD : va_D A (wRef k a0 (up2 (upA (upA (up2 S0 1 (((15 + (26 * p0)) + 0).toNat) (((S0 1 (((15 + (26 * p0)) + 0).toNat)) - 1))) 1 (shf (upZ (S0 1) (15 + 26 * p0 + 0).toNat (S0 1 (15 + 26 * p0 + 0).toNat - 1)) (15 + 26 * p0 + 6).toNat (15 + 26 * p0 + (6 + 4 * (S0 1 (15 + 26 * p0 + 0).toNat - 1))).toNat 4)) 1 F2) 1 (((15 + (26 * p0)) + ((6 + (4 * (F2 (((15 + (26 * p0)) + 0).toNat)))) + y2)).toNat) 0)) := hD
              refine lv_iinc (v := iI (y2 + 1)) (lv' := [(2, .int (iI (y2 + 1))), (0, .ref (a0 0)), (1, .int (iI p0))]) hx hb dX8_goes_78 hl (k := 0) rfl (iI_add _ _) (by decide) rfl (fun ls hl => ?_)
              refine lv_goto (tgt := 54) hx hb dX8_goes_81 (by decide) ?_
              exact ih54 (y2 + 1) (upZ F2 (((15 + (26 * p0)) + ((6 + (4 * (F2 (((15 + (26 * p0)) + 0).toNat)))) + y2)).toNat) 0) (by omega) (by omega) (by omega) (by rw [g1, jF]; exact goes_s2 h0 (by omega) j0)  H locs ls hP hD hS (lv_sub hl [0, 1, 2] rfl)
        exact lp54_0 5 0 (shf (upZ (S0 1) (15 + 26 * p0 + 0).toNat (S0 1 (15 + 26 * p0 + 0).toNat - 1)) (15 + 26 * p0 + 6).toNat (15 + 26 * p0 + (6 + 4 * (S0 1 (15 + 26 * p0 + 0).toNat - 1))).toNat 4) (by omega) (by omega) (by omega) (zer_0 (by omega)).symm  H locs ls hP hD hS (lv_sub hl [0, 1, 2] rfl)
      · refine lv_aload_n hx hb dX8_goes_32 rfl (lv_at hl 1 rfl) ?_
        refine lv_iload_n hx hb dX8_goes_33 rfl (lv_at hl 2 rfl) ?_
        refine lv_iload_n hx hb dX8_goes_34 rfl (lv_at hl 0 rfl) ?_
        refine lv_aload_n hx hb dX8_goes_35 rfl (lv_at hl 1 rfl) ?_
        refine lv_iload_n hx hb dX8_goes_36 rfl (lv_at hl 2 rfl) ?_
        refine lv_iload_n hx hb dX8_goes_37 rfl (lv_at hl 0 rfl) ?_
        refine lv_iconst (v := iI 4) hx hb dX8_goes_38 rfl ?_
        refine zi_add hx hb dX8_goes_39 ?_
        refine z_ai0 (va_runV (As := [.int (iI p0), .int (iI (x2 + 4))]) (rest := [.int (iI x2), .int (iI p0), .ref (a0 0)]) ⟨hx, hb, hml, hown, hts⟩ (c_X8_of l D k a0 (upA (up2 S0 1 (((15 + (26 * p0)) + 0).toNat) (((S0 1 (((15 + (26 * p0)) + 0).toNat)) - 1))) 1 F1)  p0 (x2 + 4) (by omega) (by omega) _) (cwV 2 hts gX8_goes_X8_of rfl rfl rfl (by decide +kernel) ⟨(Nat.le_of_ble_eq_true rfl), (Nat.le_of_ble_eq_true rfl)⟩) (z_preV hK hG hA hP hD hS [0, 1, 2, 3, 4, 5, 6, 7] rfl (by decide) 10 rfl rfl) rfl rfl hl.1 rfl (lv_room (Nat.le_of_ble_eq_true rfl)) dX8_goes_40 ⟨(Nat.le_of_ble_eq_true rfl), (Nat.le_of_ble_eq_true rfl)⟩) hA hP hD hS [0, 1, 2, 3, 4, 5, 6, 7] rfl (fun H locs hP hS => ?_)
        refine z_eqi (z2 := F1 (((15 + (26 * p0)) + (x2 + 4)).toNat)) rfl ?_
        refine z_av (va_runV (As := [.int (iI p0), .int (iI x2), .int (iI (F1 (((15 + (26 * p0)) + (x2 + 4)).toNat)))]) (rest := []) ⟨hx, hb, hml, hown, hts⟩ (c_X8_lays l D k a0 (upA (up2 S0 1 (((15 + (26 * p0)) + 0).toNat) (((S0 1 (((15 + (26 * p0)) + 0).toNat)) - 1))) 1 F1)  p0 x2 (F1 (((15 + (26 * p0)) + (x2 + 4)).toNat)) (by omega) (by omega) _) (cwV 3 hts gX8_goes_X8_lays rfl rfl rfl (by decide +kernel) ⟨(Nat.le_of_ble_eq_true rfl), (Nat.le_of_ble_eq_true rfl)⟩) (z_preV hK hG hA hP hD hS [0, 1, 2, 3, 4, 5, 6, 7] rfl (by decide) 10 rfl rfl) rfl rfl hl.1 rfl (lv_room (Nat.le_of_ble_eq_true rfl)) dX8_goes_43 ⟨(Nat.le_of_ble_eq_true rfl), (Nat.le_of_ble_eq_true rfl)⟩) hA hP hD hS [0, 1, 2, 3, 4, 5, 6, 7] rfl rfl (fun H locs hP hD hS => ?_)
        have hP : va_P D vwCl (wRef k a0 (up2 (upA (up2 S0 1 (((15 + (26 * p0)) + 0).toNat) (((S0 1 (((15 + (26 * p0)) + 0).toNat)) - 1))) 1 F1) 1 (((15 + (26 * p0)) + x2).toNat) ((F1 (((15 + (26 * p0)) + (x2 + 4)).toNat))))) H := hP
        have hD : va_D A (wRef k a0 (up2 (upA (up2 S0 1 (((15 + (26 * p0)) + 0).toNat) (((S0 1 (((15 + (26 * p0)) + 0).toNat)) - 1))) 1 F1) 1 (((15 + (26 * p0)) + x2).toNat) ((F1 (((15 + (26 * p0)) + (x2 + 4)).toNat))))) := hD
        refine lv_iinc (v := iI (x2 + 1)) (lv' := [(2, .int (iI (x2 + 1))), (0, .ref (a0 0)), (1, .int (iI p0))]) hx hb dX8_goes_46 hl (k := 0) rfl (iI_add _ _) (by decide) rfl (fun ls hl => ?_)
        refine lv_goto (tgt := 17) hx hb dX8_goes_49 (by decide) ?_
        exact ih17 (x2 + 1) (upZ F1 (((15 + (26 * p0)) + x2).toNat) ((F1 (((15 + (26 * p0)) + (x2 + 4)).toNat)))) (by omega) (by omega) (by omega) (by rw [iF]; exact goes_s1 h0 i0)  H locs ls hP hD hS (lv_sub hl [0, 1, 2] rfl)
  exact lp17_0 31 6 (upZ (S0 1) (((15 + (26 * p0)) + 0).toNat) (((S0 1 (((15 + (26 * p0)) + 0).toNat)) - 1))) (by omega) (by omega) (by omega) (shf_0 (by omega)).symm  H locs ls hP hD hS (lv_sub hl [0, 1, 2] rfl)
set_option maxHeartbeats 4000000 in
set_option maxRecDepth 100000 in
theorem c_X8_copies (l : Launch) (D : va_G) (k : Nat → ClassId) (a0 : Nat → Nat) (S0 : Nat → Nat → Int) (a1 : Nat → Nat) (S1 : Nat → Nat → Int) (n0 : Nat) (n1 : Nat) (p1 : Int) (p3 : Int) (h0 : 0 ≤ p1 ∧ p1 + 125 ≤ (n0 : Int)) (h1 : 0 ≤ p3 ∧ p3 + 125 ≤ (n1 : Int)) (h2 : n0 ≤ 100000 ∧ n1 ≤ 100000) : zMv l yX8_copies wsX8_copies ({ frames := 0, cells := 0, slots := 0, locals := 0 } : Room) D k [.ref (a0 0), .int (iI p1), .ref (a1 0), .int (iI p3)] (wArrI k n0 a0 S0 ++ wArrI k n1 a1 S1) (wArrI k n0 a0 S0 ++ wArrI k n1 a1 (upA S1 0 (cpyZ (S0 0) (S1 0) p1.toNat p3.toNat 125))) 0 0 := by
  refine zMv_of (cc := cX8_copies) (maxL := 5) (ret := none) (by decide) rfl (Nat.le_of_ble_eq_true rfl) ?_
  intro p e s m args below meth c A ls hx hb hr hml hown hts hlocks hK hP hD hG hA hS hl
  have hown : s.vm.findClass RX8 = some m.cls := hown
  have hl : lv_has ls 5 [(0, .ref (a0 0)), (1, .int (iI p1)), (2, .ref (a1 0)), (3, .int (iI p3))] := hl
  obtain ⟨H, hH⟩ : ∃ z, z = s.heap := ⟨_, rfl⟩
  obtain ⟨locs, hlc⟩ : ∃ z : List Loc, z = [] := ⟨_, rfl⟩
  rw [← hH] at hP
  have hS : va_S A s.heap H locs := by rw [hH, hlc]; exact hS
  rw [← hlc, ← hH]
  clear hlc hH
  refine lv_iconst (v := iI 0) hx hb dX8_copies_0 rfl ?_
  refine lv_istore (lv' := [(4, .int (iI 0)), (0, .ref (a0 0)), (1, .int (iI p1)), (2, .ref (a1 0)), (3, .int (iI p3))]) hx hb dX8_copies_1 hl (by decide) rfl (fun ls hl => ?_)
  have lp3_0 : ∀ (n : Nat) (x4 : Int) (F1 : Nat → Int), (125 - x4).toNat < n → (0 ≤ x4) → (x4 ≤ 125) → (F1 = cpyZ (S0 0) (S1 0) p1.toNat p3.toNat x4.toNat) → ∀ (H : Heap) (locs : List Loc) (ls : Array Slot), va_P D vwCl (wArrI k n0 a0 S0 ++ wArrI k n1 a1 (upA S1 0 F1)) H → va_D A (wArrI k n0 a0 S0 ++ wArrI k n1 a1 (upA S1 0 F1)) → va_S A s.heap H locs → lv_has ls 5 [(4, .int (iI x4)), (0, .ref (a0 0)), (1, .int (iI p1)), (2, .ref (a1 0)), (3, .int (iI p3))] → W p l e ({ frames := 0, cells := 0, slots := 0, locals := 0 } : Room) s m args below meth c H locs 0 0 (MQ below (zQv D A (wArrI k n0 a0 S0 ++ wArrI k n1 a1 (upA S1 0 (cpyZ (S0 0) (S1 0) p1.toNat p3.toNat 125)))) args s 0 0 A) (F0 m 3 ls []) := by
    intro n3
    induction n3 with
    | zero => intro x4 F1 hm; exact absurd hm (Nat.not_lt_zero _)
    | succ n3 ih3 =>
      intro x4 F1 hm3 i0 i1 iF  H locs ls hP hD hS hl
      refine lv_iload hx hb dX8_copies_3 (lv_at hl 0 rfl) ?_
      refine lv_bipush (v := iI 125) hx hb dX8_copies_5 (by decide) ?_
      refine zi_icmp_ge (tgt := 28) hx hb dX8_copies_7 (by decide) ⟨by omega, by omega⟩ ⟨by omega, by omega⟩ (fun c_1 => ?_) (fun c_1 => ?_)
      · have v_2 : F1 = cpyZ (S0 0) (S1 0) p1.toNat p3.toNat 125 := (by rw [iF, show x4 = 125 by omega]; rfl)
        rw [v_2] at hP hD
        exact z_vret hx hb hr hlocks hP hS dX8_copies_28 (congrArg (fun z => wArrI k n0 a0 S0 ++ wArrI k n1 a1 (upA S1 0 z)) (show cpyZ (S0 0) (S1 0) p1.toNat p3.toNat 125 = cpyZ (S0 0) (S1 0) p1.toNat p3.toNat 125 from rfl)) (Nat.le_refl _) (Nat.le_refl _)
      · refine lv_aload_n hx hb dX8_copies_10 rfl (lv_at hl 3 rfl) ?_
        refine lv_iload_n hx hb dX8_copies_11 rfl (lv_at hl 4 rfl) ?_
        refine lv_iload hx hb dX8_copies_12 (lv_at hl 0 rfl) ?_
        refine zi_add hx hb dX8_copies_14 ?_
        refine lv_aload_n hx hb dX8_copies_15 rfl (lv_at hl 1 rfl) ?_
        refine lv_iload_n hx hb dX8_copies_16 rfl (lv_at hl 2 rfl) ?_
        refine lv_iload hx hb dX8_copies_17 (lv_at hl 0 rfl) ?_
        refine zi_add hx hb dX8_copies_19 ?_
        refine z_iald hx hb hK hP 0 0 (f := S0 0) rfl rfl (i := p1 + x4) (by omega) (by omega) (by omega) ((p1 + x4).toNat) rfl dX8_copies_20 ?_
        refine z_iast hx hb hK hP hD hS 1 0 (f := F1) rfl rfl (i := p3 + x4) (by omega) (by omega) (by omega) ((p3 + x4).toNat) rfl dX8_copies_21 (fun H locs hP hD hS => ?_)
        have hP : va_P D vwCl (wArrI k n0 a0 S0 ++ wArrI k n1 a1 (up2 (upA S1 0 F1) 0 ((p3 + x4).toNat) (S0 0 ((p1 + x4).toNat)))) H := hP
        have hD : va_D A (wArrI k n0 a0 S0 ++ wArrI k n1 a1 (up2 (upA S1 0 F1) 0 ((p3 + x4).toNat) (S0 0 ((p1 + x4).toNat)))) := hD
        refine lv_iinc (v := iI (x4 + 1)) (lv' := [(4, .int (iI (x4 + 1))), (0, .ref (a0 0)), (1, .int (iI p1)), (2, .ref (a1 0)), (3, .int (iI p3))]) hx hb dX8_copies_22 hl (k := 0) rfl (iI_add _ _) (by decide) rfl (fun ls hl => ?_)
        refine lv_goto (tgt := 3) hx hb dX8_copies_25 (by decide) ?_
        exact ih3 (x4 + 1) (upZ F1 ((p3 + x4).toNat) (S0 0 ((p1 + x4).toNat))) (by omega) (by omega) (by omega) (by rw [iF]; exact copies_s h0.1 h1.1 i0)  H locs ls hP hD hS (lv_sub hl [0, 1, 2, 3, 4] rfl)
  exact lp3_0 126 0 (S1 0) (by omega) (by omega) (by omega) cpyZ_0.symm  H locs ls hP hD hS (lv_sub hl [0, 1, 2, 3, 4] rfl)
noncomputable def sS0_0_X8_keeps (S0 : Nat → Nat → Int) (b : Nat) : (Nat → Int) := zif (b = 0)
  (zif ((S0 0 6) = 0)
    (zif ((S0 0 5) = 8)
      (upZ (upZ (upZ (S0 0) 8 0) 5 ((S0 0 5) - 1)) 5 (((S0 0 5) - 1) + 1))
      (upZ (upZ (S0 0) 8 0) 5 ((S0 0 5) + 1)))
    (upZ (S0 0) 8 0))
  (zif ((S0 0 6) = 0)
    (zif ((S0 0 5) = 8)
      (upZ (upZ (upZ (S0 0) 8 0) 5 ((S0 0 5) - 1)) 5 (((S0 0 5) - 1) + 1))
      (upZ (upZ (S0 0) 8 0) 5 ((S0 0 5) + 1)))
    (upZ (S0 0) 8 0))
noncomputable def sS0_2_X8_keeps (S0 : Nat → Nat → Int) (b : Nat) : (Nat → Int) := zif (b = 0)
  (zif ((S0 0 6) = 0)
    (zif ((S0 0 5) = 8)
      (cpyZ (S0 1) ((shf (S0 2) 0 875 125)) 0 (125 * ((S0 0 5) - 1)).toNat 125)
      (cpyZ (S0 1) (S0 2) 0 (125 * (S0 0 5)).toNat 125))
    (S0 2))
  (zif ((S0 0 6) = 0)
    (zif ((S0 0 5) = 8)
      (cpyZ (S0 4) ((shf (S0 2) 0 875 125)) 0 (125 * ((S0 0 5) - 1)).toNat 125)
      (cpyZ (S0 4) (S0 2) 0 (125 * (S0 0 5)).toNat 125))
    (S0 2))
set_option maxHeartbeats 4000000 in
set_option maxRecDepth 100000 in
theorem c_X8_keeps (l : Launch) (D : va_G) (k : Nat → ClassId) (a0 : Nat → Nat) (S0 : Nat → Nat → Int) (b : Nat) (hbb : b < 2) (h0 : 0 ≤ S0 0 5 ∧ S0 0 5 ≤ 8) (hw : S0 0 6 = 0 ∨ S0 0 6 = 1) : zMv l yX8_keeps wsX8_keeps ({ frames := 1, cells := 0, slots := 0, locals := 24 } : Room) D k [.ref (a0 0), .ref (a0 (1 + 3 * b))] (wRef k a0 S0) (wRef k a0 (upA (upA S0 0 (sS0_0_X8_keeps S0 b)) 2 (sS0_2_X8_keeps S0 b))) 0 0 := by
  refine zMv_of (cc := cX8_keeps) (maxL := 3) (ret := none) (by decide) rfl (Nat.le_of_ble_eq_true rfl) ?_
  intro p e s m args below meth c A ls hx hb hr hml hown hts hlocks hK hP hD hG hA hS hl
  have hown : s.vm.findClass RX8 = some m.cls := hown
  have hl : lv_has ls 3 [(0, .ref (a0 0)), (1, .ref (a0 (1 + 3 * b)))] := hl
  obtain ⟨H, hH⟩ : ∃ z, z = s.heap := ⟨_, rfl⟩
  obtain ⟨locs, hlc⟩ : ∃ z : List Loc, z = [] := ⟨_, rfl⟩
  rw [← hH] at hP
  have hS : va_S A s.heap H locs := by rw [hH, hlc]; exact hS
  rw [← hlc, ← hH]
  clear hlc hH
  rcases (show b = 0 ∨ b = 1 by omega) with rfl | rfl
  · have z_1 : ((0 : Nat) = 0) := rfl
    refine lv_aload_n hx hb dX8_keeps_0 rfl (lv_at hl 0 rfl) ?_
    refine lv_iconst (v := iI 0) hx hb dX8_keeps_1 rfl ?_
    refine va_put (D := D) (ci := 10) (v := .int (iI 0)) (ty := .int) (C := RX8) (T := TX8) (N := 19) hx hb hts (fun w h => List.mem_cons_of_mem _ (List.mem_append_left _ (List.mem_append_right _ h))) tyX8 tyX8_ok nmX8 hown hK hP hD hS 0 rfl rfl 8 (by decide) (hts (.fieldLink RX8 40 "MondayFactoryModel" "code" "I") (List.mem_of_getElem? (i := 1) rfl)) (fun _ h9 => h9) rfl (by decide +kernel) rfl rfl (Nat.le_of_ble_eq_true rfl) dX8_keeps_2 (fun H locs hP hD hS => ?_)
    have hP : va_P D vwCl (wRef k a0 (up2 S0 0 8 0)) H := hP
    have hD : va_D A (wRef k a0 (up2 S0 0 8 0)) := hD
    refine lv_aload_n hx hb dX8_keeps_5 rfl (lv_at hl 0 rfl) ?_
    refine va_get (D := D) (ci := 10) (v := .int (iI (S0 0 6))) (C := RX8) (T := TX8) (N := 19) hx hb hts (fun w h => List.mem_cons_of_mem _ (List.mem_append_left _ (List.mem_append_right _ h))) hown hK hP 0 rfl rfl 6 (by decide) (hts (.fieldLink RX8 53 "MondayFactoryModel" "isWithin" "Z") (List.mem_of_getElem? (i := 2) rfl)) (fun _ h9 => h9) rfl dX8_keeps_6 ?_
    refine zi_if_eq (tgt := 13) hx hb dX8_keeps_9 (by decide) ⟨by omega, by omega⟩ (fun c_2 => ?_) (fun c_2 => ?_)
    · refine lv_aload_n hx hb dX8_keeps_13 rfl (lv_at hl 0 rfl) ?_
      refine va_get (D := D) (ci := 10) (v := .int (iI (S0 0 5))) (C := RX8) (T := TX8) (N := 19) hx hb hts (fun w h => List.mem_cons_of_mem _ (List.mem_append_left _ (List.mem_append_right _ h))) hown hK hP 0 rfl rfl 5 (by decide) (hts (.fieldLink RX8 56 "MondayFactoryModel" "changes" "I") (List.mem_of_getElem? (i := 3) rfl)) (fun _ h9 => h9) rfl dX8_keeps_14 ?_
      refine lv_bipush (v := iI 8) hx hb dX8_keeps_17 (by decide) ?_
      refine zi_icmp_ne (tgt := 62) hx hb dX8_keeps_19 (by decide) ⟨by omega, by omega⟩ ⟨by omega, by omega⟩ (fun c_3 => ?_) (fun c_3 => ?_)
      · refine lv_aload_n hx hb dX8_keeps_62 rfl (lv_at hl 1 rfl) ?_
        refine lv_iconst (v := iI 0) hx hb dX8_keeps_63 rfl ?_
        refine lv_aload_n hx hb dX8_keeps_64 rfl (lv_at hl 0 rfl) ?_
        refine va_get (D := D) (ci := 10) (v := .ref (a0 2)) (C := RX8) (T := TX8) (N := 19) hx hb hts (fun w h => List.mem_cons_of_mem _ (List.mem_append_left _ (List.mem_append_right _ h))) hown hK hP 0 rfl rfl 1 (by decide) (hts (.fieldLink RX8 13 "MondayFactoryModel" "kept" "[I") (List.mem_of_getElem? (i := 4) rfl)) (fun _ h9 => h9) rfl dX8_keeps_65 ?_
        refine lv_bipush (v := iI 125) hx hb dX8_keeps_68 (by decide) ?_
        refine lv_aload_n hx hb dX8_keeps_70 rfl (lv_at hl 0 rfl) ?_
        refine va_get (D := D) (ci := 10) (v := .int (iI (S0 0 5))) (C := RX8) (T := TX8) (N := 19) hx hb hts (fun w h => List.mem_cons_of_mem _ (List.mem_append_left _ (List.mem_append_right _ h))) hown hK hP 0 rfl rfl 5 (by decide) (hts (.fieldLink RX8 56 "MondayFactoryModel" "changes" "I") (List.mem_of_getElem? (i := 3) rfl)) (fun _ h9 => h9) rfl dX8_keeps_71 ?_
        refine zi_mul hx hb dX8_keeps_74 ?_
        refine z_av (va_runS (As := [.ref (a0 1), .int (iI 0), .ref (a0 2), .int (iI (125 * (S0 0 5)))]) (rest := []) ⟨hx, hb, hml, hown, hts⟩ (c_X8_copies l D k (subA a0 1) (sub2 (up2 S0 0 8 0) 1) (subA a0 2) (sub2 (up2 S0 0 8 0) 2) 125 1000 0 (125 * (S0 0 5)) (by omega) (by omega) (by omega) _) (va_cwS 4 hts gX8_keeps_X8_copies rfl rfl rfl (by decide +kernel) ⟨(Nat.le_of_ble_eq_true rfl), (Nat.le_of_ble_eq_true rfl)⟩) (z_preS hK hG hA hP hD hS [1, 2] rfl (by decide)) rfl rfl hl.1 rfl (lv_room (Nat.le_of_ble_eq_true rfl)) dX8_keeps_75 ⟨(Nat.le_of_ble_eq_true rfl), (Nat.le_of_ble_eq_true rfl)⟩) hA hP hD hS [1, 2] rfl rfl (fun H locs hP hD hS => ?_)
        have hP : va_P D vwCl (wRef k a0 (upA (up2 S0 0 8 0) 2 (cpyZ (S0 1) (S0 2) 0 (125 * (S0 0 5)).toNat 125))) H := hP
        have hD : va_D A (wRef k a0 (upA (up2 S0 0 8 0) 2 (cpyZ (S0 1) (S0 2) 0 (125 * (S0 0 5)).toNat 125))) := hD
        refine lv_aload_n hx hb dX8_keeps_78 rfl (lv_at hl 0 rfl) ?_
        refine lv_dup hx hb dX8_keeps_79 rfl ?_
        refine va_get (D := D) (ci := 10) (v := .int (iI (S0 0 5))) (C := RX8) (T := TX8) (N := 19) hx hb hts (fun w h => List.mem_cons_of_mem _ (List.mem_append_left _ (List.mem_append_right _ h))) hown hK hP 0 rfl rfl 5 (by decide) (hts (.fieldLink RX8 56 "MondayFactoryModel" "changes" "I") (List.mem_of_getElem? (i := 3) rfl)) (fun _ h9 => h9) rfl dX8_keeps_80 ?_
        refine lv_iconst (v := iI 1) hx hb dX8_keeps_83 rfl ?_
        refine zi_add hx hb dX8_keeps_84 ?_
        refine va_put (D := D) (ci := 10) (v := .int (iI ((S0 0 5) + 1))) (ty := .int) (C := RX8) (T := TX8) (N := 19) hx hb hts (fun w h => List.mem_cons_of_mem _ (List.mem_append_left _ (List.mem_append_right _ h))) tyX8 tyX8_ok nmX8 hown hK hP hD hS 0 rfl rfl 5 (by decide) (hts (.fieldLink RX8 56 "MondayFactoryModel" "changes" "I") (List.mem_of_getElem? (i := 3) rfl)) (fun _ h9 => h9) rfl (by decide +kernel) rfl rfl (Nat.le_of_ble_eq_true rfl) dX8_keeps_85 (fun H locs hP hD hS => ?_)
        have hP : va_P D vwCl (wRef k a0 (up2 (upA (up2 S0 0 8 0) 2 (cpyZ (S0 1) (S0 2) 0 (125 * (S0 0 5)).toNat 125)) 0 5 ((S0 0 5) + 1))) H := hP
        have hD : va_D A (wRef k a0 (up2 (upA (up2 S0 0 8 0) 2 (cpyZ (S0 1) (S0 2) 0 (125 * (S0 0 5)).toNat 125)) 0 5 ((S0 0 5) + 1))) := hD
        exact z_vret hx hb hr hlocks hP hS dX8_keeps_88 (Eq.trans (congrArg (fun z => wRef k a0 (upA (upA S0 0 z) 2 (sS0_2_X8_keeps S0 0))) (show sS0_0_X8_keeps S0 0 = upZ (upZ (S0 0) 8 0) 5 ((S0 0 5) + 1) from (Eq.trans (zif_pos z_1) (Eq.trans (zif_pos c_2) (Eq.trans (zif_neg c_3) rfl))))) (congrArg (fun z => wRef k a0 (upA (upA S0 0 (upZ (upZ (S0 0) 8 0) 5 ((S0 0 5) + 1))) 2 z)) (show sS0_2_X8_keeps S0 0 = cpyZ (S0 1) (S0 2) 0 (125 * (S0 0 5)).toNat 125 from (Eq.trans (zif_pos z_1) (Eq.trans (zif_pos c_2) (Eq.trans (zif_neg c_3) rfl)))))) (Nat.le_refl _) (Nat.le_refl _)
      · refine lv_iconst (v := iI 0) hx hb dX8_keeps_22 rfl ?_
        refine lv_istore_n (lv' := [(2, .int (iI 0)), (0, .ref (a0 0)), (1, .ref (a0 1))]) hx hb dX8_keeps_23 rfl hl (by decide) rfl (fun ls hl => ?_)
        have lp24_0 : ∀ (n : Nat) (x2 : Int) (F1 : Nat → Int), (875 - x2).toNat < n → (0 ≤ x2) → (x2 ≤ 875) → (F1 = shf (S0 2) 0 x2.toNat 125) → ∀ (H : Heap) (locs : List Loc) (ls : Array Slot), va_P D vwCl (wRef k a0 (upA (up2 S0 0 8 0) 2 F1)) H → va_D A (wRef k a0 (upA (up2 S0 0 8 0) 2 F1)) → va_S A s.heap H locs → lv_has ls 3 [(2, .int (iI x2)), (0, .ref (a0 0)), (1, .ref (a0 1))] → W p l e ({ frames := 1, cells := 0, slots := 0, locals := 24 } : Room) s m args below meth c H locs 0 0 (MQ below (zQv D A (wRef k a0 (upA (upA S0 0 (sS0_0_X8_keeps S0 0)) 2 (sS0_2_X8_keeps S0 0)))) args s 0 0 A) (F0 m 24 ls []) := by
          intro n24
          induction n24 with
          | zero => intro x2 F1 hm; exact absurd hm (Nat.not_lt_zero _)
          | succ n24 ih24 =>
            intro x2 F1 hm24 i0 i1 iF  H locs ls hP hD hS hl
            refine lv_iload_n hx hb dX8_keeps_24 rfl (lv_at hl 0 rfl) ?_
            refine lv_sipush (v := iI 875) hx hb dX8_keeps_25 (by decide) ?_
            refine zi_icmp_ge (tgt := 52) hx hb dX8_keeps_28 (by decide) ⟨by omega, by omega⟩ ⟨by omega, by omega⟩ (fun c_4 => ?_) (fun c_4 => ?_)
            · have v_5 : F1 = shf (S0 2) 0 875 125 := (by rw [iF, show x2 = 875 by omega]; rfl)
              rw [v_5] at hP hD
              have v_6 : x2 = 875 := (by omega)
              rw [v_6] at hl
              refine lv_aload_n hx hb dX8_keeps_52 rfl (lv_at hl 1 rfl) ?_
              refine lv_dup hx hb dX8_keeps_53 rfl ?_
              refine va_get (D := D) (ci := 10) (v := .int (iI (S0 0 5))) (C := RX8) (T := TX8) (N := 19) hx hb hts (fun w h => List.mem_cons_of_mem _ (List.mem_append_left _ (List.mem_append_right _ h))) hown hK hP 0 rfl rfl 5 (by decide) (hts (.fieldLink RX8 56 "MondayFactoryModel" "changes" "I") (List.mem_of_getElem? (i := 3) rfl)) (fun _ h9 => h9) rfl dX8_keeps_54 ?_
              refine lv_iconst (v := iI 1) hx hb dX8_keeps_57 rfl ?_
              refine zi_sub hx hb dX8_keeps_58 ?_
              refine va_put (D := D) (ci := 10) (v := .int (iI ((S0 0 5) - 1))) (ty := .int) (C := RX8) (T := TX8) (N := 19) hx hb hts (fun w h => List.mem_cons_of_mem _ (List.mem_append_left _ (List.mem_append_right _ h))) tyX8 tyX8_ok nmX8 hown hK hP hD hS 0 rfl rfl 5 (by decide) (hts (.fieldLink RX8 56 "MondayFactoryModel" "changes" "I") (List.mem_of_getElem? (i := 3) rfl)) (fun _ h9 => h9) rfl (by decide +kernel) rfl rfl (Nat.le_of_ble_eq_true rfl) dX8_keeps_59 (fun H locs hP hD hS => ?_)
              have hP : va_P D vwCl (wRef k a0 (up2 (upA (up2 S0 0 8 0) 2 (shf (S0 2) 0 875 125)) 0 5 ((S0 0 5) - 1))) H := hP
              have hD : va_D A (wRef k a0 (up2 (upA (up2 S0 0 8 0) 2 (shf (S0 2) 0 875 125)) 0 5 ((S0 0 5) - 1))) := hD
              refine lv_aload_n hx hb dX8_keeps_62 rfl (lv_at hl 2 rfl) ?_
              refine lv_iconst (v := iI 0) hx hb dX8_keeps_63 rfl ?_
              refine lv_aload_n hx hb dX8_keeps_64 rfl (lv_at hl 1 rfl) ?_
              refine va_get (D := D) (ci := 10) (v := .ref (a0 2)) (C := RX8) (T := TX8) (N := 19) hx hb hts (fun w h => List.mem_cons_of_mem _ (List.mem_append_left _ (List.mem_append_right _ h))) hown hK hP 0 rfl rfl 1 (by decide) (hts (.fieldLink RX8 13 "MondayFactoryModel" "kept" "[I") (List.mem_of_getElem? (i := 4) rfl)) (fun _ h9 => h9) rfl dX8_keeps_65 ?_
              refine lv_bipush (v := iI 125) hx hb dX8_keeps_68 (by decide) ?_
              refine lv_aload_n hx hb dX8_keeps_70 rfl (lv_at hl 1 rfl) ?_
              refine va_get (D := D) (ci := 10) (v := .int (iI ((S0 0 5) - 1))) (C := RX8) (T := TX8) (N := 19) hx hb hts (fun w h => List.mem_cons_of_mem _ (List.mem_append_left _ (List.mem_append_right _ h))) hown hK hP 0 rfl rfl 5 (by decide) (hts (.fieldLink RX8 56 "MondayFactoryModel" "changes" "I") (List.mem_of_getElem? (i := 3) rfl)) (fun _ h9 => h9) rfl dX8_keeps_71 ?_
              refine zi_mul hx hb dX8_keeps_74 ?_
              refine z_av (va_runS (As := [.ref (a0 1), .int (iI 0), .ref (a0 2), .int (iI (125 * ((S0 0 5) - 1)))]) (rest := []) ⟨hx, hb, hml, hown, hts⟩ (c_X8_copies l D k (subA a0 1) (sub2 (up2 (upA (up2 S0 0 8 0) 2 (shf (S0 2) 0 875 125)) 0 5 ((S0 0 5) - 1)) 1) (subA a0 2) (sub2 (up2 (upA (up2 S0 0 8 0) 2 (shf (S0 2) 0 875 125)) 0 5 ((S0 0 5) - 1)) 2) 125 1000 0 (125 * ((S0 0 5) - 1)) (by omega) (by omega) (by omega) _) (va_cwS 4 hts gX8_keeps_X8_copies rfl rfl rfl (by decide +kernel) ⟨(Nat.le_of_ble_eq_true rfl), (Nat.le_of_ble_eq_true rfl)⟩) (z_preS hK hG hA hP hD hS [1, 2] rfl (by decide)) rfl rfl hl.1 rfl (lv_room (Nat.le_of_ble_eq_true rfl)) dX8_keeps_75 ⟨(Nat.le_of_ble_eq_true rfl), (Nat.le_of_ble_eq_true rfl)⟩) hA hP hD hS [1, 2] rfl rfl (fun H locs hP hD hS => ?_)
              have hP : va_P D vwCl (wRef k a0 (upA (up2 (upA (up2 S0 0 8 0) 2 (shf (S0 2) 0 875 125)) 0 5 ((S0 0 5) - 1)) 2 (cpyZ (S0 1) ((shf (S0 2) 0 875 125)) 0 (125 * ((S0 0 5) - 1)).toNat 125))) H := hP
              have hD : va_D A (wRef k a0 (upA (up2 (upA (up2 S0 0 8 0) 2 (shf (S0 2) 0 875 125)) 0 5 ((S0 0 5) - 1)) 2 (cpyZ (S0 1) ((shf (S0 2) 0 875 125)) 0 (125 * ((S0 0 5) - 1)).toNat 125))) := hD
              refine lv_aload_n hx hb dX8_keeps_78 rfl (lv_at hl 1 rfl) ?_
              refine lv_dup hx hb dX8_keeps_79 rfl ?_
              refine va_get (D := D) (ci := 10) (v := .int (iI ((S0 0 5) - 1))) (C := RX8) (T := TX8) (N := 19) hx hb hts (fun w h => List.mem_cons_of_mem _ (List.mem_append_left _ (List.mem_append_right _ h))) hown hK hP 0 rfl rfl 5 (by decide) (hts (.fieldLink RX8 56 "MondayFactoryModel" "changes" "I") (List.mem_of_getElem? (i := 3) rfl)) (fun _ h9 => h9) rfl dX8_keeps_80 ?_
              refine lv_iconst (v := iI 1) hx hb dX8_keeps_83 rfl ?_
              refine zi_add hx hb dX8_keeps_84 ?_
              refine va_put (D := D) (ci := 10) (v := .int (iI (((S0 0 5) - 1) + 1))) (ty := .int) (C := RX8) (T := TX8) (N := 19) hx hb hts (fun w h => List.mem_cons_of_mem _ (List.mem_append_left _ (List.mem_append_right _ h))) tyX8 tyX8_ok nmX8 hown hK hP hD hS 0 rfl rfl 5 (by decide) (hts (.fieldLink RX8 56 "MondayFactoryModel" "changes" "I") (List.mem_of_getElem? (i := 3) rfl)) (fun _ h9 => h9) rfl (by decide +kernel) rfl rfl (Nat.le_of_ble_eq_true rfl) dX8_keeps_85 (fun H locs hP hD hS => ?_)
              have hP : va_P D vwCl (wRef k a0 (up2 (upA (up2 (upA (up2 S0 0 8 0) 2 (shf (S0 2) 0 875 125)) 0 5 ((S0 0 5) - 1)) 2 (cpyZ (S0 1) ((shf (S0 2) 0 875 125)) 0 (125 * ((S0 0 5) - 1)).toNat 125)) 0 5 (((S0 0 5) - 1) + 1))) H := hP
              have hD : va_D A (wRef k a0 (up2 (upA (up2 (upA (up2 S0 0 8 0) 2 (shf (S0 2) 0 875 125)) 0 5 ((S0 0 5) - 1)) 2 (cpyZ (S0 1) ((shf (S0 2) 0 875 125)) 0 (125 * ((S0 0 5) - 1)).toNat 125)) 0 5 (((S0 0 5) - 1) + 1))) := hD
              exact z_vret hx hb hr hlocks hP hS dX8_keeps_88 (Eq.trans (congrArg (fun z => wRef k a0 (upA (upA S0 0 z) 2 (sS0_2_X8_keeps S0 0))) (show sS0_0_X8_keeps S0 0 = upZ (upZ (upZ (S0 0) 8 0) 5 ((S0 0 5) - 1)) 5 (((S0 0 5) - 1) + 1) from (Eq.trans (zif_pos z_1) (Eq.trans (zif_pos c_2) (Eq.trans (zif_pos c_3) rfl))))) (congrArg (fun z => wRef k a0 (upA (upA S0 0 (upZ (upZ (upZ (S0 0) 8 0) 5 ((S0 0 5) - 1)) 5 (((S0 0 5) - 1) + 1))) 2 z)) (show sS0_2_X8_keeps S0 0 = cpyZ (S0 1) ((shf (S0 2) 0 875 125)) 0 (125 * ((S0 0 5) - 1)).toNat 125 from (Eq.trans (zif_pos z_1) (Eq.trans (zif_pos c_2) (Eq.trans (zif_pos c_3) rfl)))))) (Nat.le_refl _) (Nat.le_refl _)
            · refine lv_aload_n hx hb dX8_keeps_31 rfl (lv_at hl 1 rfl) ?_
              refine va_get (D := D) (ci := 10) (v := .ref (a0 2)) (C := RX8) (T := TX8) (N := 19) hx hb hts (fun w h => List.mem_cons_of_mem _ (List.mem_append_left _ (List.mem_append_right _ h))) hown hK hP 0 rfl rfl 1 (by decide) (hts (.fieldLink RX8 13 "MondayFactoryModel" "kept" "[I") (List.mem_of_getElem? (i := 4) rfl)) (fun _ h9 => h9) rfl dX8_keeps_32 ?_
              refine lv_iload_n hx hb dX8_keeps_35 rfl (lv_at hl 0 rfl) ?_
              refine lv_aload_n hx hb dX8_keeps_36 rfl (lv_at hl 1 rfl) ?_
              refine va_get (D := D) (ci := 10) (v := .ref (a0 2)) (C := RX8) (T := TX8) (N := 19) hx hb hts (fun w h => List.mem_cons_of_mem _ (List.mem_append_left _ (List.mem_append_right _ h))) hown hK hP 0 rfl rfl 1 (by decide) (hts (.fieldLink RX8 13 "MondayFactoryModel" "kept" "[I") (List.mem_of_getElem? (i := 4) rfl)) (fun _ h9 => h9) rfl dX8_keeps_37 ?_
              refine lv_iload_n hx hb dX8_keeps_40 rfl (lv_at hl 0 rfl) ?_
              refine lv_bipush (v := iI 125) hx hb dX8_keeps_41 (by decide) ?_
              refine zi_add hx hb dX8_keeps_43 ?_
              refine z_iald hx hb hK hP 2 0 (f := F1) rfl rfl (i := x2 + 125) (by omega) (by omega) (by decide) ((x2 + 125).toNat) rfl dX8_keeps_44 ?_
              refine z_iast hx hb hK hP hD hS 2 0 (f := F1) rfl rfl (i := x2) (by omega) (by omega) (by decide) x2.toNat rfl dX8_keeps_45 (fun H locs hP hD hS => ?_)
              have hP : va_P D vwCl (wRef k a0 (up2 (upA (up2 S0 0 8 0) 2 F1) 2 x2.toNat (F1 ((x2 + 125).toNat)))) H := hP
              have hD : va_D A (wRef k a0 (up2 (upA (up2 S0 0 8 0) 2 F1) 2 x2.toNat (F1 ((x2 + 125).toNat)))) := hD
              refine lv_iinc (v := iI (x2 + 1)) (lv' := [(2, .int (iI (x2 + 1))), (0, .ref (a0 0)), (1, .ref (a0 1))]) hx hb dX8_keeps_46 hl (k := 0) rfl (iI_add _ _) (by decide) rfl (fun ls hl => ?_)
              refine lv_goto (tgt := 24) hx hb dX8_keeps_49 (by decide) ?_
              exact ih24 (x2 + 1) (upZ F1 x2.toNat (F1 ((x2 + 125).toNat))) (by omega) (by omega) (by omega) (by rw [iF]; exact keeps_s i0)  H locs ls hP hD hS (lv_sub hl [0, 1, 2] rfl)
        exact lp24_0 876 0 (S0 2) (by omega) (by omega) (by omega) (shf_0 (Nat.le_refl 0)).symm  H locs ls hP hD hS (lv_sub hl [0, 1, 2] rfl)
    · exact z_vret hx hb hr hlocks hP hS dX8_keeps_12 (Eq.trans (congrArg (fun z => wRef k a0 (upA (upA S0 0 z) 2 (sS0_2_X8_keeps S0 0))) (show sS0_0_X8_keeps S0 0 = upZ (S0 0) 8 0 from (Eq.trans (zif_pos z_1) (Eq.trans (zif_neg c_2) rfl)))) (congrArg (fun z => wRef k a0 (upA (upA S0 0 (upZ (S0 0) 8 0)) 2 z)) (show sS0_2_X8_keeps S0 0 = S0 2 from (Eq.trans (zif_pos z_1) (Eq.trans (zif_neg c_2) rfl))))) (Nat.le_refl _) (Nat.le_refl _)
  · have z_7 : ¬ ((1 : Nat) = 0) := by decide
    refine lv_aload_n hx hb dX8_keeps_0 rfl (lv_at hl 0 rfl) ?_
    refine lv_iconst (v := iI 0) hx hb dX8_keeps_1 rfl ?_
    refine va_put (D := D) (ci := 10) (v := .int (iI 0)) (ty := .int) (C := RX8) (T := TX8) (N := 19) hx hb hts (fun w h => List.mem_cons_of_mem _ (List.mem_append_left _ (List.mem_append_right _ h))) tyX8 tyX8_ok nmX8 hown hK hP hD hS 0 rfl rfl 8 (by decide) (hts (.fieldLink RX8 40 "MondayFactoryModel" "code" "I") (List.mem_of_getElem? (i := 1) rfl)) (fun _ h9 => h9) rfl (by decide +kernel) rfl rfl (Nat.le_of_ble_eq_true rfl) dX8_keeps_2 (fun H locs hP hD hS => ?_)
    have hP : va_P D vwCl (wRef k a0 (up2 S0 0 8 0)) H := hP
    have hD : va_D A (wRef k a0 (up2 S0 0 8 0)) := hD
    refine lv_aload_n hx hb dX8_keeps_5 rfl (lv_at hl 0 rfl) ?_
    refine va_get (D := D) (ci := 10) (v := .int (iI (S0 0 6))) (C := RX8) (T := TX8) (N := 19) hx hb hts (fun w h => List.mem_cons_of_mem _ (List.mem_append_left _ (List.mem_append_right _ h))) hown hK hP 0 rfl rfl 6 (by decide) (hts (.fieldLink RX8 53 "MondayFactoryModel" "isWithin" "Z") (List.mem_of_getElem? (i := 2) rfl)) (fun _ h9 => h9) rfl dX8_keeps_6 ?_
    refine zi_if_eq (tgt := 13) hx hb dX8_keeps_9 (by decide) ⟨by omega, by omega⟩ (fun c_8 => ?_) (fun c_8 => ?_)
    · refine lv_aload_n hx hb dX8_keeps_13 rfl (lv_at hl 0 rfl) ?_
      refine va_get (D := D) (ci := 10) (v := .int (iI (S0 0 5))) (C := RX8) (T := TX8) (N := 19) hx hb hts (fun w h => List.mem_cons_of_mem _ (List.mem_append_left _ (List.mem_append_right _ h))) hown hK hP 0 rfl rfl 5 (by decide) (hts (.fieldLink RX8 56 "MondayFactoryModel" "changes" "I") (List.mem_of_getElem? (i := 3) rfl)) (fun _ h9 => h9) rfl dX8_keeps_14 ?_
      refine lv_bipush (v := iI 8) hx hb dX8_keeps_17 (by decide) ?_
      refine zi_icmp_ne (tgt := 62) hx hb dX8_keeps_19 (by decide) ⟨by omega, by omega⟩ ⟨by omega, by omega⟩ (fun c_9 => ?_) (fun c_9 => ?_)
      · refine lv_aload_n hx hb dX8_keeps_62 rfl (lv_at hl 1 rfl) ?_
        refine lv_iconst (v := iI 0) hx hb dX8_keeps_63 rfl ?_
        refine lv_aload_n hx hb dX8_keeps_64 rfl (lv_at hl 0 rfl) ?_
        refine va_get (D := D) (ci := 10) (v := .ref (a0 2)) (C := RX8) (T := TX8) (N := 19) hx hb hts (fun w h => List.mem_cons_of_mem _ (List.mem_append_left _ (List.mem_append_right _ h))) hown hK hP 0 rfl rfl 1 (by decide) (hts (.fieldLink RX8 13 "MondayFactoryModel" "kept" "[I") (List.mem_of_getElem? (i := 4) rfl)) (fun _ h9 => h9) rfl dX8_keeps_65 ?_
        refine lv_bipush (v := iI 125) hx hb dX8_keeps_68 (by decide) ?_
        refine lv_aload_n hx hb dX8_keeps_70 rfl (lv_at hl 0 rfl) ?_
        refine va_get (D := D) (ci := 10) (v := .int (iI (S0 0 5))) (C := RX8) (T := TX8) (N := 19) hx hb hts (fun w h => List.mem_cons_of_mem _ (List.mem_append_left _ (List.mem_append_right _ h))) hown hK hP 0 rfl rfl 5 (by decide) (hts (.fieldLink RX8 56 "MondayFactoryModel" "changes" "I") (List.mem_of_getElem? (i := 3) rfl)) (fun _ h9 => h9) rfl dX8_keeps_71 ?_
        refine zi_mul hx hb dX8_keeps_74 ?_
        refine z_av (va_runS (As := [.ref (a0 4), .int (iI 0), .ref (a0 2), .int (iI (125 * (S0 0 5)))]) (rest := []) ⟨hx, hb, hml, hown, hts⟩ (c_X8_copies l D k (subA a0 4) (sub2 (up2 S0 0 8 0) 4) (subA a0 2) (sub2 (up2 S0 0 8 0) 2) 125 1000 0 (125 * (S0 0 5)) (by omega) (by omega) (by omega) _) (va_cwS 4 hts gX8_keeps_X8_copies rfl rfl rfl (by decide +kernel) ⟨(Nat.le_of_ble_eq_true rfl), (Nat.le_of_ble_eq_true rfl)⟩) (z_preS hK hG hA hP hD hS [4, 2] rfl (by decide)) rfl rfl hl.1 rfl (lv_room (Nat.le_of_ble_eq_true rfl)) dX8_keeps_75 ⟨(Nat.le_of_ble_eq_true rfl), (Nat.le_of_ble_eq_true rfl)⟩) hA hP hD hS [4, 2] rfl rfl (fun H locs hP hD hS => ?_)
        have hP : va_P D vwCl (wRef k a0 (upA (up2 S0 0 8 0) 2 (cpyZ (S0 4) (S0 2) 0 (125 * (S0 0 5)).toNat 125))) H := hP
        have hD : va_D A (wRef k a0 (upA (up2 S0 0 8 0) 2 (cpyZ (S0 4) (S0 2) 0 (125 * (S0 0 5)).toNat 125))) := hD
        refine lv_aload_n hx hb dX8_keeps_78 rfl (lv_at hl 0 rfl) ?_
        refine lv_dup hx hb dX8_keeps_79 rfl ?_
        refine va_get (D := D) (ci := 10) (v := .int (iI (S0 0 5))) (C := RX8) (T := TX8) (N := 19) hx hb hts (fun w h => List.mem_cons_of_mem _ (List.mem_append_left _ (List.mem_append_right _ h))) hown hK hP 0 rfl rfl 5 (by decide) (hts (.fieldLink RX8 56 "MondayFactoryModel" "changes" "I") (List.mem_of_getElem? (i := 3) rfl)) (fun _ h9 => h9) rfl dX8_keeps_80 ?_
        refine lv_iconst (v := iI 1) hx hb dX8_keeps_83 rfl ?_
        refine zi_add hx hb dX8_keeps_84 ?_
        refine va_put (D := D) (ci := 10) (v := .int (iI ((S0 0 5) + 1))) (ty := .int) (C := RX8) (T := TX8) (N := 19) hx hb hts (fun w h => List.mem_cons_of_mem _ (List.mem_append_left _ (List.mem_append_right _ h))) tyX8 tyX8_ok nmX8 hown hK hP hD hS 0 rfl rfl 5 (by decide) (hts (.fieldLink RX8 56 "MondayFactoryModel" "changes" "I") (List.mem_of_getElem? (i := 3) rfl)) (fun _ h9 => h9) rfl (by decide +kernel) rfl rfl (Nat.le_of_ble_eq_true rfl) dX8_keeps_85 (fun H locs hP hD hS => ?_)
        have hP : va_P D vwCl (wRef k a0 (up2 (upA (up2 S0 0 8 0) 2 (cpyZ (S0 4) (S0 2) 0 (125 * (S0 0 5)).toNat 125)) 0 5 ((S0 0 5) + 1))) H := hP
        have hD : va_D A (wRef k a0 (up2 (upA (up2 S0 0 8 0) 2 (cpyZ (S0 4) (S0 2) 0 (125 * (S0 0 5)).toNat 125)) 0 5 ((S0 0 5) + 1))) := hD
        exact z_vret hx hb hr hlocks hP hS dX8_keeps_88 (Eq.trans (congrArg (fun z => wRef k a0 (upA (upA S0 0 z) 2 (sS0_2_X8_keeps S0 1))) (show sS0_0_X8_keeps S0 1 = upZ (upZ (S0 0) 8 0) 5 ((S0 0 5) + 1) from (Eq.trans (zif_neg z_7) (Eq.trans (zif_pos c_8) (Eq.trans (zif_neg c_9) rfl))))) (congrArg (fun z => wRef k a0 (upA (upA S0 0 (upZ (upZ (S0 0) 8 0) 5 ((S0 0 5) + 1))) 2 z)) (show sS0_2_X8_keeps S0 1 = cpyZ (S0 4) (S0 2) 0 (125 * (S0 0 5)).toNat 125 from (Eq.trans (zif_neg z_7) (Eq.trans (zif_pos c_8) (Eq.trans (zif_neg c_9) rfl)))))) (Nat.le_refl _) (Nat.le_refl _)
      · refine lv_iconst (v := iI 0) hx hb dX8_keeps_22 rfl ?_
        refine lv_istore_n (lv' := [(2, .int (iI 0)), (0, .ref (a0 0)), (1, .ref (a0 4))]) hx hb dX8_keeps_23 rfl hl (by decide) rfl (fun ls hl => ?_)
        have lp24_1 : ∀ (n : Nat) (x2 : Int) (F1 : Nat → Int), (875 - x2).toNat < n → (0 ≤ x2) → (x2 ≤ 875) → (F1 = shf (S0 2) 0 x2.toNat 125) → ∀ (H : Heap) (locs : List Loc) (ls : Array Slot), va_P D vwCl (wRef k a0 (upA (up2 S0 0 8 0) 2 F1)) H → va_D A (wRef k a0 (upA (up2 S0 0 8 0) 2 F1)) → va_S A s.heap H locs → lv_has ls 3 [(2, .int (iI x2)), (0, .ref (a0 0)), (1, .ref (a0 4))] → W p l e ({ frames := 1, cells := 0, slots := 0, locals := 24 } : Room) s m args below meth c H locs 0 0 (MQ below (zQv D A (wRef k a0 (upA (upA S0 0 (sS0_0_X8_keeps S0 1)) 2 (sS0_2_X8_keeps S0 1)))) args s 0 0 A) (F0 m 24 ls []) := by
          intro n24
          induction n24 with
          | zero => intro x2 F1 hm; exact absurd hm (Nat.not_lt_zero _)
          | succ n24 ih24 =>
            intro x2 F1 hm24 i0 i1 iF  H locs ls hP hD hS hl
            refine lv_iload_n hx hb dX8_keeps_24 rfl (lv_at hl 0 rfl) ?_
            refine lv_sipush (v := iI 875) hx hb dX8_keeps_25 (by decide) ?_
            refine zi_icmp_ge (tgt := 52) hx hb dX8_keeps_28 (by decide) ⟨by omega, by omega⟩ ⟨by omega, by omega⟩ (fun c_10 => ?_) (fun c_10 => ?_)
            · have v_11 : F1 = shf (S0 2) 0 875 125 := (by rw [iF, show x2 = 875 by omega]; rfl)
              rw [v_11] at hP hD
              have v_12 : x2 = 875 := (by omega)
              rw [v_12] at hl
              refine lv_aload_n hx hb dX8_keeps_52 rfl (lv_at hl 1 rfl) ?_
              refine lv_dup hx hb dX8_keeps_53 rfl ?_
              refine va_get (D := D) (ci := 10) (v := .int (iI (S0 0 5))) (C := RX8) (T := TX8) (N := 19) hx hb hts (fun w h => List.mem_cons_of_mem _ (List.mem_append_left _ (List.mem_append_right _ h))) hown hK hP 0 rfl rfl 5 (by decide) (hts (.fieldLink RX8 56 "MondayFactoryModel" "changes" "I") (List.mem_of_getElem? (i := 3) rfl)) (fun _ h9 => h9) rfl dX8_keeps_54 ?_
              refine lv_iconst (v := iI 1) hx hb dX8_keeps_57 rfl ?_
              refine zi_sub hx hb dX8_keeps_58 ?_
              refine va_put (D := D) (ci := 10) (v := .int (iI ((S0 0 5) - 1))) (ty := .int) (C := RX8) (T := TX8) (N := 19) hx hb hts (fun w h => List.mem_cons_of_mem _ (List.mem_append_left _ (List.mem_append_right _ h))) tyX8 tyX8_ok nmX8 hown hK hP hD hS 0 rfl rfl 5 (by decide) (hts (.fieldLink RX8 56 "MondayFactoryModel" "changes" "I") (List.mem_of_getElem? (i := 3) rfl)) (fun _ h9 => h9) rfl (by decide +kernel) rfl rfl (Nat.le_of_ble_eq_true rfl) dX8_keeps_59 (fun H locs hP hD hS => ?_)
              have hP : va_P D vwCl (wRef k a0 (up2 (upA (up2 S0 0 8 0) 2 (shf (S0 2) 0 875 125)) 0 5 ((S0 0 5) - 1))) H := hP
              have hD : va_D A (wRef k a0 (up2 (upA (up2 S0 0 8 0) 2 (shf (S0 2) 0 875 125)) 0 5 ((S0 0 5) - 1))) := hD
              refine lv_aload_n hx hb dX8_keeps_62 rfl (lv_at hl 2 rfl) ?_
              refine lv_iconst (v := iI 0) hx hb dX8_keeps_63 rfl ?_
              refine lv_aload_n hx hb dX8_keeps_64 rfl (lv_at hl 1 rfl) ?_
              refine va_get (D := D) (ci := 10) (v := .ref (a0 2)) (C := RX8) (T := TX8) (N := 19) hx hb hts (fun w h => List.mem_cons_of_mem _ (List.mem_append_left _ (List.mem_append_right _ h))) hown hK hP 0 rfl rfl 1 (by decide) (hts (.fieldLink RX8 13 "MondayFactoryModel" "kept" "[I") (List.mem_of_getElem? (i := 4) rfl)) (fun _ h9 => h9) rfl dX8_keeps_65 ?_
              refine lv_bipush (v := iI 125) hx hb dX8_keeps_68 (by decide) ?_
              refine lv_aload_n hx hb dX8_keeps_70 rfl (lv_at hl 1 rfl) ?_
              refine va_get (D := D) (ci := 10) (v := .int (iI ((S0 0 5) - 1))) (C := RX8) (T := TX8) (N := 19) hx hb hts (fun w h => List.mem_cons_of_mem _ (List.mem_append_left _ (List.mem_append_right _ h))) hown hK hP 0 rfl rfl 5 (by decide) (hts (.fieldLink RX8 56 "MondayFactoryModel" "changes" "I") (List.mem_of_getElem? (i := 3) rfl)) (fun _ h9 => h9) rfl dX8_keeps_71 ?_
              refine zi_mul hx hb dX8_keeps_74 ?_
              refine z_av (va_runS (As := [.ref (a0 4), .int (iI 0), .ref (a0 2), .int (iI (125 * ((S0 0 5) - 1)))]) (rest := []) ⟨hx, hb, hml, hown, hts⟩ (c_X8_copies l D k (subA a0 4) (sub2 (up2 (upA (up2 S0 0 8 0) 2 (shf (S0 2) 0 875 125)) 0 5 ((S0 0 5) - 1)) 4) (subA a0 2) (sub2 (up2 (upA (up2 S0 0 8 0) 2 (shf (S0 2) 0 875 125)) 0 5 ((S0 0 5) - 1)) 2) 125 1000 0 (125 * ((S0 0 5) - 1)) (by omega) (by omega) (by omega) _) (va_cwS 4 hts gX8_keeps_X8_copies rfl rfl rfl (by decide +kernel) ⟨(Nat.le_of_ble_eq_true rfl), (Nat.le_of_ble_eq_true rfl)⟩) (z_preS hK hG hA hP hD hS [4, 2] rfl (by decide)) rfl rfl hl.1 rfl (lv_room (Nat.le_of_ble_eq_true rfl)) dX8_keeps_75 ⟨(Nat.le_of_ble_eq_true rfl), (Nat.le_of_ble_eq_true rfl)⟩) hA hP hD hS [4, 2] rfl rfl (fun H locs hP hD hS => ?_)
              have hP : va_P D vwCl (wRef k a0 (upA (up2 (upA (up2 S0 0 8 0) 2 (shf (S0 2) 0 875 125)) 0 5 ((S0 0 5) - 1)) 2 (cpyZ (S0 4) ((shf (S0 2) 0 875 125)) 0 (125 * ((S0 0 5) - 1)).toNat 125))) H := hP
              have hD : va_D A (wRef k a0 (upA (up2 (upA (up2 S0 0 8 0) 2 (shf (S0 2) 0 875 125)) 0 5 ((S0 0 5) - 1)) 2 (cpyZ (S0 4) ((shf (S0 2) 0 875 125)) 0 (125 * ((S0 0 5) - 1)).toNat 125))) := hD
              refine lv_aload_n hx hb dX8_keeps_78 rfl (lv_at hl 1 rfl) ?_
              refine lv_dup hx hb dX8_keeps_79 rfl ?_
              refine va_get (D := D) (ci := 10) (v := .int (iI ((S0 0 5) - 1))) (C := RX8) (T := TX8) (N := 19) hx hb hts (fun w h => List.mem_cons_of_mem _ (List.mem_append_left _ (List.mem_append_right _ h))) hown hK hP 0 rfl rfl 5 (by decide) (hts (.fieldLink RX8 56 "MondayFactoryModel" "changes" "I") (List.mem_of_getElem? (i := 3) rfl)) (fun _ h9 => h9) rfl dX8_keeps_80 ?_
              refine lv_iconst (v := iI 1) hx hb dX8_keeps_83 rfl ?_
              refine zi_add hx hb dX8_keeps_84 ?_
              refine va_put (D := D) (ci := 10) (v := .int (iI (((S0 0 5) - 1) + 1))) (ty := .int) (C := RX8) (T := TX8) (N := 19) hx hb hts (fun w h => List.mem_cons_of_mem _ (List.mem_append_left _ (List.mem_append_right _ h))) tyX8 tyX8_ok nmX8 hown hK hP hD hS 0 rfl rfl 5 (by decide) (hts (.fieldLink RX8 56 "MondayFactoryModel" "changes" "I") (List.mem_of_getElem? (i := 3) rfl)) (fun _ h9 => h9) rfl (by decide +kernel) rfl rfl (Nat.le_of_ble_eq_true rfl) dX8_keeps_85 (fun H locs hP hD hS => ?_)
              have hP : va_P D vwCl (wRef k a0 (up2 (upA (up2 (upA (up2 S0 0 8 0) 2 (shf (S0 2) 0 875 125)) 0 5 ((S0 0 5) - 1)) 2 (cpyZ (S0 4) ((shf (S0 2) 0 875 125)) 0 (125 * ((S0 0 5) - 1)).toNat 125)) 0 5 (((S0 0 5) - 1) + 1))) H := hP
              have hD : va_D A (wRef k a0 (up2 (upA (up2 (upA (up2 S0 0 8 0) 2 (shf (S0 2) 0 875 125)) 0 5 ((S0 0 5) - 1)) 2 (cpyZ (S0 4) ((shf (S0 2) 0 875 125)) 0 (125 * ((S0 0 5) - 1)).toNat 125)) 0 5 (((S0 0 5) - 1) + 1))) := hD
              exact z_vret hx hb hr hlocks hP hS dX8_keeps_88 (Eq.trans (congrArg (fun z => wRef k a0 (upA (upA S0 0 z) 2 (sS0_2_X8_keeps S0 1))) (show sS0_0_X8_keeps S0 1 = upZ (upZ (upZ (S0 0) 8 0) 5 ((S0 0 5) - 1)) 5 (((S0 0 5) - 1) + 1) from (Eq.trans (zif_neg z_7) (Eq.trans (zif_pos c_8) (Eq.trans (zif_pos c_9) rfl))))) (congrArg (fun z => wRef k a0 (upA (upA S0 0 (upZ (upZ (upZ (S0 0) 8 0) 5 ((S0 0 5) - 1)) 5 (((S0 0 5) - 1) + 1))) 2 z)) (show sS0_2_X8_keeps S0 1 = cpyZ (S0 4) ((shf (S0 2) 0 875 125)) 0 (125 * ((S0 0 5) - 1)).toNat 125 from (Eq.trans (zif_neg z_7) (Eq.trans (zif_pos c_8) (Eq.trans (zif_pos c_9) rfl)))))) (Nat.le_refl _) (Nat.le_refl _)
            · refine lv_aload_n hx hb dX8_keeps_31 rfl (lv_at hl 1 rfl) ?_
              refine va_get (D := D) (ci := 10) (v := .ref (a0 2)) (C := RX8) (T := TX8) (N := 19) hx hb hts (fun w h => List.mem_cons_of_mem _ (List.mem_append_left _ (List.mem_append_right _ h))) hown hK hP 0 rfl rfl 1 (by decide) (hts (.fieldLink RX8 13 "MondayFactoryModel" "kept" "[I") (List.mem_of_getElem? (i := 4) rfl)) (fun _ h9 => h9) rfl dX8_keeps_32 ?_
              refine lv_iload_n hx hb dX8_keeps_35 rfl (lv_at hl 0 rfl) ?_
              refine lv_aload_n hx hb dX8_keeps_36 rfl (lv_at hl 1 rfl) ?_
              refine va_get (D := D) (ci := 10) (v := .ref (a0 2)) (C := RX8) (T := TX8) (N := 19) hx hb hts (fun w h => List.mem_cons_of_mem _ (List.mem_append_left _ (List.mem_append_right _ h))) hown hK hP 0 rfl rfl 1 (by decide) (hts (.fieldLink RX8 13 "MondayFactoryModel" "kept" "[I") (List.mem_of_getElem? (i := 4) rfl)) (fun _ h9 => h9) rfl dX8_keeps_37 ?_
              refine lv_iload_n hx hb dX8_keeps_40 rfl (lv_at hl 0 rfl) ?_
              refine lv_bipush (v := iI 125) hx hb dX8_keeps_41 (by decide) ?_
              refine zi_add hx hb dX8_keeps_43 ?_
              refine z_iald hx hb hK hP 2 0 (f := F1) rfl rfl (i := x2 + 125) (by omega) (by omega) (by decide) ((x2 + 125).toNat) rfl dX8_keeps_44 ?_
              refine z_iast hx hb hK hP hD hS 2 0 (f := F1) rfl rfl (i := x2) (by omega) (by omega) (by decide) x2.toNat rfl dX8_keeps_45 (fun H locs hP hD hS => ?_)
              have hP : va_P D vwCl (wRef k a0 (up2 (upA (up2 S0 0 8 0) 2 F1) 2 x2.toNat (F1 ((x2 + 125).toNat)))) H := hP
              have hD : va_D A (wRef k a0 (up2 (upA (up2 S0 0 8 0) 2 F1) 2 x2.toNat (F1 ((x2 + 125).toNat)))) := hD
              refine lv_iinc (v := iI (x2 + 1)) (lv' := [(2, .int (iI (x2 + 1))), (0, .ref (a0 0)), (1, .ref (a0 4))]) hx hb dX8_keeps_46 hl (k := 0) rfl (iI_add _ _) (by decide) rfl (fun ls hl => ?_)
              refine lv_goto (tgt := 24) hx hb dX8_keeps_49 (by decide) ?_
              exact ih24 (x2 + 1) (upZ F1 x2.toNat (F1 ((x2 + 125).toNat))) (by omega) (by omega) (by omega) (by rw [iF]; exact keeps_s i0)  H locs ls hP hD hS (lv_sub hl [0, 1, 2] rfl)
        exact lp24_1 876 0 (S0 2) (by omega) (by omega) (by omega) (shf_0 (Nat.le_refl 0)).symm  H locs ls hP hD hS (lv_sub hl [0, 1, 2] rfl)
    · exact z_vret hx hb hr hlocks hP hS dX8_keeps_12 (Eq.trans (congrArg (fun z => wRef k a0 (upA (upA S0 0 z) 2 (sS0_2_X8_keeps S0 1))) (show sS0_0_X8_keeps S0 1 = upZ (S0 0) 8 0 from (Eq.trans (zif_neg z_7) (Eq.trans (zif_neg c_8) rfl)))) (congrArg (fun z => wRef k a0 (upA (upA S0 0 (upZ (S0 0) 8 0)) 2 z)) (show sS0_2_X8_keeps S0 1 = S0 2 from (Eq.trans (zif_neg z_7) (Eq.trans (zif_neg c_8) rfl))))) (Nat.le_refl _) (Nat.le_refl _)
set_option maxHeartbeats 4000000 in
set_option maxRecDepth 100000 in
theorem c_X8_leavesShelf (l : Launch) (D : va_G) (k : Nat → ClassId) (a0 : Nat → Nat) (S0 : Nat → Nat → Int) (p0 : Int) (hB : zBf (S0 1)) (h0 : 0 ≤ p0 ∧ p0 < S0 1 10 ∧ S0 1 10 ≤ 8) : zMv l yX8_leavesShelf wsX8_leavesShelf ({ frames := 0, cells := 0, slots := 0, locals := 0 } : Room) D k [.ref (a0 0), .int (iI p0)] (wRef k a0 S0) (wRef k a0 (upA S0 1 (rOff (S0 1) p0))) 0 0 := by
  refine zMv_of (cc := cX8_leavesShelf) (maxL := 3) (ret := none) (by decide) rfl (Nat.le_of_ble_eq_true rfl) ?_
  intro p e s m args below meth c A ls hx hb hr hml hown hts hlocks hK hP hD hG hA hS hl
  have hown : s.vm.findClass RX8 = some m.cls := hown
  have hl : lv_has ls 3 [(0, .ref (a0 0)), (1, .int (iI p0))] := hl
  obtain ⟨H, hH⟩ : ∃ z, z = s.heap := ⟨_, rfl⟩
  obtain ⟨locs, hlc⟩ : ∃ z : List Loc, z = [] := ⟨_, rfl⟩
  rw [← hH] at hP
  have hS : va_S A s.heap H locs := by rw [hH, hlc]; exact hS
  rw [← hlc, ← hH]
  clear hlc hH
  refine lv_aload_n hx hb dX8_leavesShelf_0 rfl (lv_at hl 0 rfl) ?_
  refine va_get (D := D) (ci := 10) (v := .ref (a0 1)) (C := RX8) (T := TX8) (N := 19) hx hb hts (fun w h => List.mem_cons_of_mem _ (List.mem_append_left _ (List.mem_append_right _ h))) hown hK hP 0 rfl rfl 0 (by decide) (hts (.fieldLink RX8 7 "MondayFactoryModel" "g" "[I") (List.mem_of_getElem? (i := 1) rfl)) (fun _ h9 => h9) rfl dX8_leavesShelf_1 ?_
  refine lv_bipush (v := iI 10) hx hb dX8_leavesShelf_4 (by decide) ?_
  refine lv_dup2_11 hx hb dX8_leavesShelf_6 rfl rfl ?_
  refine z_iald hx hb hK hP 1 0 (f := S0 1) rfl rfl (i := 10) (by omega) (by omega) (by decide) 10 rfl dX8_leavesShelf_7 ?_
  have f_1 := hB 10
  refine lv_iconst (v := iI 1) hx hb dX8_leavesShelf_8 rfl ?_
  refine zi_sub hx hb dX8_leavesShelf_9 ?_
  refine z_iast hx hb hK hP hD hS 1 0 (f := S0 1) rfl rfl (i := 10) (by omega) (by omega) (by decide) 10 rfl dX8_leavesShelf_10 (fun H locs hP hD hS => ?_)
  have hP : va_P D vwCl (wRef k a0 (up2 S0 1 10 ((S0 1 10) - 1))) H := hP
  have hD : va_D A (wRef k a0 (up2 S0 1 10 ((S0 1 10) - 1))) := hD
  refine lv_bipush (v := iI 93) hx hb dX8_leavesShelf_11 (by decide) ?_
  refine lv_iconst (v := iI 4) hx hb dX8_leavesShelf_13 rfl ?_
  refine lv_iload_n hx hb dX8_leavesShelf_14 rfl (lv_at hl 1 rfl) ?_
  refine zi_mul hx hb dX8_leavesShelf_15 ?_
  refine zi_add hx hb dX8_leavesShelf_16 ?_
  refine lv_istore_n (lv' := [(2, .int (iI (93 + (4 * p0)))), (0, .ref (a0 0)), (1, .int (iI p0))]) hx hb dX8_leavesShelf_17 rfl hl (by decide) rfl (fun ls hl => ?_)
  have lp18_0 : ∀ (n : Nat) (x2 : Int) (F1 : Nat → Int), (125 - x2).toNat < n → (93 + 4 * p0 ≤ x2) → (x2 ≤ 93 + 4 * (S0 1 10 - 1)) → (F1 = shf (upZ (S0 1) 10 (S0 1 10 - 1)) (93 + 4 * p0).toNat x2.toNat 4) → ∀ (H : Heap) (locs : List Loc) (ls : Array Slot), va_P D vwCl (wRef k a0 (upA (up2 S0 1 10 ((S0 1 10) - 1)) 1 F1)) H → va_D A (wRef k a0 (upA (up2 S0 1 10 ((S0 1 10) - 1)) 1 F1)) → va_S A s.heap H locs → lv_has ls 3 [(2, .int (iI x2)), (0, .ref (a0 0)), (1, .int (iI p0))] → W p l e ({ frames := 0, cells := 0, slots := 0, locals := 0 } : Room) s m args below meth c H locs 0 0 (MQ below (zQv D A (wRef k a0 (upA S0 1 (rOff (S0 1) p0)))) args s 0 0 A) (F0 m 18 ls []) := by
    intro n18
    induction n18 with
    | zero => intro x2 F1 hm; exact absurd hm (Nat.not_lt_zero _)
    | succ n18 ih18 =>
      intro x2 F1 hm18 i0 i1 iF  H locs ls hP hD hS hl
      have g0 : F1 10 = S0 1 10 - 1 := by rw [iF, shf_out (by omega)]; exact upZ_s
      refine lv_iload_n hx hb dX8_leavesShelf_18 rfl (lv_at hl 0 rfl) ?_
      refine lv_bipush (v := iI 93) hx hb dX8_leavesShelf_19 (by decide) ?_
      refine lv_iconst (v := iI 4) hx hb dX8_leavesShelf_21 rfl ?_
      refine lv_aload_n hx hb dX8_leavesShelf_22 rfl (lv_at hl 1 rfl) ?_
      refine va_get (D := D) (ci := 10) (v := .ref (a0 1)) (C := RX8) (T := TX8) (N := 19) hx hb hts (fun w h => List.mem_cons_of_mem _ (List.mem_append_left _ (List.mem_append_right _ h))) hown hK hP 0 rfl rfl 0 (by decide) (hts (.fieldLink RX8 7 "MondayFactoryModel" "g" "[I") (List.mem_of_getElem? (i := 1) rfl)) (fun _ h9 => h9) rfl dX8_leavesShelf_23 ?_
      refine lv_bipush (v := iI 10) hx hb dX8_leavesShelf_26 (by decide) ?_
      refine z_iald hx hb hK hP 1 0 (f := F1) rfl rfl (i := 10) (by omega) (by omega) (by decide) 10 rfl dX8_leavesShelf_28 ?_
      refine zi_mul hx hb dX8_leavesShelf_29 ?_
      refine zi_add hx hb dX8_leavesShelf_30 ?_
      refine zi_icmp_ge (tgt := 54) hx hb dX8_leavesShelf_31 (by decide) ⟨by omega, by omega⟩ ⟨by omega, by omega⟩ (fun c_2 => ?_) (fun c_2 => ?_)
      · have v_3 : F1 = shf (upZ (S0 1) 10 (S0 1 10 - 1)) (93 + 4 * p0).toNat (93 + 4 * (S0 1 10 - 1)).toNat 4 := (by rw [iF, show x2 = 93 + 4 * (S0 1 10 - 1) by omega])
        rw [v_3] at hP hD
        have v_4 : x2 = 93 + 4 * (S0 1 10 - 1) := (by omega)
        rw [v_4] at hl
        refine lv_iconst (v := iI 0) hx hb dX8_leavesShelf_54 rfl ?_
        refine lv_istore_n (lv' := [(2, .int (iI 0)), (0, .ref (a0 0)), (1, .int (iI p0))]) hx hb dX8_leavesShelf_55 rfl hl (by decide) rfl (fun ls hl => ?_)
        have lp56_0 : ∀ (n : Nat) (y2 : Int) (F2 : Nat → Int), (4 - y2).toNat < n → (0 ≤ y2) → (y2 ≤ 4) → (F2 = zer (shf (upZ (S0 1) 10 (S0 1 10 - 1)) (93 + 4 * p0).toNat (93 + 4 * (S0 1 10 - 1)).toNat 4) (93 + 4 * (S0 1 10 - 1)).toNat (93 + 4 * (S0 1 10 - 1) + y2).toNat) → ∀ (H : Heap) (locs : List Loc) (ls : Array Slot), va_P D vwCl (wRef k a0 (upA (upA (up2 S0 1 10 ((S0 1 10) - 1)) 1 (shf (upZ (S0 1) 10 (S0 1 10 - 1)) (93 + 4 * p0).toNat (93 + 4 * (S0 1 10 - 1)).toNat 4)) 1 F2)) H → va_D A (wRef k a0 (upA (upA (up2 S0 1 10 ((S0 1 10) - 1)) 1 (shf (upZ (S0 1) 10 (S0 1 10 - 1)) (93 + 4 * p0).toNat (93 + 4 * (S0 1 10 - 1)).toNat 4)) 1 F2)) → va_S A s.heap H locs → lv_has ls 3 [(2, .int (iI y2)), (0, .ref (a0 0)), (1, .int (iI p0))] → W p l e ({ frames := 0, cells := 0, slots := 0, locals := 0 } : Room) s m args below meth c H locs 0 0 (MQ below (zQv D A (wRef k a0 (upA S0 1 (rOff (S0 1) p0)))) args s 0 0 A) (F0 m 56 ls []) := by
          intro n56
          induction n56 with
          | zero => intro y2 F2 hm; exact absurd hm (Nat.not_lt_zero _)
          | succ n56 ih56 =>
            intro y2 F2 hm56 j0 j1 jF  H locs ls hP hD hS hl
            have g1 : F2 10 = S0 1 10 - 1 := by rw [jF, zer_out (by omega), shf_out (by omega)]; exact upZ_s
            refine lv_iload_n hx hb dX8_leavesShelf_56 rfl (lv_at hl 0 rfl) ?_
            refine lv_iconst (v := iI 4) hx hb dX8_leavesShelf_57 rfl ?_
            refine zi_icmp_ge (tgt := 87) hx hb dX8_leavesShelf_58 (by decide) ⟨by omega, by omega⟩ ⟨by omega, by omega⟩ (fun c_5 => ?_) (fun c_5 => ?_)
            · have v_6 : F2 = rOff (S0 1) p0 := (by rw [jF, show y2 = 4 by omega]; rfl)
              rw [v_6] at hP hD
              exact z_vret hx hb hr hlocks hP hS dX8_leavesShelf_87 (congrArg (fun z => wRef k a0 (upA S0 1 z)) (show rOff (S0 1) p0 = rOff (S0 1) p0 from rfl)) (Nat.le_refl _) (Nat.le_refl _)
            · refine lv_aload_n hx hb dX8_leavesShelf_61 rfl (lv_at hl 1 rfl) ?_
              refine va_get (D := D) (ci := 10) (v := .ref (a0 1)) (C := RX8) (T := TX8) (N := 19) hx hb hts (fun w h => List.mem_cons_of_mem _ (List.mem_append_left _ (List.mem_append_right _ h))) hown hK hP 0 rfl rfl 0 (by decide) (hts (.fieldLink RX8 7 "MondayFactoryModel" "g" "[I") (List.mem_of_getElem? (i := 1) rfl)) (fun _ h9 => h9) rfl dX8_leavesShelf_62 ?_
              refine lv_bipush (v := iI 93) hx hb dX8_leavesShelf_65 (by decide) ?_
              refine lv_iconst (v := iI 4) hx hb dX8_leavesShelf_67 rfl ?_
              refine lv_aload_n hx hb dX8_leavesShelf_68 rfl (lv_at hl 1 rfl) ?_
              refine va_get (D := D) (ci := 10) (v := .ref (a0 1)) (C := RX8) (T := TX8) (N := 19) hx hb hts (fun w h => List.mem_cons_of_mem _ (List.mem_append_left _ (List.mem_append_right _ h))) hown hK hP 0 rfl rfl 0 (by decide) (hts (.fieldLink RX8 7 "MondayFactoryModel" "g" "[I") (List.mem_of_getElem? (i := 1) rfl)) (fun _ h9 => h9) rfl dX8_leavesShelf_69 ?_
              refine lv_bipush (v := iI 10) hx hb dX8_leavesShelf_72 (by decide) ?_
              refine z_iald hx hb hK hP 1 0 (f := F2) rfl rfl (i := 10) (by omega) (by omega) (by decide) 10 rfl dX8_leavesShelf_74 ?_
              refine zi_mul hx hb dX8_leavesShelf_75 ?_
              refine zi_add hx hb dX8_leavesShelf_76 ?_
              refine lv_iload_n hx hb dX8_leavesShelf_77 rfl (lv_at hl 0 rfl) ?_
              refine zi_add hx hb dX8_leavesShelf_78 ?_
              refine lv_iconst (v := iI 0) hx hb dX8_leavesShelf_79 rfl ?_
              refine z_iast hx hb hK hP hD hS 1 0 (f := F2) rfl rfl (i := (93 + (4 * (F2 10))) + y2) (by omega) (by omega) (by decide) (((93 + (4 * (F2 10))) + y2).toNat) rfl dX8_leavesShelf_80 (fun H locs hP hD hS => ?_)
              have hP : va_P D vwCl (wRef k a0 (up2 (upA (upA (up2 S0 1 10 ((S0 1 10) - 1)) 1 (shf (upZ (S0 1) 10 (S0 1 10 - 1)) (93 + 4 * p0).toNat (93 + 4 * (S0 1 10 - 1)).toNat 4)) 1 F2) 1 (((93 + (4 * (F2 10))) + y2).toNat) 0)) H := hP
              have hD : va_D A (wRef k a0 (up2 (upA (upA (up2 S0 1 10 ((S0 1 10) - 1)) 1 (shf (upZ (S0 1) 10 (S0 1 10 - 1)) (93 + 4 * p0).toNat (93 + 4 * (S0 1 10 - 1)).toNat 4)) 1 F2) 1 (((93 + (4 * (F2 10))) + y2).toNat) 0)) := hD
              refine lv_iinc (v := iI (y2 + 1)) (lv' := [(2, .int (iI (y2 + 1))), (0, .ref (a0 0)), (1, .int (iI p0))]) hx hb dX8_leavesShelf_81 hl (k := 0) rfl (iI_add _ _) (by decide) rfl (fun ls hl => ?_)
              refine lv_goto (tgt := 56) hx hb dX8_leavesShelf_84 (by decide) ?_
              exact ih56 (y2 + 1) (upZ F2 (((93 + (4 * (F2 10))) + y2).toNat) 0) (by omega) (by omega) (by omega) (by rw [g1, jF]; exact off_s2 (by omega) j0)  H locs ls hP hD hS (lv_sub hl [0, 1, 2] rfl)
        exact lp56_0 5 0 (shf (upZ (S0 1) 10 (S0 1 10 - 1)) (93 + 4 * p0).toNat (93 + 4 * (S0 1 10 - 1)).toNat 4) (by omega) (by omega) (by omega) (zer_0 (by omega)).symm  H locs ls hP hD hS (lv_sub hl [0, 1, 2] rfl)
      · refine lv_aload_n hx hb dX8_leavesShelf_34 rfl (lv_at hl 1 rfl) ?_
        refine va_get (D := D) (ci := 10) (v := .ref (a0 1)) (C := RX8) (T := TX8) (N := 19) hx hb hts (fun w h => List.mem_cons_of_mem _ (List.mem_append_left _ (List.mem_append_right _ h))) hown hK hP 0 rfl rfl 0 (by decide) (hts (.fieldLink RX8 7 "MondayFactoryModel" "g" "[I") (List.mem_of_getElem? (i := 1) rfl)) (fun _ h9 => h9) rfl dX8_leavesShelf_35 ?_
        refine lv_iload_n hx hb dX8_leavesShelf_38 rfl (lv_at hl 0 rfl) ?_
        refine lv_aload_n hx hb dX8_leavesShelf_39 rfl (lv_at hl 1 rfl) ?_
        refine va_get (D := D) (ci := 10) (v := .ref (a0 1)) (C := RX8) (T := TX8) (N := 19) hx hb hts (fun w h => List.mem_cons_of_mem _ (List.mem_append_left _ (List.mem_append_right _ h))) hown hK hP 0 rfl rfl 0 (by decide) (hts (.fieldLink RX8 7 "MondayFactoryModel" "g" "[I") (List.mem_of_getElem? (i := 1) rfl)) (fun _ h9 => h9) rfl dX8_leavesShelf_40 ?_
        refine lv_iload_n hx hb dX8_leavesShelf_43 rfl (lv_at hl 0 rfl) ?_
        refine lv_iconst (v := iI 4) hx hb dX8_leavesShelf_44 rfl ?_
        refine zi_add hx hb dX8_leavesShelf_45 ?_
        refine z_iald hx hb hK hP 1 0 (f := F1) rfl rfl (i := x2 + 4) (by omega) (by omega) (by decide) ((x2 + 4).toNat) rfl dX8_leavesShelf_46 ?_
        refine z_iast hx hb hK hP hD hS 1 0 (f := F1) rfl rfl (i := x2) (by omega) (by omega) (by decide) x2.toNat rfl dX8_leavesShelf_47 (fun H locs hP hD hS => ?_)
        have hP : va_P D vwCl (wRef k a0 (up2 (upA (up2 S0 1 10 ((S0 1 10) - 1)) 1 F1) 1 x2.toNat (F1 ((x2 + 4).toNat)))) H := hP
        have hD : va_D A (wRef k a0 (up2 (upA (up2 S0 1 10 ((S0 1 10) - 1)) 1 F1) 1 x2.toNat (F1 ((x2 + 4).toNat)))) := hD
        refine lv_iinc (v := iI (x2 + 1)) (lv' := [(2, .int (iI (x2 + 1))), (0, .ref (a0 0)), (1, .int (iI p0))]) hx hb dX8_leavesShelf_48 hl (k := 0) rfl (iI_add _ _) (by decide) rfl (fun ls hl => ?_)
        refine lv_goto (tgt := 18) hx hb dX8_leavesShelf_51 (by decide) ?_
        exact ih18 (x2 + 1) (upZ F1 x2.toNat (F1 ((x2 + 4).toNat))) (by omega) (by omega) (by omega) (by rw [iF]; exact off_s1 (by omega))  H locs ls hP hD hS (lv_sub hl [0, 1, 2] rfl)
  exact lp18_0 126 (93 + (4 * p0)) (upZ (S0 1) 10 ((S0 1 10) - 1)) (by omega) (by omega) (by omega) (shf_0 (by omega)).symm  H locs ls hP hD hS (lv_sub hl [0, 1, 2] rfl)
set_option maxHeartbeats 4000000 in
set_option maxRecDepth 100000 in
theorem c_X8_its (l : Launch) (D : va_G) (k : Nat → ClassId) (a0 : Nat → Nat) (S0 : Nat → Nat → Int) (p0 : Int) (p1 : Int) (h0 : 0 ≤ 93 + 4 * p0 + p1 ∧ 93 + 4 * p0 + p1 < 125) : zMi l yX8_its wsX8_its ({ frames := 0, cells := 0, slots := 0, locals := 0 } : Room) D k [.ref (a0 0), .int (iI p0), .int (iI p1)] (wRef k a0 S0) (S0 1 (((93 + (4 * p0)) + p1).toNat)) (wRef k a0 S0) 0 0 := by
  refine zMi_of (cc := cX8_its) (maxL := 3) (ret := (some .int)) (by decide) rfl (Nat.le_of_ble_eq_true rfl) ?_
  intro p e s m args below meth c A ls hx hb hr hml hown hts hlocks hK hP hD hG hA hS hl
  have hown : s.vm.findClass RX8 = some m.cls := hown
  have hl : lv_has ls 3 [(0, .ref (a0 0)), (1, .int (iI p0)), (2, .int (iI p1))] := hl
  obtain ⟨H, hH⟩ : ∃ z, z = s.heap := ⟨_, rfl⟩
  obtain ⟨locs, hlc⟩ : ∃ z : List Loc, z = [] := ⟨_, rfl⟩
  rw [← hH] at hP
  have hS : va_S A s.heap H locs := by rw [hH, hlc]; exact hS
  rw [← hlc, ← hH]
  clear hlc hH
  refine lv_aload_n hx hb dX8_its_0 rfl (lv_at hl 0 rfl) ?_
  refine va_get (D := D) (ci := 10) (v := .ref (a0 1)) (C := RX8) (T := TX8) (N := 19) hx hb hts (fun w h => List.mem_cons_of_mem _ (List.mem_append_left _ (List.mem_append_right _ h))) hown hK hP 0 rfl rfl 0 (by decide) (hts (.fieldLink RX8 7 "MondayFactoryModel" "g" "[I") (List.mem_of_getElem? (i := 1) rfl)) (fun _ h9 => h9) rfl dX8_its_1 ?_
  refine lv_bipush (v := iI 93) hx hb dX8_its_4 (by decide) ?_
  refine lv_iconst (v := iI 4) hx hb dX8_its_6 rfl ?_
  refine lv_iload_n hx hb dX8_its_7 rfl (lv_at hl 1 rfl) ?_
  refine zi_mul hx hb dX8_its_8 ?_
  refine zi_add hx hb dX8_its_9 ?_
  refine lv_iload_n hx hb dX8_its_10 rfl (lv_at hl 2 rfl) ?_
  refine zi_add hx hb dX8_its_11 ?_
  refine z_iald hx hb hK hP 1 0 (f := S0 1) rfl rfl (i := (93 + (4 * p0)) + p1) (by omega) (by omega) (by decide) (((93 + (4 * p0)) + p1).toNat) rfl dX8_its_12 ?_
  exact z_iret hx hb hr hlocks hP hS dX8_its_13 rfl rfl (Nat.le_refl _) (Nat.le_refl _)
set_option maxHeartbeats 4000000 in
set_option maxRecDepth 100000 in
theorem c_X8_isReject (l : Launch) (D : va_G) (k : Nat → ClassId) (a0 : Nat → Nat) (S0 : Nat → Nat → Int) (p0 : Int) (hB : zBf (S0 1)) (h0 : -2147483648 ≤ p0 ∧ p0 < 2147483648) : zMi l yX8_isReject wsX8_isReject ({ frames := 1, cells := 0, slots := 0, locals := 22 } : Room) D k [.ref (a0 0), .int (iI p0)] (wRef k a0 S0) (zb (0 ≤ p0 ∧ p0 < S0 1 10)) (wRef k a0 S0) 0 0 := by
  refine zMi_of (cc := cX8_isReject) (maxL := 2) (ret := (some .boolean)) (by decide) rfl (Nat.le_of_ble_eq_true rfl) ?_
  intro p e s m args below meth c A ls hx hb hr hml hown hts hlocks hK hP hD hG hA hS hl
  have hown : s.vm.findClass RX8 = some m.cls := hown
  have hl : lv_has ls 2 [(0, .ref (a0 0)), (1, .int (iI p0))] := hl
  obtain ⟨H, hH⟩ : ∃ z, z = s.heap := ⟨_, rfl⟩
  obtain ⟨locs, hlc⟩ : ∃ z : List Loc, z = [] := ⟨_, rfl⟩
  rw [← hH] at hP
  have hS : va_S A s.heap H locs := by rw [hH, hlc]; exact hS
  rw [← hlc, ← hH]
  clear hlc hH
  refine lv_iload_n hx hb dX8_isReject_0 rfl (lv_at hl 1 rfl) ?_
  refine lv_iconst (v := iI 0) hx hb dX8_isReject_1 rfl ?_
  refine lv_aload_n hx hb dX8_isReject_2 rfl (lv_at hl 0 rfl) ?_
  refine va_get (D := D) (ci := 10) (v := .ref (a0 1)) (C := RX8) (T := TX8) (N := 19) hx hb hts (fun w h => List.mem_cons_of_mem _ (List.mem_append_left _ (List.mem_append_right _ h))) hown hK hP 0 rfl rfl 0 (by decide) (hts (.fieldLink RX8 7 "MondayFactoryModel" "g" "[I") (List.mem_of_getElem? (i := 1) rfl)) (fun _ h9 => h9) rfl dX8_isReject_3 ?_
  refine lv_bipush (v := iI 10) hx hb dX8_isReject_6 (by decide) ?_
  refine z_iald hx hb hK hP 1 0 (f := S0 1) rfl rfl (i := 10) (by omega) (by omega) (by decide) 10 rfl dX8_isReject_8 ?_
  have f_1 := hB 10
  refine lv_iconst (v := iI 1) hx hb dX8_isReject_9 rfl ?_
  refine zi_sub hx hb dX8_isReject_10 ?_
  refine z_ai0 (va_runS (As := [.int (iI p0), .int (iI 0), .int (iI ((S0 1 10) - 1))]) (rest := []) ⟨hx, hb, hml, hown, hts⟩ (c_X8_in l D k   p0 0 ((S0 1 10) - 1) (by omega) (by omega) (by omega) _) (va_cwS 3 hts gX8_isReject_X8_in rfl rfl rfl (by decide +kernel) ⟨(Nat.le_of_ble_eq_true rfl), (Nat.le_of_ble_eq_true rfl)⟩) (z_preS hK hG hA hP hD hS [] rfl (by decide)) rfl rfl hl.1 rfl (lv_room (Nat.le_of_ble_eq_true rfl)) dX8_isReject_11 ⟨(Nat.le_of_ble_eq_true rfl), (Nat.le_of_ble_eq_true rfl)⟩) hA hP hD hS [] rfl (fun H locs hP hS => ?_)
  exact z_zret hx hb hr hlocks (zb_nar _) hP hS dX8_isReject_14 (congrArg zb (propext (by omega))) rfl (Nat.le_refl _) (Nat.le_refl _)
set_option maxHeartbeats 4000000 in
set_option maxRecDepth 100000 in
theorem c_X8_isInspector (l : Launch) (D : va_G) (k : Nat → ClassId) (a0 : Nat → Nat) (S0 : Nat → Nat → Int) (p0 : Int) (hB : zBf (S0 1)) (h0 : -2147483648 ≤ p0 ∧ p0 < 2147483648) : zMi l yX8_isInspector wsX8_isInspector ({ frames := 1, cells := 0, slots := 0, locals := 22 } : Room) D k [.ref (a0 0), .int (iI p0)] (wRef k a0 S0) (zb (0 ≤ p0 ∧ p0 < S0 1 9)) (wRef k a0 S0) 0 0 := by
  refine zMi_of (cc := cX8_isInspector) (maxL := 2) (ret := (some .boolean)) (by decide) rfl (Nat.le_of_ble_eq_true rfl) ?_
  intro p e s m args below meth c A ls hx hb hr hml hown hts hlocks hK hP hD hG hA hS hl
  have hown : s.vm.findClass RX8 = some m.cls := hown
  have hl : lv_has ls 2 [(0, .ref (a0 0)), (1, .int (iI p0))] := hl
  obtain ⟨H, hH⟩ : ∃ z, z = s.heap := ⟨_, rfl⟩
  obtain ⟨locs, hlc⟩ : ∃ z : List Loc, z = [] := ⟨_, rfl⟩
  rw [← hH] at hP
  have hS : va_S A s.heap H locs := by rw [hH, hlc]; exact hS
  rw [← hlc, ← hH]
  clear hlc hH
  refine lv_iload_n hx hb dX8_isInspector_0 rfl (lv_at hl 1 rfl) ?_
  refine lv_iconst (v := iI 0) hx hb dX8_isInspector_1 rfl ?_
  refine lv_aload_n hx hb dX8_isInspector_2 rfl (lv_at hl 0 rfl) ?_
  refine va_get (D := D) (ci := 10) (v := .ref (a0 1)) (C := RX8) (T := TX8) (N := 19) hx hb hts (fun w h => List.mem_cons_of_mem _ (List.mem_append_left _ (List.mem_append_right _ h))) hown hK hP 0 rfl rfl 0 (by decide) (hts (.fieldLink RX8 7 "MondayFactoryModel" "g" "[I") (List.mem_of_getElem? (i := 1) rfl)) (fun _ h9 => h9) rfl dX8_isInspector_3 ?_
  refine lv_bipush (v := iI 9) hx hb dX8_isInspector_6 (by decide) ?_
  refine z_iald hx hb hK hP 1 0 (f := S0 1) rfl rfl (i := 9) (by omega) (by omega) (by decide) 9 rfl dX8_isInspector_8 ?_
  have f_1 := hB 9
  refine lv_iconst (v := iI 1) hx hb dX8_isInspector_9 rfl ?_
  refine zi_sub hx hb dX8_isInspector_10 ?_
  refine z_ai0 (va_runS (As := [.int (iI p0), .int (iI 0), .int (iI ((S0 1 9) - 1))]) (rest := []) ⟨hx, hb, hml, hown, hts⟩ (c_X8_in l D k   p0 0 ((S0 1 9) - 1) (by omega) (by omega) (by omega) _) (va_cwS 3 hts gX8_isInspector_X8_in rfl rfl rfl (by decide +kernel) ⟨(Nat.le_of_ble_eq_true rfl), (Nat.le_of_ble_eq_true rfl)⟩) (z_preS hK hG hA hP hD hS [] rfl (by decide)) rfl rfl hl.1 rfl (lv_room (Nat.le_of_ble_eq_true rfl)) dX8_isInspector_11 ⟨(Nat.le_of_ble_eq_true rfl), (Nat.le_of_ble_eq_true rfl)⟩) hA hP hD hS [] rfl (fun H locs hP hS => ?_)
  exact z_zret hx hb hr hlocks (zb_nar _) hP hS dX8_isInspector_14 (congrArg zb (propext (by omega))) rfl (Nat.le_refl _) (Nat.le_refl _)
set_option maxHeartbeats 4000000 in
set_option maxRecDepth 100000 in
theorem c_X8_isPlace (l : Launch) (D : va_G) (k : Nat → ClassId) (a0 : Nat → Nat) (S0 : Nat → Nat → Int) (p0 : Int) (p1 : Int) (hB : zBf (S0 1)) (h0 : -2147483648 ≤ p0 ∧ p0 < 2147483648) (h1 : -2147483648 ≤ p1 ∧ p1 < 2147483648) : zMi l yX8_isPlace wsX8_isPlace ({ frames := 2, cells := 0, slots := 0, locals := 42 } : Room) D k [.ref (a0 0), .int (iI p0), .int (iI p1)] (wRef k a0 S0) (zb ((0 ≤ p0 ∧ p0 ≤ 2) ∧ 0 ≤ p1 ∧ p1 < S0 1 (15 + 26 * p0 + 0).toNat)) (wRef k a0 S0) 0 0 := by
  refine zMi_of (cc := cX8_isPlace) (maxL := 3) (ret := (some .boolean)) (by decide) rfl (Nat.le_of_ble_eq_true rfl) ?_
  intro p e s m args below meth c A ls hx hb hr hml hown hts hlocks hK hP hD hG hA hS hl
  have hown : s.vm.findClass RX8 = some m.cls := hown
  have hl : lv_has ls 3 [(0, .ref (a0 0)), (1, .int (iI p0)), (2, .int (iI p1))] := hl
  obtain ⟨H, hH⟩ : ∃ z, z = s.heap := ⟨_, rfl⟩
  obtain ⟨locs, hlc⟩ : ∃ z : List Loc, z = [] := ⟨_, rfl⟩
  rw [← hH] at hP
  have hS : va_S A s.heap H locs := by rw [hH, hlc]; exact hS
  rw [← hlc, ← hH]
  clear hlc hH
  refine lv_iload_n hx hb dX8_isPlace_0 rfl (lv_at hl 1 rfl) ?_
  refine z_ai0 (va_runS (As := [.int (iI p0)]) (rest := []) ⟨hx, hb, hml, hown, hts⟩ (c_X8_isBelt l D k   p0 (by omega) _) (va_cwS 1 hts gX8_isPlace_X8_isBelt rfl rfl rfl (by decide +kernel) ⟨(Nat.le_of_ble_eq_true rfl), (Nat.le_of_ble_eq_true rfl)⟩) (z_preS hK hG hA hP hD hS [] rfl (by decide)) rfl rfl hl.1 rfl (lv_room (Nat.le_of_ble_eq_true rfl)) dX8_isPlace_1 ⟨(Nat.le_of_ble_eq_true rfl), (Nat.le_of_ble_eq_true rfl)⟩) hA hP hD hS [] rfl (fun H locs hP hS => ?_)
  refine zi_if_eqB (tgt := 27) hx hb dX8_isPlace_4 (by decide) (fun c_1 => ?_) (fun c_1 => ?_)
  · refine lv_iconst (v := iI 0) hx hb dX8_isPlace_27 rfl ?_
    exact z_zret hx hb hr hlocks rfl hP hS dX8_isPlace_28 (zb_neg (by omega)) rfl (Nat.le_refl _) (Nat.le_refl _)
  · refine lv_iload_n hx hb dX8_isPlace_7 rfl (lv_at hl 2 rfl) ?_
    refine lv_iconst (v := iI 0) hx hb dX8_isPlace_8 rfl ?_
    refine lv_aload_n hx hb dX8_isPlace_9 rfl (lv_at hl 0 rfl) ?_
    refine lv_iload_n hx hb dX8_isPlace_10 rfl (lv_at hl 1 rfl) ?_
    refine lv_iconst (v := iI 0) hx hb dX8_isPlace_11 rfl ?_
    refine z_ai0 (va_runV (As := [.int (iI p0), .int (iI 0)]) (rest := [.int (iI 0), .int (iI p1)]) ⟨hx, hb, hml, hown, hts⟩ (c_X8_of l D k a0 S0  p0 0 (by omega) (by omega) _) (cwV 2 hts gX8_isPlace_X8_of rfl rfl rfl (by decide +kernel) ⟨(Nat.le_of_ble_eq_true rfl), (Nat.le_of_ble_eq_true rfl)⟩) (z_preV hK hG hA hP hD hS [0, 1, 2, 3, 4, 5, 6, 7] rfl (by decide) 10 rfl rfl) rfl rfl hl.1 rfl (lv_room (Nat.le_of_ble_eq_true rfl)) dX8_isPlace_12 ⟨(Nat.le_of_ble_eq_true rfl), (Nat.le_of_ble_eq_true rfl)⟩) hA hP hD hS [0, 1, 2, 3, 4, 5, 6, 7] rfl (fun H locs hP hS => ?_)
    have f_2 := hB (((15 + (26 * p0)) + 0).toNat)
    refine lv_iconst (v := iI 1) hx hb dX8_isPlace_15 rfl ?_
    refine zi_sub hx hb dX8_isPlace_16 ?_
    refine z_ai0 (va_runS (As := [.int (iI p1), .int (iI 0), .int (iI ((S0 1 (((15 + (26 * p0)) + 0).toNat)) - 1))]) (rest := []) ⟨hx, hb, hml, hown, hts⟩ (c_X8_in l D k   p1 0 ((S0 1 (((15 + (26 * p0)) + 0).toNat)) - 1) (by omega) (by omega) (by omega) _) (va_cwS 3 hts gX8_isPlace_X8_in rfl rfl rfl (by decide +kernel) ⟨(Nat.le_of_ble_eq_true rfl), (Nat.le_of_ble_eq_true rfl)⟩) (z_preS hK hG hA hP hD hS [] rfl (by decide)) rfl rfl hl.1 rfl (lv_room (Nat.le_of_ble_eq_true rfl)) dX8_isPlace_17 ⟨(Nat.le_of_ble_eq_true rfl), (Nat.le_of_ble_eq_true rfl)⟩) hA hP hD hS [] rfl (fun H locs hP hS => ?_)
    have f_3 := hB ((((15 + (26 * p0)) + 0).toNat))
    refine zi_if_eqB (tgt := 27) hx hb dX8_isPlace_20 (by decide) (fun c_4 => ?_) (fun c_4 => ?_)
    · refine lv_iconst (v := iI 0) hx hb dX8_isPlace_27 rfl ?_
      exact z_zret hx hb hr hlocks rfl hP hS dX8_isPlace_28 (zb_neg (by omega)) rfl (Nat.le_refl _) (Nat.le_refl _)
    · refine lv_iconst (v := iI 1) hx hb dX8_isPlace_23 rfl ?_
      refine lv_goto (tgt := 28) hx hb dX8_isPlace_24 (by decide) ?_
      exact z_zret hx hb hr hlocks rfl hP hS dX8_isPlace_28 (zb_pos (by omega)) rfl (Nat.le_refl _) (Nat.le_refl _)
set_option maxHeartbeats 4000000 in
set_option maxRecDepth 100000 in
theorem c_X8_cost (l : Launch) (D : va_G) (k : Nat → ClassId) (a0 : Nat → Nat) (S0 : Nat → Nat → Int) (p0 : Int) (h0 : 0 ≤ p0 ∧ p0 < 8) : zMi l yX8_cost wsX8_cost ({ frames := 1, cells := 0, slots := 0, locals := 22 } : Room) D k [.ref (a0 0), .int (iI p0)] (wRef k a0 S0) (2 + (S0 1 (((93 + (4 * p0)) + 2).toNat))) (wRef k a0 S0) 0 0 := by
  refine zMi_of (cc := cX8_cost) (maxL := 2) (ret := (some .int)) (by decide) rfl (Nat.le_of_ble_eq_true rfl) ?_
  intro p e s m args below meth c A ls hx hb hr hml hown hts hlocks hK hP hD hG hA hS hl
  have hown : s.vm.findClass RX8 = some m.cls := hown
  have hl : lv_has ls 2 [(0, .ref (a0 0)), (1, .int (iI p0))] := hl
  obtain ⟨H, hH⟩ : ∃ z, z = s.heap := ⟨_, rfl⟩
  obtain ⟨locs, hlc⟩ : ∃ z : List Loc, z = [] := ⟨_, rfl⟩
  rw [← hH] at hP
  have hS : va_S A s.heap H locs := by rw [hH, hlc]; exact hS
  rw [← hlc, ← hH]
  clear hlc hH
  refine lv_iconst (v := iI 2) hx hb dX8_cost_0 rfl ?_
  refine lv_aload_n hx hb dX8_cost_1 rfl (lv_at hl 0 rfl) ?_
  refine lv_iload_n hx hb dX8_cost_2 rfl (lv_at hl 1 rfl) ?_
  refine lv_iconst (v := iI 2) hx hb dX8_cost_3 rfl ?_
  refine z_ai0 (va_runV (As := [.int (iI p0), .int (iI 2)]) (rest := [.int (iI 2)]) ⟨hx, hb, hml, hown, hts⟩ (c_X8_its l D k a0 S0  p0 2 (by omega) _) (cwV 2 hts gX8_cost_X8_its rfl rfl rfl (by decide +kernel) ⟨(Nat.le_of_ble_eq_true rfl), (Nat.le_of_ble_eq_true rfl)⟩) (z_preV hK hG hA hP hD hS [0, 1, 2, 3, 4, 5, 6, 7] rfl (by decide) 10 rfl rfl) rfl rfl hl.1 rfl (lv_room (Nat.le_of_ble_eq_true rfl)) dX8_cost_4 ⟨(Nat.le_of_ble_eq_true rfl), (Nat.le_of_ble_eq_true rfl)⟩) hA hP hD hS [0, 1, 2, 3, 4, 5, 6, 7] rfl (fun H locs hP hS => ?_)
  refine zi_add hx hb dX8_cost_7 ?_
  exact z_iret hx hb hr hlocks hP hS dX8_cost_8 rfl rfl (Nat.le_refl _) (Nat.le_refl _)
