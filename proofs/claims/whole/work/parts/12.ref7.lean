theorem nextOneL_c {S T : Nat → Nat → Int} (h : S 1 = T 1) : ∀ (n : Nat) (x1 x2 : Int), sp_X8_nextOne_L4 S n x1 x2 = sp_X8_nextOne_L4 T n x1 x2 := by
  intro n
  induction n with
  | zero => intro _ _; rfl
  | succ n ih => intro x1 x2; unfold sp_X8_nextOne_L4; simp only [h, ih]
theorem nextOne_c {S T : Nat → Nat → Int} (h : S 1 = T 1) : sp_X8_nextOne S = sp_X8_nextOne T := by
  unfold sp_X8_nextOne
  simp only [nextOneL_c h]
theorem failedL_c {S T : Nat → Nat → Int} (h : S 1 = T 1) (p0 p1 p2 : Int) : ∀ (n : Nat) (x : Int), sp_X8_failed_L14 S p0 p1 p2 n x = sp_X8_failed_L14 T p0 p1 p2 n x := by
  intro n
  induction n with
  | zero => intro _; rfl
  | succ n ih => intro x; unfold sp_X8_failed_L14; simp only [h, ih]
theorem failed_c {S T : Nat → Nat → Int} (h : S 1 = T 1) (p0 p1 p2 : Int) : sp_X8_failed S p0 p1 p2 = sp_X8_failed T p0 p1 p2 := by
  unfold sp_X8_failed
  simp only [h, failedL_c h]
theorem rejects_c {S T : Nat → Nat → Int} (h : S 1 = T 1) (p0 p1 : Int) : sS0_1_X8_rejects S p0 p1 = sS0_1_X8_rejects T p0 p1 := by
  unfold sS0_1_X8_rejects
  simp only [h]
theorem insp_c {S T : Nat → Nat → Int} (h : S 1 = T 1) (p0 : Int) : sS0_1_X8_inspects S p0 = sS0_1_X8_inspects T p0 := by
  rw [insp_e, insp_e]
  unfold rInsp rPre rFail
  simp only [h, nextOne_c h, failed_c h, rejects_c h]
noncomputable def rLeastF (G : Nat → Int) (b : Int) : Int → Int → Int := fun k a => zif (G (15 + 26 * b + (6 + 4 * k + 0)).toNat = 1) a (min a (G (15 + 26 * b + (6 + 4 * k + 1)).toNat))
noncomputable def rLeast (G : Nat → Int) (b : Int) : Int := foldI (rLeastF G b) 9 (G (15 + 26 * b + 0).toNat)
noncomputable def rBestF (G : Nat → Int) : Int → Int → Int := fun k a => zif (rWorth G k (G 7) ≤ rWorth G a (G 7)) a k
noncomputable def rBest (G : Nat → Int) : Int := foldI (rBestF G) 0 (max 1 (G 10))
theorem rBest_0 (G : Nat → Int) : (0 : Int) = foldI (rBestF G) 0 1 := by
  show (0 : Int) = zif (rWorth G 0 (G 7) ≤ rWorth G 0 (G 7)) 0 0
  rw [zif_same]
noncomputable def rInOrder (G : Nat → Int) : Int := sumI (fun k => rWorth G k (G 7 + k)) (G 10)
noncomputable def rBestOrder (G : Nat → Int) : Int := sumI (fun k => rWorth G k (G 7 + rAhead G k)) (G 10)
noncomputable def rBefore (G : Nat → Int) (k : Int) : Int := sumI (fun o => zif (G (11 + o).toNat < G (11 + k).toNat ∨ (G (11 + o).toNat = G (11 + k).toNat ∧ o < k)) 1 0) (G 9)
noncomputable def rGreyer (G : Nat → Int) (a b : Int) : Prop := 0 < rGreys G a - rGreys G b ∨ (rGreys G a - rGreys G b = 0 ∧ (0 < G (15 + 26 * a + 0).toNat - G (15 + 26 * b + 0).toNat ∨ (G (15 + 26 * a + 0).toNat - G (15 + 26 * b + 0).toNat = 0 ∧ a < b)))
noncomputable def rGreyAhead (G : Nat → Int) (k : Int) : Int := sumI (fun o => zif (rGreyer G o k) 1 0) 3
noncomputable def sp_X8_wouldStamp (S0 : Nat → Nat → Int) (p0 : Int) : Int := zif (0 ≤ p0 ∧ p0 ≤ 2)
  (zif ((S0 1 9) = 0)
    (0)
    (((rInspN S0 p0 (S0 1 (15 + 26 * p0 + 0).toNat).toNat) (((15 + (26 * p0)) + 5).toNat)) - (S0 1 (((15 + (26 * p0)) + 5).toNat))))
  (0)
noncomputable def sS0_0_X8_wouldStamp (S0 : Nat → Nat → Int) (p0 : Int) : (Nat → Int) := zif (0 ≤ p0 ∧ p0 ≤ 2)
  (zif ((S0 1 9) = 0)
    (upZ (upZ (S0 0) 8 2) 7 0)
    (upZ (upZ (S0 0) 8 0) 7 0))
  (upZ (upZ (S0 0) 8 1) 7 0)
noncomputable def sS0_4_X8_wouldStamp (S0 : Nat → Nat → Int) (p0 : Int) : (Nat → Int) := zif (0 ≤ p0 ∧ p0 ≤ 2)
  (zif ((S0 1 9) = 0)
    (S0 4)
    (cpyZ (S0 1) (S0 4) 0 0 125))
  (S0 4)
set_option maxHeartbeats 4000000 in
set_option maxRecDepth 100000 in
theorem c_X8_wouldStamp (l : Launch) (D : va_G) (k : Nat → ClassId) (a0 : Nat → Nat) (S0 : Nat → Nat → Int) (p0 : Int) (hB : zBf (S0 1)) (hB0 : zBf (S0 0)) (hT : zBk 900000 (S0 1)) (hC : ∀ b : Int, 0 ≤ b → b ≤ 2 → 0 ≤ S0 1 (15 + 26 * b + 0).toNat ∧ S0 1 (15 + 26 * b + 0).toNat ≤ 5) (hI : 0 ≤ S0 1 9 ∧ S0 1 9 ≤ 4) (hF : 0 ≤ S0 1 10 ∧ S0 1 10 ≤ 8) (h0 : -2147483648 ≤ p0 ∧ p0 < 2147483648) : zMi l yX8_wouldStamp wsX8_wouldStamp ({ frames := 5, cells := 0, slots := 0, locals := 115 } : Room) D k [.ref (a0 0), .int (iI p0)] (wRef k a0 S0) (sp_X8_wouldStamp S0 p0) (wRef k a0 (upA (upA (upA S0 0 (sS0_0_X8_wouldStamp S0 p0)) 1 (S0 1)) 4 (sS0_4_X8_wouldStamp S0 p0))) 0 0 := by
  refine zMi_of (cc := cX8_wouldStamp) (maxL := 3) (ret := (some .int)) (by decide) rfl (Nat.le_of_ble_eq_true rfl) ?_
  intro p e s m args below meth c A ls hx hb hr hml hown hts hlocks hK hP hD hG hA hS hl
  have hown : s.vm.findClass RX8 = some m.cls := hown
  have hl : lv_has ls 3 [(0, .ref (a0 0)), (1, .int (iI p0))] := hl
  obtain ⟨H, hH⟩ : ∃ z, z = s.heap := ⟨_, rfl⟩
  obtain ⟨locs, hlc⟩ : ∃ z : List Loc, z = [] := ⟨_, rfl⟩
  rw [← hH] at hP
  have hS : va_S A s.heap H locs := by rw [hH, hlc]; exact hS
  rw [← hlc, ← hH]
  clear hlc hH
  refine lv_aload_n hx hb dX8_wouldStamp_0 rfl (lv_at hl 0 rfl) ?_
  refine lv_iload_n hx hb dX8_wouldStamp_1 rfl (lv_at hl 1 rfl) ?_
  refine z_ai0 (va_runS (As := [.int (iI p0)]) (rest := [.ref (a0 0)]) ⟨hx, hb, hml, hown, hts⟩ (c_X8_isBelt l D k   p0 (by omega) _) (va_cwS 1 hts gX8_wouldStamp_X8_isBelt rfl rfl rfl (by decide +kernel) ⟨(Nat.le_of_ble_eq_true rfl), (Nat.le_of_ble_eq_true rfl)⟩) (z_preS hK hG hA hP hD hS [] rfl (by decide)) rfl rfl hl.1 rfl (lv_room (Nat.le_of_ble_eq_true rfl)) dX8_wouldStamp_2 ⟨(Nat.le_of_ble_eq_true rfl), (Nat.le_of_ble_eq_true rfl)⟩) hA hP hD hS [] rfl (fun H locs hP hS => ?_)
  refine zi_if_neB (tgt := 12) hx hb dX8_wouldStamp_5 (by decide) (fun c_1 => ?_) (fun c_1 => ?_)
  · refine lv_aload_n hx hb dX8_wouldStamp_12 rfl (lv_at hl 0 rfl) ?_
    refine va_get (D := D) (ci := 10) (v := .ref (a0 1)) (C := RX8) (T := TX8) (N := 19) hx hb hts (fun w h => List.mem_cons_of_mem _ (List.mem_append_left _ (List.mem_append_right _ h))) hown hK hP 0 rfl rfl 0 (by decide) (hts (.fieldLink RX8 7 "MondayFactoryModel" "g" "[I") (List.mem_of_getElem? (i := 1) rfl)) (fun _ h9 => h9) rfl dX8_wouldStamp_13 ?_
    refine lv_bipush (v := iI 9) hx hb dX8_wouldStamp_16 (by decide) ?_
    refine z_iald hx hb hK hP 1 0 (f := S0 1) rfl rfl (i := 9) (by omega) (by omega) (by decide) 9 rfl dX8_wouldStamp_18 ?_
    have f_2 := hB 9
    refine zi_if_ne (tgt := 26) hx hb dX8_wouldStamp_19 (by decide) ⟨by omega, by omega⟩ (fun c_3 => ?_) (fun c_3 => ?_)
    · refine lv_iconst (v := iI 0) hx hb dX8_wouldStamp_26 rfl ?_
      refine z_ai (va_runV (As := [.int (iI 0)]) (rest := []) ⟨hx, hb, hml, hown, hts⟩ (c_X8_fails l D k a0 S0  0 (by omega) _) (cwV 1 hts gX8_wouldStamp_X8_fails rfl rfl rfl (by decide +kernel) ⟨(Nat.le_of_ble_eq_true rfl), (Nat.le_of_ble_eq_true rfl)⟩) (z_preV hK hG hA hP hD hS [0, 1, 2, 3, 4, 5, 6, 7] rfl (by decide) 10 rfl rfl) rfl rfl hl.1 rfl (lv_room (Nat.le_of_ble_eq_true rfl)) dX8_wouldStamp_27 ⟨(Nat.le_of_ble_eq_true rfl), (Nat.le_of_ble_eq_true rfl)⟩) hA hP hD hS [0, 1, 2, 3, 4, 5, 6, 7] rfl rfl (fun H locs hP hD hS => ?_)
      have hP : va_P D vwCl (wRef k a0 (upA S0 0 (upZ (upZ (S0 0) 8 0) 7 0))) H := hP
      have hD : va_D A (wRef k a0 (upA S0 0 (upZ (upZ (S0 0) 8 0) 7 0))) := hD
      refine zi_if_eqB (tgt := 35) hx hb dX8_wouldStamp_30 (by decide) (fun _ => ?_) (fun c_4 => absurd c_4 (by decide))
      have qc := hC p0 (by omega) (by omega)
      refine lv_aload_n hx hb dX8_wouldStamp_35 rfl (lv_at hl 0 rfl) ?_
      refine va_get (D := D) (ci := 10) (v := .ref (a0 1)) (C := RX8) (T := TX8) (N := 19) hx hb hts (fun w h => List.mem_cons_of_mem _ (List.mem_append_left _ (List.mem_append_right _ h))) hown hK hP 0 rfl rfl 0 (by decide) (hts (.fieldLink RX8 7 "MondayFactoryModel" "g" "[I") (List.mem_of_getElem? (i := 1) rfl)) (fun _ h9 => h9) rfl dX8_wouldStamp_36 ?_
      refine lv_iconst (v := iI 0) hx hb dX8_wouldStamp_39 rfl ?_
      refine lv_aload_n hx hb dX8_wouldStamp_40 rfl (lv_at hl 0 rfl) ?_
      refine va_get (D := D) (ci := 10) (v := .ref (a0 4)) (C := RX8) (T := TX8) (N := 19) hx hb hts (fun w h => List.mem_cons_of_mem _ (List.mem_append_left _ (List.mem_append_right _ h))) hown hK hP 0 rfl rfl 3 (by decide) (hts (.fieldLink RX8 19 "MondayFactoryModel" "before" "[I") (List.mem_of_getElem? (i := 2) rfl)) (fun _ h9 => h9) rfl dX8_wouldStamp_41 ?_
      refine lv_iconst (v := iI 0) hx hb dX8_wouldStamp_44 rfl ?_
      refine z_av (va_runS (As := [.ref (a0 1), .int (iI 0), .ref (a0 4), .int (iI 0)]) (rest := []) ⟨hx, hb, hml, hown, hts⟩ (c_X8_copies l D k (subA a0 1) (sub2 (upA S0 0 (upZ (upZ (S0 0) 8 0) 7 0)) 1) (subA a0 4) (sub2 (upA S0 0 (upZ (upZ (S0 0) 8 0) 7 0)) 4) 125 125 0 0 (by omega) (by omega) (by omega) _) (va_cwS 4 hts gX8_wouldStamp_X8_copies rfl rfl rfl (by decide +kernel) ⟨(Nat.le_of_ble_eq_true rfl), (Nat.le_of_ble_eq_true rfl)⟩) (z_preS hK hG hA hP hD hS [1, 4] rfl (by decide)) rfl rfl hl.1 rfl (lv_room (Nat.le_of_ble_eq_true rfl)) dX8_wouldStamp_45 ⟨(Nat.le_of_ble_eq_true rfl), (Nat.le_of_ble_eq_true rfl)⟩) hA hP hD hS [1, 4] rfl rfl (fun H locs hP hD hS => ?_)
      have hP : va_P D vwCl (wRef k a0 (upA (upA S0 0 (upZ (upZ (S0 0) 8 0) 7 0)) 4 (cpyZ (S0 1) (S0 4) 0 0 125))) H := hP
      have hD : va_D A (wRef k a0 (upA (upA S0 0 (upZ (upZ (S0 0) 8 0) 7 0)) 4 (cpyZ (S0 1) (S0 4) 0 0 125))) := hD
      have lp48_0 : ∀ (n : Nat) (F1 : Nat → Int), (F1 (15 + 26 * p0 + 0).toNat).toNat < n → (0 ≤ F1 (15 + 26 * p0 + 0).toNat ∧ F1 (15 + 26 * p0 + 0).toNat ≤ 5 ∧ F1 (15 + 26 * p0 + 0).toNat ≤ S0 1 (15 + 26 * p0 + 0).toNat) → (F1 = rInspN S0 p0 (S0 1 (15 + 26 * p0 + 0).toNat - F1 (15 + 26 * p0 + 0).toNat).toNat) → (zBk (900010 - 2 * F1 (15 + 26 * p0 + 0).toNat) F1) → (F1 9 = S0 1 9) → (0 ≤ F1 10 ∧ F1 10 ≤ 8) → ∀ (H : Heap) (locs : List Loc) (ls : Array Slot), va_P D vwCl (wRef k a0 (upA (upA (upA S0 0 (upZ (upZ (S0 0) 8 0) 7 0)) 4 (cpyZ (S0 1) (S0 4) 0 0 125)) 1 F1)) H → va_D A (wRef k a0 (upA (upA (upA S0 0 (upZ (upZ (S0 0) 8 0) 7 0)) 4 (cpyZ (S0 1) (S0 4) 0 0 125)) 1 F1)) → va_S A s.heap H locs → lv_has ls 3 [(0, .ref (a0 0)), (1, .int (iI p0))] → W p l e ({ frames := 5, cells := 0, slots := 0, locals := 115 } : Room) s m args below meth c H locs 0 0 (MQ below (zQi D A (sp_X8_wouldStamp S0 p0) (wRef k a0 (upA (upA (upA S0 0 (sS0_0_X8_wouldStamp S0 p0)) 1 (S0 1)) 4 (sS0_4_X8_wouldStamp S0 p0)))) args s 0 0 A) (F0 m 48 ls []) := by
        intro n48
        induction n48 with
        | zero => intro F1 hm; exact absurd hm (Nat.not_lt_zero _)
        | succ n48 ih48 =>
          intro F1 hm48 i0 iF iB i9 i10  H locs ls hP hD hS hl
          have hbF : zBf F1 := iB.f (by omega)
          refine lv_aload_n hx hb dX8_wouldStamp_48 rfl (lv_at hl 0 rfl) ?_
          refine lv_iload_n hx hb dX8_wouldStamp_49 rfl (lv_at hl 1 rfl) ?_
          refine lv_iconst (v := iI 0) hx hb dX8_wouldStamp_50 rfl ?_
          refine z_ai0 (va_runV (As := [.int (iI p0), .int (iI 0)]) (rest := []) ⟨hx, hb, hml, hown, hts⟩ (c_X8_of l D k a0 (upA (upA (upA S0 0 (upZ (upZ (S0 0) 8 0) 7 0)) 4 (cpyZ (S0 1) (S0 4) 0 0 125)) 1 F1)  p0 0 (by omega) (by omega) _) (cwV 2 hts gX8_wouldStamp_X8_of rfl rfl rfl (by decide +kernel) ⟨(Nat.le_of_ble_eq_true rfl), (Nat.le_of_ble_eq_true rfl)⟩) (z_preV hK hG hA hP hD hS [0, 1, 2, 3, 4, 5, 6, 7] rfl (by decide) 10 rfl rfl) rfl rfl hl.1 rfl (lv_room (Nat.le_of_ble_eq_true rfl)) dX8_wouldStamp_51 ⟨(Nat.le_of_ble_eq_true rfl), (Nat.le_of_ble_eq_true rfl)⟩) hA hP hD hS [0, 1, 2, 3, 4, 5, 6, 7] rfl (fun H locs hP hS => ?_)
          refine z_eqi (z2 := F1 (((15 + (26 * p0)) + 0).toNat)) rfl ?_
          have f_5 := hbF (((15 + (26 * p0)) + 0).toNat)
          refine zi_if_le (tgt := 66) hx hb dX8_wouldStamp_54 (by decide) ⟨by omega, by omega⟩ (fun c_6 => ?_) (fun c_6 => ?_)
          · have v_7 : F1 = rInspN S0 p0 (S0 1 (15 + 26 * p0 + 0).toNat).toNat := (iF.trans (by rw [show S0 1 (15 + 26 * p0 + 0).toNat - F1 (15 + 26 * p0 + 0).toNat = S0 1 (15 + 26 * p0 + 0).toNat by omega]))
            rw [v_7] at hP hD
            refine lv_aload_n hx hb dX8_wouldStamp_66 rfl (lv_at hl 0 rfl) ?_
            refine lv_iload_n hx hb dX8_wouldStamp_67 rfl (lv_at hl 1 rfl) ?_
            refine lv_iconst (v := iI 5) hx hb dX8_wouldStamp_68 rfl ?_
            refine z_ai0 (va_runV (As := [.int (iI p0), .int (iI 5)]) (rest := []) ⟨hx, hb, hml, hown, hts⟩ (c_X8_of l D k a0 (upA (upA (upA S0 0 (upZ (upZ (S0 0) 8 0) 7 0)) 4 (cpyZ (S0 1) (S0 4) 0 0 125)) 1 (rInspN S0 p0 (S0 1 (15 + 26 * p0 + 0).toNat).toNat))  p0 5 (by omega) (by omega) _) (cwV 2 hts gX8_wouldStamp_X8_of rfl rfl rfl (by decide +kernel) ⟨(Nat.le_of_ble_eq_true rfl), (Nat.le_of_ble_eq_true rfl)⟩) (z_preV hK hG hA hP hD hS [0, 1, 2, 3, 4, 5, 6, 7] rfl (by decide) 10 rfl rfl) rfl rfl hl.1 rfl (lv_room (Nat.le_of_ble_eq_true rfl)) dX8_wouldStamp_69 ⟨(Nat.le_of_ble_eq_true rfl), (Nat.le_of_ble_eq_true rfl)⟩) hA hP hD hS [0, 1, 2, 3, 4, 5, 6, 7] rfl (fun H locs hP hS => ?_)
            refine z_eqi (z2 := (rInspN S0 p0 (S0 1 (15 + 26 * p0 + 0).toNat).toNat) (((15 + (26 * p0)) + 5).toNat)) rfl ?_
            refine lv_istore_n (lv' := [(2, .int (iI ((rInspN S0 p0 (S0 1 (15 + 26 * p0 + 0).toNat).toNat) (((15 + (26 * p0)) + 5).toNat)))), (0, .ref (a0 0)), (1, .int (iI p0))]) hx hb dX8_wouldStamp_72 rfl hl (by decide) rfl (fun ls hl => ?_)
            refine lv_aload_n hx hb dX8_wouldStamp_73 rfl (lv_at hl 1 rfl) ?_
            refine va_get (D := D) (ci := 10) (v := .ref (a0 4)) (C := RX8) (T := TX8) (N := 19) hx hb hts (fun w h => List.mem_cons_of_mem _ (List.mem_append_left _ (List.mem_append_right _ h))) hown hK hP 0 rfl rfl 3 (by decide) (hts (.fieldLink RX8 19 "MondayFactoryModel" "before" "[I") (List.mem_of_getElem? (i := 2) rfl)) (fun _ h9 => h9) rfl dX8_wouldStamp_74 ?_
            refine lv_iconst (v := iI 0) hx hb dX8_wouldStamp_77 rfl ?_
            refine lv_aload_n hx hb dX8_wouldStamp_78 rfl (lv_at hl 1 rfl) ?_
            refine va_get (D := D) (ci := 10) (v := .ref (a0 1)) (C := RX8) (T := TX8) (N := 19) hx hb hts (fun w h => List.mem_cons_of_mem _ (List.mem_append_left _ (List.mem_append_right _ h))) hown hK hP 0 rfl rfl 0 (by decide) (hts (.fieldLink RX8 7 "MondayFactoryModel" "g" "[I") (List.mem_of_getElem? (i := 1) rfl)) (fun _ h9 => h9) rfl dX8_wouldStamp_79 ?_
            refine lv_iconst (v := iI 0) hx hb dX8_wouldStamp_82 rfl ?_
            refine z_av (va_runS (As := [.ref (a0 4), .int (iI 0), .ref (a0 1), .int (iI 0)]) (rest := []) ⟨hx, hb, hml, hown, hts⟩ (c_X8_copies l D k (subA a0 4) (sub2 (upA (upA (upA S0 0 (upZ (upZ (S0 0) 8 0) 7 0)) 4 (cpyZ (S0 1) (S0 4) 0 0 125)) 1 (rInspN S0 p0 (S0 1 (15 + 26 * p0 + 0).toNat).toNat)) 4) (subA a0 1) (sub2 (upA (upA (upA S0 0 (upZ (upZ (S0 0) 8 0) 7 0)) 4 (cpyZ (S0 1) (S0 4) 0 0 125)) 1 (rInspN S0 p0 (S0 1 (15 + 26 * p0 + 0).toNat).toNat)) 1) 125 125 0 0 (by omega) (by omega) (by omega) _) (va_cwS 4 hts gX8_wouldStamp_X8_copies rfl rfl rfl (by decide +kernel) ⟨(Nat.le_of_ble_eq_true rfl), (Nat.le_of_ble_eq_true rfl)⟩) (z_preS hK hG hA hP hD hS [4, 1] rfl (by decide)) rfl rfl hl.1 rfl (lv_room (Nat.le_of_ble_eq_true rfl)) dX8_wouldStamp_83 ⟨(Nat.le_of_ble_eq_true rfl), (Nat.le_of_ble_eq_true rfl)⟩) hA hP hD hS [4, 1] rfl rfl (fun H locs hP hD hS => ?_)
            have hP : va_P D vwCl (wRef k a0 (upA (upA (upA (upA S0 0 (upZ (upZ (S0 0) 8 0) 7 0)) 4 (cpyZ (S0 1) (S0 4) 0 0 125)) 1 (rInspN S0 p0 (S0 1 (15 + 26 * p0 + 0).toNat).toNat)) 1 (cpyZ ((cpyZ (S0 1) (S0 4) 0 0 125)) ((rInspN S0 p0 (S0 1 (15 + 26 * p0 + 0).toNat).toNat)) 0 0 125))) H := hP
            have hD : va_D A (wRef k a0 (upA (upA (upA (upA S0 0 (upZ (upZ (S0 0) 8 0) 7 0)) 4 (cpyZ (S0 1) (S0 4) 0 0 125)) 1 (rInspN S0 p0 (S0 1 (15 + 26 * p0 + 0).toNat).toNat)) 1 (cpyZ ((cpyZ (S0 1) (S0 4) 0 0 125)) ((rInspN S0 p0 (S0 1 (15 + 26 * p0 + 0).toNat).toNat)) 0 0 125))) := hD
            have hP : va_P D vwCl (wRef k a0 (upA (upA (upA (upA (upA S0 0 (upZ (upZ (S0 0) 8 0) 7 0)) 4 (cpyZ (S0 1) (S0 4) 0 0 125)) 1 (rInspN S0 p0 (S0 1 (15 + 26 * p0 + 0).toNat).toNat)) 1 (cpyZ ((cpyZ (S0 1) (S0 4) 0 0 125)) ((rInspN S0 p0 (S0 1 (15 + 26 * p0 + 0).toNat).toNat)) 0 0 125)) 1 (S0 1))) H := z_nrmP hP 1 (f := cpyZ ((cpyZ (S0 1) (S0 4) 0 0 125)) ((rInspN S0 p0 (S0 1 (15 + 26 * p0 + 0).toNat).toNat)) 0 0 125) (g := S0 1) rfl cpy_back
            have hD : va_D A (wRef k a0 (upA (upA (upA (upA (upA S0 0 (upZ (upZ (S0 0) 8 0) 7 0)) 4 (cpyZ (S0 1) (S0 4) 0 0 125)) 1 (rInspN S0 p0 (S0 1 (15 + 26 * p0 + 0).toNat).toNat)) 1 (cpyZ ((cpyZ (S0 1) (S0 4) 0 0 125)) ((rInspN S0 p0 (S0 1 (15 + 26 * p0 + 0).toNat).toNat)) 0 0 125)) 1 (S0 1))) := z_nrmD hD 1 (f := cpyZ ((cpyZ (S0 1) (S0 4) 0 0 125)) ((rInspN S0 p0 (S0 1 (15 + 26 * p0 + 0).toNat).toNat)) 0 0 125) (g := S0 1) rfl
            refine lv_iload_n hx hb dX8_wouldStamp_86 rfl (lv_at hl 0 rfl) ?_
            refine lv_aload_n hx hb dX8_wouldStamp_87 rfl (lv_at hl 1 rfl) ?_
            refine lv_iload_n hx hb dX8_wouldStamp_88 rfl (lv_at hl 2 rfl) ?_
            refine lv_iconst (v := iI 5) hx hb dX8_wouldStamp_89 rfl ?_
            refine z_ai0 (va_runV (As := [.int (iI p0), .int (iI 5)]) (rest := [.int (iI ((rInspN S0 p0 (S0 1 (15 + 26 * p0 + 0).toNat).toNat) (((15 + (26 * p0)) + 5).toNat)))]) ⟨hx, hb, hml, hown, hts⟩ (c_X8_of l D k a0 (upA (upA (upA (upA (upA S0 0 (upZ (upZ (S0 0) 8 0) 7 0)) 4 (cpyZ (S0 1) (S0 4) 0 0 125)) 1 (rInspN S0 p0 (S0 1 (15 + 26 * p0 + 0).toNat).toNat)) 1 (cpyZ ((cpyZ (S0 1) (S0 4) 0 0 125)) ((rInspN S0 p0 (S0 1 (15 + 26 * p0 + 0).toNat).toNat)) 0 0 125)) 1 (S0 1))  p0 5 (by omega) (by omega) _) (cwV 2 hts gX8_wouldStamp_X8_of rfl rfl rfl (by decide +kernel) ⟨(Nat.le_of_ble_eq_true rfl), (Nat.le_of_ble_eq_true rfl)⟩) (z_preV hK hG hA hP hD hS [0, 1, 2, 3, 4, 5, 6, 7] rfl (by decide) 10 rfl rfl) rfl rfl hl.1 rfl (lv_room (Nat.le_of_ble_eq_true rfl)) dX8_wouldStamp_90 ⟨(Nat.le_of_ble_eq_true rfl), (Nat.le_of_ble_eq_true rfl)⟩) hA hP hD hS [0, 1, 2, 3, 4, 5, 6, 7] rfl (fun H locs hP hS => ?_)
            refine z_eqi (z2 := S0 1 (((15 + (26 * p0)) + 5).toNat)) rfl ?_
            have f_8 := hB (((15 + (26 * p0)) + 5).toNat)
            refine zi_sub hx hb dX8_wouldStamp_93 ?_
            exact z_iret hx hb hr hlocks hP hS dX8_wouldStamp_94 (Eq.trans (zif_pos c_1) (Eq.trans (zif_neg c_3) rfl)) (Eq.trans (Eq.trans (congrArg (fun z => wRef k a0 (upA (upA (upA S0 0 z) 1 (S0 1)) 4 (sS0_4_X8_wouldStamp S0 p0))) (show sS0_0_X8_wouldStamp S0 p0 = upZ (upZ (S0 0) 8 0) 7 0 from (Eq.trans (zif_pos c_1) (Eq.trans (zif_neg c_3) rfl)))) (congrArg (fun z => wRef k a0 (upA (upA (upA S0 0 (upZ (upZ (S0 0) 8 0) 7 0)) 1 z) 4 (sS0_4_X8_wouldStamp S0 p0))) (show S0 1 = S0 1 from rfl))) (congrArg (fun z => wRef k a0 (upA (upA (upA S0 0 (upZ (upZ (S0 0) 8 0) 7 0)) 1 (S0 1)) 4 z)) (show sS0_4_X8_wouldStamp S0 p0 = cpyZ (S0 1) (S0 4) 0 0 125 from (Eq.trans (zif_pos c_1) (Eq.trans (zif_neg c_3) rfl))))) (Nat.le_refl _) (Nat.le_refl _)
          · refine lv_aload_n hx hb dX8_wouldStamp_57 rfl (lv_at hl 0 rfl) ?_
            refine lv_iload_n hx hb dX8_wouldStamp_58 rfl (lv_at hl 1 rfl) ?_
            refine z_ai (va_runV (As := [.int (iI p0)]) (rest := []) ⟨hx, hb, hml, hown, hts⟩ (c_X8_inspects l D k a0 (upA (upA (upA S0 0 (upZ (upZ (S0 0) 8 0) 7 0)) 4 (cpyZ (S0 1) (S0 4) 0 0 125)) 1 F1)  p0 hbF (iB.t (by omega)) (by omega) (by have e0 : ((upA (upA (upA S0 0 (upZ (upZ (S0 0) 8 0) 7 0)) 4 (cpyZ (S0 1) (S0 4) 0 0 125)) 1 F1) 1 (15 + 26 * p0 + 0).toNat) = F1 ((15 + 26 * p0 + 0).toNat) := rfl; omega) (by have e0 : ((upA (upA (upA S0 0 (upZ (upZ (S0 0) 8 0) 7 0)) 4 (cpyZ (S0 1) (S0 4) 0 0 125)) 1 F1) 1 9) = F1 9 := rfl; omega) (by have e0 : ((upA (upA (upA S0 0 (upZ (upZ (S0 0) 8 0) 7 0)) 4 (cpyZ (S0 1) (S0 4) 0 0 125)) 1 F1) 1 10) = F1 10 := rfl; omega) _) (cwV 1 hts gX8_wouldStamp_X8_inspects rfl rfl rfl (by decide +kernel) ⟨(Nat.le_of_ble_eq_true rfl), (Nat.le_of_ble_eq_true rfl)⟩) (z_preV hK hG hA hP hD hS [0, 1, 2, 3, 4, 5, 6, 7] rfl (by decide) 10 rfl rfl) rfl rfl hl.1 rfl (lv_room (Nat.le_of_ble_eq_true rfl)) dX8_wouldStamp_59 ⟨(Nat.le_of_ble_eq_true rfl), (Nat.le_of_ble_eq_true rfl)⟩) hA hP hD hS [0, 1, 2, 3, 4, 5, 6, 7] rfl rfl (fun H locs hP hD hS => ?_)
            have hP : va_P D vwCl (wRef k a0 (upA (upA (upA (upA S0 0 (upZ (upZ (S0 0) 8 0) 7 0)) 4 (cpyZ (S0 1) (S0 4) 0 0 125)) 1 F1) 1 (sS0_1_X8_inspects (upA (upA (upA S0 0 (upZ (upZ (S0 0) 8 0) 7 0)) 4 (cpyZ (S0 1) (S0 4) 0 0 125)) 1 F1) p0))) H := hP
            have hD : va_D A (wRef k a0 (upA (upA (upA (upA S0 0 (upZ (upZ (S0 0) 8 0) 7 0)) 4 (cpyZ (S0 1) (S0 4) 0 0 125)) 1 F1) 1 (sS0_1_X8_inspects (upA (upA (upA S0 0 (upZ (upZ (S0 0) 8 0) 7 0)) 4 (cpyZ (S0 1) (S0 4) 0 0 125)) 1 F1) p0))) := hD
            refine z_eqi (z2 := sp_X8_inspects (upA (upA (upA S0 0 (upZ (upZ (S0 0) 8 0) 7 0)) 4 (cpyZ (S0 1) (S0 4) 0 0 125)) 1 F1) p0) rfl ?_
            refine lv_pop hx hb dX8_wouldStamp_62 rfl ?_
            refine lv_goto (tgt := 48) hx hb dX8_wouldStamp_63 (by decide) ?_
            have eX : (sS0_1_X8_inspects (upA (upA (upA S0 0 (upZ (upZ (S0 0) 8 0) 7 0)) 4 (cpyZ (S0 1) (S0 4) 0 0 125)) 1 F1) p0) = sS0_1_X8_inspects (upA S0 1 F1) p0 := insp_c rfl p0
            have hi9 : 1 ≤ F1 9 ∧ F1 9 ≤ 4 := by omega
            have hi1 : 1 ≤ F1 (15 + 26 * p0 + 0).toNat ∧ F1 (15 + 26 * p0 + 0).toNat ≤ 5 := by omega
            have hp0 : 0 ≤ p0 ∧ p0 ≤ 2 := by omega
            have X1 : (sS0_1_X8_inspects (upA (upA (upA S0 0 (upZ (upZ (S0 0) 8 0) 7 0)) 4 (cpyZ (S0 1) (S0 4) 0 0 125)) 1 F1) p0) (15 + 26 * p0 + 0).toNat = F1 (15 + 26 * p0 + 0).toNat - 1 := by rw [eX]; exact insp_own (S0 := upA S0 1 F1) hp0 hi9 i10 hi1
            have X9 : (sS0_1_X8_inspects (upA (upA (upA S0 0 (upZ (upZ (S0 0) 8 0) 7 0)) 4 (cpyZ (S0 1) (S0 4) 0 0 125)) 1 F1) p0) 9 = S0 1 9 := by rw [eX]; exact (insp_9 (S0 := upA S0 1 F1) hp0 hi9 i10 hi1).trans i9
            have X10 : 0 ≤ (sS0_1_X8_inspects (upA (upA (upA S0 0 (upZ (upZ (S0 0) 8 0) 7 0)) 4 (cpyZ (S0 1) (S0 4) 0 0 125)) 1 F1) p0) 10 ∧ (sS0_1_X8_inspects (upA (upA (upA S0 0 (upZ (upZ (S0 0) 8 0) 7 0)) 4 (cpyZ (S0 1) (S0 4) 0 0 125)) 1 F1) p0) 10 ≤ 8 := by rw [eX]; exact insp_10 (S0 := upA S0 1 F1) hp0 hi9 i10 hi1
            have XB : zBk (900010 - 2 * (sS0_1_X8_inspects (upA (upA (upA S0 0 (upZ (upZ (S0 0) 8 0) 7 0)) 4 (cpyZ (S0 1) (S0 4) 0 0 125)) 1 F1) p0) (15 + 26 * p0 + 0).toNat) (sS0_1_X8_inspects (upA (upA (upA S0 0 (upZ (upZ (S0 0) 8 0) 7 0)) 4 (cpyZ (S0 1) (S0 4) 0 0 125)) 1 F1) p0) := by rw [X1, eX]; exact (zBk.insp (S0 := upA S0 1 F1) iB hp0 hi9 i10 hi1 (by omega)).mono (by omega)
            have XF : (sS0_1_X8_inspects (upA (upA (upA S0 0 (upZ (upZ (S0 0) 8 0) 7 0)) 4 (cpyZ (S0 1) (S0 4) 0 0 125)) 1 F1) p0) = rInspN S0 p0 (S0 1 (15 + 26 * p0 + 0).toNat - (sS0_1_X8_inspects (upA (upA (upA S0 0 (upZ (upZ (S0 0) 8 0) 7 0)) 4 (cpyZ (S0 1) (S0 4) 0 0 125)) 1 F1) p0) (15 + 26 * p0 + 0).toNat).toNat := by rw [X1, show (S0 1 (15 + 26 * p0 + 0).toNat - (F1 (15 + 26 * p0 + 0).toNat - 1)).toNat = (S0 1 (15 + 26 * p0 + 0).toNat - F1 (15 + 26 * p0 + 0).toNat).toNat + 1 by omega]; show (sS0_1_X8_inspects (upA (upA (upA S0 0 (upZ (upZ (S0 0) 8 0) 7 0)) 4 (cpyZ (S0 1) (S0 4) 0 0 125)) 1 F1) p0) = sS0_1_X8_inspects (upA S0 1 (rInspN S0 p0 _)) p0; rw [← iF]; exact eX
            exact ih48 (sS0_1_X8_inspects (upA (upA (upA S0 0 (upZ (upZ (S0 0) 8 0) 7 0)) 4 (cpyZ (S0 1) (S0 4) 0 0 125)) 1 F1) p0) (by omega) (by omega) XF XB X9 X10  H locs ls hP hD hS (lv_sub hl [0, 1] rfl)
      exact lp48_0 6 (S0 1) (by omega) (by omega) (by rw [show (S0 1 (15 + 26 * p0 + 0).toNat - S0 1 (15 + 26 * p0 + 0).toNat).toNat = 0 by omega]; rfl) (hT.mono (by omega)) (by omega) (by omega)  H locs ls hP hD hS (lv_sub hl [0, 1] rfl)
    · refine lv_iconst (v := iI 2) hx hb dX8_wouldStamp_22 rfl ?_
      refine lv_goto (tgt := 27) hx hb dX8_wouldStamp_23 (by decide) ?_
      refine z_ai (va_runV (As := [.int (iI 2)]) (rest := []) ⟨hx, hb, hml, hown, hts⟩ (c_X8_fails l D k a0 S0  2 (by omega) _) (cwV 1 hts gX8_wouldStamp_X8_fails rfl rfl rfl (by decide +kernel) ⟨(Nat.le_of_ble_eq_true rfl), (Nat.le_of_ble_eq_true rfl)⟩) (z_preV hK hG hA hP hD hS [0, 1, 2, 3, 4, 5, 6, 7] rfl (by decide) 10 rfl rfl) rfl rfl hl.1 rfl (lv_room (Nat.le_of_ble_eq_true rfl)) dX8_wouldStamp_27 ⟨(Nat.le_of_ble_eq_true rfl), (Nat.le_of_ble_eq_true rfl)⟩) hA hP hD hS [0, 1, 2, 3, 4, 5, 6, 7] rfl rfl (fun H locs hP hD hS => ?_)
      have hP : va_P D vwCl (wRef k a0 (upA S0 0 (upZ (upZ (S0 0) 8 2) 7 0))) H := hP
      have hD : va_D A (wRef k a0 (upA S0 0 (upZ (upZ (S0 0) 8 2) 7 0))) := hD
      refine zi_if_eqB (tgt := 35) hx hb dX8_wouldStamp_30 (by decide) (fun c_9 => absurd c_9 (by decide)) (fun _ => ?_)
      refine lv_iconst (v := iI 0) hx hb dX8_wouldStamp_33 rfl ?_
      exact z_iret hx hb hr hlocks hP hS dX8_wouldStamp_34 (Eq.trans (zif_pos c_1) (Eq.trans (zif_pos c_3) rfl)) (Eq.trans (Eq.trans (congrArg (fun z => wRef k a0 (upA (upA (upA S0 0 z) 1 (S0 1)) 4 (sS0_4_X8_wouldStamp S0 p0))) (show sS0_0_X8_wouldStamp S0 p0 = upZ (upZ (S0 0) 8 2) 7 0 from (Eq.trans (zif_pos c_1) (Eq.trans (zif_pos c_3) rfl)))) (congrArg (fun z => wRef k a0 (upA (upA (upA S0 0 (upZ (upZ (S0 0) 8 2) 7 0)) 1 z) 4 (sS0_4_X8_wouldStamp S0 p0))) (show S0 1 = S0 1 from rfl))) (congrArg (fun z => wRef k a0 (upA (upA (upA S0 0 (upZ (upZ (S0 0) 8 2) 7 0)) 1 (S0 1)) 4 z)) (show sS0_4_X8_wouldStamp S0 p0 = S0 4 from (Eq.trans (zif_pos c_1) (Eq.trans (zif_pos c_3) rfl))))) (Nat.le_refl _) (Nat.le_refl _)
  · refine lv_iconst (v := iI 1) hx hb dX8_wouldStamp_8 rfl ?_
    refine lv_goto (tgt := 27) hx hb dX8_wouldStamp_9 (by decide) ?_
    refine z_ai (va_runV (As := [.int (iI 1)]) (rest := []) ⟨hx, hb, hml, hown, hts⟩ (c_X8_fails l D k a0 S0  1 (by omega) _) (cwV 1 hts gX8_wouldStamp_X8_fails rfl rfl rfl (by decide +kernel) ⟨(Nat.le_of_ble_eq_true rfl), (Nat.le_of_ble_eq_true rfl)⟩) (z_preV hK hG hA hP hD hS [0, 1, 2, 3, 4, 5, 6, 7] rfl (by decide) 10 rfl rfl) rfl rfl hl.1 rfl (lv_room (Nat.le_of_ble_eq_true rfl)) dX8_wouldStamp_27 ⟨(Nat.le_of_ble_eq_true rfl), (Nat.le_of_ble_eq_true rfl)⟩) hA hP hD hS [0, 1, 2, 3, 4, 5, 6, 7] rfl rfl (fun H locs hP hD hS => ?_)
    have hP : va_P D vwCl (wRef k a0 (upA S0 0 (upZ (upZ (S0 0) 8 1) 7 0))) H := hP
    have hD : va_D A (wRef k a0 (upA S0 0 (upZ (upZ (S0 0) 8 1) 7 0))) := hD
    refine zi_if_eqB (tgt := 35) hx hb dX8_wouldStamp_30 (by decide) (fun c_10 => absurd c_10 (by decide)) (fun _ => ?_)
    refine lv_iconst (v := iI 0) hx hb dX8_wouldStamp_33 rfl ?_
    exact z_iret hx hb hr hlocks hP hS dX8_wouldStamp_34 (Eq.trans (zif_neg c_1) rfl) (Eq.trans (Eq.trans (congrArg (fun z => wRef k a0 (upA (upA (upA S0 0 z) 1 (S0 1)) 4 (sS0_4_X8_wouldStamp S0 p0))) (show sS0_0_X8_wouldStamp S0 p0 = upZ (upZ (S0 0) 8 1) 7 0 from (Eq.trans (zif_neg c_1) rfl))) (congrArg (fun z => wRef k a0 (upA (upA (upA S0 0 (upZ (upZ (S0 0) 8 1) 7 0)) 1 z) 4 (sS0_4_X8_wouldStamp S0 p0))) (show S0 1 = S0 1 from rfl))) (congrArg (fun z => wRef k a0 (upA (upA (upA S0 0 (upZ (upZ (S0 0) 8 1) 7 0)) 1 (S0 1)) 4 z)) (show sS0_4_X8_wouldStamp S0 p0 = S0 4 from (Eq.trans (zif_neg c_1) rfl)))) (Nat.le_refl _) (Nat.le_refl _)
noncomputable def sp_X8_leastGrey (S0 : Nat → Nat → Int) (p0 : Int) : Int := zif (0 ≤ p0 ∧ p0 ≤ 2)
  (rLeast (S0 1) p0)
  (0)
noncomputable def sS0_0_X8_leastGrey (S0 : Nat → Nat → Int) (p0 : Int) : (Nat → Int) := zif (0 ≤ p0 ∧ p0 ≤ 2)
  (upZ (upZ (S0 0) 8 0) 7 0)
  (upZ (upZ (S0 0) 8 1) 7 0)
set_option maxHeartbeats 4000000 in
set_option maxRecDepth 100000 in
theorem c_X8_leastGrey (l : Launch) (D : va_G) (k : Nat → ClassId) (a0 : Nat → Nat) (S0 : Nat → Nat → Int) (p0 : Int) (hB : zBf (S0 1)) (hB0 : zBf (S0 0)) (hC : ∀ b : Int, 0 ≤ b → b ≤ 2 → 0 ≤ S0 1 (15 + 26 * b + 0).toNat ∧ S0 1 (15 + 26 * b + 0).toNat ≤ 5) (h0 : -2147483648 ≤ p0 ∧ p0 < 2147483648) : zMi l yX8_leastGrey wsX8_leastGrey ({ frames := 3, cells := 0, slots := 0, locals := 67 } : Room) D k [.ref (a0 0), .int (iI p0)] (wRef k a0 S0) (sp_X8_leastGrey S0 p0) (wRef k a0 (upA S0 0 (sS0_0_X8_leastGrey S0 p0))) 0 0 := by
  refine zMi_of (cc := cX8_leastGrey) (maxL := 4) (ret := (some .int)) (by decide) rfl (Nat.le_of_ble_eq_true rfl) ?_
  intro p e s m args below meth c A ls hx hb hr hml hown hts hlocks hK hP hD hG hA hS hl
  have hown : s.vm.findClass RX8 = some m.cls := hown
  have hl : lv_has ls 4 [(0, .ref (a0 0)), (1, .int (iI p0))] := hl
  obtain ⟨H, hH⟩ : ∃ z, z = s.heap := ⟨_, rfl⟩
  obtain ⟨locs, hlc⟩ : ∃ z : List Loc, z = [] := ⟨_, rfl⟩
  rw [← hH] at hP
  have hS : va_S A s.heap H locs := by rw [hH, hlc]; exact hS
  rw [← hlc, ← hH]
  clear hlc hH
  refine lv_aload_n hx hb dX8_leastGrey_0 rfl (lv_at hl 0 rfl) ?_
  refine lv_iload_n hx hb dX8_leastGrey_1 rfl (lv_at hl 1 rfl) ?_
  refine z_ai0 (va_runS (As := [.int (iI p0)]) (rest := [.ref (a0 0)]) ⟨hx, hb, hml, hown, hts⟩ (c_X8_isBelt l D k   p0 (by omega) _) (va_cwS 1 hts gX8_leastGrey_X8_isBelt rfl rfl rfl (by decide +kernel) ⟨(Nat.le_of_ble_eq_true rfl), (Nat.le_of_ble_eq_true rfl)⟩) (z_preS hK hG hA hP hD hS [] rfl (by decide)) rfl rfl hl.1 rfl (lv_room (Nat.le_of_ble_eq_true rfl)) dX8_leastGrey_2 ⟨(Nat.le_of_ble_eq_true rfl), (Nat.le_of_ble_eq_true rfl)⟩) hA hP hD hS [] rfl (fun H locs hP hS => ?_)
  refine zi_if_eqB (tgt := 12) hx hb dX8_leastGrey_5 (by decide) (fun c_1 => ?_) (fun c_1 => ?_)
  · refine lv_iconst (v := iI 1) hx hb dX8_leastGrey_12 rfl ?_
    refine z_ai (va_runV (As := [.int (iI 1)]) (rest := []) ⟨hx, hb, hml, hown, hts⟩ (c_X8_fails l D k a0 S0  1 (by omega) _) (cwV 1 hts gX8_leastGrey_X8_fails rfl rfl rfl (by decide +kernel) ⟨(Nat.le_of_ble_eq_true rfl), (Nat.le_of_ble_eq_true rfl)⟩) (z_preV hK hG hA hP hD hS [0, 1, 2, 3, 4, 5, 6, 7] rfl (by decide) 10 rfl rfl) rfl rfl hl.1 rfl (lv_room (Nat.le_of_ble_eq_true rfl)) dX8_leastGrey_13 ⟨(Nat.le_of_ble_eq_true rfl), (Nat.le_of_ble_eq_true rfl)⟩) hA hP hD hS [0, 1, 2, 3, 4, 5, 6, 7] rfl rfl (fun H locs hP hD hS => ?_)
    have hP : va_P D vwCl (wRef k a0 (upA S0 0 (upZ (upZ (S0 0) 8 1) 7 0))) H := hP
    have hD : va_D A (wRef k a0 (upA S0 0 (upZ (upZ (S0 0) 8 1) 7 0))) := hD
    refine zi_if_eqB (tgt := 21) hx hb dX8_leastGrey_16 (by decide) (fun c_2 => absurd c_2 (by decide)) (fun _ => ?_)
    refine lv_iconst (v := iI 0) hx hb dX8_leastGrey_19 rfl ?_
    exact z_iret hx hb hr hlocks hP hS dX8_leastGrey_20 (Eq.trans (zif_neg c_1) rfl) (congrArg (fun z => wRef k a0 (upA S0 0 z)) (show sS0_0_X8_leastGrey S0 p0 = upZ (upZ (S0 0) 8 1) 7 0 from (Eq.trans (zif_neg c_1) rfl))) (Nat.le_refl _) (Nat.le_refl _)
  · refine lv_iconst (v := iI 0) hx hb dX8_leastGrey_8 rfl ?_
    refine lv_goto (tgt := 13) hx hb dX8_leastGrey_9 (by decide) ?_
    refine z_ai (va_runV (As := [.int (iI 0)]) (rest := []) ⟨hx, hb, hml, hown, hts⟩ (c_X8_fails l D k a0 S0  0 (by omega) _) (cwV 1 hts gX8_leastGrey_X8_fails rfl rfl rfl (by decide +kernel) ⟨(Nat.le_of_ble_eq_true rfl), (Nat.le_of_ble_eq_true rfl)⟩) (z_preV hK hG hA hP hD hS [0, 1, 2, 3, 4, 5, 6, 7] rfl (by decide) 10 rfl rfl) rfl rfl hl.1 rfl (lv_room (Nat.le_of_ble_eq_true rfl)) dX8_leastGrey_13 ⟨(Nat.le_of_ble_eq_true rfl), (Nat.le_of_ble_eq_true rfl)⟩) hA hP hD hS [0, 1, 2, 3, 4, 5, 6, 7] rfl rfl (fun H locs hP hD hS => ?_)
    have hP : va_P D vwCl (wRef k a0 (upA S0 0 (upZ (upZ (S0 0) 8 0) 7 0))) H := hP
    have hD : va_D A (wRef k a0 (upA S0 0 (upZ (upZ (S0 0) 8 0) 7 0))) := hD
    refine zi_if_eqB (tgt := 21) hx hb dX8_leastGrey_16 (by decide) (fun _ => ?_) (fun c_3 => absurd c_3 (by decide))
    have qc := hC p0 (by omega) (by omega)
    refine lv_bipush (v := iI 9) hx hb dX8_leastGrey_21 (by decide) ?_
    refine lv_istore_n (lv' := [(2, .int (iI 9)), (0, .ref (a0 0)), (1, .int (iI p0))]) hx hb dX8_leastGrey_23 rfl hl (by decide) rfl (fun ls hl => ?_)
    refine lv_iconst (v := iI 0) hx hb dX8_leastGrey_24 rfl ?_
    refine lv_istore_n (lv' := [(3, .int (iI 0)), (2, .int (iI 9)), (0, .ref (a0 0)), (1, .int (iI p0))]) hx hb dX8_leastGrey_25 rfl hl (by decide) rfl (fun ls hl => ?_)
    have lp26_0 : ∀ (n : Nat) (x2 : Int) (x3 : Int), (5 - x3).toNat < n → (0 ≤ x3) → (x3 ≤ S0 1 (15 + 26 * p0 + 0).toNat) → (-1000000000 ≤ x2 ∧ x2 ≤ 9) → (x2 = foldI (rLeastF (S0 1) p0) 9 x3) → ∀ (H : Heap) (locs : List Loc) (ls : Array Slot), va_P D vwCl (wRef k a0 (upA S0 0 (upZ (upZ (S0 0) 8 0) 7 0))) H → va_D A (wRef k a0 (upA S0 0 (upZ (upZ (S0 0) 8 0) 7 0))) → va_S A s.heap H locs → lv_has ls 4 [(3, .int (iI x3)), (2, .int (iI x2)), (0, .ref (a0 0)), (1, .int (iI p0))] → W p l e ({ frames := 3, cells := 0, slots := 0, locals := 67 } : Room) s m args below meth c H locs 0 0 (MQ below (zQi D A (sp_X8_leastGrey S0 p0) (wRef k a0 (upA S0 0 (sS0_0_X8_leastGrey S0 p0)))) args s 0 0 A) (F0 m 26 ls []) := by
      intro n26
      induction n26 with
      | zero => intro x2 x3 hm; exact absurd hm (Nat.not_lt_zero _)
      | succ n26 ih26 =>
        intro x2 x3 hm26 i0 i1 ib iF  H locs ls hP hD hS hl
        refine lv_iload_n hx hb dX8_leastGrey_26 rfl (lv_at hl 0 rfl) ?_
        refine lv_aload_n hx hb dX8_leastGrey_27 rfl (lv_at hl 2 rfl) ?_
        refine lv_iload_n hx hb dX8_leastGrey_28 rfl (lv_at hl 3 rfl) ?_
        refine lv_iconst (v := iI 0) hx hb dX8_leastGrey_29 rfl ?_
        refine z_ai0 (va_runV (As := [.int (iI p0), .int (iI 0)]) (rest := [.int (iI x3)]) ⟨hx, hb, hml, hown, hts⟩ (c_X8_of l D k a0 (upA S0 0 (upZ (upZ (S0 0) 8 0) 7 0))  p0 0 (by omega) (by omega) _) (cwV 2 hts gX8_leastGrey_X8_of rfl rfl rfl (by decide +kernel) ⟨(Nat.le_of_ble_eq_true rfl), (Nat.le_of_ble_eq_true rfl)⟩) (z_preV hK hG hA hP hD hS [0, 1, 2, 3, 4, 5, 6, 7] rfl (by decide) 10 rfl rfl) rfl rfl hl.1 rfl (lv_room (Nat.le_of_ble_eq_true rfl)) dX8_leastGrey_30 ⟨(Nat.le_of_ble_eq_true rfl), (Nat.le_of_ble_eq_true rfl)⟩) hA hP hD hS [0, 1, 2, 3, 4, 5, 6, 7] rfl (fun H locs hP hS => ?_)
        refine z_eqi (z2 := S0 1 (((15 + (26 * p0)) + 0).toNat)) rfl ?_
        have f_4 := hB (((15 + (26 * p0)) + 0).toNat)
        refine zi_icmp_ge (tgt := 70) hx hb dX8_leastGrey_33 (by decide) ⟨by omega, by omega⟩ ⟨by omega, by omega⟩ (fun c_5 => ?_) (fun c_5 => ?_)
        · have v_6 : x2 = rLeast (S0 1) p0 := (by rw [iF, show x3 = S0 1 (15 + 26 * p0 + 0).toNat by omega]; rfl)
          rw [v_6] at hl
          refine lv_iload_n hx hb dX8_leastGrey_70 rfl (lv_at hl 1 rfl) ?_
          exact z_iret hx hb hr hlocks hP hS dX8_leastGrey_71 (Eq.trans (zif_pos c_1) rfl) (congrArg (fun z => wRef k a0 (upA S0 0 z)) (show sS0_0_X8_leastGrey S0 p0 = upZ (upZ (S0 0) 8 0) 7 0 from (Eq.trans (zif_pos c_1) rfl))) (Nat.le_refl _) (Nat.le_refl _)
        · refine lv_aload_n hx hb dX8_leastGrey_36 rfl (lv_at hl 2 rfl) ?_
          refine lv_iload_n hx hb dX8_leastGrey_37 rfl (lv_at hl 3 rfl) ?_
          refine lv_iload_n hx hb dX8_leastGrey_38 rfl (lv_at hl 0 rfl) ?_
          refine z_ai0 (va_runV (As := [.int (iI p0), .int (iI x3)]) (rest := []) ⟨hx, hb, hml, hown, hts⟩ (c_X8_isBlank l D k a0 (upA S0 0 (upZ (upZ (S0 0) 8 0) 7 0))  p0 x3 hB (by omega) (by omega) _) (cwV 2 hts gX8_leastGrey_X8_isBlank rfl rfl rfl (by decide +kernel) ⟨(Nat.le_of_ble_eq_true rfl), (Nat.le_of_ble_eq_true rfl)⟩) (z_preV hK hG hA hP hD hS [0, 1, 2, 3, 4, 5, 6, 7] rfl (by decide) 10 rfl rfl) rfl rfl hl.1 rfl (lv_room (Nat.le_of_ble_eq_true rfl)) dX8_leastGrey_39 ⟨(Nat.le_of_ble_eq_true rfl), (Nat.le_of_ble_eq_true rfl)⟩) hA hP hD hS [0, 1, 2, 3, 4, 5, 6, 7] rfl (fun H locs hP hS => ?_)
          refine z_eqi (z2 := zb (S0 1 (15 + 26 * p0 + (6 + 4 * x3 + 0)).toNat = 1)) rfl ?_
          refine zi_if_neB (tgt := 64) hx hb dX8_leastGrey_42 (by decide) (fun c_7 => ?_) (fun c_7 => ?_)
          · refine lv_iinc (v := iI (x3 + 1)) (lv' := [(3, .int (iI (x3 + 1))), (2, .int (iI x2)), (0, .ref (a0 0)), (1, .int (iI p0))]) hx hb dX8_leastGrey_64 hl (k := 0) rfl (iI_add _ _) (by decide) rfl (fun ls hl => ?_)
            refine lv_goto (tgt := 26) hx hb dX8_leastGrey_67 (by decide) ?_
            exact ih26 x2 (x3 + 1) (by omega) (by omega) (by omega) (by omega) (foldI_e i0 (by rw [← iF]; unfold rLeastF; first | exact (zif_pos (by assumption)).symm | exact Eq.trans (b := min x2 (S0 1 (15 + 26 * p0 + (6 + 4 * x3 + 1)).toNat)) (by omega) (zif_neg (by assumption)).symm))  H locs ls hP hD hS (lv_sub hl [0, 1, 2, 3] rfl)
          · refine lv_aload_n hx hb dX8_leastGrey_45 rfl (lv_at hl 2 rfl) ?_
            refine lv_iload_n hx hb dX8_leastGrey_46 rfl (lv_at hl 3 rfl) ?_
            refine lv_iload_n hx hb dX8_leastGrey_47 rfl (lv_at hl 0 rfl) ?_
            refine lv_iconst (v := iI 1) hx hb dX8_leastGrey_48 rfl ?_
            refine z_ai0 (va_runV (As := [.int (iI p0), .int (iI x3), .int (iI 1)]) (rest := []) ⟨hx, hb, hml, hown, hts⟩ (c_X8_on l D k a0 (upA S0 0 (upZ (upZ (S0 0) 8 0) 7 0))  p0 x3 1 (by omega) (by omega) _) (cwV 3 hts gX8_leastGrey_X8_on rfl rfl rfl (by decide +kernel) ⟨(Nat.le_of_ble_eq_true rfl), (Nat.le_of_ble_eq_true rfl)⟩) (z_preV hK hG hA hP hD hS [0, 1, 2, 3, 4, 5, 6, 7] rfl (by decide) 10 rfl rfl) rfl rfl hl.1 rfl (lv_room (Nat.le_of_ble_eq_true rfl)) dX8_leastGrey_49 ⟨(Nat.le_of_ble_eq_true rfl), (Nat.le_of_ble_eq_true rfl)⟩) hA hP hD hS [0, 1, 2, 3, 4, 5, 6, 7] rfl (fun H locs hP hS => ?_)
            refine z_eqi (z2 := S0 1 (((15 + (26 * p0)) + ((6 + (4 * x3)) + 1)).toNat)) rfl ?_
            have f_8 := hB (((15 + (26 * p0)) + ((6 + (4 * x3)) + 1)).toNat)
            refine lv_iload_n hx hb dX8_leastGrey_52 rfl (lv_at hl 1 rfl) ?_
            refine zi_icmp_ge (tgt := 64) hx hb dX8_leastGrey_53 (by decide) ⟨by omega, by omega⟩ ⟨by omega, by omega⟩ (fun c_9 => ?_) (fun c_9 => ?_)
            · refine lv_iinc (v := iI (x3 + 1)) (lv' := [(3, .int (iI (x3 + 1))), (2, .int (iI x2)), (0, .ref (a0 0)), (1, .int (iI p0))]) hx hb dX8_leastGrey_64 hl (k := 0) rfl (iI_add _ _) (by decide) rfl (fun ls hl => ?_)
              refine lv_goto (tgt := 26) hx hb dX8_leastGrey_67 (by decide) ?_
              exact ih26 x2 (x3 + 1) (by omega) (by omega) (by omega) (by omega) (foldI_e i0 (by rw [← iF]; unfold rLeastF; first | exact (zif_pos (by assumption)).symm | exact Eq.trans (b := min x2 (S0 1 (15 + 26 * p0 + (6 + 4 * x3 + 1)).toNat)) (by omega) (zif_neg (by assumption)).symm))  H locs ls hP hD hS (lv_sub hl [0, 1, 2, 3] rfl)
            · refine lv_aload_n hx hb dX8_leastGrey_56 rfl (lv_at hl 2 rfl) ?_
              refine lv_iload_n hx hb dX8_leastGrey_57 rfl (lv_at hl 3 rfl) ?_
              refine lv_iload_n hx hb dX8_leastGrey_58 rfl (lv_at hl 0 rfl) ?_
              refine lv_iconst (v := iI 1) hx hb dX8_leastGrey_59 rfl ?_
              refine z_ai0 (va_runV (As := [.int (iI p0), .int (iI x3), .int (iI 1)]) (rest := []) ⟨hx, hb, hml, hown, hts⟩ (c_X8_on l D k a0 (upA S0 0 (upZ (upZ (S0 0) 8 0) 7 0))  p0 x3 1 (by omega) (by omega) _) (cwV 3 hts gX8_leastGrey_X8_on rfl rfl rfl (by decide +kernel) ⟨(Nat.le_of_ble_eq_true rfl), (Nat.le_of_ble_eq_true rfl)⟩) (z_preV hK hG hA hP hD hS [0, 1, 2, 3, 4, 5, 6, 7] rfl (by decide) 10 rfl rfl) rfl rfl hl.1 rfl (lv_room (Nat.le_of_ble_eq_true rfl)) dX8_leastGrey_60 ⟨(Nat.le_of_ble_eq_true rfl), (Nat.le_of_ble_eq_true rfl)⟩) hA hP hD hS [0, 1, 2, 3, 4, 5, 6, 7] rfl (fun H locs hP hS => ?_)
              refine z_eqi (z2 := S0 1 (((15 + (26 * p0)) + ((6 + (4 * x3)) + 1)).toNat)) rfl ?_
              refine lv_istore_n (lv' := [(2, .int (iI (S0 1 (((15 + (26 * p0)) + ((6 + (4 * x3)) + 1)).toNat)))), (3, .int (iI x3)), (0, .ref (a0 0)), (1, .int (iI p0))]) hx hb dX8_leastGrey_63 rfl hl (by decide) rfl (fun ls hl => ?_)
              refine lv_iinc (v := iI (x3 + 1)) (lv' := [(3, .int (iI (x3 + 1))), (2, .int (iI (S0 1 (((15 + (26 * p0)) + ((6 + (4 * x3)) + 1)).toNat)))), (0, .ref (a0 0)), (1, .int (iI p0))]) hx hb dX8_leastGrey_64 hl (k := 1) rfl (iI_add _ _) (by decide) rfl (fun ls hl => ?_)
              refine lv_goto (tgt := 26) hx hb dX8_leastGrey_67 (by decide) ?_
              exact ih26 (S0 1 (((15 + (26 * p0)) + ((6 + (4 * x3)) + 1)).toNat)) (x3 + 1) (by omega) (by omega) (by omega) (by omega) (foldI_e i0 (by rw [← iF]; unfold rLeastF; first | exact (zif_pos (by assumption)).symm | exact Eq.trans (b := min x2 (S0 1 (15 + 26 * p0 + (6 + 4 * x3 + 1)).toNat)) (by omega) (zif_neg (by assumption)).symm))  H locs ls hP hD hS (lv_sub hl [0, 1, 2, 3] rfl)
    exact lp26_0 6 9 0 (by omega) (by omega) (by omega) (by omega) rfl  H locs ls hP hD hS (lv_sub hl [0, 1, 2, 3] rfl)
noncomputable def sp_X8_best (S0 : Nat → Nat → Int) : Int := zif ((S0 1 10) = 0)
  (0)
  (rBest (S0 1))
noncomputable def sS0_0_X8_best (S0 : Nat → Nat → Int) : (Nat → Int) := zif ((S0 1 10) = 0)
  (upZ (upZ (S0 0) 8 1) 7 0)
  (upZ (upZ (S0 0) 8 0) 7 0)
set_option maxHeartbeats 4000000 in
set_option maxRecDepth 100000 in
theorem c_X8_best (l : Launch) (D : va_G) (k : Nat → ClassId) (a0 : Nat → Nat) (S0 : Nat → Nat → Int) (hB : zBf (S0 1)) (hB0 : zBf (S0 0)) (hF : 0 ≤ S0 1 10 ∧ S0 1 10 ≤ 8) (h7 : -1000000 ≤ S0 1 7 ∧ S0 1 7 ≤ 1000000) : zMi l yX8_best wsX8_best ({ frames := 2, cells := 0, slots := 0, locals := 45 } : Room) D k [.ref (a0 0)] (wRef k a0 S0) (sp_X8_best S0) (wRef k a0 (upA S0 0 (sS0_0_X8_best S0))) 0 0 := by
  refine zMi_of (cc := cX8_best) (maxL := 3) (ret := (some .int)) (by decide) rfl (Nat.le_of_ble_eq_true rfl) ?_
  intro p e s m args below meth c A ls hx hb hr hml hown hts hlocks hK hP hD hG hA hS hl
  have hown : s.vm.findClass RX8 = some m.cls := hown
  have hl : lv_has ls 3 [(0, .ref (a0 0))] := hl
  obtain ⟨H, hH⟩ : ∃ z, z = s.heap := ⟨_, rfl⟩
  obtain ⟨locs, hlc⟩ : ∃ z : List Loc, z = [] := ⟨_, rfl⟩
  rw [← hH] at hP
  have hS : va_S A s.heap H locs := by rw [hH, hlc]; exact hS
  rw [← hlc, ← hH]
  clear hlc hH
  refine lv_iconst (v := iI 0) hx hb dX8_best_0 rfl ?_
  refine lv_istore_n (lv' := [(1, .int (iI 0)), (0, .ref (a0 0))]) hx hb dX8_best_1 rfl hl (by decide) rfl (fun ls hl => ?_)
  refine lv_iconst (v := iI 1) hx hb dX8_best_2 rfl ?_
  refine lv_istore_n (lv' := [(2, .int (iI 1)), (1, .int (iI 0)), (0, .ref (a0 0))]) hx hb dX8_best_3 rfl hl (by decide) rfl (fun ls hl => ?_)
  have lp4_0 : ∀ (n : Nat) (x1 : Int) (x2 : Int), (8 - x2).toNat < n → (1 ≤ x2) → (x2 ≤ max 1 (S0 1 10)) → (0 ≤ x1 ∧ x1 < x2) → (x1 = foldI (rBestF (S0 1)) 0 x2) → ∀ (H : Heap) (locs : List Loc) (ls : Array Slot), va_P D vwCl (wRef k a0 S0) H → va_D A (wRef k a0 S0) → va_S A s.heap H locs → lv_has ls 3 [(2, .int (iI x2)), (1, .int (iI x1)), (0, .ref (a0 0))] → W p l e ({ frames := 2, cells := 0, slots := 0, locals := 45 } : Room) s m args below meth c H locs 0 0 (MQ below (zQi D A (sp_X8_best S0) (wRef k a0 (upA S0 0 (sS0_0_X8_best S0)))) args s 0 0 A) (F0 m 4 ls []) := by
    intro n4
    induction n4 with
    | zero => intro x1 x2 hm; exact absurd hm (Nat.not_lt_zero _)
    | succ n4 ih4 =>
      intro x1 x2 hm4 i0 i1 ib iF  H locs ls hP hD hS hl
      refine lv_iload_n hx hb dX8_best_4 rfl (lv_at hl 0 rfl) ?_
      refine lv_aload_n hx hb dX8_best_5 rfl (lv_at hl 2 rfl) ?_
      refine va_get (D := D) (ci := 10) (v := .ref (a0 1)) (C := RX8) (T := TX8) (N := 19) hx hb hts (fun w h => List.mem_cons_of_mem _ (List.mem_append_left _ (List.mem_append_right _ h))) hown hK hP 0 rfl rfl 0 (by decide) (hts (.fieldLink RX8 7 "MondayFactoryModel" "g" "[I") (List.mem_of_getElem? (i := 1) rfl)) (fun _ h9 => h9) rfl dX8_best_6 ?_
      refine lv_bipush (v := iI 10) hx hb dX8_best_9 (by decide) ?_
      refine z_iald hx hb hK hP 1 0 (f := S0 1) rfl rfl (i := 10) (by omega) (by omega) (by decide) 10 rfl dX8_best_11 ?_
      have f_1 := hB 10
      refine zi_icmp_ge (tgt := 50) hx hb dX8_best_12 (by decide) ⟨by omega, by omega⟩ ⟨by omega, by omega⟩ (fun c_2 => ?_) (fun c_2 => ?_)
      · have v_3 : x1 = rBest (S0 1) := (by rw [iF, show x2 = max 1 (S0 1 10) by omega]; rfl)
        rw [v_3] at hl
        refine lv_aload_n hx hb dX8_best_50 rfl (lv_at hl 2 rfl) ?_
        refine lv_aload_n hx hb dX8_best_51 rfl (lv_at hl 2 rfl) ?_
        refine va_get (D := D) (ci := 10) (v := .ref (a0 1)) (C := RX8) (T := TX8) (N := 19) hx hb hts (fun w h => List.mem_cons_of_mem _ (List.mem_append_left _ (List.mem_append_right _ h))) hown hK hP 0 rfl rfl 0 (by decide) (hts (.fieldLink RX8 7 "MondayFactoryModel" "g" "[I") (List.mem_of_getElem? (i := 1) rfl)) (fun _ h9 => h9) rfl dX8_best_52 ?_
        refine lv_bipush (v := iI 10) hx hb dX8_best_55 (by decide) ?_
        refine z_iald hx hb hK hP 1 0 (f := S0 1) rfl rfl (i := 10) (by omega) (by omega) (by decide) 10 rfl dX8_best_57 ?_
        refine zi_if_ne (tgt := 65) hx hb dX8_best_58 (by decide) ⟨by omega, by omega⟩ (fun c_4 => ?_) (fun c_4 => ?_)
        · refine lv_iconst (v := iI 0) hx hb dX8_best_65 rfl ?_
          refine z_ai (va_runV (As := [.int (iI 0)]) (rest := []) ⟨hx, hb, hml, hown, hts⟩ (c_X8_fails l D k a0 S0  0 (by omega) _) (cwV 1 hts gX8_best_X8_fails rfl rfl rfl (by decide +kernel) ⟨(Nat.le_of_ble_eq_true rfl), (Nat.le_of_ble_eq_true rfl)⟩) (z_preV hK hG hA hP hD hS [0, 1, 2, 3, 4, 5, 6, 7] rfl (by decide) 10 rfl rfl) rfl rfl hl.1 rfl (lv_room (Nat.le_of_ble_eq_true rfl)) dX8_best_66 ⟨(Nat.le_of_ble_eq_true rfl), (Nat.le_of_ble_eq_true rfl)⟩) hA hP hD hS [0, 1, 2, 3, 4, 5, 6, 7] rfl rfl (fun H locs hP hD hS => ?_)
          have hP : va_P D vwCl (wRef k a0 (upA S0 0 (upZ (upZ (S0 0) 8 0) 7 0))) H := hP
          have hD : va_D A (wRef k a0 (upA S0 0 (upZ (upZ (S0 0) 8 0) 7 0))) := hD
          refine zi_if_eqB (tgt := 76) hx hb dX8_best_69 (by decide) (fun _ => ?_) (fun c_5 => absurd c_5 (by decide))
          refine lv_iload_n hx hb dX8_best_76 rfl (lv_at hl 1 rfl) ?_
          exact z_iret hx hb hr hlocks hP hS dX8_best_77 (Eq.trans (zif_neg c_4) rfl) (congrArg (fun z => wRef k a0 (upA S0 0 z)) (show sS0_0_X8_best S0 = upZ (upZ (S0 0) 8 0) 7 0 from (Eq.trans (zif_neg c_4) rfl))) (Nat.le_refl _) (Nat.le_refl _)
        · refine lv_iconst (v := iI 1) hx hb dX8_best_61 rfl ?_
          refine lv_goto (tgt := 66) hx hb dX8_best_62 (by decide) ?_
          refine z_ai (va_runV (As := [.int (iI 1)]) (rest := []) ⟨hx, hb, hml, hown, hts⟩ (c_X8_fails l D k a0 S0  1 (by omega) _) (cwV 1 hts gX8_best_X8_fails rfl rfl rfl (by decide +kernel) ⟨(Nat.le_of_ble_eq_true rfl), (Nat.le_of_ble_eq_true rfl)⟩) (z_preV hK hG hA hP hD hS [0, 1, 2, 3, 4, 5, 6, 7] rfl (by decide) 10 rfl rfl) rfl rfl hl.1 rfl (lv_room (Nat.le_of_ble_eq_true rfl)) dX8_best_66 ⟨(Nat.le_of_ble_eq_true rfl), (Nat.le_of_ble_eq_true rfl)⟩) hA hP hD hS [0, 1, 2, 3, 4, 5, 6, 7] rfl rfl (fun H locs hP hD hS => ?_)
          have hP : va_P D vwCl (wRef k a0 (upA S0 0 (upZ (upZ (S0 0) 8 1) 7 0))) H := hP
          have hD : va_D A (wRef k a0 (upA S0 0 (upZ (upZ (S0 0) 8 1) 7 0))) := hD
          refine zi_if_eqB (tgt := 76) hx hb dX8_best_69 (by decide) (fun c_6 => absurd c_6 (by decide)) (fun _ => ?_)
          refine lv_iconst (v := iI 0) hx hb dX8_best_72 rfl ?_
          refine lv_goto (tgt := 77) hx hb dX8_best_73 (by decide) ?_
          exact z_iret hx hb hr hlocks hP hS dX8_best_77 (Eq.trans (zif_pos c_4) rfl) (congrArg (fun z => wRef k a0 (upA S0 0 z)) (show sS0_0_X8_best S0 = upZ (upZ (S0 0) 8 1) 7 0 from (Eq.trans (zif_pos c_4) rfl))) (Nat.le_refl _) (Nat.le_refl _)
      · refine lv_aload_n hx hb dX8_best_15 rfl (lv_at hl 2 rfl) ?_
        refine lv_iload_n hx hb dX8_best_16 rfl (lv_at hl 0 rfl) ?_
        refine lv_aload_n hx hb dX8_best_17 rfl (lv_at hl 2 rfl) ?_
        refine va_get (D := D) (ci := 10) (v := .ref (a0 1)) (C := RX8) (T := TX8) (N := 19) hx hb hts (fun w h => List.mem_cons_of_mem _ (List.mem_append_left _ (List.mem_append_right _ h))) hown hK hP 0 rfl rfl 0 (by decide) (hts (.fieldLink RX8 7 "MondayFactoryModel" "g" "[I") (List.mem_of_getElem? (i := 1) rfl)) (fun _ h9 => h9) rfl dX8_best_18 ?_
        refine lv_bipush (v := iI 7) hx hb dX8_best_21 (by decide) ?_
        refine z_iald hx hb hK hP 1 0 (f := S0 1) rfl rfl (i := 7) (by omega) (by omega) (by decide) 7 rfl dX8_best_23 ?_
        have f_7 := hB 7
        refine z_ai0 (va_runV (As := [.int (iI x2), .int (iI (S0 1 7))]) (rest := []) ⟨hx, hb, hml, hown, hts⟩ (c_X8_worth l D k a0 S0  x2 (S0 1 7) hB (by omega) (by omega) _) (cwV 2 hts gX8_best_X8_worth rfl rfl rfl (by decide +kernel) ⟨(Nat.le_of_ble_eq_true rfl), (Nat.le_of_ble_eq_true rfl)⟩) (z_preV hK hG hA hP hD hS [0, 1, 2, 3, 4, 5, 6, 7] rfl (by decide) 10 rfl rfl) rfl rfl hl.1 rfl (lv_room (Nat.le_of_ble_eq_true rfl)) dX8_best_24 ⟨(Nat.le_of_ble_eq_true rfl), (Nat.le_of_ble_eq_true rfl)⟩) hA hP hD hS [0, 1, 2, 3, 4, 5, 6, 7] rfl (fun H locs hP hS => ?_)
        have q_8 : 1 ≤ rWorth (S0 1) x2 (S0 1 7) ∧ rWorth (S0 1) x2 (S0 1 7) ≤ 1003000000 := rWorth_rng (G := S0 1) hB (by omega)
        refine lv_aload_n hx hb dX8_best_27 rfl (lv_at hl 2 rfl) ?_
        refine lv_iload_n hx hb dX8_best_28 rfl (lv_at hl 1 rfl) ?_
        refine lv_aload_n hx hb dX8_best_29 rfl (lv_at hl 2 rfl) ?_
        refine va_get (D := D) (ci := 10) (v := .ref (a0 1)) (C := RX8) (T := TX8) (N := 19) hx hb hts (fun w h => List.mem_cons_of_mem _ (List.mem_append_left _ (List.mem_append_right _ h))) hown hK hP 0 rfl rfl 0 (by decide) (hts (.fieldLink RX8 7 "MondayFactoryModel" "g" "[I") (List.mem_of_getElem? (i := 1) rfl)) (fun _ h9 => h9) rfl dX8_best_30 ?_
        refine lv_bipush (v := iI 7) hx hb dX8_best_33 (by decide) ?_
        refine z_iald hx hb hK hP 1 0 (f := S0 1) rfl rfl (i := 7) (by omega) (by omega) (by decide) 7 rfl dX8_best_35 ?_
        refine z_ai0 (va_runV (As := [.int (iI x1), .int (iI (S0 1 7))]) (rest := [.int (iI (rWorth (S0 1) x2 (S0 1 7)))]) ⟨hx, hb, hml, hown, hts⟩ (c_X8_worth l D k a0 S0  x1 (S0 1 7) hB (by omega) (by omega) _) (cwV 2 hts gX8_best_X8_worth rfl rfl rfl (by decide +kernel) ⟨(Nat.le_of_ble_eq_true rfl), (Nat.le_of_ble_eq_true rfl)⟩) (z_preV hK hG hA hP hD hS [0, 1, 2, 3, 4, 5, 6, 7] rfl (by decide) 10 rfl rfl) rfl rfl hl.1 rfl (lv_room (Nat.le_of_ble_eq_true rfl)) dX8_best_36 ⟨(Nat.le_of_ble_eq_true rfl), (Nat.le_of_ble_eq_true rfl)⟩) hA hP hD hS [0, 1, 2, 3, 4, 5, 6, 7] rfl (fun H locs hP hS => ?_)
        have q_9 : 1 ≤ rWorth (S0 1) x1 (S0 1 7) ∧ rWorth (S0 1) x1 (S0 1 7) ≤ 1003000000 := rWorth_rng (G := S0 1) hB (by omega)
        refine zi_icmp_le (tgt := 44) hx hb dX8_best_39 (by decide) ⟨by omega, by omega⟩ ⟨by omega, by omega⟩ (fun c_10 => ?_) (fun c_10 => ?_)
        · refine lv_iinc (v := iI (x2 + 1)) (lv' := [(2, .int (iI (x2 + 1))), (1, .int (iI x1)), (0, .ref (a0 0))]) hx hb dX8_best_44 hl (k := 0) rfl (iI_add _ _) (by decide) rfl (fun ls hl => ?_)
          refine lv_goto (tgt := 4) hx hb dX8_best_47 (by decide) ?_
          exact ih4 x1 (x2 + 1) (by omega) (by omega) (by omega) (by omega) (foldI_e (by omega) (by rw [← iF]; unfold rBestF; first | exact (zif_pos (by assumption)).symm | exact (zif_neg (by assumption)).symm))  H locs ls hP hD hS (lv_sub hl [0, 1, 2] rfl)
        · refine lv_iload_n hx hb dX8_best_42 rfl (lv_at hl 0 rfl) ?_
          refine lv_istore_n (lv' := [(1, .int (iI x2)), (2, .int (iI x2)), (0, .ref (a0 0))]) hx hb dX8_best_43 rfl hl (by decide) rfl (fun ls hl => ?_)
          refine lv_iinc (v := iI (x2 + 1)) (lv' := [(2, .int (iI (x2 + 1))), (1, .int (iI x2)), (0, .ref (a0 0))]) hx hb dX8_best_44 hl (k := 1) rfl (iI_add _ _) (by decide) rfl (fun ls hl => ?_)
          refine lv_goto (tgt := 4) hx hb dX8_best_47 (by decide) ?_
          exact ih4 x2 (x2 + 1) (by omega) (by omega) (by omega) (by omega) (foldI_e (by omega) (by rw [← iF]; unfold rBestF; first | exact (zif_pos (by assumption)).symm | exact (zif_neg (by assumption)).symm))  H locs ls hP hD hS (lv_sub hl [0, 1, 2] rfl)
  exact lp4_0 9 0 1 (by omega) (by omega) (by omega) (by omega) (rBest_0 _)  H locs ls hP hD hS (lv_sub hl [0, 1, 2] rfl)
set_option maxHeartbeats 4000000 in
set_option maxRecDepth 100000 in
theorem c_X8_inOrder (l : Launch) (D : va_G) (k : Nat → ClassId) (a0 : Nat → Nat) (S0 : Nat → Nat → Int) (hB : zBf (S0 1)) (hF : 0 ≤ S0 1 10 ∧ S0 1 10 ≤ 8) (h7 : -1000000 ≤ S0 1 7 ∧ S0 1 7 ≤ 1000000) : zMi l yX8_inOrder wsX8_inOrder ({ frames := 2, cells := 0, slots := 0, locals := 45 } : Room) D k [.ref (a0 0)] (wRef k a0 S0) (rInOrder (S0 1)) (wRef k a0 S0) 0 0 := by
  refine zMi_of (cc := cX8_inOrder) (maxL := 3) (ret := (some .int)) (by decide) rfl (Nat.le_of_ble_eq_true rfl) ?_
  intro p e s m args below meth c A ls hx hb hr hml hown hts hlocks hK hP hD hG hA hS hl
  have hown : s.vm.findClass RX8 = some m.cls := hown
  have hl : lv_has ls 3 [(0, .ref (a0 0))] := hl
  obtain ⟨H, hH⟩ : ∃ z, z = s.heap := ⟨_, rfl⟩
  obtain ⟨locs, hlc⟩ : ∃ z : List Loc, z = [] := ⟨_, rfl⟩
  rw [← hH] at hP
  have hS : va_S A s.heap H locs := by rw [hH, hlc]; exact hS
  rw [← hlc, ← hH]
  clear hlc hH
  refine lv_iconst (v := iI 0) hx hb dX8_inOrder_0 rfl ?_
  refine lv_istore_n (lv' := [(1, .int (iI 0)), (0, .ref (a0 0))]) hx hb dX8_inOrder_1 rfl hl (by decide) rfl (fun ls hl => ?_)
  refine lv_iconst (v := iI 0) hx hb dX8_inOrder_2 rfl ?_
  refine lv_istore_n (lv' := [(2, .int (iI 0)), (1, .int (iI 0)), (0, .ref (a0 0))]) hx hb dX8_inOrder_3 rfl hl (by decide) rfl (fun ls hl => ?_)
  have lp4_0 : ∀ (n : Nat) (x1 : Int) (x2 : Int), (8 - x2).toNat < n → (0 ≤ x2) → (x2 ≤ S0 1 10) → (x1 = sumI (fun k => rWorth (S0 1) k (S0 1 7 + k)) x2) → ∀ (H : Heap) (locs : List Loc) (ls : Array Slot), va_P D vwCl (wRef k a0 S0) H → va_D A (wRef k a0 S0) → va_S A s.heap H locs → lv_has ls 3 [(2, .int (iI x2)), (1, .int (iI x1)), (0, .ref (a0 0))] → W p l e ({ frames := 2, cells := 0, slots := 0, locals := 45 } : Room) s m args below meth c H locs 0 0 (MQ below (zQi D A (rInOrder (S0 1)) (wRef k a0 S0)) args s 0 0 A) (F0 m 4 ls []) := by
    intro n4
    induction n4 with
    | zero => intro x1 x2 hm; exact absurd hm (Nat.not_lt_zero _)
    | succ n4 ih4 =>
      intro x1 x2 hm4 i0 i1 iF  H locs ls hP hD hS hl
      refine lv_iload_n hx hb dX8_inOrder_4 rfl (lv_at hl 0 rfl) ?_
      refine lv_aload_n hx hb dX8_inOrder_5 rfl (lv_at hl 2 rfl) ?_
      refine va_get (D := D) (ci := 10) (v := .ref (a0 1)) (C := RX8) (T := TX8) (N := 19) hx hb hts (fun w h => List.mem_cons_of_mem _ (List.mem_append_left _ (List.mem_append_right _ h))) hown hK hP 0 rfl rfl 0 (by decide) (hts (.fieldLink RX8 7 "MondayFactoryModel" "g" "[I") (List.mem_of_getElem? (i := 1) rfl)) (fun _ h9 => h9) rfl dX8_inOrder_6 ?_
      refine lv_bipush (v := iI 10) hx hb dX8_inOrder_9 (by decide) ?_
      refine z_iald hx hb hK hP 1 0 (f := S0 1) rfl rfl (i := 10) (by omega) (by omega) (by decide) 10 rfl dX8_inOrder_11 ?_
      have f_1 := hB 10
      refine zi_icmp_ge (tgt := 38) hx hb dX8_inOrder_12 (by decide) ⟨by omega, by omega⟩ ⟨by omega, by omega⟩ (fun c_2 => ?_) (fun c_2 => ?_)
      · have v_3 : x1 = rInOrder (S0 1) := (by rw [iF, show x2 = S0 1 10 by omega]; rfl)
        rw [v_3] at hl
        refine lv_iload_n hx hb dX8_inOrder_38 rfl (lv_at hl 1 rfl) ?_
        exact z_iret hx hb hr hlocks hP hS dX8_inOrder_39 rfl rfl (Nat.le_refl _) (Nat.le_refl _)
      · refine lv_iload_n hx hb dX8_inOrder_15 rfl (lv_at hl 1 rfl) ?_
        refine lv_aload_n hx hb dX8_inOrder_16 rfl (lv_at hl 2 rfl) ?_
        refine lv_iload_n hx hb dX8_inOrder_17 rfl (lv_at hl 0 rfl) ?_
        refine lv_aload_n hx hb dX8_inOrder_18 rfl (lv_at hl 2 rfl) ?_
        refine va_get (D := D) (ci := 10) (v := .ref (a0 1)) (C := RX8) (T := TX8) (N := 19) hx hb hts (fun w h => List.mem_cons_of_mem _ (List.mem_append_left _ (List.mem_append_right _ h))) hown hK hP 0 rfl rfl 0 (by decide) (hts (.fieldLink RX8 7 "MondayFactoryModel" "g" "[I") (List.mem_of_getElem? (i := 1) rfl)) (fun _ h9 => h9) rfl dX8_inOrder_19 ?_
        refine lv_bipush (v := iI 7) hx hb dX8_inOrder_22 (by decide) ?_
        refine z_iald hx hb hK hP 1 0 (f := S0 1) rfl rfl (i := 7) (by omega) (by omega) (by decide) 7 rfl dX8_inOrder_24 ?_
        have f_4 := hB 7
        refine lv_iload_n hx hb dX8_inOrder_25 rfl (lv_at hl 0 rfl) ?_
        refine zi_add hx hb dX8_inOrder_26 ?_
        refine z_ai0 (va_runV (As := [.int (iI x2), .int (iI ((S0 1 7) + x2))]) (rest := [.int (iI x1)]) ⟨hx, hb, hml, hown, hts⟩ (c_X8_worth l D k a0 S0  x2 ((S0 1 7) + x2) hB (by omega) (by omega) _) (cwV 2 hts gX8_inOrder_X8_worth rfl rfl rfl (by decide +kernel) ⟨(Nat.le_of_ble_eq_true rfl), (Nat.le_of_ble_eq_true rfl)⟩) (z_preV hK hG hA hP hD hS [0, 1, 2, 3, 4, 5, 6, 7] rfl (by decide) 10 rfl rfl) rfl rfl hl.1 rfl (lv_room (Nat.le_of_ble_eq_true rfl)) dX8_inOrder_27 ⟨(Nat.le_of_ble_eq_true rfl), (Nat.le_of_ble_eq_true rfl)⟩) hA hP hD hS [0, 1, 2, 3, 4, 5, 6, 7] rfl (fun H locs hP hS => ?_)
        have q_5 : 1 ≤ rWorth (S0 1) x2 ((S0 1 7) + x2) ∧ rWorth (S0 1) x2 ((S0 1 7) + x2) ≤ 1003000000 := rWorth_rng (G := S0 1) hB (by omega)
        refine zi_add hx hb dX8_inOrder_30 ?_
        refine lv_istore_n (lv' := [(1, .int (iI (x1 + (rWorth (S0 1) x2 ((S0 1 7) + x2))))), (2, .int (iI x2)), (0, .ref (a0 0))]) hx hb dX8_inOrder_31 rfl hl (by decide) rfl (fun ls hl => ?_)
        refine lv_iinc (v := iI (x2 + 1)) (lv' := [(2, .int (iI (x2 + 1))), (1, .int (iI (x1 + (rWorth (S0 1) x2 ((S0 1 7) + x2))))), (0, .ref (a0 0))]) hx hb dX8_inOrder_32 hl (k := 1) rfl (iI_add _ _) (by decide) rfl (fun ls hl => ?_)
        refine lv_goto (tgt := 4) hx hb dX8_inOrder_35 (by decide) ?_
        exact ih4 (x1 + (rWorth (S0 1) x2 ((S0 1 7) + x2))) (x2 + 1) (by omega) (by omega) (by omega) (by rw [iF]; exact sumI_e i0 rfl)  H locs ls hP hD hS (lv_sub hl [0, 1, 2] rfl)
  exact lp4_0 9 0 0 (by omega) (by omega) (by omega) rfl  H locs ls hP hD hS (lv_sub hl [0, 1, 2] rfl)
set_option maxHeartbeats 4000000 in
set_option maxRecDepth 100000 in
theorem c_X8_allPrices (l : Launch) (D : va_G) (k : Nat → ClassId) (a0 : Nat → Nat) (S0 : Nat → Nat → Int) (p0 : Int) (hB : zBf (S0 1)) (hB0 : zBf (S0 0)) (hF : 0 ≤ S0 1 10 ∧ S0 1 10 ≤ 8) (h7 : -1000000 ≤ S0 1 7 ∧ S0 1 7 ≤ 1000000) : zMi l yX8_allPrices wsX8_allPrices ({ frames := 3, cells := 0, slots := 0, locals := 67 } : Room) D k [.ref (a0 0), .int (iI p0)] (wRef k a0 S0) (rInOrder (S0 1)) (wRef k a0 (up2 S0 0 8 0)) 0 0 := by
  refine zMi_of (cc := cX8_allPrices) (maxL := 2) (ret := (some .int)) (by decide) rfl (Nat.le_of_ble_eq_true rfl) ?_
  intro p e s m args below meth c A ls hx hb hr hml hown hts hlocks hK hP hD hG hA hS hl
  have hown : s.vm.findClass RX8 = some m.cls := hown
  have hl : lv_has ls 2 [(0, .ref (a0 0)), (1, .int (iI p0))] := hl
  obtain ⟨H, hH⟩ : ∃ z, z = s.heap := ⟨_, rfl⟩
  obtain ⟨locs, hlc⟩ : ∃ z : List Loc, z = [] := ⟨_, rfl⟩
  rw [← hH] at hP
  have hS : va_S A s.heap H locs := by rw [hH, hlc]; exact hS
  rw [← hlc, ← hH]
  clear hlc hH
  refine lv_aload_n hx hb dX8_allPrices_0 rfl (lv_at hl 0 rfl) ?_
  refine lv_iconst (v := iI 0) hx hb dX8_allPrices_1 rfl ?_
  refine va_put (D := D) (ci := 10) (v := .int (iI 0)) (ty := .int) (C := RX8) (T := TX8) (N := 19) hx hb hts (fun w h => List.mem_cons_of_mem _ (List.mem_append_left _ (List.mem_append_right _ h))) tyX8 tyX8_ok nmX8 hown hK hP hD hS 0 rfl rfl 8 (by decide) (hts (.fieldLink RX8 40 "MondayFactoryModel" "code" "I") (List.mem_of_getElem? (i := 1) rfl)) (fun _ h9 => h9) rfl (by decide +kernel) rfl rfl (Nat.le_of_ble_eq_true rfl) dX8_allPrices_2 (fun H locs hP hD hS => ?_)
  have hP : va_P D vwCl (wRef k a0 (up2 S0 0 8 0)) H := hP
  have hD : va_D A (wRef k a0 (up2 S0 0 8 0)) := hD
  refine lv_aload_n hx hb dX8_allPrices_5 rfl (lv_at hl 0 rfl) ?_
  refine z_ai0 (va_runV (As := []) (rest := []) ⟨hx, hb, hml, hown, hts⟩ (c_X8_inOrder l D k a0 (up2 S0 0 8 0)   hB (by have e0 : ((up2 S0 0 8 0) 1 10) = S0 1 10 := rfl; omega) (by have e0 : ((up2 S0 0 8 0) 1 7) = S0 1 7 := rfl; omega) _) (cwV 0 hts gX8_allPrices_X8_inOrder rfl rfl rfl (by decide +kernel) ⟨(Nat.le_of_ble_eq_true rfl), (Nat.le_of_ble_eq_true rfl)⟩) (z_preV hK hG hA hP hD hS [0, 1, 2, 3, 4, 5, 6, 7] rfl (by decide) 10 rfl rfl) rfl rfl hl.1 rfl (lv_room (Nat.le_of_ble_eq_true rfl)) dX8_allPrices_6 ⟨(Nat.le_of_ble_eq_true rfl), (Nat.le_of_ble_eq_true rfl)⟩) hA hP hD hS [0, 1, 2, 3, 4, 5, 6, 7] rfl (fun H locs hP hS => ?_)
  refine z_eqi (z2 := rInOrder (S0 1)) rfl ?_
  exact z_iret hx hb hr hlocks hP hS dX8_allPrices_9 rfl rfl (Nat.le_refl _) (Nat.le_refl _)
set_option maxHeartbeats 4000000 in
set_option maxRecDepth 100000 in
theorem c_X8_ahead (l : Launch) (D : va_G) (k : Nat → ClassId) (a0 : Nat → Nat) (S0 : Nat → Nat → Int) (p0 : Int) (hB : zBf (S0 1)) (hF : 0 ≤ S0 1 10 ∧ S0 1 10 ≤ 8) (h7 : -1000000 ≤ S0 1 7 ∧ S0 1 7 ≤ 1000000) (h0 : 0 ≤ p0 ∧ p0 < 8) : zMi l yX8_ahead wsX8_ahead ({ frames := 2, cells := 0, slots := 0, locals := 45 } : Room) D k [.ref (a0 0), .int (iI p0)] (wRef k a0 S0) (rAhead (S0 1) p0) (wRef k a0 S0) 0 0 := by
  refine zMi_of (cc := cX8_ahead) (maxL := 5) (ret := (some .int)) (by decide) rfl (Nat.le_of_ble_eq_true rfl) ?_
  intro p e s m args below meth c A ls hx hb hr hml hown hts hlocks hK hP hD hG hA hS hl
  have hown : s.vm.findClass RX8 = some m.cls := hown
  have hl : lv_has ls 5 [(0, .ref (a0 0)), (1, .int (iI p0))] := hl
  obtain ⟨H, hH⟩ : ∃ z, z = s.heap := ⟨_, rfl⟩
  obtain ⟨locs, hlc⟩ : ∃ z : List Loc, z = [] := ⟨_, rfl⟩
  rw [← hH] at hP
  have hS : va_S A s.heap H locs := by rw [hH, hlc]; exact hS
  rw [← hlc, ← hH]
  clear hlc hH
  refine lv_iconst (v := iI 0) hx hb dX8_ahead_0 rfl ?_
  refine lv_istore_n (lv' := [(2, .int (iI 0)), (0, .ref (a0 0)), (1, .int (iI p0))]) hx hb dX8_ahead_1 rfl hl (by decide) rfl (fun ls hl => ?_)
  refine lv_aload_n hx hb dX8_ahead_2 rfl (lv_at hl 1 rfl) ?_
  refine lv_iload_n hx hb dX8_ahead_3 rfl (lv_at hl 2 rfl) ?_
  refine lv_aload_n hx hb dX8_ahead_4 rfl (lv_at hl 1 rfl) ?_
  refine va_get (D := D) (ci := 10) (v := .ref (a0 1)) (C := RX8) (T := TX8) (N := 19) hx hb hts (fun w h => List.mem_cons_of_mem _ (List.mem_append_left _ (List.mem_append_right _ h))) hown hK hP 0 rfl rfl 0 (by decide) (hts (.fieldLink RX8 7 "MondayFactoryModel" "g" "[I") (List.mem_of_getElem? (i := 1) rfl)) (fun _ h9 => h9) rfl dX8_ahead_5 ?_
  refine lv_bipush (v := iI 7) hx hb dX8_ahead_8 (by decide) ?_
  refine z_iald hx hb hK hP 1 0 (f := S0 1) rfl rfl (i := 7) (by omega) (by omega) (by decide) 7 rfl dX8_ahead_10 ?_
  have f_1 := hB 7
  refine z_ai0 (va_runV (As := [.int (iI p0), .int (iI (S0 1 7))]) (rest := []) ⟨hx, hb, hml, hown, hts⟩ (c_X8_worth l D k a0 S0  p0 (S0 1 7) hB (by omega) (by omega) _) (cwV 2 hts gX8_ahead_X8_worth rfl rfl rfl (by decide +kernel) ⟨(Nat.le_of_ble_eq_true rfl), (Nat.le_of_ble_eq_true rfl)⟩) (z_preV hK hG hA hP hD hS [0, 1, 2, 3, 4, 5, 6, 7] rfl (by decide) 10 rfl rfl) rfl rfl hl.1 rfl (lv_room (Nat.le_of_ble_eq_true rfl)) dX8_ahead_11 ⟨(Nat.le_of_ble_eq_true rfl), (Nat.le_of_ble_eq_true rfl)⟩) hA hP hD hS [0, 1, 2, 3, 4, 5, 6, 7] rfl (fun H locs hP hS => ?_)
  have q_2 : 1 ≤ rWorth (S0 1) p0 (S0 1 7) ∧ rWorth (S0 1) p0 (S0 1 7) ≤ 1003000000 := rWorth_rng (G := S0 1) hB (by omega)
  refine lv_istore_n (lv' := [(3, .int (iI (rWorth (S0 1) p0 (S0 1 7)))), (2, .int (iI 0)), (0, .ref (a0 0)), (1, .int (iI p0))]) hx hb dX8_ahead_14 rfl hl (by decide) rfl (fun ls hl => ?_)
  refine lv_iconst (v := iI 0) hx hb dX8_ahead_15 rfl ?_
  refine lv_istore (lv' := [(4, .int (iI 0)), (3, .int (iI (rWorth (S0 1) p0 (S0 1 7)))), (2, .int (iI 0)), (0, .ref (a0 0)), (1, .int (iI p0))]) hx hb dX8_ahead_16 hl (by decide) rfl (fun ls hl => ?_)
  have lp18_0 : ∀ (n : Nat) (x2 : Int) (x4 : Int), (8 - x4).toNat < n → (0 ≤ x4) → (x4 ≤ S0 1 10) → (x2 = sumI (fun k => zif (rWorth (S0 1) p0 (S0 1 7) < rWorth (S0 1) k (S0 1 7) ∨ (rWorth (S0 1) k (S0 1 7) = rWorth (S0 1) p0 (S0 1 7) ∧ k < p0)) 1 0) x4) → ∀ (H : Heap) (locs : List Loc) (ls : Array Slot), va_P D vwCl (wRef k a0 S0) H → va_D A (wRef k a0 S0) → va_S A s.heap H locs → lv_has ls 5 [(4, .int (iI x4)), (3, .int (iI (rWorth (S0 1) p0 (S0 1 7)))), (2, .int (iI x2)), (0, .ref (a0 0)), (1, .int (iI p0))] → W p l e ({ frames := 2, cells := 0, slots := 0, locals := 45 } : Room) s m args below meth c H locs 0 0 (MQ below (zQi D A (rAhead (S0 1) p0) (wRef k a0 S0)) args s 0 0 A) (F0 m 18 ls []) := by
    intro n18
    induction n18 with
    | zero => intro x2 x4 hm; exact absurd hm (Nat.not_lt_zero _)
    | succ n18 ih18 =>
      intro x2 x4 hm18 i0 i1 iF  H locs ls hP hD hS hl
      refine lv_iload hx hb dX8_ahead_18 (lv_at hl 0 rfl) ?_
      refine lv_aload_n hx hb dX8_ahead_20 rfl (lv_at hl 3 rfl) ?_
      refine va_get (D := D) (ci := 10) (v := .ref (a0 1)) (C := RX8) (T := TX8) (N := 19) hx hb hts (fun w h => List.mem_cons_of_mem _ (List.mem_append_left _ (List.mem_append_right _ h))) hown hK hP 0 rfl rfl 0 (by decide) (hts (.fieldLink RX8 7 "MondayFactoryModel" "g" "[I") (List.mem_of_getElem? (i := 1) rfl)) (fun _ h9 => h9) rfl dX8_ahead_21 ?_
      refine lv_bipush (v := iI 10) hx hb dX8_ahead_24 (by decide) ?_
      refine z_iald hx hb hK hP 1 0 (f := S0 1) rfl rfl (i := 10) (by omega) (by omega) (by decide) 10 rfl dX8_ahead_26 ?_
      have f_3 := hB 10
      refine zi_icmp_ge (tgt := 84) hx hb dX8_ahead_27 (by decide) ⟨by omega, by omega⟩ ⟨by omega, by omega⟩ (fun c_4 => ?_) (fun c_4 => ?_)
      · have v_5 : x2 = rAhead (S0 1) p0 := (by rw [iF, show x4 = S0 1 10 by omega]; rfl)
        rw [v_5] at hl
        refine lv_iload_n hx hb dX8_ahead_84 rfl (lv_at hl 2 rfl) ?_
        exact z_iret hx hb hr hlocks hP hS dX8_ahead_85 rfl rfl (Nat.le_refl _) (Nat.le_refl _)
      · refine lv_iload_n hx hb dX8_ahead_30 rfl (lv_at hl 2 rfl) ?_
        refine lv_aload_n hx hb dX8_ahead_31 rfl (lv_at hl 3 rfl) ?_
        refine lv_iload hx hb dX8_ahead_32 (lv_at hl 0 rfl) ?_
        refine lv_aload_n hx hb dX8_ahead_34 rfl (lv_at hl 3 rfl) ?_
        refine va_get (D := D) (ci := 10) (v := .ref (a0 1)) (C := RX8) (T := TX8) (N := 19) hx hb hts (fun w h => List.mem_cons_of_mem _ (List.mem_append_left _ (List.mem_append_right _ h))) hown hK hP 0 rfl rfl 0 (by decide) (hts (.fieldLink RX8 7 "MondayFactoryModel" "g" "[I") (List.mem_of_getElem? (i := 1) rfl)) (fun _ h9 => h9) rfl dX8_ahead_35 ?_
        refine lv_bipush (v := iI 7) hx hb dX8_ahead_38 (by decide) ?_
        refine z_iald hx hb hK hP 1 0 (f := S0 1) rfl rfl (i := 7) (by omega) (by omega) (by decide) 7 rfl dX8_ahead_40 ?_
        refine z_ai0 (va_runV (As := [.int (iI x4), .int (iI (S0 1 7))]) (rest := [.int (iI x2)]) ⟨hx, hb, hml, hown, hts⟩ (c_X8_worth l D k a0 S0  x4 (S0 1 7) hB (by omega) (by omega) _) (cwV 2 hts gX8_ahead_X8_worth rfl rfl rfl (by decide +kernel) ⟨(Nat.le_of_ble_eq_true rfl), (Nat.le_of_ble_eq_true rfl)⟩) (z_preV hK hG hA hP hD hS [0, 1, 2, 3, 4, 5, 6, 7] rfl (by decide) 10 rfl rfl) rfl rfl hl.1 rfl (lv_room (Nat.le_of_ble_eq_true rfl)) dX8_ahead_41 ⟨(Nat.le_of_ble_eq_true rfl), (Nat.le_of_ble_eq_true rfl)⟩) hA hP hD hS [0, 1, 2, 3, 4, 5, 6, 7] rfl (fun H locs hP hS => ?_)
        have q_6 : 1 ≤ rWorth (S0 1) x4 (S0 1 7) ∧ rWorth (S0 1) x4 (S0 1 7) ≤ 1003000000 := rWorth_rng (G := S0 1) hB (by omega)
        refine lv_iload_n hx hb dX8_ahead_44 rfl (lv_at hl 1 rfl) ?_
        refine zi_icmp_gt (tgt := 71) hx hb dX8_ahead_45 (by decide) ⟨by omega, by omega⟩ ⟨by omega, by omega⟩ (fun c_7 => ?_) (fun c_7 => ?_)
        · refine lv_iconst (v := iI 1) hx hb dX8_ahead_71 rfl ?_
          refine lv_goto (tgt := 76) hx hb dX8_ahead_72 (by decide) ?_
          refine zi_add hx hb dX8_ahead_76 ?_
          refine lv_istore_n (lv' := [(2, .int (iI (x2 + 1))), (4, .int (iI x4)), (3, .int (iI (rWorth (S0 1) p0 (S0 1 7)))), (0, .ref (a0 0)), (1, .int (iI p0))]) hx hb dX8_ahead_77 rfl hl (by decide) rfl (fun ls hl => ?_)
          refine lv_iinc (v := iI (x4 + 1)) (lv' := [(4, .int (iI (x4 + 1))), (2, .int (iI (x2 + 1))), (3, .int (iI (rWorth (S0 1) p0 (S0 1 7)))), (0, .ref (a0 0)), (1, .int (iI p0))]) hx hb dX8_ahead_78 hl (k := 1) rfl (iI_add _ _) (by decide) rfl (fun ls hl => ?_)
          refine lv_goto (tgt := 18) hx hb dX8_ahead_81 (by decide) ?_
          exact ih18 (x2 + 1) (x4 + 1) (by omega) (by omega) (by omega) (by rw [iF]; first | exact sumI_e i0 (zif_pos (by omega)).symm | exact sumI_e i0 (zif_neg (by omega)).symm)  H locs ls hP hD hS (lv_sub hl [0, 2, 1, 3, 4] rfl)
        · refine lv_aload_n hx hb dX8_ahead_48 rfl (lv_at hl 3 rfl) ?_
          refine lv_iload hx hb dX8_ahead_49 (lv_at hl 0 rfl) ?_
          refine lv_aload_n hx hb dX8_ahead_51 rfl (lv_at hl 3 rfl) ?_
          refine va_get (D := D) (ci := 10) (v := .ref (a0 1)) (C := RX8) (T := TX8) (N := 19) hx hb hts (fun w h => List.mem_cons_of_mem _ (List.mem_append_left _ (List.mem_append_right _ h))) hown hK hP 0 rfl rfl 0 (by decide) (hts (.fieldLink RX8 7 "MondayFactoryModel" "g" "[I") (List.mem_of_getElem? (i := 1) rfl)) (fun _ h9 => h9) rfl dX8_ahead_52 ?_
          refine lv_bipush (v := iI 7) hx hb dX8_ahead_55 (by decide) ?_
          refine z_iald hx hb hK hP 1 0 (f := S0 1) rfl rfl (i := 7) (by omega) (by omega) (by decide) 7 rfl dX8_ahead_57 ?_
          refine z_ai0 (va_runV (As := [.int (iI x4), .int (iI (S0 1 7))]) (rest := [.int (iI x2)]) ⟨hx, hb, hml, hown, hts⟩ (c_X8_worth l D k a0 S0  x4 (S0 1 7) hB (by omega) (by omega) _) (cwV 2 hts gX8_ahead_X8_worth rfl rfl rfl (by decide +kernel) ⟨(Nat.le_of_ble_eq_true rfl), (Nat.le_of_ble_eq_true rfl)⟩) (z_preV hK hG hA hP hD hS [0, 1, 2, 3, 4, 5, 6, 7] rfl (by decide) 10 rfl rfl) rfl rfl hl.1 rfl (lv_room (Nat.le_of_ble_eq_true rfl)) dX8_ahead_58 ⟨(Nat.le_of_ble_eq_true rfl), (Nat.le_of_ble_eq_true rfl)⟩) hA hP hD hS [0, 1, 2, 3, 4, 5, 6, 7] rfl (fun H locs hP hS => ?_)
          have q_8 : 1 ≤ rWorth (S0 1) x4 (S0 1 7) ∧ rWorth (S0 1) x4 (S0 1 7) ≤ 1003000000 := rWorth_rng (G := S0 1) hB (by omega)
          refine lv_iload_n hx hb dX8_ahead_61 rfl (lv_at hl 1 rfl) ?_
          refine zi_icmp_ne (tgt := 75) hx hb dX8_ahead_62 (by decide) ⟨by omega, by omega⟩ ⟨by omega, by omega⟩ (fun c_9 => ?_) (fun c_9 => ?_)
          · refine lv_iconst (v := iI 0) hx hb dX8_ahead_75 rfl ?_
            refine zi_add hx hb dX8_ahead_76 ?_
            refine lv_istore_n (lv' := [(2, .int (iI (x2 + 0))), (4, .int (iI x4)), (3, .int (iI (rWorth (S0 1) p0 (S0 1 7)))), (0, .ref (a0 0)), (1, .int (iI p0))]) hx hb dX8_ahead_77 rfl hl (by decide) rfl (fun ls hl => ?_)
            refine lv_iinc (v := iI (x4 + 1)) (lv' := [(4, .int (iI (x4 + 1))), (2, .int (iI (x2 + 0))), (3, .int (iI (rWorth (S0 1) p0 (S0 1 7)))), (0, .ref (a0 0)), (1, .int (iI p0))]) hx hb dX8_ahead_78 hl (k := 1) rfl (iI_add _ _) (by decide) rfl (fun ls hl => ?_)
            refine lv_goto (tgt := 18) hx hb dX8_ahead_81 (by decide) ?_
            exact ih18 (x2 + 0) (x4 + 1) (by omega) (by omega) (by omega) (by rw [iF]; first | exact sumI_e i0 (zif_pos (by omega)).symm | exact sumI_e i0 (zif_neg (by omega)).symm)  H locs ls hP hD hS (lv_sub hl [0, 2, 1, 3, 4] rfl)
          · refine lv_iload hx hb dX8_ahead_65 (lv_at hl 0 rfl) ?_
            refine lv_iload_n hx hb dX8_ahead_67 rfl (lv_at hl 4 rfl) ?_
            refine zi_icmp_ge (tgt := 75) hx hb dX8_ahead_68 (by decide) ⟨by omega, by omega⟩ ⟨by omega, by omega⟩ (fun c_10 => ?_) (fun c_10 => ?_)
            · refine lv_iconst (v := iI 0) hx hb dX8_ahead_75 rfl ?_
              refine zi_add hx hb dX8_ahead_76 ?_
              refine lv_istore_n (lv' := [(2, .int (iI (x2 + 0))), (4, .int (iI x4)), (3, .int (iI (rWorth (S0 1) p0 (S0 1 7)))), (0, .ref (a0 0)), (1, .int (iI p0))]) hx hb dX8_ahead_77 rfl hl (by decide) rfl (fun ls hl => ?_)
              refine lv_iinc (v := iI (x4 + 1)) (lv' := [(4, .int (iI (x4 + 1))), (2, .int (iI (x2 + 0))), (3, .int (iI (rWorth (S0 1) p0 (S0 1 7)))), (0, .ref (a0 0)), (1, .int (iI p0))]) hx hb dX8_ahead_78 hl (k := 1) rfl (iI_add _ _) (by decide) rfl (fun ls hl => ?_)
              refine lv_goto (tgt := 18) hx hb dX8_ahead_81 (by decide) ?_
              exact ih18 (x2 + 0) (x4 + 1) (by omega) (by omega) (by omega) (by rw [iF]; first | exact sumI_e i0 (zif_pos (by omega)).symm | exact sumI_e i0 (zif_neg (by omega)).symm)  H locs ls hP hD hS (lv_sub hl [0, 2, 1, 3, 4] rfl)
            · refine lv_iconst (v := iI 1) hx hb dX8_ahead_71 rfl ?_
              refine lv_goto (tgt := 76) hx hb dX8_ahead_72 (by decide) ?_
              refine zi_add hx hb dX8_ahead_76 ?_
              refine lv_istore_n (lv' := [(2, .int (iI (x2 + 1))), (4, .int (iI x4)), (3, .int (iI (rWorth (S0 1) p0 (S0 1 7)))), (0, .ref (a0 0)), (1, .int (iI p0))]) hx hb dX8_ahead_77 rfl hl (by decide) rfl (fun ls hl => ?_)
              refine lv_iinc (v := iI (x4 + 1)) (lv' := [(4, .int (iI (x4 + 1))), (2, .int (iI (x2 + 1))), (3, .int (iI (rWorth (S0 1) p0 (S0 1 7)))), (0, .ref (a0 0)), (1, .int (iI p0))]) hx hb dX8_ahead_78 hl (k := 1) rfl (iI_add _ _) (by decide) rfl (fun ls hl => ?_)
              refine lv_goto (tgt := 18) hx hb dX8_ahead_81 (by decide) ?_
              exact ih18 (x2 + 1) (x4 + 1) (by omega) (by omega) (by omega) (by rw [iF]; first | exact sumI_e i0 (zif_pos (by omega)).symm | exact sumI_e i0 (zif_neg (by omega)).symm)  H locs ls hP hD hS (lv_sub hl [0, 2, 1, 3, 4] rfl)
  exact lp18_0 9 0 0 (by omega) (by omega) (by omega) rfl  H locs ls hP hD hS (lv_sub hl [0, 1, 2, 3, 4] rfl)
set_option maxHeartbeats 4000000 in
set_option maxRecDepth 100000 in
theorem c_X8_bestOrder (l : Launch) (D : va_G) (k : Nat → ClassId) (a0 : Nat → Nat) (S0 : Nat → Nat → Int) (hB : zBf (S0 1)) (hB0 : zBf (S0 0)) (hF : 0 ≤ S0 1 10 ∧ S0 1 10 ≤ 8) (h7 : -1000000 ≤ S0 1 7 ∧ S0 1 7 ≤ 1000000) : zMi l yX8_bestOrder wsX8_bestOrder ({ frames := 3, cells := 0, slots := 0, locals := 69 } : Room) D k [.ref (a0 0)] (wRef k a0 S0) ((rBestOrder (S0 1)) - (rInOrder (S0 1))) (wRef k a0 (up2 S0 0 8 0)) 0 0 := by
  refine zMi_of (cc := cX8_bestOrder) (maxL := 3) (ret := (some .int)) (by decide) rfl (Nat.le_of_ble_eq_true rfl) ?_
  intro p e s m args below meth c A ls hx hb hr hml hown hts hlocks hK hP hD hG hA hS hl
  have hown : s.vm.findClass RX8 = some m.cls := hown
  have hl : lv_has ls 3 [(0, .ref (a0 0))] := hl
  obtain ⟨H, hH⟩ : ∃ z, z = s.heap := ⟨_, rfl⟩
  obtain ⟨locs, hlc⟩ : ∃ z : List Loc, z = [] := ⟨_, rfl⟩
  rw [← hH] at hP
  have hS : va_S A s.heap H locs := by rw [hH, hlc]; exact hS
  rw [← hlc, ← hH]
  clear hlc hH
  refine lv_aload_n hx hb dX8_bestOrder_0 rfl (lv_at hl 0 rfl) ?_
  refine lv_iconst (v := iI 0) hx hb dX8_bestOrder_1 rfl ?_
  refine va_put (D := D) (ci := 10) (v := .int (iI 0)) (ty := .int) (C := RX8) (T := TX8) (N := 19) hx hb hts (fun w h => List.mem_cons_of_mem _ (List.mem_append_left _ (List.mem_append_right _ h))) tyX8 tyX8_ok nmX8 hown hK hP hD hS 0 rfl rfl 8 (by decide) (hts (.fieldLink RX8 40 "MondayFactoryModel" "code" "I") (List.mem_of_getElem? (i := 1) rfl)) (fun _ h9 => h9) rfl (by decide +kernel) rfl rfl (Nat.le_of_ble_eq_true rfl) dX8_bestOrder_2 (fun H locs hP hD hS => ?_)
  have hP : va_P D vwCl (wRef k a0 (up2 S0 0 8 0)) H := hP
  have hD : va_D A (wRef k a0 (up2 S0 0 8 0)) := hD
  refine lv_iconst (v := iI 0) hx hb dX8_bestOrder_5 rfl ?_
  refine lv_istore_n (lv' := [(1, .int (iI 0)), (0, .ref (a0 0))]) hx hb dX8_bestOrder_6 rfl hl (by decide) rfl (fun ls hl => ?_)
  refine lv_iconst (v := iI 0) hx hb dX8_bestOrder_7 rfl ?_
  refine lv_istore_n (lv' := [(2, .int (iI 0)), (1, .int (iI 0)), (0, .ref (a0 0))]) hx hb dX8_bestOrder_8 rfl hl (by decide) rfl (fun ls hl => ?_)
  have lp9_0 : ∀ (n : Nat) (x1 : Int) (x2 : Int), (8 - x2).toNat < n → (0 ≤ x2) → (x2 ≤ S0 1 10) → (x1 = sumI (fun k => rWorth (S0 1) k (S0 1 7 + rAhead (S0 1) k)) x2) → ∀ (H : Heap) (locs : List Loc) (ls : Array Slot), va_P D vwCl (wRef k a0 (up2 S0 0 8 0)) H → va_D A (wRef k a0 (up2 S0 0 8 0)) → va_S A s.heap H locs → lv_has ls 3 [(2, .int (iI x2)), (1, .int (iI x1)), (0, .ref (a0 0))] → W p l e ({ frames := 3, cells := 0, slots := 0, locals := 69 } : Room) s m args below meth c H locs 0 0 (MQ below (zQi D A ((rBestOrder (S0 1)) - (rInOrder (S0 1))) (wRef k a0 (up2 S0 0 8 0))) args s 0 0 A) (F0 m 9 ls []) := by
    intro n9
    induction n9 with
    | zero => intro x1 x2 hm; exact absurd hm (Nat.not_lt_zero _)
    | succ n9 ih9 =>
      intro x1 x2 hm9 i0 i1 iF  H locs ls hP hD hS hl
      refine lv_iload_n hx hb dX8_bestOrder_9 rfl (lv_at hl 0 rfl) ?_
      refine lv_aload_n hx hb dX8_bestOrder_10 rfl (lv_at hl 2 rfl) ?_
      refine va_get (D := D) (ci := 10) (v := .ref (a0 1)) (C := RX8) (T := TX8) (N := 19) hx hb hts (fun w h => List.mem_cons_of_mem _ (List.mem_append_left _ (List.mem_append_right _ h))) hown hK hP 0 rfl rfl 0 (by decide) (hts (.fieldLink RX8 7 "MondayFactoryModel" "g" "[I") (List.mem_of_getElem? (i := 2) rfl)) (fun _ h9 => h9) rfl dX8_bestOrder_11 ?_
      refine lv_bipush (v := iI 10) hx hb dX8_bestOrder_14 (by decide) ?_
      refine z_iald hx hb hK hP 1 0 (f := S0 1) rfl rfl (i := 10) (by omega) (by omega) (by decide) 10 rfl dX8_bestOrder_16 ?_
      have f_1 := hB 10
      refine zi_icmp_ge (tgt := 47) hx hb dX8_bestOrder_17 (by decide) ⟨by omega, by omega⟩ ⟨by omega, by omega⟩ (fun c_2 => ?_) (fun c_2 => ?_)
      · have v_3 : x1 = rBestOrder (S0 1) := (by rw [iF, show x2 = S0 1 10 by omega]; rfl)
        rw [v_3] at hl
        refine lv_iload_n hx hb dX8_bestOrder_47 rfl (lv_at hl 1 rfl) ?_
        refine lv_aload_n hx hb dX8_bestOrder_48 rfl (lv_at hl 2 rfl) ?_
        refine z_ai0 (va_runV (As := []) (rest := [.int (iI (rBestOrder (S0 1)))]) ⟨hx, hb, hml, hown, hts⟩ (c_X8_inOrder l D k a0 (up2 S0 0 8 0)   hB (by have e0 : ((up2 S0 0 8 0) 1 10) = S0 1 10 := rfl; omega) (by have e0 : ((up2 S0 0 8 0) 1 7) = S0 1 7 := rfl; omega) _) (cwV 0 hts gX8_bestOrder_X8_inOrder rfl rfl rfl (by decide +kernel) ⟨(Nat.le_of_ble_eq_true rfl), (Nat.le_of_ble_eq_true rfl)⟩) (z_preV hK hG hA hP hD hS [0, 1, 2, 3, 4, 5, 6, 7] rfl (by decide) 10 rfl rfl) rfl rfl hl.1 rfl (lv_room (Nat.le_of_ble_eq_true rfl)) dX8_bestOrder_49 ⟨(Nat.le_of_ble_eq_true rfl), (Nat.le_of_ble_eq_true rfl)⟩) hA hP hD hS [0, 1, 2, 3, 4, 5, 6, 7] rfl (fun H locs hP hS => ?_)
        refine z_eqi (z2 := rInOrder (S0 1)) rfl ?_
        refine zi_sub hx hb dX8_bestOrder_52 ?_
        exact z_iret hx hb hr hlocks hP hS dX8_bestOrder_53 rfl rfl (Nat.le_refl _) (Nat.le_refl _)
      · refine lv_iload_n hx hb dX8_bestOrder_20 rfl (lv_at hl 1 rfl) ?_
        refine lv_aload_n hx hb dX8_bestOrder_21 rfl (lv_at hl 2 rfl) ?_
        refine lv_iload_n hx hb dX8_bestOrder_22 rfl (lv_at hl 0 rfl) ?_
        refine lv_aload_n hx hb dX8_bestOrder_23 rfl (lv_at hl 2 rfl) ?_
        refine va_get (D := D) (ci := 10) (v := .ref (a0 1)) (C := RX8) (T := TX8) (N := 19) hx hb hts (fun w h => List.mem_cons_of_mem _ (List.mem_append_left _ (List.mem_append_right _ h))) hown hK hP 0 rfl rfl 0 (by decide) (hts (.fieldLink RX8 7 "MondayFactoryModel" "g" "[I") (List.mem_of_getElem? (i := 2) rfl)) (fun _ h9 => h9) rfl dX8_bestOrder_24 ?_
        refine lv_bipush (v := iI 7) hx hb dX8_bestOrder_27 (by decide) ?_
        refine z_iald hx hb hK hP 1 0 (f := S0 1) rfl rfl (i := 7) (by omega) (by omega) (by decide) 7 rfl dX8_bestOrder_29 ?_
        have f_4 := hB 7
        refine lv_aload_n hx hb dX8_bestOrder_30 rfl (lv_at hl 2 rfl) ?_
        refine lv_iload_n hx hb dX8_bestOrder_31 rfl (lv_at hl 0 rfl) ?_
        refine z_ai0 (va_runV (As := [.int (iI x2)]) (rest := [.int (iI (S0 1 7)), .int (iI x2), .ref (a0 0), .int (iI x1)]) ⟨hx, hb, hml, hown, hts⟩ (c_X8_ahead l D k a0 (up2 S0 0 8 0)  x2 hB (by have e0 : ((up2 S0 0 8 0) 1 10) = S0 1 10 := rfl; omega) (by have e0 : ((up2 S0 0 8 0) 1 7) = S0 1 7 := rfl; omega) (by omega) _) (cwV 1 hts gX8_bestOrder_X8_ahead rfl rfl rfl (by decide +kernel) ⟨(Nat.le_of_ble_eq_true rfl), (Nat.le_of_ble_eq_true rfl)⟩) (z_preV hK hG hA hP hD hS [0, 1, 2, 3, 4, 5, 6, 7] rfl (by decide) 10 rfl rfl) rfl rfl hl.1 rfl (lv_room (Nat.le_of_ble_eq_true rfl)) dX8_bestOrder_32 ⟨(Nat.le_of_ble_eq_true rfl), (Nat.le_of_ble_eq_true rfl)⟩) hA hP hD hS [0, 1, 2, 3, 4, 5, 6, 7] rfl (fun H locs hP hS => ?_)
        refine z_eqi (z2 := rAhead (S0 1) x2) rfl ?_
        have q_5 : 0 ≤ rAhead (S0 1) x2 ∧ rAhead (S0 1) x2 ≤ S0 1 10 := rAhead_bd (G := S0 1) (by have e0 : ((up2 S0 0 8 0) 1 10) = S0 1 10 := rfl; omega)
        refine zi_add hx hb dX8_bestOrder_35 ?_
        refine z_ai0 (va_runV (As := [.int (iI x2), .int (iI ((S0 1 7) + (rAhead (S0 1) x2)))]) (rest := [.int (iI x1)]) ⟨hx, hb, hml, hown, hts⟩ (c_X8_worth l D k a0 (up2 S0 0 8 0)  x2 ((S0 1 7) + (rAhead (S0 1) x2)) hB (by omega) (by omega) _) (cwV 2 hts gX8_bestOrder_X8_worth rfl rfl rfl (by decide +kernel) ⟨(Nat.le_of_ble_eq_true rfl), (Nat.le_of_ble_eq_true rfl)⟩) (z_preV hK hG hA hP hD hS [0, 1, 2, 3, 4, 5, 6, 7] rfl (by decide) 10 rfl rfl) rfl rfl hl.1 rfl (lv_room (Nat.le_of_ble_eq_true rfl)) dX8_bestOrder_36 ⟨(Nat.le_of_ble_eq_true rfl), (Nat.le_of_ble_eq_true rfl)⟩) hA hP hD hS [0, 1, 2, 3, 4, 5, 6, 7] rfl (fun H locs hP hS => ?_)
        refine z_eqi (z2 := rWorth (S0 1) x2 ((S0 1 7) + (rAhead (S0 1) x2))) rfl ?_
        have q_6 : 1 ≤ rWorth (S0 1) x2 ((S0 1 7) + (rAhead (S0 1) x2)) ∧ rWorth (S0 1) x2 ((S0 1 7) + (rAhead (S0 1) x2)) ≤ 1003000000 := rWorth_rng (G := S0 1) hB (by omega)
        refine zi_add hx hb dX8_bestOrder_39 ?_
        refine lv_istore_n (lv' := [(1, .int (iI (x1 + (rWorth (S0 1) x2 ((S0 1 7) + (rAhead (S0 1) x2)))))), (2, .int (iI x2)), (0, .ref (a0 0))]) hx hb dX8_bestOrder_40 rfl hl (by decide) rfl (fun ls hl => ?_)
        refine lv_iinc (v := iI (x2 + 1)) (lv' := [(2, .int (iI (x2 + 1))), (1, .int (iI (x1 + (rWorth (S0 1) x2 ((S0 1 7) + (rAhead (S0 1) x2)))))), (0, .ref (a0 0))]) hx hb dX8_bestOrder_41 hl (k := 1) rfl (iI_add _ _) (by decide) rfl (fun ls hl => ?_)
        refine lv_goto (tgt := 9) hx hb dX8_bestOrder_44 (by decide) ?_
        exact ih9 (x1 + (rWorth (S0 1) x2 ((S0 1 7) + (rAhead (S0 1) x2)))) (x2 + 1) (by omega) (by omega) (by omega) (by rw [iF]; exact sumI_e i0 rfl)  H locs ls hP hD hS (lv_sub hl [0, 1, 2] rfl)
  exact lp9_0 9 0 0 (by omega) (by omega) (by omega) rfl  H locs ls hP hD hS (lv_sub hl [0, 1, 2] rfl)
noncomputable def sp_X8_wouldMend (S0 : Nat → Nat → Int) (p0 : Int) : Int := zif (0 ≤ p0 ∧ p0 < S0 1 10)
  (zif (((1 : Int) = 1 ∧ S0 1 16 ≤ (max 0 (min ((S0 1 (((93 + (4 * p0)) + 0).toNat)) + 2) 9))) ∨ (¬ (1 : Int) = 1 ∧ (1 : Int) = 2 ∧ (max 4 (min ((S0 1 (((93 + (4 * p0)) + 1).toNat)) - 1) 9)) ≤ S0 1 17) ∨ (¬ (1 : Int) = 1 ∧ ¬ (1 : Int) = 2 ∧ ¬ (max 0 (min ((S0 1 (((93 + (4 * p0)) + 0).toNat)) + 2) 9)) = S0 1 18))
    (zif (((2 : Int) = 1 ∧ S0 1 16 ≤ (max 0 (min ((S0 1 (((93 + (4 * p0)) + 0).toNat)) + 2) 9))) ∨ (¬ (2 : Int) = 1 ∧ (2 : Int) = 2 ∧ (max 4 (min ((S0 1 (((93 + (4 * p0)) + 1).toNat)) - 1) 9)) ≤ S0 1 17) ∨ (¬ (2 : Int) = 1 ∧ ¬ (2 : Int) = 2 ∧ ¬ (max 0 (min ((S0 1 (((93 + (4 * p0)) + 0).toNat)) + 2) 9)) = S0 1 18))
      (zif (((3 : Int) = 1 ∧ S0 1 16 ≤ (max 0 (min ((S0 1 (((93 + (4 * p0)) + 0).toNat)) + 2) 9))) ∨ (¬ (3 : Int) = 1 ∧ (3 : Int) = 2 ∧ (max 4 (min ((S0 1 (((93 + (4 * p0)) + 1).toNat)) - 1) 9)) ≤ S0 1 17) ∨ (¬ (3 : Int) = 1 ∧ ¬ (3 : Int) = 2 ∧ ¬ (max 0 (min ((S0 1 (((93 + (4 * p0)) + 0).toNat)) + 2) 9)) = S0 1 18))
        (1)
        (0))
      (0))
    (0))
  (0)
noncomputable def sS0_0_X8_wouldMend (S0 : Nat → Nat → Int) (p0 : Int) : (Nat → Int) := zif (0 ≤ p0 ∧ p0 < S0 1 10)
  (zif (((1 : Int) = 1 ∧ S0 1 16 ≤ (max 0 (min ((S0 1 (((93 + (4 * p0)) + 0).toNat)) + 2) 9))) ∨ (¬ (1 : Int) = 1 ∧ (1 : Int) = 2 ∧ (max 4 (min ((S0 1 (((93 + (4 * p0)) + 1).toNat)) - 1) 9)) ≤ S0 1 17) ∨ (¬ (1 : Int) = 1 ∧ ¬ (1 : Int) = 2 ∧ ¬ (max 0 (min ((S0 1 (((93 + (4 * p0)) + 0).toNat)) + 2) 9)) = S0 1 18))
    (zif (((2 : Int) = 1 ∧ S0 1 16 ≤ (max 0 (min ((S0 1 (((93 + (4 * p0)) + 0).toNat)) + 2) 9))) ∨ (¬ (2 : Int) = 1 ∧ (2 : Int) = 2 ∧ (max 4 (min ((S0 1 (((93 + (4 * p0)) + 1).toNat)) - 1) 9)) ≤ S0 1 17) ∨ (¬ (2 : Int) = 1 ∧ ¬ (2 : Int) = 2 ∧ ¬ (max 0 (min ((S0 1 (((93 + (4 * p0)) + 0).toNat)) + 2) 9)) = S0 1 18))
      (zif (((3 : Int) = 1 ∧ S0 1 16 ≤ (max 0 (min ((S0 1 (((93 + (4 * p0)) + 0).toNat)) + 2) 9))) ∨ (¬ (3 : Int) = 1 ∧ (3 : Int) = 2 ∧ (max 4 (min ((S0 1 (((93 + (4 * p0)) + 1).toNat)) - 1) 9)) ≤ S0 1 17) ∨ (¬ (3 : Int) = 1 ∧ ¬ (3 : Int) = 2 ∧ ¬ (max 0 (min ((S0 1 (((93 + (4 * p0)) + 0).toNat)) + 2) 9)) = S0 1 18))
        (upZ (upZ (S0 0) 8 0) 7 0)
        (upZ (upZ (S0 0) 8 0) 7 0))
      (upZ (upZ (S0 0) 8 0) 7 0))
    (upZ (upZ (S0 0) 8 0) 7 0))
  (upZ (upZ (S0 0) 8 1) 7 0)
set_option maxHeartbeats 4000000 in
set_option maxRecDepth 100000 in
theorem c_X8_wouldMend (l : Launch) (D : va_G) (k : Nat → ClassId) (a0 : Nat → Nat) (S0 : Nat → Nat → Int) (p0 : Int) (hB : zBf (S0 1)) (hB0 : zBf (S0 0)) (hF : 0 ≤ S0 1 10 ∧ S0 1 10 ≤ 8) (h0 : -2147483648 ≤ p0 ∧ p0 < 2147483648) : zMi l yX8_wouldMend wsX8_wouldMend ({ frames := 2, cells := 0, slots := 0, locals := 46 } : Room) D k [.ref (a0 0), .int (iI p0)] (wRef k a0 S0) (sp_X8_wouldMend S0 p0) (wRef k a0 (upA S0 0 (sS0_0_X8_wouldMend S0 p0))) 0 0 := by
  refine zMi_of (cc := cX8_wouldMend) (maxL := 4) (ret := (some .boolean)) (by decide) rfl (Nat.le_of_ble_eq_true rfl) ?_
  intro p e s m args below meth c A ls hx hb hr hml hown hts hlocks hK hP hD hG hA hS hl
  have hown : s.vm.findClass RX8 = some m.cls := hown
  have hl : lv_has ls 4 [(0, .ref (a0 0)), (1, .int (iI p0))] := hl
  obtain ⟨H, hH⟩ : ∃ z, z = s.heap := ⟨_, rfl⟩
  obtain ⟨locs, hlc⟩ : ∃ z : List Loc, z = [] := ⟨_, rfl⟩
  rw [← hH] at hP
  have hS : va_S A s.heap H locs := by rw [hH, hlc]; exact hS
  rw [← hlc, ← hH]
  clear hlc hH
  refine lv_aload_n hx hb dX8_wouldMend_0 rfl (lv_at hl 0 rfl) ?_
  refine lv_aload_n hx hb dX8_wouldMend_1 rfl (lv_at hl 0 rfl) ?_
  refine lv_iload_n hx hb dX8_wouldMend_2 rfl (lv_at hl 1 rfl) ?_
  refine z_ai0 (va_runV (As := [.int (iI p0)]) (rest := [.ref (a0 0)]) ⟨hx, hb, hml, hown, hts⟩ (c_X8_isReject l D k a0 S0  p0 hB (by omega) _) (cwV 1 hts gX8_wouldMend_X8_isReject rfl rfl rfl (by decide +kernel) ⟨(Nat.le_of_ble_eq_true rfl), (Nat.le_of_ble_eq_true rfl)⟩) (z_preV hK hG hA hP hD hS [0, 1, 2, 3, 4, 5, 6, 7] rfl (by decide) 10 rfl rfl) rfl rfl hl.1 rfl (lv_room (Nat.le_of_ble_eq_true rfl)) dX8_wouldMend_3 ⟨(Nat.le_of_ble_eq_true rfl), (Nat.le_of_ble_eq_true rfl)⟩) hA hP hD hS [0, 1, 2, 3, 4, 5, 6, 7] rfl (fun H locs hP hS => ?_)
  have f_1 := hB 10
  refine zi_if_eqB (tgt := 13) hx hb dX8_wouldMend_6 (by decide) (fun c_2 => ?_) (fun c_2 => ?_)
  · refine lv_iconst (v := iI 1) hx hb dX8_wouldMend_13 rfl ?_
    refine z_ai (va_runV (As := [.int (iI 1)]) (rest := []) ⟨hx, hb, hml, hown, hts⟩ (c_X8_fails l D k a0 S0  1 (by omega) _) (cwV 1 hts gX8_wouldMend_X8_fails rfl rfl rfl (by decide +kernel) ⟨(Nat.le_of_ble_eq_true rfl), (Nat.le_of_ble_eq_true rfl)⟩) (z_preV hK hG hA hP hD hS [0, 1, 2, 3, 4, 5, 6, 7] rfl (by decide) 10 rfl rfl) rfl rfl hl.1 rfl (lv_room (Nat.le_of_ble_eq_true rfl)) dX8_wouldMend_14 ⟨(Nat.le_of_ble_eq_true rfl), (Nat.le_of_ble_eq_true rfl)⟩) hA hP hD hS [0, 1, 2, 3, 4, 5, 6, 7] rfl rfl (fun H locs hP hD hS => ?_)
    have hP : va_P D vwCl (wRef k a0 (upA S0 0 (upZ (upZ (S0 0) 8 1) 7 0))) H := hP
    have hD : va_D A (wRef k a0 (upA S0 0 (upZ (upZ (S0 0) 8 1) 7 0))) := hD
    refine zi_if_eqB (tgt := 22) hx hb dX8_wouldMend_17 (by decide) (fun c_3 => absurd c_3 (by decide)) (fun _ => ?_)
    refine lv_iconst (v := iI 0) hx hb dX8_wouldMend_20 rfl ?_
    exact z_zret hx hb hr hlocks rfl hP hS dX8_wouldMend_21 (Eq.trans (zif_neg c_2) rfl) (congrArg (fun z => wRef k a0 (upA S0 0 z)) (show sS0_0_X8_wouldMend S0 p0 = upZ (upZ (S0 0) 8 1) 7 0 from (Eq.trans (zif_neg c_2) rfl))) (Nat.le_refl _) (Nat.le_refl _)
  · refine lv_iconst (v := iI 0) hx hb dX8_wouldMend_9 rfl ?_
    refine lv_goto (tgt := 14) hx hb dX8_wouldMend_10 (by decide) ?_
    refine z_ai (va_runV (As := [.int (iI 0)]) (rest := []) ⟨hx, hb, hml, hown, hts⟩ (c_X8_fails l D k a0 S0  0 (by omega) _) (cwV 1 hts gX8_wouldMend_X8_fails rfl rfl rfl (by decide +kernel) ⟨(Nat.le_of_ble_eq_true rfl), (Nat.le_of_ble_eq_true rfl)⟩) (z_preV hK hG hA hP hD hS [0, 1, 2, 3, 4, 5, 6, 7] rfl (by decide) 10 rfl rfl) rfl rfl hl.1 rfl (lv_room (Nat.le_of_ble_eq_true rfl)) dX8_wouldMend_14 ⟨(Nat.le_of_ble_eq_true rfl), (Nat.le_of_ble_eq_true rfl)⟩) hA hP hD hS [0, 1, 2, 3, 4, 5, 6, 7] rfl rfl (fun H locs hP hD hS => ?_)
    have hP : va_P D vwCl (wRef k a0 (upA S0 0 (upZ (upZ (S0 0) 8 0) 7 0))) H := hP
    have hD : va_D A (wRef k a0 (upA S0 0 (upZ (upZ (S0 0) 8 0) 7 0))) := hD
    refine zi_if_eqB (tgt := 22) hx hb dX8_wouldMend_17 (by decide) (fun _ => ?_) (fun c_4 => absurd c_4 (by decide))
    refine lv_aload_n hx hb dX8_wouldMend_22 rfl (lv_at hl 0 rfl) ?_
    refine lv_iload_n hx hb dX8_wouldMend_23 rfl (lv_at hl 1 rfl) ?_
    refine lv_iconst (v := iI 0) hx hb dX8_wouldMend_24 rfl ?_
    refine z_ai0 (va_runV (As := [.int (iI p0), .int (iI 0)]) (rest := []) ⟨hx, hb, hml, hown, hts⟩ (c_X8_its l D k a0 (upA S0 0 (upZ (upZ (S0 0) 8 0) 7 0))  p0 0 (by omega) _) (cwV 2 hts gX8_wouldMend_X8_its rfl rfl rfl (by decide +kernel) ⟨(Nat.le_of_ble_eq_true rfl), (Nat.le_of_ble_eq_true rfl)⟩) (z_preV hK hG hA hP hD hS [0, 1, 2, 3, 4, 5, 6, 7] rfl (by decide) 10 rfl rfl) rfl rfl hl.1 rfl (lv_room (Nat.le_of_ble_eq_true rfl)) dX8_wouldMend_25 ⟨(Nat.le_of_ble_eq_true rfl), (Nat.le_of_ble_eq_true rfl)⟩) hA hP hD hS [0, 1, 2, 3, 4, 5, 6, 7] rfl (fun H locs hP hS => ?_)
    refine z_eqi (z2 := S0 1 (((93 + (4 * p0)) + 0).toNat)) rfl ?_
    have f_5 := hB (((93 + (4 * p0)) + 0).toNat)
    refine lv_iconst (v := iI 2) hx hb dX8_wouldMend_28 rfl ?_
    refine zi_add hx hb dX8_wouldMend_29 ?_
    refine lv_iconst (v := iI 0) hx hb dX8_wouldMend_30 rfl ?_
    refine lv_bipush (v := iI 9) hx hb dX8_wouldMend_31 (by decide) ?_
    refine z_ai0 (va_runS (As := [.int (iI ((S0 1 (((93 + (4 * p0)) + 0).toNat)) + 2)), .int (iI 0), .int (iI 9)]) (rest := []) ⟨hx, hb, hml, hown, hts⟩ (c_X8_within l D k   ((S0 1 (((93 + (4 * p0)) + 0).toNat)) + 2) 0 9 (by omega) (by omega) (by omega) (by omega) _) (va_cwS 3 hts gX8_wouldMend_X8_within rfl rfl rfl (by decide +kernel) ⟨(Nat.le_of_ble_eq_true rfl), (Nat.le_of_ble_eq_true rfl)⟩) (z_preS hK hG hA hP hD hS [] rfl (by decide)) rfl rfl hl.1 rfl (lv_room (Nat.le_of_ble_eq_true rfl)) dX8_wouldMend_33 ⟨(Nat.le_of_ble_eq_true rfl), (Nat.le_of_ble_eq_true rfl)⟩) hA hP hD hS [] rfl (fun H locs hP hS => ?_)
    have f_6 := hB ((((93 + (4 * p0)) + 0).toNat))
    refine lv_istore_n (lv' := [(2, .int (iI (max 0 (min ((S0 1 (((93 + (4 * p0)) + 0).toNat)) + 2) 9)))), (0, .ref (a0 0)), (1, .int (iI p0))]) hx hb dX8_wouldMend_36 rfl hl (by decide) rfl (fun ls hl => ?_)
    refine lv_aload_n hx hb dX8_wouldMend_37 rfl (lv_at hl 1 rfl) ?_
    refine lv_iload_n hx hb dX8_wouldMend_38 rfl (lv_at hl 2 rfl) ?_
    refine lv_iconst (v := iI 1) hx hb dX8_wouldMend_39 rfl ?_
    refine z_ai0 (va_runV (As := [.int (iI p0), .int (iI 1)]) (rest := []) ⟨hx, hb, hml, hown, hts⟩ (c_X8_its l D k a0 (upA S0 0 (upZ (upZ (S0 0) 8 0) 7 0))  p0 1 (by omega) _) (cwV 2 hts gX8_wouldMend_X8_its rfl rfl rfl (by decide +kernel) ⟨(Nat.le_of_ble_eq_true rfl), (Nat.le_of_ble_eq_true rfl)⟩) (z_preV hK hG hA hP hD hS [0, 1, 2, 3, 4, 5, 6, 7] rfl (by decide) 10 rfl rfl) rfl rfl hl.1 rfl (lv_room (Nat.le_of_ble_eq_true rfl)) dX8_wouldMend_40 ⟨(Nat.le_of_ble_eq_true rfl), (Nat.le_of_ble_eq_true rfl)⟩) hA hP hD hS [0, 1, 2, 3, 4, 5, 6, 7] rfl (fun H locs hP hS => ?_)
    refine z_eqi (z2 := S0 1 (((93 + (4 * p0)) + 1).toNat)) rfl ?_
    have f_7 := hB (((93 + (4 * p0)) + 1).toNat)
    refine lv_iconst (v := iI 1) hx hb dX8_wouldMend_43 rfl ?_
    refine zi_sub hx hb dX8_wouldMend_44 ?_
    refine lv_iconst (v := iI 4) hx hb dX8_wouldMend_45 rfl ?_
    refine lv_bipush (v := iI 9) hx hb dX8_wouldMend_46 (by decide) ?_
    refine z_ai0 (va_runS (As := [.int (iI ((S0 1 (((93 + (4 * p0)) + 1).toNat)) - 1)), .int (iI 4), .int (iI 9)]) (rest := []) ⟨hx, hb, hml, hown, hts⟩ (c_X8_within l D k   ((S0 1 (((93 + (4 * p0)) + 1).toNat)) - 1) 4 9 (by omega) (by omega) (by omega) (by omega) _) (va_cwS 3 hts gX8_wouldMend_X8_within rfl rfl rfl (by decide +kernel) ⟨(Nat.le_of_ble_eq_true rfl), (Nat.le_of_ble_eq_true rfl)⟩) (z_preS hK hG hA hP hD hS [] rfl (by decide)) rfl rfl hl.1 rfl (lv_room (Nat.le_of_ble_eq_true rfl)) dX8_wouldMend_48 ⟨(Nat.le_of_ble_eq_true rfl), (Nat.le_of_ble_eq_true rfl)⟩) hA hP hD hS [] rfl (fun H locs hP hS => ?_)
    have f_8 := hB ((((93 + (4 * p0)) + 1).toNat))
    refine lv_istore_n (lv' := [(3, .int (iI (max 4 (min ((S0 1 (((93 + (4 * p0)) + 1).toNat)) - 1) 9)))), (2, .int (iI (max 0 (min ((S0 1 (((93 + (4 * p0)) + 0).toNat)) + 2) 9)))), (0, .ref (a0 0)), (1, .int (iI p0))]) hx hb dX8_wouldMend_51 rfl hl (by decide) rfl (fun ls hl => ?_)
    refine lv_aload_n hx hb dX8_wouldMend_52 rfl (lv_at hl 2 rfl) ?_
    refine lv_iconst (v := iI 0) hx hb dX8_wouldMend_53 rfl ?_
    refine lv_iload_n hx hb dX8_wouldMend_54 rfl (lv_at hl 1 rfl) ?_
    refine lv_iload_n hx hb dX8_wouldMend_55 rfl (lv_at hl 0 rfl) ?_
    refine lv_iconst (v := iI 1) hx hb dX8_wouldMend_56 rfl ?_
    refine z_ai0 (va_runV (As := [.int (iI 0), .int (iI (max 0 (min ((S0 1 (((93 + (4 * p0)) + 0).toNat)) + 2) 9))), .int (iI (max 4 (min ((S0 1 (((93 + (4 * p0)) + 1).toNat)) - 1) 9))), .int (iI 1)]) (rest := []) ⟨hx, hb, hml, hown, hts⟩ (c_X8_isPassed l D k a0 (upA S0 0 (upZ (upZ (S0 0) 8 0) 7 0))  0 (max 0 (min ((S0 1 (((93 + (4 * p0)) + 0).toNat)) + 2) 9)) (max 4 (min ((S0 1 (((93 + (4 * p0)) + 1).toNat)) - 1) 9)) 1 hB (by omega) (by omega) (by omega) (by omega) _) (cwV 4 hts gX8_wouldMend_X8_isPassed rfl rfl rfl (by decide +kernel) ⟨(Nat.le_of_ble_eq_true rfl), (Nat.le_of_ble_eq_true rfl)⟩) (z_preV hK hG hA hP hD hS [0, 1, 2, 3, 4, 5, 6, 7] rfl (by decide) 10 rfl rfl) rfl rfl hl.1 rfl (lv_room (Nat.le_of_ble_eq_true rfl)) dX8_wouldMend_57 ⟨(Nat.le_of_ble_eq_true rfl), (Nat.le_of_ble_eq_true rfl)⟩) hA hP hD hS [0, 1, 2, 3, 4, 5, 6, 7] rfl (fun H locs hP hS => ?_)
    refine z_eqi (z2 := zb (((1 : Int) = 1 ∧ S0 1 16 ≤ (max 0 (min ((S0 1 (((93 + (4 * p0)) + 0).toNat)) + 2) 9))) ∨ (¬ (1 : Int) = 1 ∧ (1 : Int) = 2 ∧ (max 4 (min ((S0 1 (((93 + (4 * p0)) + 1).toNat)) - 1) 9)) ≤ S0 1 17) ∨ (¬ (1 : Int) = 1 ∧ ¬ (1 : Int) = 2 ∧ ¬ (max 0 (min ((S0 1 (((93 + (4 * p0)) + 0).toNat)) + 2) 9)) = S0 1 18))) rfl ?_
    have f_9 := hB 16
    have f_10 := hB 17
    have f_11 := hB 18
    refine zi_if_eqB (tgt := 89) hx hb dX8_wouldMend_60 (by decide) (fun c_12 => ?_) (fun c_12 => ?_)
    · refine lv_iconst (v := iI 0) hx hb dX8_wouldMend_89 rfl ?_
      exact z_zret hx hb hr hlocks rfl hP hS dX8_wouldMend_90 (Eq.trans (zif_pos c_2) (Eq.trans (zif_neg c_12) rfl)) (congrArg (fun z => wRef k a0 (upA S0 0 z)) (show sS0_0_X8_wouldMend S0 p0 = upZ (upZ (S0 0) 8 0) 7 0 from (Eq.trans (zif_pos c_2) (Eq.trans (zif_neg c_12) rfl)))) (Nat.le_refl _) (Nat.le_refl _)
    · refine lv_aload_n hx hb dX8_wouldMend_63 rfl (lv_at hl 2 rfl) ?_
      refine lv_iconst (v := iI 0) hx hb dX8_wouldMend_64 rfl ?_
      refine lv_iload_n hx hb dX8_wouldMend_65 rfl (lv_at hl 1 rfl) ?_
      refine lv_iload_n hx hb dX8_wouldMend_66 rfl (lv_at hl 0 rfl) ?_
      refine lv_iconst (v := iI 2) hx hb dX8_wouldMend_67 rfl ?_
      refine z_ai0 (va_runV (As := [.int (iI 0), .int (iI (max 0 (min ((S0 1 (((93 + (4 * p0)) + 0).toNat)) + 2) 9))), .int (iI (max 4 (min ((S0 1 (((93 + (4 * p0)) + 1).toNat)) - 1) 9))), .int (iI 2)]) (rest := []) ⟨hx, hb, hml, hown, hts⟩ (c_X8_isPassed l D k a0 (upA S0 0 (upZ (upZ (S0 0) 8 0) 7 0))  0 (max 0 (min ((S0 1 (((93 + (4 * p0)) + 0).toNat)) + 2) 9)) (max 4 (min ((S0 1 (((93 + (4 * p0)) + 1).toNat)) - 1) 9)) 2 hB (by omega) (by omega) (by omega) (by omega) _) (cwV 4 hts gX8_wouldMend_X8_isPassed rfl rfl rfl (by decide +kernel) ⟨(Nat.le_of_ble_eq_true rfl), (Nat.le_of_ble_eq_true rfl)⟩) (z_preV hK hG hA hP hD hS [0, 1, 2, 3, 4, 5, 6, 7] rfl (by decide) 10 rfl rfl) rfl rfl hl.1 rfl (lv_room (Nat.le_of_ble_eq_true rfl)) dX8_wouldMend_68 ⟨(Nat.le_of_ble_eq_true rfl), (Nat.le_of_ble_eq_true rfl)⟩) hA hP hD hS [0, 1, 2, 3, 4, 5, 6, 7] rfl (fun H locs hP hS => ?_)
      refine z_eqi (z2 := zb (((2 : Int) = 1 ∧ S0 1 16 ≤ (max 0 (min ((S0 1 (((93 + (4 * p0)) + 0).toNat)) + 2) 9))) ∨ (¬ (2 : Int) = 1 ∧ (2 : Int) = 2 ∧ (max 4 (min ((S0 1 (((93 + (4 * p0)) + 1).toNat)) - 1) 9)) ≤ S0 1 17) ∨ (¬ (2 : Int) = 1 ∧ ¬ (2 : Int) = 2 ∧ ¬ (max 0 (min ((S0 1 (((93 + (4 * p0)) + 0).toNat)) + 2) 9)) = S0 1 18))) rfl ?_
      refine zi_if_eqB (tgt := 89) hx hb dX8_wouldMend_71 (by decide) (fun c_13 => ?_) (fun c_13 => ?_)
      · refine lv_iconst (v := iI 0) hx hb dX8_wouldMend_89 rfl ?_
        exact z_zret hx hb hr hlocks rfl hP hS dX8_wouldMend_90 (Eq.trans (zif_pos c_2) (Eq.trans (zif_pos c_12) (Eq.trans (zif_neg c_13) rfl))) (congrArg (fun z => wRef k a0 (upA S0 0 z)) (show sS0_0_X8_wouldMend S0 p0 = upZ (upZ (S0 0) 8 0) 7 0 from (Eq.trans (zif_pos c_2) (Eq.trans (zif_pos c_12) (Eq.trans (zif_neg c_13) rfl))))) (Nat.le_refl _) (Nat.le_refl _)
      · refine lv_aload_n hx hb dX8_wouldMend_74 rfl (lv_at hl 2 rfl) ?_
        refine lv_iconst (v := iI 0) hx hb dX8_wouldMend_75 rfl ?_
        refine lv_iload_n hx hb dX8_wouldMend_76 rfl (lv_at hl 1 rfl) ?_
        refine lv_iload_n hx hb dX8_wouldMend_77 rfl (lv_at hl 0 rfl) ?_
        refine lv_iconst (v := iI 3) hx hb dX8_wouldMend_78 rfl ?_
        refine z_ai0 (va_runV (As := [.int (iI 0), .int (iI (max 0 (min ((S0 1 (((93 + (4 * p0)) + 0).toNat)) + 2) 9))), .int (iI (max 4 (min ((S0 1 (((93 + (4 * p0)) + 1).toNat)) - 1) 9))), .int (iI 3)]) (rest := []) ⟨hx, hb, hml, hown, hts⟩ (c_X8_isPassed l D k a0 (upA S0 0 (upZ (upZ (S0 0) 8 0) 7 0))  0 (max 0 (min ((S0 1 (((93 + (4 * p0)) + 0).toNat)) + 2) 9)) (max 4 (min ((S0 1 (((93 + (4 * p0)) + 1).toNat)) - 1) 9)) 3 hB (by omega) (by omega) (by omega) (by omega) _) (cwV 4 hts gX8_wouldMend_X8_isPassed rfl rfl rfl (by decide +kernel) ⟨(Nat.le_of_ble_eq_true rfl), (Nat.le_of_ble_eq_true rfl)⟩) (z_preV hK hG hA hP hD hS [0, 1, 2, 3, 4, 5, 6, 7] rfl (by decide) 10 rfl rfl) rfl rfl hl.1 rfl (lv_room (Nat.le_of_ble_eq_true rfl)) dX8_wouldMend_79 ⟨(Nat.le_of_ble_eq_true rfl), (Nat.le_of_ble_eq_true rfl)⟩) hA hP hD hS [0, 1, 2, 3, 4, 5, 6, 7] rfl (fun H locs hP hS => ?_)
        refine z_eqi (z2 := zb (((3 : Int) = 1 ∧ S0 1 16 ≤ (max 0 (min ((S0 1 (((93 + (4 * p0)) + 0).toNat)) + 2) 9))) ∨ (¬ (3 : Int) = 1 ∧ (3 : Int) = 2 ∧ (max 4 (min ((S0 1 (((93 + (4 * p0)) + 1).toNat)) - 1) 9)) ≤ S0 1 17) ∨ (¬ (3 : Int) = 1 ∧ ¬ (3 : Int) = 2 ∧ ¬ (max 0 (min ((S0 1 (((93 + (4 * p0)) + 0).toNat)) + 2) 9)) = S0 1 18))) rfl ?_
        refine zi_if_eqB (tgt := 89) hx hb dX8_wouldMend_82 (by decide) (fun c_14 => ?_) (fun c_14 => ?_)
        · refine lv_iconst (v := iI 0) hx hb dX8_wouldMend_89 rfl ?_
          exact z_zret hx hb hr hlocks rfl hP hS dX8_wouldMend_90 (Eq.trans (zif_pos c_2) (Eq.trans (zif_pos c_12) (Eq.trans (zif_pos c_13) (Eq.trans (zif_neg c_14) rfl)))) (congrArg (fun z => wRef k a0 (upA S0 0 z)) (show sS0_0_X8_wouldMend S0 p0 = upZ (upZ (S0 0) 8 0) 7 0 from (Eq.trans (zif_pos c_2) (Eq.trans (zif_pos c_12) (Eq.trans (zif_pos c_13) (Eq.trans (zif_neg c_14) rfl)))))) (Nat.le_refl _) (Nat.le_refl _)
        · refine lv_iconst (v := iI 1) hx hb dX8_wouldMend_85 rfl ?_
          refine lv_goto (tgt := 90) hx hb dX8_wouldMend_86 (by decide) ?_
          exact z_zret hx hb hr hlocks rfl hP hS dX8_wouldMend_90 (Eq.trans (zif_pos c_2) (Eq.trans (zif_pos c_12) (Eq.trans (zif_pos c_13) (Eq.trans (zif_pos c_14) rfl)))) (congrArg (fun z => wRef k a0 (upA S0 0 z)) (show sS0_0_X8_wouldMend S0 p0 = upZ (upZ (S0 0) 8 0) 7 0 from (Eq.trans (zif_pos c_2) (Eq.trans (zif_pos c_12) (Eq.trans (zif_pos c_13) (Eq.trans (zif_pos c_14) rfl)))))) (Nat.le_refl _) (Nat.le_refl _)
noncomputable def sp_X8_fresh_L2 (S0 : Nat → Nat → Int) (p0 : Int) : Nat → Int → Int
  | 0, _ => 0
  | n + 1, x2 => zif ((S0 1 9) ≤ x2)
    (0)
    (zif ((rBefore (S0 1) x2) = p0)
      (x2)
      (sp_X8_fresh_L2 S0 p0 n (x2 + 1)))
noncomputable def sS0_0_X8_fresh_L2 (S0 : Nat → Nat → Int) (p0 : Int) : Nat → Int → (Nat → Int)
  | 0, _ => fun _ => 0
  | n + 1, x2 => zif ((S0 1 9) ≤ x2)
    (upZ (S0 0) 8 1)
    (zif ((rBefore (S0 1) x2) = p0)
      (upZ (S0 0) 8 0)
      (sS0_0_X8_fresh_L2 S0 p0 n (x2 + 1)))
noncomputable def sp_X8_fresh (S0 : Nat → Nat → Int) (p0 : Int) : Int := sp_X8_fresh_L2 S0 p0 5 0
noncomputable def sS0_0_X8_fresh (S0 : Nat → Nat → Int) (p0 : Int) : (Nat → Int) := sS0_0_X8_fresh_L2 S0 p0 5 0
set_option maxHeartbeats 4000000 in
set_option maxRecDepth 100000 in
theorem c_X8_fresh (l : Launch) (D : va_G) (k : Nat → ClassId) (a0 : Nat → Nat) (S0 : Nat → Nat → Int) (p0 : Int) (hB : zBf (S0 1)) (hB0 : zBf (S0 0)) (hI : 0 ≤ S0 1 9 ∧ S0 1 9 ≤ 4) (h0 : -2147483648 ≤ p0 ∧ p0 < 2147483648) : zMi l yX8_fresh wsX8_fresh ({ frames := 0, cells := 0, slots := 0, locals := 0 } : Room) D k [.ref (a0 0), .int (iI p0)] (wRef k a0 S0) (sp_X8_fresh S0 p0) (wRef k a0 (upA S0 0 (sS0_0_X8_fresh S0 p0))) 0 0 := by
  refine zMi_of (cc := cX8_fresh) (maxL := 5) (ret := (some .int)) (by decide) rfl (Nat.le_of_ble_eq_true rfl) ?_
  intro p e s m args below meth c A ls hx hb hr hml hown hts hlocks hK hP hD hG hA hS hl
  have hown : s.vm.findClass RX8 = some m.cls := hown
  have hl : lv_has ls 5 [(0, .ref (a0 0)), (1, .int (iI p0))] := hl
  obtain ⟨H, hH⟩ : ∃ z, z = s.heap := ⟨_, rfl⟩
  obtain ⟨locs, hlc⟩ : ∃ z : List Loc, z = [] := ⟨_, rfl⟩
  rw [← hH] at hP
  have hS : va_S A s.heap H locs := by rw [hH, hlc]; exact hS
  rw [← hlc, ← hH]
  clear hlc hH
  refine lv_iconst (v := iI 0) hx hb dX8_fresh_0 rfl ?_
  refine lv_istore_n (lv' := [(2, .int (iI 0)), (0, .ref (a0 0)), (1, .int (iI p0))]) hx hb dX8_fresh_1 rfl hl (by decide) rfl (fun ls hl => ?_)
  have lp2_0 : ∀ (n : Nat) (x2 : Int), (4 - x2).toNat < n → (0 ≤ x2) → (x2 ≤ S0 1 9) → sp_X8_fresh S0 p0 = sp_X8_fresh_L2 S0 p0 n x2 → sS0_0_X8_fresh S0 p0 = sS0_0_X8_fresh_L2 S0 p0 n x2 → ∀ (H : Heap) (locs : List Loc) (ls : Array Slot), va_P D vwCl (wRef k a0 S0) H → va_D A (wRef k a0 S0) → va_S A s.heap H locs → lv_has ls 5 [(2, .int (iI x2)), (0, .ref (a0 0)), (1, .int (iI p0))] → W p l e ({ frames := 0, cells := 0, slots := 0, locals := 0 } : Room) s m args below meth c H locs 0 0 (MQ below (zQi D A (sp_X8_fresh S0 p0) (wRef k a0 (upA S0 0 (sS0_0_X8_fresh S0 p0)))) args s 0 0 A) (F0 m 2 ls []) := by
    intro n2
    induction n2 with
    | zero => intro x2 hm; exact absurd hm (Nat.not_lt_zero _)
    | succ n2 ih2 =>
      intro x2 hm2 i0 i1 E2_0_r E2_0_s0_0 H locs ls hP hD hS hl
      refine lv_iload_n hx hb dX8_fresh_2 rfl (lv_at hl 0 rfl) ?_
      refine lv_aload_n hx hb dX8_fresh_3 rfl (lv_at hl 1 rfl) ?_
      refine va_get (D := D) (ci := 10) (v := .ref (a0 1)) (C := RX8) (T := TX8) (N := 19) hx hb hts (fun w h => List.mem_cons_of_mem _ (List.mem_append_left _ (List.mem_append_right _ h))) hown hK hP 0 rfl rfl 0 (by decide) (hts (.fieldLink RX8 7 "MondayFactoryModel" "g" "[I") (List.mem_of_getElem? (i := 1) rfl)) (fun _ h9 => h9) rfl dX8_fresh_4 ?_
      refine lv_bipush (v := iI 9) hx hb dX8_fresh_7 (by decide) ?_
      refine z_iald hx hb hK hP 1 0 (f := S0 1) rfl rfl (i := 9) (by omega) (by omega) (by decide) 9 rfl dX8_fresh_9 ?_
      have f_1 := hB 9
      refine zi_icmp_ge (tgt := 115) hx hb dX8_fresh_10 (by decide) ⟨by omega, by omega⟩ ⟨by omega, by omega⟩ (fun c_2 => ?_) (fun c_2 => ?_)
      · refine lv_aload_n hx hb dX8_fresh_115 rfl (lv_at hl 1 rfl) ?_
        refine lv_iconst (v := iI 1) hx hb dX8_fresh_116 rfl ?_
        refine va_put (D := D) (ci := 10) (v := .int (iI 1)) (ty := .int) (C := RX8) (T := TX8) (N := 19) hx hb hts (fun w h => List.mem_cons_of_mem _ (List.mem_append_left _ (List.mem_append_right _ h))) tyX8 tyX8_ok nmX8 hown hK hP hD hS 0 rfl rfl 8 (by decide) (hts (.fieldLink RX8 40 "MondayFactoryModel" "code" "I") (List.mem_of_getElem? (i := 2) rfl)) (fun _ h9 => h9) rfl (by decide +kernel) rfl rfl (Nat.le_of_ble_eq_true rfl) dX8_fresh_117 (fun H locs hP hD hS => ?_)
        have hP : va_P D vwCl (wRef k a0 (up2 S0 0 8 1)) H := hP
        have hD : va_D A (wRef k a0 (up2 S0 0 8 1)) := hD
        refine lv_iconst (v := iI 0) hx hb dX8_fresh_120 rfl ?_
        exact z_iret hx hb hr hlocks hP hS dX8_fresh_121 (Eq.trans E2_0_r (Eq.trans (zif_pos c_2) rfl)) (congrArg (fun z => wRef k a0 (upA S0 0 z)) (show sS0_0_X8_fresh S0 p0 = upZ (S0 0) 8 1 from (Eq.trans E2_0_s0_0 (Eq.trans (zif_pos c_2) rfl)))) (Nat.le_refl _) (Nat.le_refl _)
      · refine lv_iconst (v := iI 0) hx hb dX8_fresh_13 rfl ?_
        refine lv_istore_n (lv' := [(3, .int (iI 0)), (2, .int (iI x2)), (0, .ref (a0 0)), (1, .int (iI p0))]) hx hb dX8_fresh_14 rfl hl (by decide) rfl (fun ls hl => ?_)
        refine lv_iconst (v := iI 0) hx hb dX8_fresh_15 rfl ?_
        refine lv_istore (lv' := [(4, .int (iI 0)), (3, .int (iI 0)), (2, .int (iI x2)), (0, .ref (a0 0)), (1, .int (iI p0))]) hx hb dX8_fresh_16 hl (by decide) rfl (fun ls hl => ?_)
        have lp18_0 : ∀ (n : Nat) (x3 : Int) (x4 : Int), (4 - x4).toNat < n → (0 ≤ x4) → (x4 ≤ S0 1 9) → (0 ≤ x3 ∧ x3 ≤ x4) → (x3 = sumI (fun o => zif (S0 1 (11 + o).toNat < S0 1 (11 + x2).toNat ∨ (S0 1 (11 + o).toNat = S0 1 (11 + x2).toNat ∧ o < x2)) 1 0) x4) → ∀ (H : Heap) (locs : List Loc) (ls : Array Slot), va_P D vwCl (wRef k a0 S0) H → va_D A (wRef k a0 S0) → va_S A s.heap H locs → lv_has ls 5 [(4, .int (iI x4)), (3, .int (iI x3)), (2, .int (iI x2)), (0, .ref (a0 0)), (1, .int (iI p0))] → W p l e ({ frames := 0, cells := 0, slots := 0, locals := 0 } : Room) s m args below meth c H locs 0 0 (MQ below (zQi D A (sp_X8_fresh S0 p0) (wRef k a0 (upA S0 0 (sS0_0_X8_fresh S0 p0)))) args s 0 0 A) (F0 m 18 ls []) := by
          intro n18
          induction n18 with
          | zero => intro x3 x4 hm; exact absurd hm (Nat.not_lt_zero _)
          | succ n18 ih18 =>
            intro x3 x4 hm18 j0 j1 jb jF  H locs ls hP hD hS hl
            refine lv_iload hx hb dX8_fresh_18 (lv_at hl 0 rfl) ?_
            refine lv_aload_n hx hb dX8_fresh_20 rfl (lv_at hl 3 rfl) ?_
            refine va_get (D := D) (ci := 10) (v := .ref (a0 1)) (C := RX8) (T := TX8) (N := 19) hx hb hts (fun w h => List.mem_cons_of_mem _ (List.mem_append_left _ (List.mem_append_right _ h))) hown hK hP 0 rfl rfl 0 (by decide) (hts (.fieldLink RX8 7 "MondayFactoryModel" "g" "[I") (List.mem_of_getElem? (i := 1) rfl)) (fun _ h9 => h9) rfl dX8_fresh_21 ?_
            refine lv_bipush (v := iI 9) hx hb dX8_fresh_24 (by decide) ?_
            refine z_iald hx hb hK hP 1 0 (f := S0 1) rfl rfl (i := 9) (by omega) (by omega) (by decide) 9 rfl dX8_fresh_26 ?_
            refine zi_icmp_ge (tgt := 94) hx hb dX8_fresh_27 (by decide) ⟨by omega, by omega⟩ ⟨by omega, by omega⟩ (fun c_3 => ?_) (fun c_3 => ?_)
            · have v_4 : x3 = rBefore (S0 1) x2 := (by rw [jF, show x4 = S0 1 9 by omega]; rfl)
              rw [v_4] at hl
              have jb2 : 0 ≤ rBefore (S0 1) x2 ∧ rBefore (S0 1) x2 ≤ 4 := by have := jb; omega
              refine lv_iload_n hx hb dX8_fresh_94 rfl (lv_at hl 1 rfl) ?_
              refine lv_iload_n hx hb dX8_fresh_95 rfl (lv_at hl 4 rfl) ?_
              refine zi_icmp_eq (tgt := 102) hx hb dX8_fresh_96 (by decide) ⟨by omega, by omega⟩ ⟨by omega, by omega⟩ (fun c_5 => ?_) (fun c_5 => ?_)
              · refine lv_aload_n hx hb dX8_fresh_102 rfl (lv_at hl 3 rfl) ?_
                refine lv_iconst (v := iI 0) hx hb dX8_fresh_103 rfl ?_
                refine va_put (D := D) (ci := 10) (v := .int (iI 0)) (ty := .int) (C := RX8) (T := TX8) (N := 19) hx hb hts (fun w h => List.mem_cons_of_mem _ (List.mem_append_left _ (List.mem_append_right _ h))) tyX8 tyX8_ok nmX8 hown hK hP hD hS 0 rfl rfl 8 (by decide) (hts (.fieldLink RX8 40 "MondayFactoryModel" "code" "I") (List.mem_of_getElem? (i := 2) rfl)) (fun _ h9 => h9) rfl (by decide +kernel) rfl rfl (Nat.le_of_ble_eq_true rfl) dX8_fresh_104 (fun H locs hP hD hS => ?_)
                have hP : va_P D vwCl (wRef k a0 (up2 S0 0 8 0)) H := hP
                have hD : va_D A (wRef k a0 (up2 S0 0 8 0)) := hD
                refine lv_iload_n hx hb dX8_fresh_107 rfl (lv_at hl 2 rfl) ?_
                exact z_iret hx hb hr hlocks hP hS dX8_fresh_108 (Eq.trans E2_0_r (Eq.trans (zif_neg c_2) (Eq.trans (zif_pos c_5) rfl))) (congrArg (fun z => wRef k a0 (upA S0 0 z)) (show sS0_0_X8_fresh S0 p0 = upZ (S0 0) 8 0 from (Eq.trans E2_0_s0_0 (Eq.trans (zif_neg c_2) (Eq.trans (zif_pos c_5) rfl))))) (Nat.le_refl _) (Nat.le_refl _)
              · refine lv_goto (tgt := 109) hx hb dX8_fresh_99 (by decide) ?_
                refine lv_iinc (v := iI (x2 + 1)) (lv' := [(2, .int (iI (x2 + 1))), (4, .int (iI x4)), (3, .int (iI (rBefore (S0 1) x2))), (0, .ref (a0 0)), (1, .int (iI p0))]) hx hb dX8_fresh_109 hl (k := 2) rfl (iI_add _ _) (by decide) rfl (fun ls hl => ?_)
                refine lv_goto (tgt := 2) hx hb dX8_fresh_112 (by decide) ?_
                exact ih2 (x2 + 1) (by omega) (by omega) (by omega) (Eq.trans E2_0_r (Eq.trans (zif_neg c_2) (Eq.trans (zif_neg c_5) rfl))) (Eq.trans E2_0_s0_0 (Eq.trans (zif_neg c_2) (Eq.trans (zif_neg c_5) rfl))) H locs ls hP hD hS (lv_sub hl [0, 3, 4] rfl)
            · refine lv_iload_n hx hb dX8_fresh_30 rfl (lv_at hl 1 rfl) ?_
              refine lv_aload_n hx hb dX8_fresh_31 rfl (lv_at hl 3 rfl) ?_
              refine va_get (D := D) (ci := 10) (v := .ref (a0 1)) (C := RX8) (T := TX8) (N := 19) hx hb hts (fun w h => List.mem_cons_of_mem _ (List.mem_append_left _ (List.mem_append_right _ h))) hown hK hP 0 rfl rfl 0 (by decide) (hts (.fieldLink RX8 7 "MondayFactoryModel" "g" "[I") (List.mem_of_getElem? (i := 1) rfl)) (fun _ h9 => h9) rfl dX8_fresh_32 ?_
              refine lv_bipush (v := iI 11) hx hb dX8_fresh_35 (by decide) ?_
              refine lv_iload hx hb dX8_fresh_37 (lv_at hl 0 rfl) ?_
              refine zi_add hx hb dX8_fresh_39 ?_
              refine z_iald hx hb hK hP 1 0 (f := S0 1) rfl rfl (i := 11 + x4) (by omega) (by omega) (by decide) ((11 + x4).toNat) rfl dX8_fresh_40 ?_
              have f_6 := hB ((11 + x4).toNat)
              refine lv_aload_n hx hb dX8_fresh_41 rfl (lv_at hl 3 rfl) ?_
              refine va_get (D := D) (ci := 10) (v := .ref (a0 1)) (C := RX8) (T := TX8) (N := 19) hx hb hts (fun w h => List.mem_cons_of_mem _ (List.mem_append_left _ (List.mem_append_right _ h))) hown hK hP 0 rfl rfl 0 (by decide) (hts (.fieldLink RX8 7 "MondayFactoryModel" "g" "[I") (List.mem_of_getElem? (i := 1) rfl)) (fun _ h9 => h9) rfl dX8_fresh_42 ?_
              refine lv_bipush (v := iI 11) hx hb dX8_fresh_45 (by decide) ?_
              refine lv_iload_n hx hb dX8_fresh_47 rfl (lv_at hl 2 rfl) ?_
              refine zi_add hx hb dX8_fresh_48 ?_
              refine z_iald hx hb hK hP 1 0 (f := S0 1) rfl rfl (i := 11 + x2) (by omega) (by omega) (by decide) ((11 + x2).toNat) rfl dX8_fresh_49 ?_
              have f_7 := hB ((11 + x2).toNat)
              refine zi_icmp_lt (tgt := 81) hx hb dX8_fresh_50 (by decide) ⟨by omega, by omega⟩ ⟨by omega, by omega⟩ (fun c_8 => ?_) (fun c_8 => ?_)
              · refine lv_iconst (v := iI 1) hx hb dX8_fresh_81 rfl ?_
                refine lv_goto (tgt := 86) hx hb dX8_fresh_82 (by decide) ?_
                refine zi_add hx hb dX8_fresh_86 ?_
                refine lv_istore_n (lv' := [(3, .int (iI (x3 + 1))), (4, .int (iI x4)), (2, .int (iI x2)), (0, .ref (a0 0)), (1, .int (iI p0))]) hx hb dX8_fresh_87 rfl hl (by decide) rfl (fun ls hl => ?_)
                refine lv_iinc (v := iI (x4 + 1)) (lv' := [(4, .int (iI (x4 + 1))), (3, .int (iI (x3 + 1))), (2, .int (iI x2)), (0, .ref (a0 0)), (1, .int (iI p0))]) hx hb dX8_fresh_88 hl (k := 1) rfl (iI_add _ _) (by decide) rfl (fun ls hl => ?_)
                refine lv_goto (tgt := 18) hx hb dX8_fresh_91 (by decide) ?_
                exact ih18 (x3 + 1) (x4 + 1) (by omega) (by omega) (by omega) (by omega) (by rw [jF]; first | exact sumI_e j0 (zif_pos (by omega)).symm | exact sumI_e j0 (zif_neg (by omega)).symm)  H locs ls hP hD hS (lv_sub hl [0, 1, 2, 3, 4] rfl)
              · refine lv_aload_n hx hb dX8_fresh_53 rfl (lv_at hl 3 rfl) ?_
                refine va_get (D := D) (ci := 10) (v := .ref (a0 1)) (C := RX8) (T := TX8) (N := 19) hx hb hts (fun w h => List.mem_cons_of_mem _ (List.mem_append_left _ (List.mem_append_right _ h))) hown hK hP 0 rfl rfl 0 (by decide) (hts (.fieldLink RX8 7 "MondayFactoryModel" "g" "[I") (List.mem_of_getElem? (i := 1) rfl)) (fun _ h9 => h9) rfl dX8_fresh_54 ?_
                refine lv_bipush (v := iI 11) hx hb dX8_fresh_57 (by decide) ?_
                refine lv_iload hx hb dX8_fresh_59 (lv_at hl 0 rfl) ?_
                refine zi_add hx hb dX8_fresh_61 ?_
                refine z_iald hx hb hK hP 1 0 (f := S0 1) rfl rfl (i := 11 + x4) (by omega) (by omega) (by decide) ((11 + x4).toNat) rfl dX8_fresh_62 ?_
                refine lv_aload_n hx hb dX8_fresh_63 rfl (lv_at hl 3 rfl) ?_
                refine va_get (D := D) (ci := 10) (v := .ref (a0 1)) (C := RX8) (T := TX8) (N := 19) hx hb hts (fun w h => List.mem_cons_of_mem _ (List.mem_append_left _ (List.mem_append_right _ h))) hown hK hP 0 rfl rfl 0 (by decide) (hts (.fieldLink RX8 7 "MondayFactoryModel" "g" "[I") (List.mem_of_getElem? (i := 1) rfl)) (fun _ h9 => h9) rfl dX8_fresh_64 ?_
                refine lv_bipush (v := iI 11) hx hb dX8_fresh_67 (by decide) ?_
                refine lv_iload_n hx hb dX8_fresh_69 rfl (lv_at hl 2 rfl) ?_
                refine zi_add hx hb dX8_fresh_70 ?_
                refine z_iald hx hb hK hP 1 0 (f := S0 1) rfl rfl (i := 11 + x2) (by omega) (by omega) (by decide) ((11 + x2).toNat) rfl dX8_fresh_71 ?_
                refine zi_icmp_ne (tgt := 85) hx hb dX8_fresh_72 (by decide) ⟨by omega, by omega⟩ ⟨by omega, by omega⟩ (fun c_9 => ?_) (fun c_9 => ?_)
                · refine lv_iconst (v := iI 0) hx hb dX8_fresh_85 rfl ?_
                  refine zi_add hx hb dX8_fresh_86 ?_
                  refine lv_istore_n (lv' := [(3, .int (iI (x3 + 0))), (4, .int (iI x4)), (2, .int (iI x2)), (0, .ref (a0 0)), (1, .int (iI p0))]) hx hb dX8_fresh_87 rfl hl (by decide) rfl (fun ls hl => ?_)
                  refine lv_iinc (v := iI (x4 + 1)) (lv' := [(4, .int (iI (x4 + 1))), (3, .int (iI (x3 + 0))), (2, .int (iI x2)), (0, .ref (a0 0)), (1, .int (iI p0))]) hx hb dX8_fresh_88 hl (k := 1) rfl (iI_add _ _) (by decide) rfl (fun ls hl => ?_)
                  refine lv_goto (tgt := 18) hx hb dX8_fresh_91 (by decide) ?_
                  exact ih18 (x3 + 0) (x4 + 1) (by omega) (by omega) (by omega) (by omega) (by rw [jF]; first | exact sumI_e j0 (zif_pos (by omega)).symm | exact sumI_e j0 (zif_neg (by omega)).symm)  H locs ls hP hD hS (lv_sub hl [0, 1, 2, 3, 4] rfl)
                · refine lv_iload hx hb dX8_fresh_75 (lv_at hl 0 rfl) ?_
                  refine lv_iload_n hx hb dX8_fresh_77 rfl (lv_at hl 2 rfl) ?_
                  refine zi_icmp_ge (tgt := 85) hx hb dX8_fresh_78 (by decide) ⟨by omega, by omega⟩ ⟨by omega, by omega⟩ (fun c_10 => ?_) (fun c_10 => ?_)
                  · refine lv_iconst (v := iI 0) hx hb dX8_fresh_85 rfl ?_
                    refine zi_add hx hb dX8_fresh_86 ?_
                    refine lv_istore_n (lv' := [(3, .int (iI (x3 + 0))), (4, .int (iI x4)), (2, .int (iI x2)), (0, .ref (a0 0)), (1, .int (iI p0))]) hx hb dX8_fresh_87 rfl hl (by decide) rfl (fun ls hl => ?_)
                    refine lv_iinc (v := iI (x4 + 1)) (lv' := [(4, .int (iI (x4 + 1))), (3, .int (iI (x3 + 0))), (2, .int (iI x2)), (0, .ref (a0 0)), (1, .int (iI p0))]) hx hb dX8_fresh_88 hl (k := 1) rfl (iI_add _ _) (by decide) rfl (fun ls hl => ?_)
                    refine lv_goto (tgt := 18) hx hb dX8_fresh_91 (by decide) ?_
                    exact ih18 (x3 + 0) (x4 + 1) (by omega) (by omega) (by omega) (by omega) (by rw [jF]; first | exact sumI_e j0 (zif_pos (by omega)).symm | exact sumI_e j0 (zif_neg (by omega)).symm)  H locs ls hP hD hS (lv_sub hl [0, 1, 2, 3, 4] rfl)
                  · refine lv_iconst (v := iI 1) hx hb dX8_fresh_81 rfl ?_
                    refine lv_goto (tgt := 86) hx hb dX8_fresh_82 (by decide) ?_
                    refine zi_add hx hb dX8_fresh_86 ?_
                    refine lv_istore_n (lv' := [(3, .int (iI (x3 + 1))), (4, .int (iI x4)), (2, .int (iI x2)), (0, .ref (a0 0)), (1, .int (iI p0))]) hx hb dX8_fresh_87 rfl hl (by decide) rfl (fun ls hl => ?_)
                    refine lv_iinc (v := iI (x4 + 1)) (lv' := [(4, .int (iI (x4 + 1))), (3, .int (iI (x3 + 1))), (2, .int (iI x2)), (0, .ref (a0 0)), (1, .int (iI p0))]) hx hb dX8_fresh_88 hl (k := 1) rfl (iI_add _ _) (by decide) rfl (fun ls hl => ?_)
                    refine lv_goto (tgt := 18) hx hb dX8_fresh_91 (by decide) ?_
                    exact ih18 (x3 + 1) (x4 + 1) (by omega) (by omega) (by omega) (by omega) (by rw [jF]; first | exact sumI_e j0 (zif_pos (by omega)).symm | exact sumI_e j0 (zif_neg (by omega)).symm)  H locs ls hP hD hS (lv_sub hl [0, 1, 2, 3, 4] rfl)
        exact lp18_0 5 0 0 (by omega) (by omega) (by omega) (by omega) rfl  H locs ls hP hD hS (lv_sub hl [0, 1, 2, 3, 4] rfl)
  exact lp2_0 5 0 (by omega) (by omega) (by omega) rfl rfl H locs ls hP hD hS (lv_sub hl [0, 1, 2] rfl)
set_option maxHeartbeats 4000000 in
set_option maxRecDepth 100000 in
theorem c_X8_isGreyer (l : Launch) (D : va_G) (k : Nat → ClassId) (a0 : Nat → Nat) (S0 : Nat → Nat → Int) (p0 : Int) (p1 : Int) (hB : zBf (S0 1)) (hT : zBt (S0 1)) (hC : ∀ b : Int, 0 ≤ b → b ≤ 2 → 0 ≤ S0 1 (15 + 26 * b + 0).toNat ∧ S0 1 (15 + 26 * b + 0).toNat ≤ 5) (h0 : 0 ≤ p0 ∧ p0 ≤ 2) (h1 : 0 ≤ p1 ∧ p1 ≤ 2) : zMi l yX8_isGreyer wsX8_isGreyer ({ frames := 4, cells := 0, slots := 0, locals := 90 } : Room) D k [.ref (a0 0), .int (iI p0), .int (iI p1)] (wRef k a0 S0) (zb (rGreyer (S0 1) p0 p1)) (wRef k a0 S0) 0 0 := by
  refine zMi_of (cc := cX8_isGreyer) (maxL := 5) (ret := (some .boolean)) (by decide) rfl (Nat.le_of_ble_eq_true rfl) ?_
  intro p e s m args below meth c A ls hx hb hr hml hown hts hlocks hK hP hD hG hA hS hl
  have hown : s.vm.findClass RX8 = some m.cls := hown
  have hl : lv_has ls 5 [(0, .ref (a0 0)), (1, .int (iI p0)), (2, .int (iI p1))] := hl
  obtain ⟨H, hH⟩ : ∃ z, z = s.heap := ⟨_, rfl⟩
  obtain ⟨locs, hlc⟩ : ∃ z : List Loc, z = [] := ⟨_, rfl⟩
  rw [← hH] at hP
  have hS : va_S A s.heap H locs := by rw [hH, hlc]; exact hS
  rw [← hlc, ← hH]
  clear hlc hH
  have qa := hC p0 h0.1 h0.2
  have qb := hC p1 h1.1 h1.2
  have ga := rGreys_bd hT (b := p0) qa
  have gb := rGreys_bd hT (b := p1) qb
  refine lv_aload_n hx hb dX8_isGreyer_0 rfl (lv_at hl 0 rfl) ?_
  refine lv_iload_n hx hb dX8_isGreyer_1 rfl (lv_at hl 1 rfl) ?_
  refine z_ai0 (va_runV (As := [.int (iI p0)]) (rest := []) ⟨hx, hb, hml, hown, hts⟩ (c_X8_greys l D k a0 S0  p0 hB (by omega) (by omega) _) (cwV 1 hts gX8_isGreyer_X8_greys rfl rfl rfl (by decide +kernel) ⟨(Nat.le_of_ble_eq_true rfl), (Nat.le_of_ble_eq_true rfl)⟩) (z_preV hK hG hA hP hD hS [0, 1, 2, 3, 4, 5, 6, 7] rfl (by decide) 10 rfl rfl) rfl rfl hl.1 rfl (lv_room (Nat.le_of_ble_eq_true rfl)) dX8_isGreyer_2 ⟨(Nat.le_of_ble_eq_true rfl), (Nat.le_of_ble_eq_true rfl)⟩) hA hP hD hS [0, 1, 2, 3, 4, 5, 6, 7] rfl (fun H locs hP hS => ?_)
  refine lv_aload_n hx hb dX8_isGreyer_5 rfl (lv_at hl 0 rfl) ?_
  refine lv_iload_n hx hb dX8_isGreyer_6 rfl (lv_at hl 2 rfl) ?_
  refine z_ai0 (va_runV (As := [.int (iI p1)]) (rest := [.int (iI (rGreys (S0 1) p0))]) ⟨hx, hb, hml, hown, hts⟩ (c_X8_greys l D k a0 S0  p1 hB (by omega) (by omega) _) (cwV 1 hts gX8_isGreyer_X8_greys rfl rfl rfl (by decide +kernel) ⟨(Nat.le_of_ble_eq_true rfl), (Nat.le_of_ble_eq_true rfl)⟩) (z_preV hK hG hA hP hD hS [0, 1, 2, 3, 4, 5, 6, 7] rfl (by decide) 10 rfl rfl) rfl rfl hl.1 rfl (lv_room (Nat.le_of_ble_eq_true rfl)) dX8_isGreyer_7 ⟨(Nat.le_of_ble_eq_true rfl), (Nat.le_of_ble_eq_true rfl)⟩) hA hP hD hS [0, 1, 2, 3, 4, 5, 6, 7] rfl (fun H locs hP hS => ?_)
  refine zi_sub hx hb dX8_isGreyer_10 ?_
  refine lv_istore_n (lv' := [(3, .int (iI ((rGreys (S0 1) p0) - (rGreys (S0 1) p1)))), (0, .ref (a0 0)), (1, .int (iI p0)), (2, .int (iI p1))]) hx hb dX8_isGreyer_11 rfl hl (by decide) rfl (fun ls hl => ?_)
  refine lv_iload_n hx hb dX8_isGreyer_12 rfl (lv_at hl 0 rfl) ?_
  refine zi_if_eq (tgt := 26) hx hb dX8_isGreyer_13 (by decide) ⟨by omega, by omega⟩ (fun c_1 => ?_) (fun c_1 => ?_)
  · refine lv_aload_n hx hb dX8_isGreyer_26 rfl (lv_at hl 1 rfl) ?_
    refine lv_iload_n hx hb dX8_isGreyer_27 rfl (lv_at hl 2 rfl) ?_
    refine lv_iconst (v := iI 0) hx hb dX8_isGreyer_28 rfl ?_
    refine z_ai0 (va_runV (As := [.int (iI p0), .int (iI 0)]) (rest := []) ⟨hx, hb, hml, hown, hts⟩ (c_X8_of l D k a0 S0  p0 0 (by omega) (by omega) _) (cwV 2 hts gX8_isGreyer_X8_of rfl rfl rfl (by decide +kernel) ⟨(Nat.le_of_ble_eq_true rfl), (Nat.le_of_ble_eq_true rfl)⟩) (z_preV hK hG hA hP hD hS [0, 1, 2, 3, 4, 5, 6, 7] rfl (by decide) 10 rfl rfl) rfl rfl hl.1 rfl (lv_room (Nat.le_of_ble_eq_true rfl)) dX8_isGreyer_29 ⟨(Nat.le_of_ble_eq_true rfl), (Nat.le_of_ble_eq_true rfl)⟩) hA hP hD hS [0, 1, 2, 3, 4, 5, 6, 7] rfl (fun H locs hP hS => ?_)
    have f_2 := hB (((15 + (26 * p0)) + 0).toNat)
    refine lv_aload_n hx hb dX8_isGreyer_32 rfl (lv_at hl 1 rfl) ?_
    refine lv_iload_n hx hb dX8_isGreyer_33 rfl (lv_at hl 3 rfl) ?_
    refine lv_iconst (v := iI 0) hx hb dX8_isGreyer_34 rfl ?_
    refine z_ai0 (va_runV (As := [.int (iI p1), .int (iI 0)]) (rest := [.int (iI (S0 1 (((15 + (26 * p0)) + 0).toNat)))]) ⟨hx, hb, hml, hown, hts⟩ (c_X8_of l D k a0 S0  p1 0 (by omega) (by omega) _) (cwV 2 hts gX8_isGreyer_X8_of rfl rfl rfl (by decide +kernel) ⟨(Nat.le_of_ble_eq_true rfl), (Nat.le_of_ble_eq_true rfl)⟩) (z_preV hK hG hA hP hD hS [0, 1, 2, 3, 4, 5, 6, 7] rfl (by decide) 10 rfl rfl) rfl rfl hl.1 rfl (lv_room (Nat.le_of_ble_eq_true rfl)) dX8_isGreyer_35 ⟨(Nat.le_of_ble_eq_true rfl), (Nat.le_of_ble_eq_true rfl)⟩) hA hP hD hS [0, 1, 2, 3, 4, 5, 6, 7] rfl (fun H locs hP hS => ?_)
    have f_3 := hB (((15 + (26 * p1)) + 0).toNat)
    refine zi_sub hx hb dX8_isGreyer_38 ?_
    refine lv_istore (lv' := [(4, .int (iI ((S0 1 (((15 + (26 * p0)) + 0).toNat)) - (S0 1 (((15 + (26 * p1)) + 0).toNat))))), (3, .int (iI ((rGreys (S0 1) p0) - (rGreys (S0 1) p1)))), (0, .ref (a0 0)), (1, .int (iI p0)), (2, .int (iI p1))]) hx hb dX8_isGreyer_39 hl (by decide) rfl (fun ls hl => ?_)
    refine lv_iload hx hb dX8_isGreyer_41 (lv_at hl 0 rfl) ?_
    refine zi_if_gt (tgt := 56) hx hb dX8_isGreyer_43 (by decide) ⟨by omega, by omega⟩ (fun c_4 => ?_) (fun c_4 => ?_)
    · refine lv_iconst (v := iI 1) hx hb dX8_isGreyer_56 rfl ?_
      refine lv_goto (tgt := 61) hx hb dX8_isGreyer_57 (by decide) ?_
      exact z_zret hx hb hr hlocks rfl hP hS dX8_isGreyer_61 (zb_pos (by unfold rGreyer; omega)) rfl (Nat.le_refl _) (Nat.le_refl _)
    · refine lv_iload hx hb dX8_isGreyer_46 (lv_at hl 0 rfl) ?_
      refine zi_if_ne (tgt := 60) hx hb dX8_isGreyer_48 (by decide) ⟨by omega, by omega⟩ (fun c_5 => ?_) (fun c_5 => ?_)
      · refine lv_iconst (v := iI 0) hx hb dX8_isGreyer_60 rfl ?_
        exact z_zret hx hb hr hlocks rfl hP hS dX8_isGreyer_61 (zb_neg (by unfold rGreyer; omega)) rfl (Nat.le_refl _) (Nat.le_refl _)
      · refine lv_iload_n hx hb dX8_isGreyer_51 rfl (lv_at hl 3 rfl) ?_
        refine lv_iload_n hx hb dX8_isGreyer_52 rfl (lv_at hl 4 rfl) ?_
        refine zi_icmp_ge (tgt := 60) hx hb dX8_isGreyer_53 (by decide) ⟨by omega, by omega⟩ ⟨by omega, by omega⟩ (fun c_6 => ?_) (fun c_6 => ?_)
        · refine lv_iconst (v := iI 0) hx hb dX8_isGreyer_60 rfl ?_
          exact z_zret hx hb hr hlocks rfl hP hS dX8_isGreyer_61 (zb_neg (by unfold rGreyer; omega)) rfl (Nat.le_refl _) (Nat.le_refl _)
        · refine lv_iconst (v := iI 1) hx hb dX8_isGreyer_56 rfl ?_
          refine lv_goto (tgt := 61) hx hb dX8_isGreyer_57 (by decide) ?_
          exact z_zret hx hb hr hlocks rfl hP hS dX8_isGreyer_61 (zb_pos (by unfold rGreyer; omega)) rfl (Nat.le_refl _) (Nat.le_refl _)
  · refine lv_iload_n hx hb dX8_isGreyer_16 rfl (lv_at hl 0 rfl) ?_
    refine zi_if_le (tgt := 24) hx hb dX8_isGreyer_17 (by decide) ⟨by omega, by omega⟩ (fun c_7 => ?_) (fun c_7 => ?_)
    · refine lv_iconst (v := iI 0) hx hb dX8_isGreyer_24 rfl ?_
      exact z_zret hx hb hr hlocks rfl hP hS dX8_isGreyer_25 (zb_neg (by unfold rGreyer; omega)) rfl (Nat.le_refl _) (Nat.le_refl _)
    · refine lv_iconst (v := iI 1) hx hb dX8_isGreyer_20 rfl ?_
      refine lv_goto (tgt := 25) hx hb dX8_isGreyer_21 (by decide) ?_
      exact z_zret hx hb hr hlocks rfl hP hS dX8_isGreyer_25 (zb_pos (by unfold rGreyer; omega)) rfl (Nat.le_refl _) (Nat.le_refl _)
noncomputable def sp_X8_greyest_L2 (S0 : Nat → Nat → Int) (p0 : Int) : Nat → Int → Int
  | 0, _ => 0
  | n + 1, x2 => zif (3 ≤ x2)
    (0)
    (zif ((rGreyAhead (S0 1) x2) = p0)
      (x2)
      (sp_X8_greyest_L2 S0 p0 n (x2 + 1)))
noncomputable def sS0_0_X8_greyest_L2 (S0 : Nat → Nat → Int) (p0 : Int) : Nat → Int → (Nat → Int)
  | 0, _ => fun _ => 0
  | n + 1, x2 => zif (3 ≤ x2)
    (upZ (S0 0) 8 1)
    (zif ((rGreyAhead (S0 1) x2) = p0)
      (upZ (S0 0) 8 0)
      (sS0_0_X8_greyest_L2 S0 p0 n (x2 + 1)))
noncomputable def sp_X8_greyest (S0 : Nat → Nat → Int) (p0 : Int) : Int := sp_X8_greyest_L2 S0 p0 4 0
noncomputable def sS0_0_X8_greyest (S0 : Nat → Nat → Int) (p0 : Int) : (Nat → Int) := sS0_0_X8_greyest_L2 S0 p0 4 0
set_option maxHeartbeats 4000000 in
set_option maxRecDepth 100000 in
theorem c_X8_greyest (l : Launch) (D : va_G) (k : Nat → ClassId) (a0 : Nat → Nat) (S0 : Nat → Nat → Int) (p0 : Int) (hB : zBf (S0 1)) (hB0 : zBf (S0 0)) (hT : zBt (S0 1)) (hC : ∀ b : Int, 0 ≤ b → b ≤ 2 → 0 ≤ S0 1 (15 + 26 * b + 0).toNat ∧ S0 1 (15 + 26 * b + 0).toNat ≤ 5) (h0 : -2147483648 ≤ p0 ∧ p0 < 2147483648) : zMi l yX8_greyest wsX8_greyest ({ frames := 5, cells := 0, slots := 0, locals := 114 } : Room) D k [.ref (a0 0), .int (iI p0)] (wRef k a0 S0) (sp_X8_greyest S0 p0) (wRef k a0 (upA S0 0 (sS0_0_X8_greyest S0 p0))) 0 0 := by
  refine zMi_of (cc := cX8_greyest) (maxL := 5) (ret := (some .int)) (by decide) rfl (Nat.le_of_ble_eq_true rfl) ?_
  intro p e s m args below meth c A ls hx hb hr hml hown hts hlocks hK hP hD hG hA hS hl
  have hown : s.vm.findClass RX8 = some m.cls := hown
  have hl : lv_has ls 5 [(0, .ref (a0 0)), (1, .int (iI p0))] := hl
  obtain ⟨H, hH⟩ : ∃ z, z = s.heap := ⟨_, rfl⟩
  obtain ⟨locs, hlc⟩ : ∃ z : List Loc, z = [] := ⟨_, rfl⟩
  rw [← hH] at hP
  have hS : va_S A s.heap H locs := by rw [hH, hlc]; exact hS
  rw [← hlc, ← hH]
  clear hlc hH
  refine lv_iconst (v := iI 0) hx hb dX8_greyest_0 rfl ?_
  refine lv_istore_n (lv' := [(2, .int (iI 0)), (0, .ref (a0 0)), (1, .int (iI p0))]) hx hb dX8_greyest_1 rfl hl (by decide) rfl (fun ls hl => ?_)
  have lp2_0 : ∀ (n : Nat) (x2 : Int), (3 - x2).toNat < n → (0 ≤ x2) → (x2 ≤ 3) → sp_X8_greyest S0 p0 = sp_X8_greyest_L2 S0 p0 n x2 → sS0_0_X8_greyest S0 p0 = sS0_0_X8_greyest_L2 S0 p0 n x2 → ∀ (H : Heap) (locs : List Loc) (ls : Array Slot), va_P D vwCl (wRef k a0 S0) H → va_D A (wRef k a0 S0) → va_S A s.heap H locs → lv_has ls 5 [(2, .int (iI x2)), (0, .ref (a0 0)), (1, .int (iI p0))] → W p l e ({ frames := 5, cells := 0, slots := 0, locals := 114 } : Room) s m args below meth c H locs 0 0 (MQ below (zQi D A (sp_X8_greyest S0 p0) (wRef k a0 (upA S0 0 (sS0_0_X8_greyest S0 p0)))) args s 0 0 A) (F0 m 2 ls []) := by
    intro n2
    induction n2 with
    | zero => intro x2 hm; exact absurd hm (Nat.not_lt_zero _)
    | succ n2 ih2 =>
      intro x2 hm2 i0 i1 E2_0_r E2_0_s0_0 H locs ls hP hD hS hl
      refine lv_iload_n hx hb dX8_greyest_2 rfl (lv_at hl 0 rfl) ?_
      refine lv_iconst (v := iI 3) hx hb dX8_greyest_3 rfl ?_
      refine zi_icmp_ge (tgt := 63) hx hb dX8_greyest_4 (by decide) ⟨by omega, by omega⟩ ⟨by omega, by omega⟩ (fun c_1 => ?_) (fun c_1 => ?_)
      · refine lv_aload_n hx hb dX8_greyest_63 rfl (lv_at hl 1 rfl) ?_
        refine lv_iconst (v := iI 1) hx hb dX8_greyest_64 rfl ?_
        refine va_put (D := D) (ci := 10) (v := .int (iI 1)) (ty := .int) (C := RX8) (T := TX8) (N := 19) hx hb hts (fun w h => List.mem_cons_of_mem _ (List.mem_append_left _ (List.mem_append_right _ h))) tyX8 tyX8_ok nmX8 hown hK hP hD hS 0 rfl rfl 8 (by decide) (hts (.fieldLink RX8 40 "MondayFactoryModel" "code" "I") (List.mem_of_getElem? (i := 1) rfl)) (fun _ h9 => h9) rfl (by decide +kernel) rfl rfl (Nat.le_of_ble_eq_true rfl) dX8_greyest_65 (fun H locs hP hD hS => ?_)
        have hP : va_P D vwCl (wRef k a0 (up2 S0 0 8 1)) H := hP
        have hD : va_D A (wRef k a0 (up2 S0 0 8 1)) := hD
        refine lv_iconst (v := iI 0) hx hb dX8_greyest_68 rfl ?_
        exact z_iret hx hb hr hlocks hP hS dX8_greyest_69 (Eq.trans E2_0_r (Eq.trans (zif_pos c_1) rfl)) (congrArg (fun z => wRef k a0 (upA S0 0 z)) (show sS0_0_X8_greyest S0 p0 = upZ (S0 0) 8 1 from (Eq.trans E2_0_s0_0 (Eq.trans (zif_pos c_1) rfl)))) (Nat.le_refl _) (Nat.le_refl _)
      · refine lv_iconst (v := iI 0) hx hb dX8_greyest_7 rfl ?_
        refine lv_istore_n (lv' := [(3, .int (iI 0)), (2, .int (iI x2)), (0, .ref (a0 0)), (1, .int (iI p0))]) hx hb dX8_greyest_8 rfl hl (by decide) rfl (fun ls hl => ?_)
        refine lv_iconst (v := iI 0) hx hb dX8_greyest_9 rfl ?_
        refine lv_istore (lv' := [(4, .int (iI 0)), (3, .int (iI 0)), (2, .int (iI x2)), (0, .ref (a0 0)), (1, .int (iI p0))]) hx hb dX8_greyest_10 hl (by decide) rfl (fun ls hl => ?_)
        have lp12_0 : ∀ (n : Nat) (x3 : Int) (x4 : Int), (3 - x4).toNat < n → (0 ≤ x4) → (x4 ≤ 3) → (0 ≤ x3 ∧ x3 ≤ x4) → (x3 = sumI (fun o => zif (rGreyer (S0 1) o x2) 1 0) x4) → ∀ (H : Heap) (locs : List Loc) (ls : Array Slot), va_P D vwCl (wRef k a0 S0) H → va_D A (wRef k a0 S0) → va_S A s.heap H locs → lv_has ls 5 [(4, .int (iI x4)), (3, .int (iI x3)), (2, .int (iI x2)), (0, .ref (a0 0)), (1, .int (iI p0))] → W p l e ({ frames := 5, cells := 0, slots := 0, locals := 114 } : Room) s m args below meth c H locs 0 0 (MQ below (zQi D A (sp_X8_greyest S0 p0) (wRef k a0 (upA S0 0 (sS0_0_X8_greyest S0 p0)))) args s 0 0 A) (F0 m 12 ls []) := by
          intro n12
          induction n12 with
          | zero => intro x3 x4 hm; exact absurd hm (Nat.not_lt_zero _)
          | succ n12 ih12 =>
            intro x3 x4 hm12 j0 j1 jb jF  H locs ls hP hD hS hl
            refine lv_iload hx hb dX8_greyest_12 (lv_at hl 0 rfl) ?_
            refine lv_iconst (v := iI 3) hx hb dX8_greyest_14 rfl ?_
            refine zi_icmp_ge (tgt := 42) hx hb dX8_greyest_15 (by decide) ⟨by omega, by omega⟩ ⟨by omega, by omega⟩ (fun c_2 => ?_) (fun c_2 => ?_)
            · have v_3 : x3 = rGreyAhead (S0 1) x2 := (by rw [jF, show x4 = 3 by omega]; rfl)
              rw [v_3] at hl
              have jb2 : 0 ≤ rGreyAhead (S0 1) x2 ∧ rGreyAhead (S0 1) x2 ≤ 3 := by have := jb; omega
              refine lv_iload_n hx hb dX8_greyest_42 rfl (lv_at hl 1 rfl) ?_
              refine lv_iload_n hx hb dX8_greyest_43 rfl (lv_at hl 4 rfl) ?_
              refine zi_icmp_eq (tgt := 50) hx hb dX8_greyest_44 (by decide) ⟨by omega, by omega⟩ ⟨by omega, by omega⟩ (fun c_4 => ?_) (fun c_4 => ?_)
              · refine lv_aload_n hx hb dX8_greyest_50 rfl (lv_at hl 3 rfl) ?_
                refine lv_iconst (v := iI 0) hx hb dX8_greyest_51 rfl ?_
                refine va_put (D := D) (ci := 10) (v := .int (iI 0)) (ty := .int) (C := RX8) (T := TX8) (N := 19) hx hb hts (fun w h => List.mem_cons_of_mem _ (List.mem_append_left _ (List.mem_append_right _ h))) tyX8 tyX8_ok nmX8 hown hK hP hD hS 0 rfl rfl 8 (by decide) (hts (.fieldLink RX8 40 "MondayFactoryModel" "code" "I") (List.mem_of_getElem? (i := 1) rfl)) (fun _ h9 => h9) rfl (by decide +kernel) rfl rfl (Nat.le_of_ble_eq_true rfl) dX8_greyest_52 (fun H locs hP hD hS => ?_)
                have hP : va_P D vwCl (wRef k a0 (up2 S0 0 8 0)) H := hP
                have hD : va_D A (wRef k a0 (up2 S0 0 8 0)) := hD
                refine lv_iload_n hx hb dX8_greyest_55 rfl (lv_at hl 2 rfl) ?_
                exact z_iret hx hb hr hlocks hP hS dX8_greyest_56 (Eq.trans E2_0_r (Eq.trans (zif_neg c_1) (Eq.trans (zif_pos c_4) rfl))) (congrArg (fun z => wRef k a0 (upA S0 0 z)) (show sS0_0_X8_greyest S0 p0 = upZ (S0 0) 8 0 from (Eq.trans E2_0_s0_0 (Eq.trans (zif_neg c_1) (Eq.trans (zif_pos c_4) rfl))))) (Nat.le_refl _) (Nat.le_refl _)
              · refine lv_goto (tgt := 57) hx hb dX8_greyest_47 (by decide) ?_
                refine lv_iinc (v := iI (x2 + 1)) (lv' := [(2, .int (iI (x2 + 1))), (4, .int (iI x4)), (3, .int (iI (rGreyAhead (S0 1) x2))), (0, .ref (a0 0)), (1, .int (iI p0))]) hx hb dX8_greyest_57 hl (k := 2) rfl (iI_add _ _) (by decide) rfl (fun ls hl => ?_)
                refine lv_goto (tgt := 2) hx hb dX8_greyest_60 (by decide) ?_
                exact ih2 (x2 + 1) (by omega) (by omega) (by omega) (Eq.trans E2_0_r (Eq.trans (zif_neg c_1) (Eq.trans (zif_neg c_4) rfl))) (Eq.trans E2_0_s0_0 (Eq.trans (zif_neg c_1) (Eq.trans (zif_neg c_4) rfl))) H locs ls hP hD hS (lv_sub hl [0, 3, 4] rfl)
            · refine lv_iload_n hx hb dX8_greyest_18 rfl (lv_at hl 1 rfl) ?_
              refine lv_aload_n hx hb dX8_greyest_19 rfl (lv_at hl 3 rfl) ?_
              refine lv_iload hx hb dX8_greyest_20 (lv_at hl 0 rfl) ?_
              refine lv_iload_n hx hb dX8_greyest_22 rfl (lv_at hl 2 rfl) ?_
              refine z_ai0 (va_runV (As := [.int (iI x4), .int (iI x2)]) (rest := [.int (iI x3)]) ⟨hx, hb, hml, hown, hts⟩ (c_X8_isGreyer l D k a0 S0  x4 x2 hB hT hC (by omega) (by omega) _) (cwV 2 hts gX8_greyest_X8_isGreyer rfl rfl rfl (by decide +kernel) ⟨(Nat.le_of_ble_eq_true rfl), (Nat.le_of_ble_eq_true rfl)⟩) (z_preV hK hG hA hP hD hS [0, 1, 2, 3, 4, 5, 6, 7] rfl (by decide) 10 rfl rfl) rfl rfl hl.1 rfl (lv_room (Nat.le_of_ble_eq_true rfl)) dX8_greyest_23 ⟨(Nat.le_of_ble_eq_true rfl), (Nat.le_of_ble_eq_true rfl)⟩) hA hP hD hS [0, 1, 2, 3, 4, 5, 6, 7] rfl (fun H locs hP hS => ?_)
              refine zi_if_eqB (tgt := 33) hx hb dX8_greyest_26 (by decide) (fun c_5 => ?_) (fun c_5 => ?_)
              · refine lv_iconst (v := iI 0) hx hb dX8_greyest_33 rfl ?_
                refine zi_add hx hb dX8_greyest_34 ?_
                refine lv_istore_n (lv' := [(3, .int (iI (x3 + 0))), (4, .int (iI x4)), (2, .int (iI x2)), (0, .ref (a0 0)), (1, .int (iI p0))]) hx hb dX8_greyest_35 rfl hl (by decide) rfl (fun ls hl => ?_)
                refine lv_iinc (v := iI (x4 + 1)) (lv' := [(4, .int (iI (x4 + 1))), (3, .int (iI (x3 + 0))), (2, .int (iI x2)), (0, .ref (a0 0)), (1, .int (iI p0))]) hx hb dX8_greyest_36 hl (k := 1) rfl (iI_add _ _) (by decide) rfl (fun ls hl => ?_)
                refine lv_goto (tgt := 12) hx hb dX8_greyest_39 (by decide) ?_
                exact ih12 (x3 + 0) (x4 + 1) (by omega) (by omega) (by omega) (by omega) (by rw [jF]; first | exact sumI_e j0 (zif_pos (by assumption)).symm | exact sumI_e j0 (zif_neg (by assumption)).symm)  H locs ls hP hD hS (lv_sub hl [0, 1, 2, 3, 4] rfl)
              · refine lv_iconst (v := iI 1) hx hb dX8_greyest_29 rfl ?_
                refine lv_goto (tgt := 34) hx hb dX8_greyest_30 (by decide) ?_
                refine zi_add hx hb dX8_greyest_34 ?_
                refine lv_istore_n (lv' := [(3, .int (iI (x3 + 1))), (4, .int (iI x4)), (2, .int (iI x2)), (0, .ref (a0 0)), (1, .int (iI p0))]) hx hb dX8_greyest_35 rfl hl (by decide) rfl (fun ls hl => ?_)
                refine lv_iinc (v := iI (x4 + 1)) (lv' := [(4, .int (iI (x4 + 1))), (3, .int (iI (x3 + 1))), (2, .int (iI x2)), (0, .ref (a0 0)), (1, .int (iI p0))]) hx hb dX8_greyest_36 hl (k := 1) rfl (iI_add _ _) (by decide) rfl (fun ls hl => ?_)
                refine lv_goto (tgt := 12) hx hb dX8_greyest_39 (by decide) ?_
                exact ih12 (x3 + 1) (x4 + 1) (by omega) (by omega) (by omega) (by omega) (by rw [jF]; first | exact sumI_e j0 (zif_pos (by assumption)).symm | exact sumI_e j0 (zif_neg (by assumption)).symm)  H locs ls hP hD hS (lv_sub hl [0, 1, 2, 3, 4] rfl)
        exact lp12_0 4 0 0 (by omega) (by omega) (by omega) (by omega) rfl  H locs ls hP hD hS (lv_sub hl [0, 1, 2, 3, 4] rfl)
  exact lp2_0 4 0 (by omega) (by omega) (by omega) rfl rfl H locs ls hP hD hS (lv_sub hl [0, 1, 2] rfl)
