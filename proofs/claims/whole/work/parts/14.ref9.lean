set_option maxHeartbeats 4000000 in
set_option maxRecDepth 100000 in
theorem c_X8_errorPosition (l : Launch) (D : va_G) (k : Nat → ClassId) (a0 : Nat → Nat) (S0 : Nat → Nat → Int) (hB0 : zBf (S0 0)) : zMi l yX8_errorPosition wsX8_errorPosition ({ frames := 0, cells := 0, slots := 0, locals := 0 } : Room) D k [.ref (a0 0)] (wRef k a0 S0) (S0 0 13) (wRef k a0 (up2 S0 0 8 0)) 0 0 := by
  refine zMi_of (cc := cX8_errorPosition) (maxL := 1) (ret := (some .int)) (by decide) rfl (Nat.le_of_ble_eq_true rfl) ?_
  intro p e s m args below meth c A ls hx hb hr hml hown hts hlocks hK hP hD hG hA hS hl
  have hown : s.vm.findClass RX8 = some m.cls := hown
  have hl : lv_has ls 1 [(0, .ref (a0 0))] := hl
  obtain ⟨H, hH⟩ : ∃ z, z = s.heap := ⟨_, rfl⟩
  obtain ⟨locs, hlc⟩ : ∃ z : List Loc, z = [] := ⟨_, rfl⟩
  rw [← hH] at hP
  have hS : va_S A s.heap H locs := by rw [hH, hlc]; exact hS
  rw [← hlc, ← hH]
  clear hlc hH
  refine lv_aload_n hx hb dX8_errorPosition_0 rfl (lv_at hl 0 rfl) ?_
  refine lv_iconst (v := iI 0) hx hb dX8_errorPosition_1 rfl ?_
  refine va_put (D := D) (ci := 10) (v := .int (iI 0)) (ty := .int) (C := RX8) (T := TX8) (N := 19) hx hb hts (fun w h => List.mem_cons_of_mem _ (List.mem_append_right _ h)) tyX8 tyX8_ok nmX8 hown hK hP hD hS 0 rfl rfl 8 (by decide) (hts (.fieldLink RX8 40 "MondayFactoryModel" "code" "I") (List.mem_of_getElem? (i := 1) rfl)) (fun _ h9 => h9) rfl (by decide +kernel) rfl rfl (Nat.le_of_ble_eq_true rfl) dX8_errorPosition_2 (fun H locs hP hD hS => ?_)
  have hP : va_P D vwCl (wRef k a0 (up2 S0 0 8 0)) H := hP
  have hD : va_D A (wRef k a0 (up2 S0 0 8 0)) := hD
  refine lv_aload_n hx hb dX8_errorPosition_5 rfl (lv_at hl 0 rfl) ?_
  have f_1 := hB0 13
  refine va_get (D := D) (ci := 10) (v := .int (iI (S0 0 13))) (C := RX8) (T := TX8) (N := 19) hx hb hts (fun w h => List.mem_cons_of_mem _ (List.mem_append_right _ h)) hown hK hP 0 rfl rfl 13 (by decide) (hts (.fieldLink RX8 25 "MondayFactoryModel" "error" "I") (List.mem_of_getElem? (i := 2) rfl)) (fun _ h9 => h9) rfl dX8_errorPosition_6 ?_
  exact z_iret hx hb hr hlocks hP hS dX8_errorPosition_9 rfl rfl (Nat.le_refl _) (Nat.le_refl _)
noncomputable def sp_X8_refusal (S0 : Nat → Nat → Int) (p0 : Int) : Int := zif ((S0 0 9) = 0)
  (0)
  (zif (p0 = 0)
    (S0 0 9)
    (S0 0 10))
noncomputable def sS0_0_X8_refusal (S0 : Nat → Nat → Int) (p0 : Int) : (Nat → Int) := zif ((S0 0 9) = 0)
  (upZ (upZ (S0 0) 8 1) 7 0)
  (zif (p0 = 0)
    (upZ (upZ (S0 0) 8 0) 7 0)
    (upZ (upZ (S0 0) 8 0) 7 0))
set_option maxHeartbeats 4000000 in
set_option maxRecDepth 100000 in
theorem c_X8_refusal (l : Launch) (D : va_G) (k : Nat → ClassId) (a0 : Nat → Nat) (S0 : Nat → Nat → Int) (p0 : Int) (hB0 : zBf (S0 0)) (h0 : -2147483648 ≤ p0 ∧ p0 < 2147483648) : zMi l yX8_refusal wsX8_refusal ({ frames := 1, cells := 0, slots := 0, locals := 21 } : Room) D k [.ref (a0 0), .int (iI p0)] (wRef k a0 S0) (sp_X8_refusal S0 p0) (wRef k a0 (upA S0 0 (sS0_0_X8_refusal S0 p0))) 0 0 := by
  refine zMi_of (cc := cX8_refusal) (maxL := 2) (ret := (some .int)) (by decide) rfl (Nat.le_of_ble_eq_true rfl) ?_
  intro p e s m args below meth c A ls hx hb hr hml hown hts hlocks hK hP hD hG hA hS hl
  have hown : s.vm.findClass RX8 = some m.cls := hown
  have hl : lv_has ls 2 [(0, .ref (a0 0)), (1, .int (iI p0))] := hl
  obtain ⟨H, hH⟩ : ∃ z, z = s.heap := ⟨_, rfl⟩
  obtain ⟨locs, hlc⟩ : ∃ z : List Loc, z = [] := ⟨_, rfl⟩
  rw [← hH] at hP
  have hS : va_S A s.heap H locs := by rw [hH, hlc]; exact hS
  rw [← hlc, ← hH]
  clear hlc hH
  refine lv_aload_n hx hb dX8_refusal_0 rfl (lv_at hl 0 rfl) ?_
  refine lv_aload_n hx hb dX8_refusal_1 rfl (lv_at hl 0 rfl) ?_
  have f_1 := hB0 9
  refine va_get (D := D) (ci := 10) (v := .int (iI (S0 0 9))) (C := RX8) (T := TX8) (N := 19) hx hb hts (fun w h => List.mem_cons_of_mem _ (List.mem_append_right _ h)) hown hK hP 0 rfl rfl 9 (by decide) (hts (.fieldLink RX8 47 "MondayFactoryModel" "why" "I") (List.mem_of_getElem? (i := 1) rfl)) (fun _ h9 => h9) rfl dX8_refusal_2 ?_
  refine zi_if_ne (tgt := 12) hx hb dX8_refusal_5 (by decide) ⟨by omega, by omega⟩ (fun c_2 => ?_) (fun c_2 => ?_)
  · refine lv_iconst (v := iI 0) hx hb dX8_refusal_12 rfl ?_
    refine z_ai (va_runV (As := [.int (iI 0)]) (rest := []) ⟨hx, hb, hml, hown, hts⟩ (c_X8_fails l D k a0 S0  0 (by omega) _) (cwV 1 hts gX8_refusal_X8_fails rfl rfl rfl (by decide +kernel) ⟨(Nat.le_of_ble_eq_true rfl), (Nat.le_of_ble_eq_true rfl)⟩) (z_preV hK hG hA hP hD hS [0, 1, 2, 3, 4, 5, 6, 7] rfl (by decide) 10 rfl rfl) rfl rfl hl.1 rfl (lv_room (Nat.le_of_ble_eq_true rfl)) dX8_refusal_13 ⟨(Nat.le_of_ble_eq_true rfl), (Nat.le_of_ble_eq_true rfl)⟩) hA hP hD hS [0, 1, 2, 3, 4, 5, 6, 7] rfl rfl (fun H locs hP hD hS => ?_)
    have hP : va_P D vwCl (wRef k a0 (upA S0 0 (upZ (upZ (S0 0) 8 0) 7 0))) H := hP
    have hD : va_D A (wRef k a0 (upA S0 0 (upZ (upZ (S0 0) 8 0) 7 0))) := hD
    refine zi_if_eqB (tgt := 23) hx hb dX8_refusal_16 (by decide) (fun _ => ?_) (fun c_3 => absurd c_3 (by decide))
    refine lv_iload_n hx hb dX8_refusal_23 rfl (lv_at hl 1 rfl) ?_
    refine zi_if_eq (tgt := 34) hx hb dX8_refusal_24 (by decide) ⟨by omega, by omega⟩ (fun c_4 => ?_) (fun c_4 => ?_)
    · refine lv_aload_n hx hb dX8_refusal_34 rfl (lv_at hl 0 rfl) ?_
      refine va_get (D := D) (ci := 10) (v := .int (iI (S0 0 9))) (C := RX8) (T := TX8) (N := 19) hx hb hts (fun w h => List.mem_cons_of_mem _ (List.mem_append_right _ h)) hown hK hP 0 rfl rfl 9 (by decide) (hts (.fieldLink RX8 47 "MondayFactoryModel" "why" "I") (List.mem_of_getElem? (i := 1) rfl)) (fun _ h9 => h9) rfl dX8_refusal_35 ?_
      exact z_iret hx hb hr hlocks hP hS dX8_refusal_38 (Eq.trans (zif_neg c_2) (Eq.trans (zif_pos c_4) rfl)) (congrArg (fun z => wRef k a0 (upA S0 0 z)) (show sS0_0_X8_refusal S0 p0 = upZ (upZ (S0 0) 8 0) 7 0 from (Eq.trans (zif_neg c_2) (Eq.trans (zif_pos c_4) rfl)))) (Nat.le_refl _) (Nat.le_refl _)
    · refine lv_aload_n hx hb dX8_refusal_27 rfl (lv_at hl 0 rfl) ?_
      have f_5 := hB0 10
      refine va_get (D := D) (ci := 10) (v := .int (iI (S0 0 10))) (C := RX8) (T := TX8) (N := 19) hx hb hts (fun w h => List.mem_cons_of_mem _ (List.mem_append_right _ h)) hown hK hP 0 rfl rfl 10 (by decide) (hts (.fieldLink RX8 50 "MondayFactoryModel" "detail" "I") (List.mem_of_getElem? (i := 2) rfl)) (fun _ h9 => h9) rfl dX8_refusal_28 ?_
      refine lv_goto (tgt := 38) hx hb dX8_refusal_31 (by decide) ?_
      exact z_iret hx hb hr hlocks hP hS dX8_refusal_38 (Eq.trans (zif_neg c_2) (Eq.trans (zif_neg c_4) rfl)) (congrArg (fun z => wRef k a0 (upA S0 0 z)) (show sS0_0_X8_refusal S0 p0 = upZ (upZ (S0 0) 8 0) 7 0 from (Eq.trans (zif_neg c_2) (Eq.trans (zif_neg c_4) rfl)))) (Nat.le_refl _) (Nat.le_refl _)
  · refine lv_iconst (v := iI 1) hx hb dX8_refusal_8 rfl ?_
    refine lv_goto (tgt := 13) hx hb dX8_refusal_9 (by decide) ?_
    refine z_ai (va_runV (As := [.int (iI 1)]) (rest := []) ⟨hx, hb, hml, hown, hts⟩ (c_X8_fails l D k a0 S0  1 (by omega) _) (cwV 1 hts gX8_refusal_X8_fails rfl rfl rfl (by decide +kernel) ⟨(Nat.le_of_ble_eq_true rfl), (Nat.le_of_ble_eq_true rfl)⟩) (z_preV hK hG hA hP hD hS [0, 1, 2, 3, 4, 5, 6, 7] rfl (by decide) 10 rfl rfl) rfl rfl hl.1 rfl (lv_room (Nat.le_of_ble_eq_true rfl)) dX8_refusal_13 ⟨(Nat.le_of_ble_eq_true rfl), (Nat.le_of_ble_eq_true rfl)⟩) hA hP hD hS [0, 1, 2, 3, 4, 5, 6, 7] rfl rfl (fun H locs hP hD hS => ?_)
    have hP : va_P D vwCl (wRef k a0 (upA S0 0 (upZ (upZ (S0 0) 8 1) 7 0))) H := hP
    have hD : va_D A (wRef k a0 (upA S0 0 (upZ (upZ (S0 0) 8 1) 7 0))) := hD
    refine zi_if_eqB (tgt := 23) hx hb dX8_refusal_16 (by decide) (fun c_6 => absurd c_6 (by decide)) (fun _ => ?_)
    refine lv_iconst (v := iI 0) hx hb dX8_refusal_19 rfl ?_
    refine lv_goto (tgt := 38) hx hb dX8_refusal_20 (by decide) ?_
    exact z_iret hx hb hr hlocks hP hS dX8_refusal_38 (Eq.trans (zif_pos c_2) rfl) (congrArg (fun z => wRef k a0 (upA S0 0 z)) (show sS0_0_X8_refusal S0 p0 = upZ (upZ (S0 0) 8 1) 7 0 from (Eq.trans (zif_pos c_2) rfl))) (Nat.le_refl _) (Nat.le_refl _)
set_option maxHeartbeats 4000000 in
set_option maxRecDepth 100000 in
theorem c_X8_summed (l : Launch) (D : va_G) (k : Nat → ClassId) (a0 : Nat → Nat) (S0 : Nat → Nat → Int) (p0 : Int) (hB : zBf (S0 1)) (hT : zBt (S0 1)) (hC : ∀ b : Int, 0 ≤ b → b ≤ 2 → 0 ≤ S0 1 (15 + 26 * b + 0).toNat ∧ S0 1 (15 + 26 * b + 0).toNat ≤ 5) (h0 : -2147483648 ≤ p0 ∧ p0 < 2147483648) : zMi l yX8_summed wsX8_summed ({ frames := 4, cells := 0, slots := 0, locals := 90 } : Room) D k [.ref (a0 0), .int (iI p0)] (wRef k a0 S0) (rSummed (S0 1) p0) (wRef k a0 S0) 0 0 := by
  refine zMi_of (cc := cX8_summed) (maxL := 4) (ret := (some .int)) (by decide) rfl (Nat.le_of_ble_eq_true rfl) ?_
  intro p e s m args below meth c A ls hx hb hr hml hown hts hlocks hK hP hD hG hA hS hl
  have hown : s.vm.findClass RX8 = some m.cls := hown
  have hl : lv_has ls 4 [(0, .ref (a0 0)), (1, .int (iI p0))] := hl
  obtain ⟨H, hH⟩ : ∃ z, z = s.heap := ⟨_, rfl⟩
  obtain ⟨locs, hlc⟩ : ∃ z : List Loc, z = [] := ⟨_, rfl⟩
  rw [← hH] at hP
  have hS : va_S A s.heap H locs := by rw [hH, hlc]; exact hS
  rw [← hlc, ← hH]
  clear hlc hH
  refine lv_iconst (v := iI 0) hx hb dX8_summed_0 rfl ?_
  refine lv_istore_n (lv' := [(2, .int (iI 0)), (0, .ref (a0 0)), (1, .int (iI p0))]) hx hb dX8_summed_1 rfl hl (by decide) rfl (fun ls hl => ?_)
  refine lv_iconst (v := iI 0) hx hb dX8_summed_2 rfl ?_
  refine lv_istore_n (lv' := [(3, .int (iI 0)), (2, .int (iI 0)), (0, .ref (a0 0)), (1, .int (iI p0))]) hx hb dX8_summed_3 rfl hl (by decide) rfl (fun ls hl => ?_)
  have lp4_0 : ∀ (n : Nat) (x2 : Int) (x3 : Int), (3 - x3).toNat < n → (0 ≤ x3) → (x3 ≤ 3) → (x2 = sumI (fun b => rSumT (S0 1) p0 b) x3) → ∀ (H : Heap) (locs : List Loc) (ls : Array Slot), va_P D vwCl (wRef k a0 S0) H → va_D A (wRef k a0 S0) → va_S A s.heap H locs → lv_has ls 4 [(3, .int (iI x3)), (2, .int (iI x2)), (0, .ref (a0 0)), (1, .int (iI p0))] → W p l e ({ frames := 4, cells := 0, slots := 0, locals := 90 } : Room) s m args below meth c H locs 0 0 (MQ below (zQi D A (rSummed (S0 1) p0) (wRef k a0 S0)) args s 0 0 A) (F0 m 4 ls []) := by
    intro n4
    induction n4 with
    | zero => intro x2 x3 hm; exact absurd hm (Nat.not_lt_zero _)
    | succ n4 ih4 =>
      intro x2 x3 hm4 i0 i1 iF  H locs ls hP hD hS hl
      refine lv_iload_n hx hb dX8_summed_4 rfl (lv_at hl 0 rfl) ?_
      refine lv_iconst (v := iI 3) hx hb dX8_summed_5 rfl ?_
      refine zi_icmp_ge (tgt := 63) hx hb dX8_summed_6 (by decide) ⟨by omega, by omega⟩ ⟨by omega, by omega⟩ (fun c_1 => ?_) (fun c_1 => ?_)
      · have v_2 : x2 = rSummed (S0 1) p0 := (by rw [iF, show x3 = 3 by omega]; rfl)
        rw [v_2] at hl
        refine lv_iload_n hx hb dX8_summed_63 rfl (lv_at hl 1 rfl) ?_
        exact z_iret hx hb hr hlocks hP hS dX8_summed_64 rfl rfl (Nat.le_refl _) (Nat.le_refl _)
      · have qc := hC x3 (by omega) (by omega)
        refine lv_iload_n hx hb dX8_summed_9 rfl (lv_at hl 1 rfl) ?_
        refine lv_iload_n hx hb dX8_summed_10 rfl (lv_at hl 3 rfl) ?_
        refine zi_if_ne (tgt := 23) hx hb dX8_summed_11 (by decide) ⟨by omega, by omega⟩ (fun c_3 => ?_) (fun c_3 => ?_)
        · refine lv_iload_n hx hb dX8_summed_23 rfl (lv_at hl 3 rfl) ?_
          refine lv_iconst (v := iI 1) hx hb dX8_summed_24 rfl ?_
          refine zi_icmp_ne (tgt := 36) hx hb dX8_summed_25 (by decide) ⟨by omega, by omega⟩ ⟨by omega, by omega⟩ (fun c_4 => ?_) (fun c_4 => ?_)
          · refine lv_iload_n hx hb dX8_summed_36 rfl (lv_at hl 3 rfl) ?_
            refine lv_iconst (v := iI 2) hx hb dX8_summed_37 rfl ?_
            refine zi_icmp_ne (tgt := 49) hx hb dX8_summed_38 (by decide) ⟨by omega, by omega⟩ ⟨by omega, by omega⟩ (fun c_5 => ?_) (fun c_5 => ?_)
            · refine lv_aload_n hx hb dX8_summed_49 rfl (lv_at hl 2 rfl) ?_
              refine lv_iload_n hx hb dX8_summed_50 rfl (lv_at hl 0 rfl) ?_
              refine lv_iconst (v := iI 4) hx hb dX8_summed_51 rfl ?_
              refine z_ai0 (va_runV (As := [.int (iI x3), .int (iI 4)]) (rest := [.int (iI x2)]) ⟨hx, hb, hml, hown, hts⟩ (c_X8_of l D k a0 S0  x3 4 (by omega) (by omega) _) (cwV 2 hts gX8_summed_X8_of rfl rfl rfl (by decide +kernel) ⟨(Nat.le_of_ble_eq_true rfl), (Nat.le_of_ble_eq_true rfl)⟩) (z_preV hK hG hA hP hD hS [0, 1, 2, 3, 4, 5, 6, 7] rfl (by decide) 10 rfl rfl) rfl rfl hl.1 rfl (lv_room (Nat.le_of_ble_eq_true rfl)) dX8_summed_52 ⟨(Nat.le_of_ble_eq_true rfl), (Nat.le_of_ble_eq_true rfl)⟩) hA hP hD hS [0, 1, 2, 3, 4, 5, 6, 7] rfl (fun H locs hP hS => ?_)
              have f_6 := hB (((15 + (26 * x3)) + 4).toNat)
              refine zi_add hx hb dX8_summed_55 ?_
              refine lv_istore_n (lv' := [(2, .int (iI (x2 + (S0 1 (((15 + (26 * x3)) + 4).toNat))))), (3, .int (iI x3)), (0, .ref (a0 0)), (1, .int (iI p0))]) hx hb dX8_summed_56 rfl hl (by decide) rfl (fun ls hl => ?_)
              refine lv_iinc (v := iI (x3 + 1)) (lv' := [(3, .int (iI (x3 + 1))), (2, .int (iI (x2 + (S0 1 (((15 + (26 * x3)) + 4).toNat))))), (0, .ref (a0 0)), (1, .int (iI p0))]) hx hb dX8_summed_57 hl (k := 1) rfl (iI_add _ _) (by decide) rfl (fun ls hl => ?_)
              refine lv_goto (tgt := 4) hx hb dX8_summed_60 (by decide) ?_
              exact ih4 (x2 + (S0 1 (((15 + (26 * x3)) + 4).toNat))) (x3 + 1) (by omega) (by omega) (by omega) (by rw [iF]; refine sumI_e i0 ?_; unfold rSumT; first | exact (zif_pos (by assumption)).symm | (rw [zif_neg (by assumption)]; first | exact (zif_pos (by assumption)).symm | (rw [zif_neg (by assumption)]; first | exact (zif_pos (by assumption)).symm | exact (zif_neg (by assumption)).symm)))  H locs ls hP hD hS (lv_sub hl [0, 1, 2, 3] rfl)
            · refine lv_aload_n hx hb dX8_summed_41 rfl (lv_at hl 2 rfl) ?_
              refine lv_iload_n hx hb dX8_summed_42 rfl (lv_at hl 0 rfl) ?_
              refine z_ai0 (va_runV (As := [.int (iI x3)]) (rest := [.int (iI x2)]) ⟨hx, hb, hml, hown, hts⟩ (c_X8_greys l D k a0 S0  x3 hB (by omega) (by omega) _) (cwV 1 hts gX8_summed_X8_greys rfl rfl rfl (by decide +kernel) ⟨(Nat.le_of_ble_eq_true rfl), (Nat.le_of_ble_eq_true rfl)⟩) (z_preV hK hG hA hP hD hS [0, 1, 2, 3, 4, 5, 6, 7] rfl (by decide) 10 rfl rfl) rfl rfl hl.1 rfl (lv_room (Nat.le_of_ble_eq_true rfl)) dX8_summed_43 ⟨(Nat.le_of_ble_eq_true rfl), (Nat.le_of_ble_eq_true rfl)⟩) hA hP hD hS [0, 1, 2, 3, 4, 5, 6, 7] rfl (fun H locs hP hS => ?_)
              refine lv_goto (tgt := 55) hx hb dX8_summed_46 (by decide) ?_
              refine zi_add hx hb dX8_summed_55 ?_
              refine lv_istore_n (lv' := [(2, .int (iI (x2 + (rGreys (S0 1) x3)))), (3, .int (iI x3)), (0, .ref (a0 0)), (1, .int (iI p0))]) hx hb dX8_summed_56 rfl hl (by decide) rfl (fun ls hl => ?_)
              refine lv_iinc (v := iI (x3 + 1)) (lv' := [(3, .int (iI (x3 + 1))), (2, .int (iI (x2 + (rGreys (S0 1) x3)))), (0, .ref (a0 0)), (1, .int (iI p0))]) hx hb dX8_summed_57 hl (k := 1) rfl (iI_add _ _) (by decide) rfl (fun ls hl => ?_)
              refine lv_goto (tgt := 4) hx hb dX8_summed_60 (by decide) ?_
              exact ih4 (x2 + (rGreys (S0 1) x3)) (x3 + 1) (by omega) (by omega) (by omega) (by rw [iF]; refine sumI_e i0 ?_; unfold rSumT; first | exact (zif_pos (by assumption)).symm | (rw [zif_neg (by assumption)]; first | exact (zif_pos (by assumption)).symm | (rw [zif_neg (by assumption)]; first | exact (zif_pos (by assumption)).symm | exact (zif_neg (by assumption)).symm)))  H locs ls hP hD hS (lv_sub hl [0, 1, 2, 3] rfl)
          · refine lv_aload_n hx hb dX8_summed_28 rfl (lv_at hl 2 rfl) ?_
            refine lv_iload_n hx hb dX8_summed_29 rfl (lv_at hl 0 rfl) ?_
            refine z_ai0 (va_runV (As := [.int (iI x3)]) (rest := [.int (iI x2)]) ⟨hx, hb, hml, hown, hts⟩ (c_X8_blanks l D k a0 S0  x3 hB (by omega) (by omega) _) (cwV 1 hts gX8_summed_X8_blanks rfl rfl rfl (by decide +kernel) ⟨(Nat.le_of_ble_eq_true rfl), (Nat.le_of_ble_eq_true rfl)⟩) (z_preV hK hG hA hP hD hS [0, 1, 2, 3, 4, 5, 6, 7] rfl (by decide) 10 rfl rfl) rfl rfl hl.1 rfl (lv_room (Nat.le_of_ble_eq_true rfl)) dX8_summed_30 ⟨(Nat.le_of_ble_eq_true rfl), (Nat.le_of_ble_eq_true rfl)⟩) hA hP hD hS [0, 1, 2, 3, 4, 5, 6, 7] rfl (fun H locs hP hS => ?_)
            refine lv_goto (tgt := 55) hx hb dX8_summed_33 (by decide) ?_
            refine zi_add hx hb dX8_summed_55 ?_
            refine lv_istore_n (lv' := [(2, .int (iI (x2 + (rBlanks (S0 1) x3)))), (3, .int (iI x3)), (0, .ref (a0 0)), (1, .int (iI p0))]) hx hb dX8_summed_56 rfl hl (by decide) rfl (fun ls hl => ?_)
            refine lv_iinc (v := iI (x3 + 1)) (lv' := [(3, .int (iI (x3 + 1))), (2, .int (iI (x2 + (rBlanks (S0 1) x3)))), (0, .ref (a0 0)), (1, .int (iI p0))]) hx hb dX8_summed_57 hl (k := 1) rfl (iI_add _ _) (by decide) rfl (fun ls hl => ?_)
            refine lv_goto (tgt := 4) hx hb dX8_summed_60 (by decide) ?_
            exact ih4 (x2 + (rBlanks (S0 1) x3)) (x3 + 1) (by omega) (by omega) (by omega) (by rw [iF]; refine sumI_e i0 ?_; unfold rSumT; first | exact (zif_pos (by assumption)).symm | (rw [zif_neg (by assumption)]; first | exact (zif_pos (by assumption)).symm | (rw [zif_neg (by assumption)]; first | exact (zif_pos (by assumption)).symm | exact (zif_neg (by assumption)).symm)))  H locs ls hP hD hS (lv_sub hl [0, 1, 2, 3] rfl)
        · refine lv_aload_n hx hb dX8_summed_14 rfl (lv_at hl 2 rfl) ?_
          refine lv_iload_n hx hb dX8_summed_15 rfl (lv_at hl 0 rfl) ?_
          refine lv_iconst (v := iI 0) hx hb dX8_summed_16 rfl ?_
          refine z_ai0 (va_runV (As := [.int (iI x3), .int (iI 0)]) (rest := [.int (iI x2)]) ⟨hx, hb, hml, hown, hts⟩ (c_X8_of l D k a0 S0  x3 0 (by omega) (by omega) _) (cwV 2 hts gX8_summed_X8_of rfl rfl rfl (by decide +kernel) ⟨(Nat.le_of_ble_eq_true rfl), (Nat.le_of_ble_eq_true rfl)⟩) (z_preV hK hG hA hP hD hS [0, 1, 2, 3, 4, 5, 6, 7] rfl (by decide) 10 rfl rfl) rfl rfl hl.1 rfl (lv_room (Nat.le_of_ble_eq_true rfl)) dX8_summed_17 ⟨(Nat.le_of_ble_eq_true rfl), (Nat.le_of_ble_eq_true rfl)⟩) hA hP hD hS [0, 1, 2, 3, 4, 5, 6, 7] rfl (fun H locs hP hS => ?_)
          have f_7 := hB (((15 + (26 * x3)) + 0).toNat)
          refine lv_goto (tgt := 55) hx hb dX8_summed_20 (by decide) ?_
          refine zi_add hx hb dX8_summed_55 ?_
          refine lv_istore_n (lv' := [(2, .int (iI (x2 + (S0 1 (((15 + (26 * x3)) + 0).toNat))))), (3, .int (iI x3)), (0, .ref (a0 0)), (1, .int (iI p0))]) hx hb dX8_summed_56 rfl hl (by decide) rfl (fun ls hl => ?_)
          refine lv_iinc (v := iI (x3 + 1)) (lv' := [(3, .int (iI (x3 + 1))), (2, .int (iI (x2 + (S0 1 (((15 + (26 * x3)) + 0).toNat))))), (0, .ref (a0 0)), (1, .int (iI p0))]) hx hb dX8_summed_57 hl (k := 1) rfl (iI_add _ _) (by decide) rfl (fun ls hl => ?_)
          refine lv_goto (tgt := 4) hx hb dX8_summed_60 (by decide) ?_
          exact ih4 (x2 + (S0 1 (((15 + (26 * x3)) + 0).toNat))) (x3 + 1) (by omega) (by omega) (by omega) (by rw [iF]; refine sumI_e i0 ?_; unfold rSumT; first | exact (zif_pos (by assumption)).symm | (rw [zif_neg (by assumption)]; first | exact (zif_pos (by assumption)).symm | (rw [zif_neg (by assumption)]; first | exact (zif_pos (by assumption)).symm | exact (zif_neg (by assumption)).symm)))  H locs ls hP hD hS (lv_sub hl [0, 1, 2, 3] rfl)
  exact lp4_0 4 0 0 (by omega) (by omega) (by omega) rfl  H locs ls hP hD hS (lv_sub hl [0, 1, 2, 3] rfl)
noncomputable def sp_X8_account (S0 : Nat → Nat → Int) (p0 : Int) : Int := zif (0 ≤ p0 ∧ p0 ≤ 14)
  (zif (p0 = 0)
    (rSummed (S0 1) p0)
    (zif (p0 = 1)
      (rSummed (S0 1) p0)
      (zif (p0 = 2)
        (S0 1 10)
        (zif (p0 = 3)
          (S0 1 9)
          (zif (p0 = 4)
            (S0 1 0)
            (zif (p0 = 13)
              (S0 0 12)
              (zif (p0 = 14)
                (S0 0 5)
                (S0 1 ((p0 - 4).toNat)))))))))
  (0)
noncomputable def sS0_0_X8_account (S0 : Nat → Nat → Int) (p0 : Int) : (Nat → Int) := zif (0 ≤ p0 ∧ p0 ≤ 14)
  (zif (p0 = 0)
    (upZ (upZ (S0 0) 8 0) 7 0)
    (zif (p0 = 1)
      (upZ (upZ (S0 0) 8 0) 7 0)
      (zif (p0 = 2)
        (upZ (upZ (S0 0) 8 0) 7 0)
        (zif (p0 = 3)
          (upZ (upZ (S0 0) 8 0) 7 0)
          (zif (p0 = 4)
            (upZ (upZ (S0 0) 8 0) 7 0)
            (zif (p0 = 13)
              (upZ (upZ (S0 0) 8 0) 7 0)
              (zif (p0 = 14)
                (upZ (upZ (S0 0) 8 0) 7 0)
                (upZ (upZ (S0 0) 8 0) 7 0))))))))
  (upZ (upZ (S0 0) 8 1) 7 0)
set_option maxHeartbeats 4000000 in
set_option maxRecDepth 100000 in
theorem c_X8_account (l : Launch) (D : va_G) (k : Nat → ClassId) (a0 : Nat → Nat) (S0 : Nat → Nat → Int) (p0 : Int) (hB0 : zBf (S0 0)) (hB : zBf (S0 1)) (hT : zBt (S0 1)) (hC : ∀ b : Int, 0 ≤ b → b ≤ 2 → 0 ≤ S0 1 (15 + 26 * b + 0).toNat ∧ S0 1 (15 + 26 * b + 0).toNat ≤ 5) (h0 : -2147483648 ≤ p0 ∧ p0 < 2147483648) : zMi l yX8_account wsX8_account ({ frames := 5, cells := 0, slots := 0, locals := 113 } : Room) D k [.ref (a0 0), .int (iI p0)] (wRef k a0 S0) (sp_X8_account S0 p0) (wRef k a0 (upA S0 0 (sS0_0_X8_account S0 p0))) 0 0 := by
  refine zMi_of (cc := cX8_account) (maxL := 2) (ret := (some .int)) (by decide) rfl (Nat.le_of_ble_eq_true rfl) ?_
  intro p e s m args below meth c A ls hx hb hr hml hown hts hlocks hK hP hD hG hA hS hl
  have hown : s.vm.findClass RX8 = some m.cls := hown
  have hl : lv_has ls 2 [(0, .ref (a0 0)), (1, .int (iI p0))] := hl
  obtain ⟨H, hH⟩ : ∃ z, z = s.heap := ⟨_, rfl⟩
  obtain ⟨locs, hlc⟩ : ∃ z : List Loc, z = [] := ⟨_, rfl⟩
  rw [← hH] at hP
  have hS : va_S A s.heap H locs := by rw [hH, hlc]; exact hS
  rw [← hlc, ← hH]
  clear hlc hH
  refine lv_aload_n hx hb dX8_account_0 rfl (lv_at hl 0 rfl) ?_
  refine lv_iload_n hx hb dX8_account_1 rfl (lv_at hl 1 rfl) ?_
  refine lv_iconst (v := iI 0) hx hb dX8_account_2 rfl ?_
  refine lv_bipush (v := iI 14) hx hb dX8_account_3 (by decide) ?_
  refine z_ai0 (va_runS (As := [.int (iI p0), .int (iI 0), .int (iI 14)]) (rest := [.ref (a0 0)]) ⟨hx, hb, hml, hown, hts⟩ (c_X8_in l D k   p0 0 14 (by omega) (by omega) (by omega) _) (va_cwS 3 hts gX8_account_X8_in rfl rfl rfl (by decide +kernel) ⟨(Nat.le_of_ble_eq_true rfl), (Nat.le_of_ble_eq_true rfl)⟩) (z_preS hK hG hA hP hD hS [] rfl (by decide)) rfl rfl hl.1 rfl (lv_room (Nat.le_of_ble_eq_true rfl)) dX8_account_5 ⟨(Nat.le_of_ble_eq_true rfl), (Nat.le_of_ble_eq_true rfl)⟩) hA hP hD hS [] rfl (fun H locs hP hS => ?_)
  refine zi_if_eqB (tgt := 15) hx hb dX8_account_8 (by decide) (fun c_1 => ?_) (fun c_1 => ?_)
  · refine lv_iconst (v := iI 1) hx hb dX8_account_15 rfl ?_
    refine z_ai (va_runV (As := [.int (iI 1)]) (rest := []) ⟨hx, hb, hml, hown, hts⟩ (c_X8_fails l D k a0 S0  1 (by omega) _) (cwV 1 hts gX8_account_X8_fails rfl rfl rfl (by decide +kernel) ⟨(Nat.le_of_ble_eq_true rfl), (Nat.le_of_ble_eq_true rfl)⟩) (z_preV hK hG hA hP hD hS [0, 1, 2, 3, 4, 5, 6, 7] rfl (by decide) 10 rfl rfl) rfl rfl hl.1 rfl (lv_room (Nat.le_of_ble_eq_true rfl)) dX8_account_16 ⟨(Nat.le_of_ble_eq_true rfl), (Nat.le_of_ble_eq_true rfl)⟩) hA hP hD hS [0, 1, 2, 3, 4, 5, 6, 7] rfl rfl (fun H locs hP hD hS => ?_)
    have hP : va_P D vwCl (wRef k a0 (upA S0 0 (upZ (upZ (S0 0) 8 1) 7 0))) H := hP
    have hD : va_D A (wRef k a0 (upA S0 0 (upZ (upZ (S0 0) 8 1) 7 0))) := hD
    refine zi_if_eqB (tgt := 24) hx hb dX8_account_19 (by decide) (fun c_2 => absurd c_2 (by decide)) (fun _ => ?_)
    refine lv_iconst (v := iI 0) hx hb dX8_account_22 rfl ?_
    exact z_iret hx hb hr hlocks hP hS dX8_account_23 (Eq.trans (zif_neg c_1) rfl) (congrArg (fun z => wRef k a0 (upA S0 0 z)) (show sS0_0_X8_account S0 p0 = upZ (upZ (S0 0) 8 1) 7 0 from (Eq.trans (zif_neg c_1) rfl))) (Nat.le_refl _) (Nat.le_refl _)
  · refine lv_iconst (v := iI 0) hx hb dX8_account_11 rfl ?_
    refine lv_goto (tgt := 16) hx hb dX8_account_12 (by decide) ?_
    refine z_ai (va_runV (As := [.int (iI 0)]) (rest := []) ⟨hx, hb, hml, hown, hts⟩ (c_X8_fails l D k a0 S0  0 (by omega) _) (cwV 1 hts gX8_account_X8_fails rfl rfl rfl (by decide +kernel) ⟨(Nat.le_of_ble_eq_true rfl), (Nat.le_of_ble_eq_true rfl)⟩) (z_preV hK hG hA hP hD hS [0, 1, 2, 3, 4, 5, 6, 7] rfl (by decide) 10 rfl rfl) rfl rfl hl.1 rfl (lv_room (Nat.le_of_ble_eq_true rfl)) dX8_account_16 ⟨(Nat.le_of_ble_eq_true rfl), (Nat.le_of_ble_eq_true rfl)⟩) hA hP hD hS [0, 1, 2, 3, 4, 5, 6, 7] rfl rfl (fun H locs hP hD hS => ?_)
    have hP : va_P D vwCl (wRef k a0 (upA S0 0 (upZ (upZ (S0 0) 8 0) 7 0))) H := hP
    have hD : va_D A (wRef k a0 (upA S0 0 (upZ (upZ (S0 0) 8 0) 7 0))) := hD
    refine zi_if_eqB (tgt := 24) hx hb dX8_account_19 (by decide) (fun _ => ?_) (fun c_3 => absurd c_3 (by decide))
    refine lv_iload_n hx hb dX8_account_24 rfl (lv_at hl 1 rfl) ?_
    by_cases w_4 : p0 = 0
    · refine z_tabI hx hb dX8_account_25 (x := p0) ⟨by omega, by omega⟩ (v := 0) w_4 (by decide) (by decide) (off := 75) (by decide) (tgt := 100) (by decide) ?_
      refine lv_aload_n hx hb dX8_account_100 rfl (lv_at hl 0 rfl) ?_
      refine lv_iload_n hx hb dX8_account_101 rfl (lv_at hl 1 rfl) ?_
      refine z_ai0 (va_runV (As := [.int (iI p0)]) (rest := []) ⟨hx, hb, hml, hown, hts⟩ (c_X8_summed l D k a0 (upA S0 0 (upZ (upZ (S0 0) 8 0) 7 0))  p0 hB hT hC (by omega) _) (cwV 1 hts gX8_account_X8_summed rfl rfl rfl (by decide +kernel) ⟨(Nat.le_of_ble_eq_true rfl), (Nat.le_of_ble_eq_true rfl)⟩) (z_preV hK hG hA hP hD hS [0, 1, 2, 3, 4, 5, 6, 7] rfl (by decide) 10 rfl rfl) rfl rfl hl.1 rfl (lv_room (Nat.le_of_ble_eq_true rfl)) dX8_account_102 ⟨(Nat.le_of_ble_eq_true rfl), (Nat.le_of_ble_eq_true rfl)⟩) hA hP hD hS [0, 1, 2, 3, 4, 5, 6, 7] rfl (fun H locs hP hS => ?_)
      refine z_eqi (z2 := rSummed (S0 1) p0) rfl ?_
      have q_5 : -15000000 ≤ rSummed (S0 1) p0 ∧ rSummed (S0 1) p0 ≤ 15000000 := rSummed_bd (G := S0 1) hT hC p0
      exact z_iret hx hb hr hlocks hP hS dX8_account_105 (Eq.trans (zif_pos c_1) (Eq.trans (zif_pos w_4) rfl)) (congrArg (fun z => wRef k a0 (upA S0 0 z)) (show sS0_0_X8_account S0 p0 = upZ (upZ (S0 0) 8 0) 7 0 from (Eq.trans (zif_pos c_1) (Eq.trans (zif_pos w_4) rfl)))) (Nat.le_refl _) (Nat.le_refl _)
    · by_cases w_6 : p0 = 1
      · refine z_tabI hx hb dX8_account_25 (x := p0) ⟨by omega, by omega⟩ (v := 1) w_6 (by decide) (by decide) (off := 75) (by decide) (tgt := 100) (by decide) ?_
        refine lv_aload_n hx hb dX8_account_100 rfl (lv_at hl 0 rfl) ?_
        refine lv_iload_n hx hb dX8_account_101 rfl (lv_at hl 1 rfl) ?_
        refine z_ai0 (va_runV (As := [.int (iI p0)]) (rest := []) ⟨hx, hb, hml, hown, hts⟩ (c_X8_summed l D k a0 (upA S0 0 (upZ (upZ (S0 0) 8 0) 7 0))  p0 hB hT hC (by omega) _) (cwV 1 hts gX8_account_X8_summed rfl rfl rfl (by decide +kernel) ⟨(Nat.le_of_ble_eq_true rfl), (Nat.le_of_ble_eq_true rfl)⟩) (z_preV hK hG hA hP hD hS [0, 1, 2, 3, 4, 5, 6, 7] rfl (by decide) 10 rfl rfl) rfl rfl hl.1 rfl (lv_room (Nat.le_of_ble_eq_true rfl)) dX8_account_102 ⟨(Nat.le_of_ble_eq_true rfl), (Nat.le_of_ble_eq_true rfl)⟩) hA hP hD hS [0, 1, 2, 3, 4, 5, 6, 7] rfl (fun H locs hP hS => ?_)
        refine z_eqi (z2 := rSummed (S0 1) p0) rfl ?_
        have q_7 : -15000000 ≤ rSummed (S0 1) p0 ∧ rSummed (S0 1) p0 ≤ 15000000 := rSummed_bd (G := S0 1) hT hC p0
        exact z_iret hx hb hr hlocks hP hS dX8_account_105 (Eq.trans (zif_pos c_1) (Eq.trans (zif_neg w_4) (Eq.trans (zif_pos w_6) rfl))) (congrArg (fun z => wRef k a0 (upA S0 0 z)) (show sS0_0_X8_account S0 p0 = upZ (upZ (S0 0) 8 0) 7 0 from (Eq.trans (zif_pos c_1) (Eq.trans (zif_neg w_4) (Eq.trans (zif_pos w_6) rfl))))) (Nat.le_refl _) (Nat.le_refl _)
      · by_cases w_8 : p0 = 2
        · refine z_tabI hx hb dX8_account_25 (x := p0) ⟨by omega, by omega⟩ (v := 2) w_8 (by decide) (by decide) (off := 81) (by decide) (tgt := 106) (by decide) ?_
          refine lv_aload_n hx hb dX8_account_106 rfl (lv_at hl 0 rfl) ?_
          refine va_get (D := D) (ci := 10) (v := .ref (a0 1)) (C := RX8) (T := TX8) (N := 19) hx hb hts (fun w h => List.mem_cons_of_mem _ (List.mem_append_left _ (List.mem_append_right _ h))) hown hK hP 0 rfl rfl 0 (by decide) (hts (.fieldLink RX8 7 "MondayFactoryModel" "g" "[I") (List.mem_of_getElem? (i := 1) rfl)) (fun _ h9 => h9) rfl dX8_account_107 ?_
          refine lv_bipush (v := iI 10) hx hb dX8_account_110 (by decide) ?_
          refine z_iald hx hb hK hP 1 0 (f := S0 1) rfl rfl (i := 10) (by omega) (by omega) (by decide) 10 rfl dX8_account_112 ?_
          have f_9 := hB 10
          exact z_iret hx hb hr hlocks hP hS dX8_account_113 (Eq.trans (zif_pos c_1) (Eq.trans (zif_neg w_4) (Eq.trans (zif_neg w_6) (Eq.trans (zif_pos w_8) rfl)))) (congrArg (fun z => wRef k a0 (upA S0 0 z)) (show sS0_0_X8_account S0 p0 = upZ (upZ (S0 0) 8 0) 7 0 from (Eq.trans (zif_pos c_1) (Eq.trans (zif_neg w_4) (Eq.trans (zif_neg w_6) (Eq.trans (zif_pos w_8) rfl)))))) (Nat.le_refl _) (Nat.le_refl _)
        · by_cases w_10 : p0 = 3
          · refine z_tabI hx hb dX8_account_25 (x := p0) ⟨by omega, by omega⟩ (v := 3) w_10 (by decide) (by decide) (off := 89) (by decide) (tgt := 114) (by decide) ?_
            refine lv_aload_n hx hb dX8_account_114 rfl (lv_at hl 0 rfl) ?_
            refine va_get (D := D) (ci := 10) (v := .ref (a0 1)) (C := RX8) (T := TX8) (N := 19) hx hb hts (fun w h => List.mem_cons_of_mem _ (List.mem_append_left _ (List.mem_append_right _ h))) hown hK hP 0 rfl rfl 0 (by decide) (hts (.fieldLink RX8 7 "MondayFactoryModel" "g" "[I") (List.mem_of_getElem? (i := 1) rfl)) (fun _ h9 => h9) rfl dX8_account_115 ?_
            refine lv_bipush (v := iI 9) hx hb dX8_account_118 (by decide) ?_
            refine z_iald hx hb hK hP 1 0 (f := S0 1) rfl rfl (i := 9) (by omega) (by omega) (by decide) 9 rfl dX8_account_120 ?_
            have f_11 := hB 9
            exact z_iret hx hb hr hlocks hP hS dX8_account_121 (Eq.trans (zif_pos c_1) (Eq.trans (zif_neg w_4) (Eq.trans (zif_neg w_6) (Eq.trans (zif_neg w_8) (Eq.trans (zif_pos w_10) rfl))))) (congrArg (fun z => wRef k a0 (upA S0 0 z)) (show sS0_0_X8_account S0 p0 = upZ (upZ (S0 0) 8 0) 7 0 from (Eq.trans (zif_pos c_1) (Eq.trans (zif_neg w_4) (Eq.trans (zif_neg w_6) (Eq.trans (zif_neg w_8) (Eq.trans (zif_pos w_10) rfl))))))) (Nat.le_refl _) (Nat.le_refl _)
          · by_cases w_12 : p0 = 4
            · refine z_tabI hx hb dX8_account_25 (x := p0) ⟨by omega, by omega⟩ (v := 4) w_12 (by decide) (by decide) (off := 97) (by decide) (tgt := 122) (by decide) ?_
              refine lv_aload_n hx hb dX8_account_122 rfl (lv_at hl 0 rfl) ?_
              refine va_get (D := D) (ci := 10) (v := .ref (a0 1)) (C := RX8) (T := TX8) (N := 19) hx hb hts (fun w h => List.mem_cons_of_mem _ (List.mem_append_left _ (List.mem_append_right _ h))) hown hK hP 0 rfl rfl 0 (by decide) (hts (.fieldLink RX8 7 "MondayFactoryModel" "g" "[I") (List.mem_of_getElem? (i := 1) rfl)) (fun _ h9 => h9) rfl dX8_account_123 ?_
              refine lv_iconst (v := iI 0) hx hb dX8_account_126 rfl ?_
              refine z_iald hx hb hK hP 1 0 (f := S0 1) rfl rfl (i := 0) (by omega) (by omega) (by decide) 0 rfl dX8_account_127 ?_
              have f_13 := hB 0
              exact z_iret hx hb hr hlocks hP hS dX8_account_128 (Eq.trans (zif_pos c_1) (Eq.trans (zif_neg w_4) (Eq.trans (zif_neg w_6) (Eq.trans (zif_neg w_8) (Eq.trans (zif_neg w_10) (Eq.trans (zif_pos w_12) rfl)))))) (congrArg (fun z => wRef k a0 (upA S0 0 z)) (show sS0_0_X8_account S0 p0 = upZ (upZ (S0 0) 8 0) 7 0 from (Eq.trans (zif_pos c_1) (Eq.trans (zif_neg w_4) (Eq.trans (zif_neg w_6) (Eq.trans (zif_neg w_8) (Eq.trans (zif_neg w_10) (Eq.trans (zif_pos w_12) rfl)))))))) (Nat.le_refl _) (Nat.le_refl _)
            · by_cases w_14 : p0 = 13
              · refine z_tabI hx hb dX8_account_25 (x := p0) ⟨by omega, by omega⟩ (v := 13) w_14 (by decide) (by decide) (off := 104) (by decide) (tgt := 129) (by decide) ?_
                refine lv_aload_n hx hb dX8_account_129 rfl (lv_at hl 0 rfl) ?_
                have f_15 := hB0 12
                refine va_get (D := D) (ci := 10) (v := .int (iI (S0 0 12))) (C := RX8) (T := TX8) (N := 19) hx hb hts (fun w h => List.mem_cons_of_mem _ (List.mem_append_left _ (List.mem_append_right _ h))) hown hK hP 0 rfl rfl 12 (by decide) (hts (.fieldLink RX8 177 "MondayFactoryModel" "length" "I") (List.mem_of_getElem? (i := 2) rfl)) (fun _ h9 => h9) rfl dX8_account_130 ?_
                exact z_iret hx hb hr hlocks hP hS dX8_account_133 (Eq.trans (zif_pos c_1) (Eq.trans (zif_neg w_4) (Eq.trans (zif_neg w_6) (Eq.trans (zif_neg w_8) (Eq.trans (zif_neg w_10) (Eq.trans (zif_neg w_12) (Eq.trans (zif_pos w_14) rfl))))))) (congrArg (fun z => wRef k a0 (upA S0 0 z)) (show sS0_0_X8_account S0 p0 = upZ (upZ (S0 0) 8 0) 7 0 from (Eq.trans (zif_pos c_1) (Eq.trans (zif_neg w_4) (Eq.trans (zif_neg w_6) (Eq.trans (zif_neg w_8) (Eq.trans (zif_neg w_10) (Eq.trans (zif_neg w_12) (Eq.trans (zif_pos w_14) rfl))))))))) (Nat.le_refl _) (Nat.le_refl _)
              · by_cases w_16 : p0 = 14
                · refine z_tabI hx hb dX8_account_25 (x := p0) ⟨by omega, by omega⟩ (v := 14) w_16 (by decide) (by decide) (off := 109) (by decide) (tgt := 134) (by decide) ?_
                  refine lv_aload_n hx hb dX8_account_134 rfl (lv_at hl 0 rfl) ?_
                  have f_17 := hB0 5
                  refine va_get (D := D) (ci := 10) (v := .int (iI (S0 0 5))) (C := RX8) (T := TX8) (N := 19) hx hb hts (fun w h => List.mem_cons_of_mem _ (List.mem_append_left _ (List.mem_append_right _ h))) hown hK hP 0 rfl rfl 5 (by decide) (hts (.fieldLink RX8 56 "MondayFactoryModel" "changes" "I") (List.mem_of_getElem? (i := 3) rfl)) (fun _ h9 => h9) rfl dX8_account_135 ?_
                  exact z_iret hx hb hr hlocks hP hS dX8_account_138 (Eq.trans (zif_pos c_1) (Eq.trans (zif_neg w_4) (Eq.trans (zif_neg w_6) (Eq.trans (zif_neg w_8) (Eq.trans (zif_neg w_10) (Eq.trans (zif_neg w_12) (Eq.trans (zif_neg w_14) (Eq.trans (zif_pos w_16) rfl)))))))) (congrArg (fun z => wRef k a0 (upA S0 0 z)) (show sS0_0_X8_account S0 p0 = upZ (upZ (S0 0) 8 0) 7 0 from (Eq.trans (zif_pos c_1) (Eq.trans (zif_neg w_4) (Eq.trans (zif_neg w_6) (Eq.trans (zif_neg w_8) (Eq.trans (zif_neg w_10) (Eq.trans (zif_neg w_12) (Eq.trans (zif_neg w_14) (Eq.trans (zif_pos w_16) rfl)))))))))) (Nat.le_refl _) (Nat.le_refl _)
                · refine z_tabD hx hb dX8_account_25 (x := p0) ⟨by omega, by omega⟩ (tgt := 139) (by decide) (by rcases (show (p0 < 0 ∨ 14 < p0) ∨ p0 = 5 ∨ p0 = 6 ∨ p0 = 7 ∨ p0 = 8 ∨ p0 = 9 ∨ p0 = 10 ∨ p0 = 11 ∨ p0 = 12 by omega) with h9 | h9 | h9 | h9 | h9 | h9 | h9 | h9 | h9; (left; exact h9); (right; rw [h9]; exact ⟨_, rfl, rfl, by decide, by decide⟩); (right; rw [h9]; exact ⟨_, rfl, rfl, by decide, by decide⟩); (right; rw [h9]; exact ⟨_, rfl, rfl, by decide, by decide⟩); (right; rw [h9]; exact ⟨_, rfl, rfl, by decide, by decide⟩); (right; rw [h9]; exact ⟨_, rfl, rfl, by decide, by decide⟩); (right; rw [h9]; exact ⟨_, rfl, rfl, by decide, by decide⟩); (right; rw [h9]; exact ⟨_, rfl, rfl, by decide, by decide⟩); (right; rw [h9]; exact ⟨_, rfl, rfl, by decide, by decide⟩)) ?_
                  refine lv_aload_n hx hb dX8_account_139 rfl (lv_at hl 0 rfl) ?_
                  refine va_get (D := D) (ci := 10) (v := .ref (a0 1)) (C := RX8) (T := TX8) (N := 19) hx hb hts (fun w h => List.mem_cons_of_mem _ (List.mem_append_left _ (List.mem_append_right _ h))) hown hK hP 0 rfl rfl 0 (by decide) (hts (.fieldLink RX8 7 "MondayFactoryModel" "g" "[I") (List.mem_of_getElem? (i := 1) rfl)) (fun _ h9 => h9) rfl dX8_account_140 ?_
                  refine lv_iload_n hx hb dX8_account_143 rfl (lv_at hl 1 rfl) ?_
                  refine lv_iconst (v := iI 4) hx hb dX8_account_144 rfl ?_
                  refine zi_sub hx hb dX8_account_145 ?_
                  refine z_iald hx hb hK hP 1 0 (f := S0 1) rfl rfl (i := p0 - 4) (by omega) (by omega) (by decide) ((p0 - 4).toNat) rfl dX8_account_146 ?_
                  have f_18 := hB ((p0 - 4).toNat)
                  exact z_iret hx hb hr hlocks hP hS dX8_account_147 (Eq.trans (zif_pos c_1) (Eq.trans (zif_neg w_4) (Eq.trans (zif_neg w_6) (Eq.trans (zif_neg w_8) (Eq.trans (zif_neg w_10) (Eq.trans (zif_neg w_12) (Eq.trans (zif_neg w_14) (Eq.trans (zif_neg w_16) rfl)))))))) (congrArg (fun z => wRef k a0 (upA S0 0 z)) (show sS0_0_X8_account S0 p0 = upZ (upZ (S0 0) 8 0) 7 0 from (Eq.trans (zif_pos c_1) (Eq.trans (zif_neg w_4) (Eq.trans (zif_neg w_6) (Eq.trans (zif_neg w_8) (Eq.trans (zif_neg w_10) (Eq.trans (zif_neg w_12) (Eq.trans (zif_neg w_14) (Eq.trans (zif_neg w_16) rfl)))))))))) (Nat.le_refl _) (Nat.le_refl _)
noncomputable def sp_X8_isWell (S0 : Nat → Nat → Int) : Int := zif ((S0 1 2) = ((((((rSummed (S0 1) 0) - (rSummed (S0 1) 1)) + (S0 1 10)) + (S0 1 3)) + (S0 1 5)) + (S0 1 6)))
  (1)
  (0)
noncomputable def sS0_0_X8_isWell (S0 : Nat → Nat → Int) : (Nat → Int) := zif ((S0 1 2) = ((((((rSummed (S0 1) 0) - (rSummed (S0 1) 1)) + (S0 1 10)) + (S0 1 3)) + (S0 1 5)) + (S0 1 6)))
  (upZ (S0 0) 8 0)
  (upZ (S0 0) 8 0)
set_option maxHeartbeats 4000000 in
set_option maxRecDepth 100000 in
theorem c_X8_isWell (l : Launch) (D : va_G) (k : Nat → ClassId) (a0 : Nat → Nat) (S0 : Nat → Nat → Int) (hB0 : zBf (S0 0)) (hB : zBf (S0 1)) (hT : zBt (S0 1)) (hC : ∀ b : Int, 0 ≤ b → b ≤ 2 → 0 ≤ S0 1 (15 + 26 * b + 0).toNat ∧ S0 1 (15 + 26 * b + 0).toNat ≤ 5) : zMi l yX8_isWell wsX8_isWell ({ frames := 5, cells := 0, slots := 0, locals := 113 } : Room) D k [.ref (a0 0)] (wRef k a0 S0) (sp_X8_isWell S0) (wRef k a0 (upA S0 0 (sS0_0_X8_isWell S0))) 0 0 := by
  refine zMi_of (cc := cX8_isWell) (maxL := 1) (ret := (some .boolean)) (by decide) rfl (Nat.le_of_ble_eq_true rfl) ?_
  intro p e s m args below meth c A ls hx hb hr hml hown hts hlocks hK hP hD hG hA hS hl
  have hown : s.vm.findClass RX8 = some m.cls := hown
  have hl : lv_has ls 1 [(0, .ref (a0 0))] := hl
  obtain ⟨H, hH⟩ : ∃ z, z = s.heap := ⟨_, rfl⟩
  obtain ⟨locs, hlc⟩ : ∃ z : List Loc, z = [] := ⟨_, rfl⟩
  rw [← hH] at hP
  have hS : va_S A s.heap H locs := by rw [hH, hlc]; exact hS
  rw [← hlc, ← hH]
  clear hlc hH
  refine lv_aload_n hx hb dX8_isWell_0 rfl (lv_at hl 0 rfl) ?_
  refine lv_iconst (v := iI 0) hx hb dX8_isWell_1 rfl ?_
  refine va_put (D := D) (ci := 10) (v := .int (iI 0)) (ty := .int) (C := RX8) (T := TX8) (N := 19) hx hb hts (fun w h => List.mem_cons_of_mem _ (List.mem_append_left _ (List.mem_append_right _ h))) tyX8 tyX8_ok nmX8 hown hK hP hD hS 0 rfl rfl 8 (by decide) (hts (.fieldLink RX8 40 "MondayFactoryModel" "code" "I") (List.mem_of_getElem? (i := 1) rfl)) (fun _ h9 => h9) rfl (by decide +kernel) rfl rfl (Nat.le_of_ble_eq_true rfl) dX8_isWell_2 (fun H locs hP hD hS => ?_)
  have hP : va_P D vwCl (wRef k a0 (up2 S0 0 8 0)) H := hP
  have hD : va_D A (wRef k a0 (up2 S0 0 8 0)) := hD
  refine lv_aload_n hx hb dX8_isWell_5 rfl (lv_at hl 0 rfl) ?_
  refine va_get (D := D) (ci := 10) (v := .ref (a0 1)) (C := RX8) (T := TX8) (N := 19) hx hb hts (fun w h => List.mem_cons_of_mem _ (List.mem_append_left _ (List.mem_append_right _ h))) hown hK hP 0 rfl rfl 0 (by decide) (hts (.fieldLink RX8 7 "MondayFactoryModel" "g" "[I") (List.mem_of_getElem? (i := 2) rfl)) (fun _ h9 => h9) rfl dX8_isWell_6 ?_
  refine lv_iconst (v := iI 2) hx hb dX8_isWell_9 rfl ?_
  refine z_iald hx hb hK hP 1 0 (f := S0 1) rfl rfl (i := 2) (by omega) (by omega) (by decide) 2 rfl dX8_isWell_10 ?_
  have f_1 := hT 2
  refine lv_aload_n hx hb dX8_isWell_11 rfl (lv_at hl 0 rfl) ?_
  refine lv_iconst (v := iI 0) hx hb dX8_isWell_12 rfl ?_
  refine z_ai0 (va_runV (As := [.int (iI 0)]) (rest := [.int (iI (S0 1 2))]) ⟨hx, hb, hml, hown, hts⟩ (c_X8_summed l D k a0 (up2 S0 0 8 0)  0 hB hT hC (by omega) _) (cwV 1 hts gX8_isWell_X8_summed rfl rfl rfl (by decide +kernel) ⟨(Nat.le_of_ble_eq_true rfl), (Nat.le_of_ble_eq_true rfl)⟩) (z_preV hK hG hA hP hD hS [0, 1, 2, 3, 4, 5, 6, 7] rfl (by decide) 10 rfl rfl) rfl rfl hl.1 rfl (lv_room (Nat.le_of_ble_eq_true rfl)) dX8_isWell_13 ⟨(Nat.le_of_ble_eq_true rfl), (Nat.le_of_ble_eq_true rfl)⟩) hA hP hD hS [0, 1, 2, 3, 4, 5, 6, 7] rfl (fun H locs hP hS => ?_)
  refine z_eqi (z2 := rSummed (S0 1) 0) rfl ?_
  have q_2 : -15000000 ≤ rSummed (S0 1) 0 ∧ rSummed (S0 1) 0 ≤ 15000000 := rSummed_bd (G := S0 1) hT hC 0
  refine lv_aload_n hx hb dX8_isWell_16 rfl (lv_at hl 0 rfl) ?_
  refine lv_iconst (v := iI 1) hx hb dX8_isWell_17 rfl ?_
  refine z_ai0 (va_runV (As := [.int (iI 1)]) (rest := [.int (iI (rSummed (S0 1) 0)), .int (iI (S0 1 2))]) ⟨hx, hb, hml, hown, hts⟩ (c_X8_summed l D k a0 (up2 S0 0 8 0)  1 hB hT hC (by omega) _) (cwV 1 hts gX8_isWell_X8_summed rfl rfl rfl (by decide +kernel) ⟨(Nat.le_of_ble_eq_true rfl), (Nat.le_of_ble_eq_true rfl)⟩) (z_preV hK hG hA hP hD hS [0, 1, 2, 3, 4, 5, 6, 7] rfl (by decide) 10 rfl rfl) rfl rfl hl.1 rfl (lv_room (Nat.le_of_ble_eq_true rfl)) dX8_isWell_18 ⟨(Nat.le_of_ble_eq_true rfl), (Nat.le_of_ble_eq_true rfl)⟩) hA hP hD hS [0, 1, 2, 3, 4, 5, 6, 7] rfl (fun H locs hP hS => ?_)
  refine z_eqi (z2 := rSummed (S0 1) 1) rfl ?_
  have q_3 : -15000000 ≤ rSummed (S0 1) 1 ∧ rSummed (S0 1) 1 ≤ 15000000 := rSummed_bd (G := S0 1) hT hC 1
  refine zi_sub hx hb dX8_isWell_21 ?_
  refine lv_aload_n hx hb dX8_isWell_22 rfl (lv_at hl 0 rfl) ?_
  refine va_get (D := D) (ci := 10) (v := .ref (a0 1)) (C := RX8) (T := TX8) (N := 19) hx hb hts (fun w h => List.mem_cons_of_mem _ (List.mem_append_left _ (List.mem_append_right _ h))) hown hK hP 0 rfl rfl 0 (by decide) (hts (.fieldLink RX8 7 "MondayFactoryModel" "g" "[I") (List.mem_of_getElem? (i := 2) rfl)) (fun _ h9 => h9) rfl dX8_isWell_23 ?_
  refine lv_bipush (v := iI 10) hx hb dX8_isWell_26 (by decide) ?_
  refine z_iald hx hb hK hP 1 0 (f := S0 1) rfl rfl (i := 10) (by omega) (by omega) (by decide) 10 rfl dX8_isWell_28 ?_
  have f_4 := hT 10
  refine zi_add hx hb dX8_isWell_29 ?_
  refine lv_aload_n hx hb dX8_isWell_30 rfl (lv_at hl 0 rfl) ?_
  refine va_get (D := D) (ci := 10) (v := .ref (a0 1)) (C := RX8) (T := TX8) (N := 19) hx hb hts (fun w h => List.mem_cons_of_mem _ (List.mem_append_left _ (List.mem_append_right _ h))) hown hK hP 0 rfl rfl 0 (by decide) (hts (.fieldLink RX8 7 "MondayFactoryModel" "g" "[I") (List.mem_of_getElem? (i := 2) rfl)) (fun _ h9 => h9) rfl dX8_isWell_31 ?_
  refine lv_iconst (v := iI 3) hx hb dX8_isWell_34 rfl ?_
  refine z_iald hx hb hK hP 1 0 (f := S0 1) rfl rfl (i := 3) (by omega) (by omega) (by decide) 3 rfl dX8_isWell_35 ?_
  have f_5 := hT 3
  refine zi_add hx hb dX8_isWell_36 ?_
  refine lv_aload_n hx hb dX8_isWell_37 rfl (lv_at hl 0 rfl) ?_
  refine va_get (D := D) (ci := 10) (v := .ref (a0 1)) (C := RX8) (T := TX8) (N := 19) hx hb hts (fun w h => List.mem_cons_of_mem _ (List.mem_append_left _ (List.mem_append_right _ h))) hown hK hP 0 rfl rfl 0 (by decide) (hts (.fieldLink RX8 7 "MondayFactoryModel" "g" "[I") (List.mem_of_getElem? (i := 2) rfl)) (fun _ h9 => h9) rfl dX8_isWell_38 ?_
  refine lv_iconst (v := iI 5) hx hb dX8_isWell_41 rfl ?_
  refine z_iald hx hb hK hP 1 0 (f := S0 1) rfl rfl (i := 5) (by omega) (by omega) (by decide) 5 rfl dX8_isWell_42 ?_
  have f_6 := hT 5
  refine zi_add hx hb dX8_isWell_43 ?_
  refine lv_aload_n hx hb dX8_isWell_44 rfl (lv_at hl 0 rfl) ?_
  refine va_get (D := D) (ci := 10) (v := .ref (a0 1)) (C := RX8) (T := TX8) (N := 19) hx hb hts (fun w h => List.mem_cons_of_mem _ (List.mem_append_left _ (List.mem_append_right _ h))) hown hK hP 0 rfl rfl 0 (by decide) (hts (.fieldLink RX8 7 "MondayFactoryModel" "g" "[I") (List.mem_of_getElem? (i := 2) rfl)) (fun _ h9 => h9) rfl dX8_isWell_45 ?_
  refine lv_bipush (v := iI 6) hx hb dX8_isWell_48 (by decide) ?_
  refine z_iald hx hb hK hP 1 0 (f := S0 1) rfl rfl (i := 6) (by omega) (by omega) (by decide) 6 rfl dX8_isWell_50 ?_
  have f_7 := hT 6
  refine zi_add hx hb dX8_isWell_51 ?_
  refine zi_icmp_ne (tgt := 59) hx hb dX8_isWell_52 (by decide) ⟨by omega, by omega⟩ ⟨by omega, by omega⟩ (fun c_8 => ?_) (fun c_8 => ?_)
  · refine lv_iconst (v := iI 0) hx hb dX8_isWell_59 rfl ?_
    exact z_zret hx hb hr hlocks rfl hP hS dX8_isWell_60 (Eq.trans (zif_neg c_8) rfl) (congrArg (fun z => wRef k a0 (upA S0 0 z)) (show sS0_0_X8_isWell S0 = upZ (S0 0) 8 0 from (Eq.trans (zif_neg c_8) rfl))) (Nat.le_refl _) (Nat.le_refl _)
  · refine lv_iconst (v := iI 1) hx hb dX8_isWell_55 rfl ?_
    refine lv_goto (tgt := 60) hx hb dX8_isWell_56 (by decide) ?_
    exact z_zret hx hb hr hlocks rfl hP hS dX8_isWell_60 (Eq.trans (zif_pos c_8) rfl) (congrArg (fun z => wRef k a0 (upA S0 0 z)) (show sS0_0_X8_isWell S0 = upZ (S0 0) 8 0 from (Eq.trans (zif_pos c_8) rfl))) (Nat.le_refl _) (Nat.le_refl _)
noncomputable def sp_X8_undo (S0 : Nat → Nat → Int) : Int := zif ((S0 0 5) = 0)
  (0)
  ((S0 0 5) - 1)
noncomputable def sS0_0_X8_undo (S0 : Nat → Nat → Int) : (Nat → Int) := zif ((S0 0 5) = 0)
  (upZ (upZ (S0 0) 8 1) 7 0)
  (upZ (upZ (upZ (S0 0) 8 0) 7 0) 5 ((S0 0 5) - 1))
noncomputable def sS0_1_X8_undo (S0 : Nat → Nat → Int) : (Nat → Int) := zif ((S0 0 5) = 0)
  (S0 1)
  (cpyZ (S0 2) (S0 1) (125 * ((S0 0 5) - 1)).toNat 0 125)
set_option maxHeartbeats 4000000 in
set_option maxRecDepth 100000 in
theorem c_X8_undo (l : Launch) (D : va_G) (k : Nat → ClassId) (a0 : Nat → Nat) (S0 : Nat → Nat → Int) (hB0 : zBf (S0 0)) (hch : 0 ≤ S0 0 5 ∧ S0 0 5 ≤ 8) : zMi l yX8_undo wsX8_undo ({ frames := 1, cells := 0, slots := 0, locals := 24 } : Room) D k [.ref (a0 0)] (wRef k a0 S0) (sp_X8_undo S0) (wRef k a0 (upA (upA S0 0 (sS0_0_X8_undo S0)) 1 (sS0_1_X8_undo S0))) 0 0 := by
  refine zMi_of (cc := cX8_undo) (maxL := 1) (ret := (some .int)) (by decide) rfl (Nat.le_of_ble_eq_true rfl) ?_
  intro p e s m args below meth c A ls hx hb hr hml hown hts hlocks hK hP hD hG hA hS hl
  have hown : s.vm.findClass RX8 = some m.cls := hown
  have hl : lv_has ls 1 [(0, .ref (a0 0))] := hl
  obtain ⟨H, hH⟩ : ∃ z, z = s.heap := ⟨_, rfl⟩
  obtain ⟨locs, hlc⟩ : ∃ z : List Loc, z = [] := ⟨_, rfl⟩
  rw [← hH] at hP
  have hS : va_S A s.heap H locs := by rw [hH, hlc]; exact hS
  rw [← hlc, ← hH]
  clear hlc hH
  refine lv_aload_n hx hb dX8_undo_0 rfl (lv_at hl 0 rfl) ?_
  refine lv_aload_n hx hb dX8_undo_1 rfl (lv_at hl 0 rfl) ?_
  have f_1 := hB0 5
  refine va_get (D := D) (ci := 10) (v := .int (iI (S0 0 5))) (C := RX8) (T := TX8) (N := 19) hx hb hts (fun w h => List.mem_cons_of_mem _ (List.mem_append_left _ (List.mem_append_right _ h))) hown hK hP 0 rfl rfl 5 (by decide) (hts (.fieldLink RX8 56 "MondayFactoryModel" "changes" "I") (List.mem_of_getElem? (i := 1) rfl)) (fun _ h9 => h9) rfl dX8_undo_2 ?_
  refine zi_if_ne (tgt := 12) hx hb dX8_undo_5 (by decide) ⟨by omega, by omega⟩ (fun c_2 => ?_) (fun c_2 => ?_)
  · refine lv_iconst (v := iI 0) hx hb dX8_undo_12 rfl ?_
    refine z_ai (va_runV (As := [.int (iI 0)]) (rest := []) ⟨hx, hb, hml, hown, hts⟩ (c_X8_fails l D k a0 S0  0 (by omega) _) (cwV 1 hts gX8_undo_X8_fails rfl rfl rfl (by decide +kernel) ⟨(Nat.le_of_ble_eq_true rfl), (Nat.le_of_ble_eq_true rfl)⟩) (z_preV hK hG hA hP hD hS [0, 1, 2, 3, 4, 5, 6, 7] rfl (by decide) 10 rfl rfl) rfl rfl hl.1 rfl (lv_room (Nat.le_of_ble_eq_true rfl)) dX8_undo_13 ⟨(Nat.le_of_ble_eq_true rfl), (Nat.le_of_ble_eq_true rfl)⟩) hA hP hD hS [0, 1, 2, 3, 4, 5, 6, 7] rfl rfl (fun H locs hP hD hS => ?_)
    have hP : va_P D vwCl (wRef k a0 (upA S0 0 (upZ (upZ (S0 0) 8 0) 7 0))) H := hP
    have hD : va_D A (wRef k a0 (upA S0 0 (upZ (upZ (S0 0) 8 0) 7 0))) := hD
    refine zi_if_eqB (tgt := 21) hx hb dX8_undo_16 (by decide) (fun _ => ?_) (fun c_3 => absurd c_3 (by decide))
    refine lv_aload_n hx hb dX8_undo_21 rfl (lv_at hl 0 rfl) ?_
    refine lv_dup hx hb dX8_undo_22 rfl ?_
    refine va_get (D := D) (ci := 10) (v := .int (iI (S0 0 5))) (C := RX8) (T := TX8) (N := 19) hx hb hts (fun w h => List.mem_cons_of_mem _ (List.mem_append_left _ (List.mem_append_right _ h))) hown hK hP 0 rfl rfl 5 (by decide) (hts (.fieldLink RX8 56 "MondayFactoryModel" "changes" "I") (List.mem_of_getElem? (i := 1) rfl)) (fun _ h9 => h9) rfl dX8_undo_23 ?_
    refine lv_iconst (v := iI 1) hx hb dX8_undo_26 rfl ?_
    refine zi_sub hx hb dX8_undo_27 ?_
    refine va_put (D := D) (ci := 10) (v := .int (iI ((S0 0 5) - 1))) (ty := .int) (C := RX8) (T := TX8) (N := 19) hx hb hts (fun w h => List.mem_cons_of_mem _ (List.mem_append_left _ (List.mem_append_right _ h))) tyX8 tyX8_ok nmX8 hown hK hP hD hS 0 rfl rfl 5 (by decide) (hts (.fieldLink RX8 56 "MondayFactoryModel" "changes" "I") (List.mem_of_getElem? (i := 1) rfl)) (fun _ h9 => h9) rfl (by decide +kernel) rfl rfl (Nat.le_of_ble_eq_true rfl) dX8_undo_28 (fun H locs hP hD hS => ?_)
    have hP : va_P D vwCl (wRef k a0 (up2 (upA S0 0 (upZ (upZ (S0 0) 8 0) 7 0)) 0 5 ((S0 0 5) - 1))) H := hP
    have hD : va_D A (wRef k a0 (up2 (upA S0 0 (upZ (upZ (S0 0) 8 0) 7 0)) 0 5 ((S0 0 5) - 1))) := hD
    refine lv_aload_n hx hb dX8_undo_31 rfl (lv_at hl 0 rfl) ?_
    refine va_get (D := D) (ci := 10) (v := .ref (a0 2)) (C := RX8) (T := TX8) (N := 19) hx hb hts (fun w h => List.mem_cons_of_mem _ (List.mem_append_left _ (List.mem_append_right _ h))) hown hK hP 0 rfl rfl 1 (by decide) (hts (.fieldLink RX8 13 "MondayFactoryModel" "kept" "[I") (List.mem_of_getElem? (i := 2) rfl)) (fun _ h9 => h9) rfl dX8_undo_32 ?_
    refine lv_bipush (v := iI 125) hx hb dX8_undo_35 (by decide) ?_
    refine lv_aload_n hx hb dX8_undo_37 rfl (lv_at hl 0 rfl) ?_
    refine va_get (D := D) (ci := 10) (v := .int (iI ((S0 0 5) - 1))) (C := RX8) (T := TX8) (N := 19) hx hb hts (fun w h => List.mem_cons_of_mem _ (List.mem_append_left _ (List.mem_append_right _ h))) hown hK hP 0 rfl rfl 5 (by decide) (hts (.fieldLink RX8 56 "MondayFactoryModel" "changes" "I") (List.mem_of_getElem? (i := 1) rfl)) (fun _ h9 => h9) rfl dX8_undo_38 ?_
    refine zi_mul hx hb dX8_undo_41 ?_
    refine lv_aload_n hx hb dX8_undo_42 rfl (lv_at hl 0 rfl) ?_
    refine va_get (D := D) (ci := 10) (v := .ref (a0 1)) (C := RX8) (T := TX8) (N := 19) hx hb hts (fun w h => List.mem_cons_of_mem _ (List.mem_append_left _ (List.mem_append_right _ h))) hown hK hP 0 rfl rfl 0 (by decide) (hts (.fieldLink RX8 7 "MondayFactoryModel" "g" "[I") (List.mem_of_getElem? (i := 3) rfl)) (fun _ h9 => h9) rfl dX8_undo_43 ?_
    refine lv_iconst (v := iI 0) hx hb dX8_undo_46 rfl ?_
    refine z_av (va_runS (As := [.ref (a0 2), .int (iI (125 * ((S0 0 5) - 1))), .ref (a0 1), .int (iI 0)]) (rest := []) ⟨hx, hb, hml, hown, hts⟩ (c_X8_copies l D k (subA a0 2) (sub2 (up2 (upA S0 0 (upZ (upZ (S0 0) 8 0) 7 0)) 0 5 ((S0 0 5) - 1)) 2) (subA a0 1) (sub2 (up2 (upA S0 0 (upZ (upZ (S0 0) 8 0) 7 0)) 0 5 ((S0 0 5) - 1)) 1) 1000 125 (125 * ((S0 0 5) - 1)) 0 (by omega) (by omega) (by omega) _) (va_cwS 4 hts gX8_undo_X8_copies rfl rfl rfl (by decide +kernel) ⟨(Nat.le_of_ble_eq_true rfl), (Nat.le_of_ble_eq_true rfl)⟩) (z_preS hK hG hA hP hD hS [2, 1] rfl (by decide)) rfl rfl hl.1 rfl (lv_room (Nat.le_of_ble_eq_true rfl)) dX8_undo_47 ⟨(Nat.le_of_ble_eq_true rfl), (Nat.le_of_ble_eq_true rfl)⟩) hA hP hD hS [2, 1] rfl rfl (fun H locs hP hD hS => ?_)
    have hP : va_P D vwCl (wRef k a0 (upA (up2 (upA S0 0 (upZ (upZ (S0 0) 8 0) 7 0)) 0 5 ((S0 0 5) - 1)) 1 (cpyZ (S0 2) (S0 1) (125 * ((S0 0 5) - 1)).toNat 0 125))) H := hP
    have hD : va_D A (wRef k a0 (upA (up2 (upA S0 0 (upZ (upZ (S0 0) 8 0) 7 0)) 0 5 ((S0 0 5) - 1)) 1 (cpyZ (S0 2) (S0 1) (125 * ((S0 0 5) - 1)).toNat 0 125))) := hD
    refine lv_aload_n hx hb dX8_undo_50 rfl (lv_at hl 0 rfl) ?_
    refine va_get (D := D) (ci := 10) (v := .int (iI ((S0 0 5) - 1))) (C := RX8) (T := TX8) (N := 19) hx hb hts (fun w h => List.mem_cons_of_mem _ (List.mem_append_left _ (List.mem_append_right _ h))) hown hK hP 0 rfl rfl 5 (by decide) (hts (.fieldLink RX8 56 "MondayFactoryModel" "changes" "I") (List.mem_of_getElem? (i := 1) rfl)) (fun _ h9 => h9) rfl dX8_undo_51 ?_
    exact z_iret hx hb hr hlocks hP hS dX8_undo_54 (Eq.trans (zif_neg c_2) rfl) (Eq.trans (congrArg (fun z => wRef k a0 (upA (upA S0 0 z) 1 (sS0_1_X8_undo S0))) (show sS0_0_X8_undo S0 = upZ (upZ (upZ (S0 0) 8 0) 7 0) 5 ((S0 0 5) - 1) from (Eq.trans (zif_neg c_2) rfl))) (congrArg (fun z => wRef k a0 (upA (upA S0 0 (upZ (upZ (upZ (S0 0) 8 0) 7 0) 5 ((S0 0 5) - 1))) 1 z)) (show sS0_1_X8_undo S0 = cpyZ (S0 2) (S0 1) (125 * ((S0 0 5) - 1)).toNat 0 125 from (Eq.trans (zif_neg c_2) rfl)))) (Nat.le_refl _) (Nat.le_refl _)
  · refine lv_iconst (v := iI 1) hx hb dX8_undo_8 rfl ?_
    refine lv_goto (tgt := 13) hx hb dX8_undo_9 (by decide) ?_
    refine z_ai (va_runV (As := [.int (iI 1)]) (rest := []) ⟨hx, hb, hml, hown, hts⟩ (c_X8_fails l D k a0 S0  1 (by omega) _) (cwV 1 hts gX8_undo_X8_fails rfl rfl rfl (by decide +kernel) ⟨(Nat.le_of_ble_eq_true rfl), (Nat.le_of_ble_eq_true rfl)⟩) (z_preV hK hG hA hP hD hS [0, 1, 2, 3, 4, 5, 6, 7] rfl (by decide) 10 rfl rfl) rfl rfl hl.1 rfl (lv_room (Nat.le_of_ble_eq_true rfl)) dX8_undo_13 ⟨(Nat.le_of_ble_eq_true rfl), (Nat.le_of_ble_eq_true rfl)⟩) hA hP hD hS [0, 1, 2, 3, 4, 5, 6, 7] rfl rfl (fun H locs hP hD hS => ?_)
    have hP : va_P D vwCl (wRef k a0 (upA S0 0 (upZ (upZ (S0 0) 8 1) 7 0))) H := hP
    have hD : va_D A (wRef k a0 (upA S0 0 (upZ (upZ (S0 0) 8 1) 7 0))) := hD
    refine zi_if_eqB (tgt := 21) hx hb dX8_undo_16 (by decide) (fun c_4 => absurd c_4 (by decide)) (fun _ => ?_)
    refine lv_iconst (v := iI 0) hx hb dX8_undo_19 rfl ?_
    exact z_iret hx hb hr hlocks hP hS dX8_undo_20 (Eq.trans (zif_pos c_2) rfl) (Eq.trans (congrArg (fun z => wRef k a0 (upA (upA S0 0 z) 1 (sS0_1_X8_undo S0))) (show sS0_0_X8_undo S0 = upZ (upZ (S0 0) 8 1) 7 0 from (Eq.trans (zif_pos c_2) rfl))) (congrArg (fun z => wRef k a0 (upA (upA S0 0 (upZ (upZ (S0 0) 8 1) 7 0)) 1 z)) (show sS0_1_X8_undo S0 = S0 1 from (Eq.trans (zif_pos c_2) rfl)))) (Nat.le_refl _) (Nat.le_refl _)
set_option maxHeartbeats 4000000 in
set_option maxRecDepth 100000 in
theorem c_X8_save (l : Launch) (D : va_G) (k : Nat → ClassId) (a0 : Nat → Nat) (S0 : Nat → Nat → Int) (hB : zBf (S0 1)) (hT : zBt (S0 1)) (hC : ∀ b : Int, 0 ≤ b → b ≤ 2 → 0 ≤ S0 1 (15 + 26 * b + 0).toNat ∧ S0 1 (15 + 26 * b + 0).toNat ≤ 5) : zMi l yX8_save wsX8_save ({ frames := 5, cells := 0, slots := 0, locals := 113 } : Room) D k [.ref (a0 0)] (wRef k a0 S0) (rSummed (S0 1) 0) (wRef k a0 (upA (up2 (up2 S0 0 8 0) 0 4 1) 3 (cpyZ (S0 1) (S0 3) 0 0 125))) 0 0 := by
  refine zMi_of (cc := cX8_save) (maxL := 1) (ret := (some .int)) (by decide) rfl (Nat.le_of_ble_eq_true rfl) ?_
  intro p e s m args below meth c A ls hx hb hr hml hown hts hlocks hK hP hD hG hA hS hl
  have hown : s.vm.findClass RX8 = some m.cls := hown
  have hl : lv_has ls 1 [(0, .ref (a0 0))] := hl
  obtain ⟨H, hH⟩ : ∃ z, z = s.heap := ⟨_, rfl⟩
  obtain ⟨locs, hlc⟩ : ∃ z : List Loc, z = [] := ⟨_, rfl⟩
  rw [← hH] at hP
  have hS : va_S A s.heap H locs := by rw [hH, hlc]; exact hS
  rw [← hlc, ← hH]
  clear hlc hH
  refine lv_aload_n hx hb dX8_save_0 rfl (lv_at hl 0 rfl) ?_
  refine lv_iconst (v := iI 0) hx hb dX8_save_1 rfl ?_
  refine va_put (D := D) (ci := 10) (v := .int (iI 0)) (ty := .int) (C := RX8) (T := TX8) (N := 19) hx hb hts (fun w h => List.mem_cons_of_mem _ (List.mem_append_left _ (List.mem_append_right _ h))) tyX8 tyX8_ok nmX8 hown hK hP hD hS 0 rfl rfl 8 (by decide) (hts (.fieldLink RX8 40 "MondayFactoryModel" "code" "I") (List.mem_of_getElem? (i := 1) rfl)) (fun _ h9 => h9) rfl (by decide +kernel) rfl rfl (Nat.le_of_ble_eq_true rfl) dX8_save_2 (fun H locs hP hD hS => ?_)
  have hP : va_P D vwCl (wRef k a0 (up2 S0 0 8 0)) H := hP
  have hD : va_D A (wRef k a0 (up2 S0 0 8 0)) := hD
  refine lv_aload_n hx hb dX8_save_5 rfl (lv_at hl 0 rfl) ?_
  refine lv_iconst (v := iI 1) hx hb dX8_save_6 rfl ?_
  refine va_put (D := D) (ci := 10) (v := .int (iI 1)) (ty := .boolean) (C := RX8) (T := TX8) (N := 19) hx hb hts (fun w h => List.mem_cons_of_mem _ (List.mem_append_left _ (List.mem_append_right _ h))) tyX8 tyX8_ok nmX8 hown hK hP hD hS 0 rfl rfl 4 (by decide) (hts (.fieldLink RX8 235 "MondayFactoryModel" "isSaved" "Z") (List.mem_of_getElem? (i := 2) rfl)) (fun _ h9 => h9) rfl (by decide +kernel) rfl rfl (Nat.le_of_ble_eq_true rfl) dX8_save_7 (fun H locs hP hD hS => ?_)
  have hP : va_P D vwCl (wRef k a0 (up2 (up2 S0 0 8 0) 0 4 1)) H := hP
  have hD : va_D A (wRef k a0 (up2 (up2 S0 0 8 0) 0 4 1)) := hD
  refine lv_aload_n hx hb dX8_save_10 rfl (lv_at hl 0 rfl) ?_
  refine va_get (D := D) (ci := 10) (v := .ref (a0 1)) (C := RX8) (T := TX8) (N := 19) hx hb hts (fun w h => List.mem_cons_of_mem _ (List.mem_append_left _ (List.mem_append_right _ h))) hown hK hP 0 rfl rfl 0 (by decide) (hts (.fieldLink RX8 7 "MondayFactoryModel" "g" "[I") (List.mem_of_getElem? (i := 3) rfl)) (fun _ h9 => h9) rfl dX8_save_11 ?_
  refine lv_iconst (v := iI 0) hx hb dX8_save_14 rfl ?_
  refine lv_aload_n hx hb dX8_save_15 rfl (lv_at hl 0 rfl) ?_
  refine va_get (D := D) (ci := 10) (v := .ref (a0 3)) (C := RX8) (T := TX8) (N := 19) hx hb hts (fun w h => List.mem_cons_of_mem _ (List.mem_append_left _ (List.mem_append_right _ h))) hown hK hP 0 rfl rfl 2 (by decide) (hts (.fieldLink RX8 16 "MondayFactoryModel" "saved" "[I") (List.mem_of_getElem? (i := 4) rfl)) (fun _ h9 => h9) rfl dX8_save_16 ?_
  refine lv_iconst (v := iI 0) hx hb dX8_save_19 rfl ?_
  refine z_av (va_runS (As := [.ref (a0 1), .int (iI 0), .ref (a0 3), .int (iI 0)]) (rest := []) ⟨hx, hb, hml, hown, hts⟩ (c_X8_copies l D k (subA a0 1) (sub2 (up2 (up2 S0 0 8 0) 0 4 1) 1) (subA a0 3) (sub2 (up2 (up2 S0 0 8 0) 0 4 1) 3) 125 125 0 0 (by omega) (by omega) (by omega) _) (va_cwS 4 hts gX8_save_X8_copies rfl rfl rfl (by decide +kernel) ⟨(Nat.le_of_ble_eq_true rfl), (Nat.le_of_ble_eq_true rfl)⟩) (z_preS hK hG hA hP hD hS [1, 3] rfl (by decide)) rfl rfl hl.1 rfl (lv_room (Nat.le_of_ble_eq_true rfl)) dX8_save_20 ⟨(Nat.le_of_ble_eq_true rfl), (Nat.le_of_ble_eq_true rfl)⟩) hA hP hD hS [1, 3] rfl rfl (fun H locs hP hD hS => ?_)
  have hP : va_P D vwCl (wRef k a0 (upA (up2 (up2 S0 0 8 0) 0 4 1) 3 (cpyZ (S0 1) (S0 3) 0 0 125))) H := hP
  have hD : va_D A (wRef k a0 (upA (up2 (up2 S0 0 8 0) 0 4 1) 3 (cpyZ (S0 1) (S0 3) 0 0 125))) := hD
  refine lv_aload_n hx hb dX8_save_23 rfl (lv_at hl 0 rfl) ?_
  refine lv_iconst (v := iI 0) hx hb dX8_save_24 rfl ?_
  refine z_ai0 (va_runV (As := [.int (iI 0)]) (rest := []) ⟨hx, hb, hml, hown, hts⟩ (c_X8_summed l D k a0 (upA (up2 (up2 S0 0 8 0) 0 4 1) 3 (cpyZ (S0 1) (S0 3) 0 0 125))  0 hB hT hC (by omega) _) (cwV 1 hts gX8_save_X8_summed rfl rfl rfl (by decide +kernel) ⟨(Nat.le_of_ble_eq_true rfl), (Nat.le_of_ble_eq_true rfl)⟩) (z_preV hK hG hA hP hD hS [0, 1, 2, 3, 4, 5, 6, 7] rfl (by decide) 10 rfl rfl) rfl rfl hl.1 rfl (lv_room (Nat.le_of_ble_eq_true rfl)) dX8_save_25 ⟨(Nat.le_of_ble_eq_true rfl), (Nat.le_of_ble_eq_true rfl)⟩) hA hP hD hS [0, 1, 2, 3, 4, 5, 6, 7] rfl (fun H locs hP hS => ?_)
  refine z_eqi (z2 := rSummed (S0 1) 0) rfl ?_
  have q_1 : -15000000 ≤ rSummed (S0 1) 0 ∧ rSummed (S0 1) 0 ≤ 15000000 := rSummed_bd (G := S0 1) hT hC 0
  exact z_iret hx hb hr hlocks hP hS dX8_save_28 rfl rfl (Nat.le_refl _) (Nat.le_refl _)
noncomputable def sp_X8_restore (S0 : Nat → Nat → Int) : Int := zif ((S0 0 4) = 0)
  (0)
  (rSummed ((cpyZ (S0 3) (S0 1) 0 0 125)) 0)
noncomputable def sS0_0_X8_restore (S0 : Nat → Nat → Int) : (Nat → Int) := zif ((S0 0 4) = 0)
  (upZ (upZ (S0 0) 8 1) 7 0)
  (upZ (upZ (upZ (S0 0) 8 0) 7 0) 5 0)
noncomputable def sS0_1_X8_restore (S0 : Nat → Nat → Int) : (Nat → Int) := zif ((S0 0 4) = 0)
  (S0 1)
  (cpyZ (S0 3) (S0 1) 0 0 125)
set_option maxHeartbeats 4000000 in
set_option maxRecDepth 100000 in
theorem c_X8_restore (l : Launch) (D : va_G) (k : Nat → ClassId) (a0 : Nat → Nat) (S0 : Nat → Nat → Int) (hB0 : zBf (S0 0)) (hsv : S0 0 4 = 0 ∨ S0 0 4 = 1) (hT : zBt (cpyZ (S0 3) (S0 1) 0 0 125)) (hC : ∀ b : Int, 0 ≤ b → b ≤ 2 → 0 ≤ (cpyZ (S0 3) (S0 1) 0 0 125) (15 + 26 * b + 0).toNat ∧ (cpyZ (S0 3) (S0 1) 0 0 125) (15 + 26 * b + 0).toNat ≤ 5) : zMi l yX8_restore wsX8_restore ({ frames := 5, cells := 0, slots := 0, locals := 113 } : Room) D k [.ref (a0 0)] (wRef k a0 S0) (sp_X8_restore S0) (wRef k a0 (upA (upA S0 0 (sS0_0_X8_restore S0)) 1 (sS0_1_X8_restore S0))) 0 0 := by
  refine zMi_of (cc := cX8_restore) (maxL := 1) (ret := (some .int)) (by decide) rfl (Nat.le_of_ble_eq_true rfl) ?_
  intro p e s m args below meth c A ls hx hb hr hml hown hts hlocks hK hP hD hG hA hS hl
  have hown : s.vm.findClass RX8 = some m.cls := hown
  have hl : lv_has ls 1 [(0, .ref (a0 0))] := hl
  obtain ⟨H, hH⟩ : ∃ z, z = s.heap := ⟨_, rfl⟩
  obtain ⟨locs, hlc⟩ : ∃ z : List Loc, z = [] := ⟨_, rfl⟩
  rw [← hH] at hP
  have hS : va_S A s.heap H locs := by rw [hH, hlc]; exact hS
  rw [← hlc, ← hH]
  clear hlc hH
  refine lv_aload_n hx hb dX8_restore_0 rfl (lv_at hl 0 rfl) ?_
  refine lv_aload_n hx hb dX8_restore_1 rfl (lv_at hl 0 rfl) ?_
  have f_1 := hB0 4
  refine va_get (D := D) (ci := 10) (v := .int (iI (S0 0 4))) (C := RX8) (T := TX8) (N := 19) hx hb hts (fun w h => List.mem_cons_of_mem _ (List.mem_append_left _ (List.mem_append_right _ h))) hown hK hP 0 rfl rfl 4 (by decide) (hts (.fieldLink RX8 235 "MondayFactoryModel" "isSaved" "Z") (List.mem_of_getElem? (i := 1) rfl)) (fun _ h9 => h9) rfl dX8_restore_2 ?_
  refine zi_if_eq (tgt := 12) hx hb dX8_restore_5 (by decide) ⟨by omega, by omega⟩ (fun c_2 => ?_) (fun c_2 => ?_)
  · refine lv_iconst (v := iI 1) hx hb dX8_restore_12 rfl ?_
    refine z_ai (va_runV (As := [.int (iI 1)]) (rest := []) ⟨hx, hb, hml, hown, hts⟩ (c_X8_fails l D k a0 S0  1 (by omega) _) (cwV 1 hts gX8_restore_X8_fails rfl rfl rfl (by decide +kernel) ⟨(Nat.le_of_ble_eq_true rfl), (Nat.le_of_ble_eq_true rfl)⟩) (z_preV hK hG hA hP hD hS [0, 1, 2, 3, 4, 5, 6, 7] rfl (by decide) 10 rfl rfl) rfl rfl hl.1 rfl (lv_room (Nat.le_of_ble_eq_true rfl)) dX8_restore_13 ⟨(Nat.le_of_ble_eq_true rfl), (Nat.le_of_ble_eq_true rfl)⟩) hA hP hD hS [0, 1, 2, 3, 4, 5, 6, 7] rfl rfl (fun H locs hP hD hS => ?_)
    have hP : va_P D vwCl (wRef k a0 (upA S0 0 (upZ (upZ (S0 0) 8 1) 7 0))) H := hP
    have hD : va_D A (wRef k a0 (upA S0 0 (upZ (upZ (S0 0) 8 1) 7 0))) := hD
    refine zi_if_eqB (tgt := 21) hx hb dX8_restore_16 (by decide) (fun c_3 => absurd c_3 (by decide)) (fun _ => ?_)
    refine lv_iconst (v := iI 0) hx hb dX8_restore_19 rfl ?_
    exact z_iret hx hb hr hlocks hP hS dX8_restore_20 (Eq.trans (zif_pos c_2) rfl) (Eq.trans (congrArg (fun z => wRef k a0 (upA (upA S0 0 z) 1 (sS0_1_X8_restore S0))) (show sS0_0_X8_restore S0 = upZ (upZ (S0 0) 8 1) 7 0 from (Eq.trans (zif_pos c_2) rfl))) (congrArg (fun z => wRef k a0 (upA (upA S0 0 (upZ (upZ (S0 0) 8 1) 7 0)) 1 z)) (show sS0_1_X8_restore S0 = S0 1 from (Eq.trans (zif_pos c_2) rfl)))) (Nat.le_refl _) (Nat.le_refl _)
  · refine lv_iconst (v := iI 0) hx hb dX8_restore_8 rfl ?_
    refine lv_goto (tgt := 13) hx hb dX8_restore_9 (by decide) ?_
    refine z_ai (va_runV (As := [.int (iI 0)]) (rest := []) ⟨hx, hb, hml, hown, hts⟩ (c_X8_fails l D k a0 S0  0 (by omega) _) (cwV 1 hts gX8_restore_X8_fails rfl rfl rfl (by decide +kernel) ⟨(Nat.le_of_ble_eq_true rfl), (Nat.le_of_ble_eq_true rfl)⟩) (z_preV hK hG hA hP hD hS [0, 1, 2, 3, 4, 5, 6, 7] rfl (by decide) 10 rfl rfl) rfl rfl hl.1 rfl (lv_room (Nat.le_of_ble_eq_true rfl)) dX8_restore_13 ⟨(Nat.le_of_ble_eq_true rfl), (Nat.le_of_ble_eq_true rfl)⟩) hA hP hD hS [0, 1, 2, 3, 4, 5, 6, 7] rfl rfl (fun H locs hP hD hS => ?_)
    have hP : va_P D vwCl (wRef k a0 (upA S0 0 (upZ (upZ (S0 0) 8 0) 7 0))) H := hP
    have hD : va_D A (wRef k a0 (upA S0 0 (upZ (upZ (S0 0) 8 0) 7 0))) := hD
    refine zi_if_eqB (tgt := 21) hx hb dX8_restore_16 (by decide) (fun _ => ?_) (fun c_4 => absurd c_4 (by decide))
    refine lv_aload_n hx hb dX8_restore_21 rfl (lv_at hl 0 rfl) ?_
    refine va_get (D := D) (ci := 10) (v := .ref (a0 3)) (C := RX8) (T := TX8) (N := 19) hx hb hts (fun w h => List.mem_cons_of_mem _ (List.mem_append_left _ (List.mem_append_right _ h))) hown hK hP 0 rfl rfl 2 (by decide) (hts (.fieldLink RX8 16 "MondayFactoryModel" "saved" "[I") (List.mem_of_getElem? (i := 2) rfl)) (fun _ h9 => h9) rfl dX8_restore_22 ?_
    refine lv_iconst (v := iI 0) hx hb dX8_restore_25 rfl ?_
    refine lv_aload_n hx hb dX8_restore_26 rfl (lv_at hl 0 rfl) ?_
    refine va_get (D := D) (ci := 10) (v := .ref (a0 1)) (C := RX8) (T := TX8) (N := 19) hx hb hts (fun w h => List.mem_cons_of_mem _ (List.mem_append_left _ (List.mem_append_right _ h))) hown hK hP 0 rfl rfl 0 (by decide) (hts (.fieldLink RX8 7 "MondayFactoryModel" "g" "[I") (List.mem_of_getElem? (i := 3) rfl)) (fun _ h9 => h9) rfl dX8_restore_27 ?_
    refine lv_iconst (v := iI 0) hx hb dX8_restore_30 rfl ?_
    refine z_av (va_runS (As := [.ref (a0 3), .int (iI 0), .ref (a0 1), .int (iI 0)]) (rest := []) ⟨hx, hb, hml, hown, hts⟩ (c_X8_copies l D k (subA a0 3) (sub2 (upA S0 0 (upZ (upZ (S0 0) 8 0) 7 0)) 3) (subA a0 1) (sub2 (upA S0 0 (upZ (upZ (S0 0) 8 0) 7 0)) 1) 125 125 0 0 (by omega) (by omega) (by omega) _) (va_cwS 4 hts gX8_restore_X8_copies rfl rfl rfl (by decide +kernel) ⟨(Nat.le_of_ble_eq_true rfl), (Nat.le_of_ble_eq_true rfl)⟩) (z_preS hK hG hA hP hD hS [3, 1] rfl (by decide)) rfl rfl hl.1 rfl (lv_room (Nat.le_of_ble_eq_true rfl)) dX8_restore_31 ⟨(Nat.le_of_ble_eq_true rfl), (Nat.le_of_ble_eq_true rfl)⟩) hA hP hD hS [3, 1] rfl rfl (fun H locs hP hD hS => ?_)
    have hP : va_P D vwCl (wRef k a0 (upA (upA S0 0 (upZ (upZ (S0 0) 8 0) 7 0)) 1 (cpyZ (S0 3) (S0 1) 0 0 125))) H := hP
    have hD : va_D A (wRef k a0 (upA (upA S0 0 (upZ (upZ (S0 0) 8 0) 7 0)) 1 (cpyZ (S0 3) (S0 1) 0 0 125))) := hD
    refine lv_aload_n hx hb dX8_restore_34 rfl (lv_at hl 0 rfl) ?_
    refine lv_iconst (v := iI 0) hx hb dX8_restore_35 rfl ?_
    refine va_put (D := D) (ci := 10) (v := .int (iI 0)) (ty := .int) (C := RX8) (T := TX8) (N := 19) hx hb hts (fun w h => List.mem_cons_of_mem _ (List.mem_append_left _ (List.mem_append_right _ h))) tyX8 tyX8_ok nmX8 hown hK hP hD hS 0 rfl rfl 5 (by decide) (hts (.fieldLink RX8 56 "MondayFactoryModel" "changes" "I") (List.mem_of_getElem? (i := 4) rfl)) (fun _ h9 => h9) rfl (by decide +kernel) rfl rfl (Nat.le_of_ble_eq_true rfl) dX8_restore_36 (fun H locs hP hD hS => ?_)
    have hP : va_P D vwCl (wRef k a0 (up2 (upA (upA S0 0 (upZ (upZ (S0 0) 8 0) 7 0)) 1 (cpyZ (S0 3) (S0 1) 0 0 125)) 0 5 0)) H := hP
    have hD : va_D A (wRef k a0 (up2 (upA (upA S0 0 (upZ (upZ (S0 0) 8 0) 7 0)) 1 (cpyZ (S0 3) (S0 1) 0 0 125)) 0 5 0)) := hD
    refine lv_aload_n hx hb dX8_restore_39 rfl (lv_at hl 0 rfl) ?_
    refine lv_iconst (v := iI 0) hx hb dX8_restore_40 rfl ?_
    refine z_ai0 (va_runV (As := [.int (iI 0)]) (rest := []) ⟨hx, hb, hml, hown, hts⟩ (c_X8_summed l D k a0 (up2 (upA (upA S0 0 (upZ (upZ (S0 0) 8 0) 7 0)) 1 (cpyZ (S0 3) (S0 1) 0 0 125)) 0 5 0)  0 hT.f hT hC (by omega) _) (cwV 1 hts gX8_restore_X8_summed rfl rfl rfl (by decide +kernel) ⟨(Nat.le_of_ble_eq_true rfl), (Nat.le_of_ble_eq_true rfl)⟩) (z_preV hK hG hA hP hD hS [0, 1, 2, 3, 4, 5, 6, 7] rfl (by decide) 10 rfl rfl) rfl rfl hl.1 rfl (lv_room (Nat.le_of_ble_eq_true rfl)) dX8_restore_41 ⟨(Nat.le_of_ble_eq_true rfl), (Nat.le_of_ble_eq_true rfl)⟩) hA hP hD hS [0, 1, 2, 3, 4, 5, 6, 7] rfl (fun H locs hP hS => ?_)
    refine z_eqi (z2 := rSummed ((cpyZ (S0 3) (S0 1) 0 0 125)) 0) rfl ?_
    have q_5 : -15000000 ≤ rSummed ((cpyZ (S0 3) (S0 1) 0 0 125)) 0 ∧ rSummed ((cpyZ (S0 3) (S0 1) 0 0 125)) 0 ≤ 15000000 := rSummed_bd (G := (cpyZ (S0 3) (S0 1) 0 0 125)) hT hC 0
    exact z_iret hx hb hr hlocks hP hS dX8_restore_44 (Eq.trans (zif_neg c_2) rfl) (Eq.trans (congrArg (fun z => wRef k a0 (upA (upA S0 0 z) 1 (sS0_1_X8_restore S0))) (show sS0_0_X8_restore S0 = upZ (upZ (upZ (S0 0) 8 0) 7 0) 5 0 from (Eq.trans (zif_neg c_2) rfl))) (congrArg (fun z => wRef k a0 (upA (upA S0 0 (upZ (upZ (upZ (S0 0) 8 0) 7 0) 5 0)) 1 z)) (show sS0_1_X8_restore S0 = cpyZ (S0 3) (S0 1) 0 0 125 from (Eq.trans (zif_neg c_2) rfl)))) (Nat.le_refl _) (Nat.le_refl _)
