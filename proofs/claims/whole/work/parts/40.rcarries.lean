/-- the reference's row within bounds -/
def rOK (S : Nat → Nat → Int) : Prop := zBk 900000 (S 1) ∧ zBf (S 0) ∧ (∀ b : Int, 0 ≤ b → b ≤ 2 → 0 ≤ S 1 (15 + 26 * b + 0).toNat ∧ S 1 (15 + 26 * b + 0).toNat ≤ 5) ∧ (0 ≤ S 1 9 ∧ S 1 9 ≤ 4) ∧ (0 ≤ S 1 10 ∧ S 1 10 ≤ 8) ∧ (0 ≤ S 0 5 ∧ S 0 5 ≤ 8) ∧ (S 0 6 = 0 ∨ S 0 6 = 1)
noncomputable def sp_X8_carries (S0 : Nat → Nat → Int) (p0 : Int) : Int := zif ((S0 7 p0.toNat) = 98)
  (sp_X8_blank S0 (S0 7 ((p0 + 1).toNat)))
  (zif ((S0 7 p0.toNat) = 104)
    (sp_X8_hire S0)
    (zif ((S0 7 p0.toNat) = 105)
      (sp_X8_inspect S0 (S0 7 ((p0 + 1).toNat)))
      (zif ((S0 7 p0.toNat) = 109)
        (sp_X8_make S0 (S0 7 ((p0 + 1).toNat)) (S0 7 ((p0 + 2).toNat)) (S0 7 ((p0 + 3).toNat)))
        (zif ((S0 7 p0.toNat) = 111)
          (sp_X8_leave S0 (S0 7 ((p0 + 1).toNat)))
          (zif ((S0 7 p0.toNat) = 114)
            (sp_X8_repair S0 (S0 7 ((p0 + 1).toNat)))
            (zif ((S0 7 p0.toNat) = 115)
              (sp_X8_sell S0 (S0 7 ((p0 + 1).toNat)))
              (zif ((S0 7 p0.toNat) = 116)
                (sp_X8_tell S0 (S0 7 ((p0 + 1).toNat)) (S0 7 ((p0 + 2).toNat)) (S0 7 ((p0 + 3).toNat)))
                (sp_X8_week S0))))))))
noncomputable def sS0_0_X8_carries (S0 : Nat → Nat → Int) (p0 : Int) : (Nat → Int) := zif ((S0 7 p0.toNat) = 98)
  (sS0_0_X8_blank S0 (S0 7 ((p0 + 1).toNat)))
  (zif ((S0 7 p0.toNat) = 104)
    (sS0_0_X8_hire S0)
    (zif ((S0 7 p0.toNat) = 105)
      (sS0_0_X8_inspect S0 (S0 7 ((p0 + 1).toNat)))
      (zif ((S0 7 p0.toNat) = 109)
        (sS0_0_X8_make S0 (S0 7 ((p0 + 1).toNat)) (S0 7 ((p0 + 2).toNat)) (S0 7 ((p0 + 3).toNat)))
        (zif ((S0 7 p0.toNat) = 111)
          (sS0_0_X8_leave S0 (S0 7 ((p0 + 1).toNat)))
          (zif ((S0 7 p0.toNat) = 114)
            (sS0_0_X8_repair S0 (S0 7 ((p0 + 1).toNat)))
            (zif ((S0 7 p0.toNat) = 115)
              (sS0_0_X8_sell S0 (S0 7 ((p0 + 1).toNat)))
              (zif ((S0 7 p0.toNat) = 116)
                (sS0_0_X8_tell S0 (S0 7 ((p0 + 1).toNat)) (S0 7 ((p0 + 2).toNat)) (S0 7 ((p0 + 3).toNat)))
                (sS0_0_X8_week S0))))))))
noncomputable def sS0_1_X8_carries (S0 : Nat → Nat → Int) (p0 : Int) : (Nat → Int) := zif ((S0 7 p0.toNat) = 98)
  (sS0_1_X8_blank S0 (S0 7 ((p0 + 1).toNat)))
  (zif ((S0 7 p0.toNat) = 104)
    (sS0_1_X8_hire S0)
    (zif ((S0 7 p0.toNat) = 105)
      (sS0_1_X8_inspect S0 (S0 7 ((p0 + 1).toNat)))
      (zif ((S0 7 p0.toNat) = 109)
        (sS0_1_X8_make S0 (S0 7 ((p0 + 1).toNat)) (S0 7 ((p0 + 2).toNat)) (S0 7 ((p0 + 3).toNat)))
        (zif ((S0 7 p0.toNat) = 111)
          (sS0_1_X8_leave S0 (S0 7 ((p0 + 1).toNat)))
          (zif ((S0 7 p0.toNat) = 114)
            (sS0_1_X8_repair S0 (S0 7 ((p0 + 1).toNat)))
            (zif ((S0 7 p0.toNat) = 115)
              (sS0_1_X8_sell S0 (S0 7 ((p0 + 1).toNat)))
              (zif ((S0 7 p0.toNat) = 116)
                (sS0_1_X8_tell S0 (S0 7 ((p0 + 1).toNat)) (S0 7 ((p0 + 2).toNat)) (S0 7 ((p0 + 3).toNat)))
                (sS0_1_X8_week S0))))))))
noncomputable def sS0_2_X8_carries (S0 : Nat → Nat → Int) (p0 : Int) : (Nat → Int) := zif ((S0 7 p0.toNat) = 98)
  (sS0_2_X8_blank S0 (S0 7 ((p0 + 1).toNat)))
  (zif ((S0 7 p0.toNat) = 104)
    (sS0_2_X8_hire S0)
    (zif ((S0 7 p0.toNat) = 105)
      (sS0_2_X8_inspect S0 (S0 7 ((p0 + 1).toNat)))
      (zif ((S0 7 p0.toNat) = 109)
        (sS0_2_X8_make S0 (S0 7 ((p0 + 1).toNat)) (S0 7 ((p0 + 2).toNat)) (S0 7 ((p0 + 3).toNat)))
        (zif ((S0 7 p0.toNat) = 111)
          (sS0_2_X8_leave S0 (S0 7 ((p0 + 1).toNat)))
          (zif ((S0 7 p0.toNat) = 114)
            (sS0_2_X8_repair S0 (S0 7 ((p0 + 1).toNat)))
            (zif ((S0 7 p0.toNat) = 115)
              (sS0_2_X8_sell S0 (S0 7 ((p0 + 1).toNat)))
              (zif ((S0 7 p0.toNat) = 116)
                (sS0_2_X8_tell S0 (S0 7 ((p0 + 1).toNat)) (S0 7 ((p0 + 2).toNat)) (S0 7 ((p0 + 3).toNat)))
                (sS0_2_X8_week S0))))))))
set_option maxHeartbeats 4000000 in
set_option maxRecDepth 100000 in
theorem c_X8_carries (l : Launch) (D : va_G) (k : Nat → ClassId) (a0 : Nat → Nat) (S0 : Nat → Nat → Int) (p0 : Int) (hB : zBf (S0 1)) (hT : zBt (S0 1)) (hB0 : zBf (S0 0)) (hC : ∀ b : Int, 0 ≤ b → b ≤ 2 → 0 ≤ S0 1 (15 + 26 * b + 0).toNat ∧ S0 1 (15 + 26 * b + 0).toNat ≤ 5) (hI : 0 ≤ S0 1 9 ∧ S0 1 9 ≤ 4) (hF : 0 ≤ S0 1 10 ∧ S0 1 10 ≤ 8) (hch : 0 ≤ S0 0 5 ∧ S0 0 5 ≤ 8) (hw : S0 0 6 = 0 ∨ S0 0 6 = 1) (hB7 : zBf (S0 7)) (h0 : 0 ≤ p0 ∧ p0 ≤ 120) : zMi l yX8_carries wsX8_carries ({ frames := 6, cells := 0, slots := 0, locals := 136 } : Room) D k [.ref (a0 0), .int (iI p0)] (wRef k a0 S0) (sp_X8_carries S0 p0) (wRef k a0 (upA (upA (upA S0 0 (sS0_0_X8_carries S0 p0)) 1 (sS0_1_X8_carries S0 p0)) 2 (sS0_2_X8_carries S0 p0))) 0 0 := by
  refine zMi_of (cc := cX8_carries) (maxL := 3) (ret := (some .int)) (by decide) rfl (Nat.le_of_ble_eq_true rfl) ?_
  intro p e s m args below meth c A ls hx hb hr hml hown hts hlocks hK hP hD hG hA hS hl
  have hown : s.vm.findClass RX8 = some m.cls := hown
  have hl : lv_has ls 3 [(0, .ref (a0 0)), (1, .int (iI p0))] := hl
  obtain ⟨H, hH⟩ : ∃ z, z = s.heap := ⟨_, rfl⟩
  obtain ⟨locs, hlc⟩ : ∃ z : List Loc, z = [] := ⟨_, rfl⟩
  rw [← hH] at hP
  have hS : va_S A s.heap H locs := by rw [hH, hlc]; exact hS
  rw [← hlc, ← hH]
  clear hlc hH
  refine lv_aload_n hx hb dX8_carries_0 rfl (lv_at hl 0 rfl) ?_
  refine va_get (D := D) (ci := 10) (v := .ref (a0 7)) (C := RX8) (T := TX8) (N := 19) hx hb hts (fun w h => List.mem_cons_of_mem _ (List.mem_append_left _ (List.mem_append_right _ h))) hown hK hP 0 rfl rfl 17 (by decide) (hts (.fieldLink RX8 33 "MondayFactoryModel" "told" "[I") (List.mem_of_getElem? (i := 1) rfl)) (fun _ h9 => h9) rfl dX8_carries_1 ?_
  refine lv_iload_n hx hb dX8_carries_4 rfl (lv_at hl 1 rfl) ?_
  refine lv_iconst (v := iI 1) hx hb dX8_carries_5 rfl ?_
  refine zi_add hx hb dX8_carries_6 ?_
  refine z_iald hx hb hK hP 7 0 (f := S0 7) rfl rfl (i := p0 + 1) (by omega) (by omega) (by decide) ((p0 + 1).toNat) rfl dX8_carries_7 ?_
  have f_1 := hB7 ((p0 + 1).toNat)
  refine lv_istore_n (lv' := [(2, .int (iI (S0 7 ((p0 + 1).toNat)))), (0, .ref (a0 0)), (1, .int (iI p0))]) hx hb dX8_carries_8 rfl hl (by decide) rfl (fun ls hl => ?_)
  refine lv_aload_n hx hb dX8_carries_9 rfl (lv_at hl 1 rfl) ?_
  refine va_get (D := D) (ci := 10) (v := .ref (a0 7)) (C := RX8) (T := TX8) (N := 19) hx hb hts (fun w h => List.mem_cons_of_mem _ (List.mem_append_left _ (List.mem_append_right _ h))) hown hK hP 0 rfl rfl 17 (by decide) (hts (.fieldLink RX8 33 "MondayFactoryModel" "told" "[I") (List.mem_of_getElem? (i := 1) rfl)) (fun _ h9 => h9) rfl dX8_carries_10 ?_
  refine lv_iload_n hx hb dX8_carries_13 rfl (lv_at hl 2 rfl) ?_
  refine z_iald hx hb hK hP 7 0 (f := S0 7) rfl rfl (i := p0) (by omega) (by omega) (by decide) p0.toNat rfl dX8_carries_14 ?_
  have f_2 := hB7 p0.toNat
  by_cases w_3 : (S0 7 p0.toNat) = 98
  · refine z_tabI hx hb dX8_carries_15 (x := S0 7 p0.toNat) ⟨by omega, by omega⟩ (v := 98) w_3 (by decide) (by decide) (off := 111) (by decide) (tgt := 126) (by decide) ?_
    refine lv_aload_n hx hb dX8_carries_126 rfl (lv_at hl 1 rfl) ?_
    refine lv_iload_n hx hb dX8_carries_127 rfl (lv_at hl 0 rfl) ?_
    refine z_ai (va_runV (As := [.int (iI (S0 7 ((p0 + 1).toNat)))]) (rest := []) ⟨hx, hb, hml, hown, hts⟩ (c_X8_blank l D k a0 S0  (S0 7 ((p0 + 1).toNat)) hB hB0 hC (by omega) (by omega) (by omega) (by omega) (by omega) _) (cwV 1 hts gX8_carries_X8_blank rfl rfl rfl (by decide +kernel) ⟨(Nat.le_of_ble_eq_true rfl), (Nat.le_of_ble_eq_true rfl)⟩) (z_preV hK hG hA hP hD hS [0, 1, 2, 3, 4, 5, 6, 7] rfl (by decide) 10 rfl rfl) rfl rfl hl.1 rfl (lv_room (Nat.le_of_ble_eq_true rfl)) dX8_carries_128 ⟨(Nat.le_of_ble_eq_true rfl), (Nat.le_of_ble_eq_true rfl)⟩) hA hP hD hS [0, 1, 2, 3, 4, 5, 6, 7] rfl rfl (fun H locs hP hD hS => ?_)
    have hP : va_P D vwCl (wRef k a0 (upA (upA (upA S0 0 (sS0_0_X8_blank S0 (S0 7 ((p0 + 1).toNat)))) 1 (sS0_1_X8_blank S0 (S0 7 ((p0 + 1).toNat)))) 2 (sS0_2_X8_blank S0 (S0 7 ((p0 + 1).toNat))))) H := hP
    have hD : va_D A (wRef k a0 (upA (upA (upA S0 0 (sS0_0_X8_blank S0 (S0 7 ((p0 + 1).toNat)))) 1 (sS0_1_X8_blank S0 (S0 7 ((p0 + 1).toNat)))) 2 (sS0_2_X8_blank S0 (S0 7 ((p0 + 1).toNat))))) := hD
    have f_4 := hB7 (((p0 + 1).toNat))
    exact z_iret hx hb hr hlocks hP hS dX8_carries_131 (Eq.trans (zif_pos w_3) rfl) (Eq.trans (Eq.trans (congrArg (fun z => wRef k a0 (upA (upA (upA S0 0 z) 1 (sS0_1_X8_carries S0 p0)) 2 (sS0_2_X8_carries S0 p0))) (show sS0_0_X8_carries S0 p0 = sS0_0_X8_blank S0 (S0 7 ((p0 + 1).toNat)) from (Eq.trans (zif_pos w_3) rfl))) (congrArg (fun z => wRef k a0 (upA (upA (upA S0 0 (sS0_0_X8_blank S0 (S0 7 ((p0 + 1).toNat)))) 1 z) 2 (sS0_2_X8_carries S0 p0))) (show sS0_1_X8_carries S0 p0 = sS0_1_X8_blank S0 (S0 7 ((p0 + 1).toNat)) from (Eq.trans (zif_pos w_3) rfl)))) (congrArg (fun z => wRef k a0 (upA (upA (upA S0 0 (sS0_0_X8_blank S0 (S0 7 ((p0 + 1).toNat)))) 1 (sS0_1_X8_blank S0 (S0 7 ((p0 + 1).toNat)))) 2 z)) (show sS0_2_X8_carries S0 p0 = sS0_2_X8_blank S0 (S0 7 ((p0 + 1).toNat)) from (Eq.trans (zif_pos w_3) rfl)))) (Nat.le_refl _) (Nat.le_refl _)
  · by_cases w_5 : (S0 7 p0.toNat) = 104
    · refine z_tabI hx hb dX8_carries_15 (x := S0 7 p0.toNat) ⟨by omega, by omega⟩ (v := 104) w_5 (by decide) (by decide) (off := 145) (by decide) (tgt := 160) (by decide) ?_
      refine lv_aload_n hx hb dX8_carries_160 rfl (lv_at hl 1 rfl) ?_
      refine z_ai (va_runV (As := []) (rest := []) ⟨hx, hb, hml, hown, hts⟩ (c_X8_hire l D k a0 S0   hB hT hB0 hC (by omega) (by omega) (by omega) (by omega) _) (cwV 0 hts gX8_carries_X8_hire rfl rfl rfl (by decide +kernel) ⟨(Nat.le_of_ble_eq_true rfl), (Nat.le_of_ble_eq_true rfl)⟩) (z_preV hK hG hA hP hD hS [0, 1, 2, 3, 4, 5, 6, 7] rfl (by decide) 10 rfl rfl) rfl rfl hl.1 rfl (lv_room (Nat.le_of_ble_eq_true rfl)) dX8_carries_161 ⟨(Nat.le_of_ble_eq_true rfl), (Nat.le_of_ble_eq_true rfl)⟩) hA hP hD hS [0, 1, 2, 3, 4, 5, 6, 7] rfl rfl (fun H locs hP hD hS => ?_)
      have hP : va_P D vwCl (wRef k a0 (upA (upA (upA S0 0 (sS0_0_X8_hire S0)) 1 (sS0_1_X8_hire S0)) 2 (sS0_2_X8_hire S0))) H := hP
      have hD : va_D A (wRef k a0 (upA (upA (upA S0 0 (sS0_0_X8_hire S0)) 1 (sS0_1_X8_hire S0)) 2 (sS0_2_X8_hire S0))) := hD
      exact z_iret hx hb hr hlocks hP hS dX8_carries_164 (Eq.trans (zif_neg w_3) (Eq.trans (zif_pos w_5) rfl)) (Eq.trans (Eq.trans (congrArg (fun z => wRef k a0 (upA (upA (upA S0 0 z) 1 (sS0_1_X8_carries S0 p0)) 2 (sS0_2_X8_carries S0 p0))) (show sS0_0_X8_carries S0 p0 = sS0_0_X8_hire S0 from (Eq.trans (zif_neg w_3) (Eq.trans (zif_pos w_5) rfl)))) (congrArg (fun z => wRef k a0 (upA (upA (upA S0 0 (sS0_0_X8_hire S0)) 1 z) 2 (sS0_2_X8_carries S0 p0))) (show sS0_1_X8_carries S0 p0 = sS0_1_X8_hire S0 from (Eq.trans (zif_neg w_3) (Eq.trans (zif_pos w_5) rfl))))) (congrArg (fun z => wRef k a0 (upA (upA (upA S0 0 (sS0_0_X8_hire S0)) 1 (sS0_1_X8_hire S0)) 2 z)) (show sS0_2_X8_carries S0 p0 = sS0_2_X8_hire S0 from (Eq.trans (zif_neg w_3) (Eq.trans (zif_pos w_5) rfl))))) (Nat.le_refl _) (Nat.le_refl _)
    · by_cases w_6 : (S0 7 p0.toNat) = 105
      · refine z_tabI hx hb dX8_carries_15 (x := S0 7 p0.toNat) ⟨by omega, by omega⟩ (v := 105) w_6 (by decide) (by decide) (off := 139) (by decide) (tgt := 154) (by decide) ?_
        refine lv_aload_n hx hb dX8_carries_154 rfl (lv_at hl 1 rfl) ?_
        refine lv_iload_n hx hb dX8_carries_155 rfl (lv_at hl 0 rfl) ?_
        refine z_ai (va_runV (As := [.int (iI (S0 7 ((p0 + 1).toNat)))]) (rest := []) ⟨hx, hb, hml, hown, hts⟩ (c_X8_inspect l D k a0 S0  (S0 7 ((p0 + 1).toNat)) hB hT hB0 hC (by omega) (by omega) (by omega) (by omega) (by omega) _) (cwV 1 hts gX8_carries_X8_inspect rfl rfl rfl (by decide +kernel) ⟨(Nat.le_of_ble_eq_true rfl), (Nat.le_of_ble_eq_true rfl)⟩) (z_preV hK hG hA hP hD hS [0, 1, 2, 3, 4, 5, 6, 7] rfl (by decide) 10 rfl rfl) rfl rfl hl.1 rfl (lv_room (Nat.le_of_ble_eq_true rfl)) dX8_carries_156 ⟨(Nat.le_of_ble_eq_true rfl), (Nat.le_of_ble_eq_true rfl)⟩) hA hP hD hS [0, 1, 2, 3, 4, 5, 6, 7] rfl rfl (fun H locs hP hD hS => ?_)
        have hP : va_P D vwCl (wRef k a0 (upA (upA (upA S0 0 (sS0_0_X8_inspect S0 (S0 7 ((p0 + 1).toNat)))) 1 (sS0_1_X8_inspect S0 (S0 7 ((p0 + 1).toNat)))) 2 (sS0_2_X8_inspect S0 (S0 7 ((p0 + 1).toNat))))) H := hP
        have hD : va_D A (wRef k a0 (upA (upA (upA S0 0 (sS0_0_X8_inspect S0 (S0 7 ((p0 + 1).toNat)))) 1 (sS0_1_X8_inspect S0 (S0 7 ((p0 + 1).toNat)))) 2 (sS0_2_X8_inspect S0 (S0 7 ((p0 + 1).toNat))))) := hD
        have f_7 := hB7 (((p0 + 1).toNat))
        exact z_iret hx hb hr hlocks hP hS dX8_carries_159 (Eq.trans (zif_neg w_3) (Eq.trans (zif_neg w_5) (Eq.trans (zif_pos w_6) rfl))) (Eq.trans (Eq.trans (congrArg (fun z => wRef k a0 (upA (upA (upA S0 0 z) 1 (sS0_1_X8_carries S0 p0)) 2 (sS0_2_X8_carries S0 p0))) (show sS0_0_X8_carries S0 p0 = sS0_0_X8_inspect S0 (S0 7 ((p0 + 1).toNat)) from (Eq.trans (zif_neg w_3) (Eq.trans (zif_neg w_5) (Eq.trans (zif_pos w_6) rfl))))) (congrArg (fun z => wRef k a0 (upA (upA (upA S0 0 (sS0_0_X8_inspect S0 (S0 7 ((p0 + 1).toNat)))) 1 z) 2 (sS0_2_X8_carries S0 p0))) (show sS0_1_X8_carries S0 p0 = sS0_1_X8_inspect S0 (S0 7 ((p0 + 1).toNat)) from (Eq.trans (zif_neg w_3) (Eq.trans (zif_neg w_5) (Eq.trans (zif_pos w_6) rfl)))))) (congrArg (fun z => wRef k a0 (upA (upA (upA S0 0 (sS0_0_X8_inspect S0 (S0 7 ((p0 + 1).toNat)))) 1 (sS0_1_X8_inspect S0 (S0 7 ((p0 + 1).toNat)))) 2 z)) (show sS0_2_X8_carries S0 p0 = sS0_2_X8_inspect S0 (S0 7 ((p0 + 1).toNat)) from (Eq.trans (zif_neg w_3) (Eq.trans (zif_neg w_5) (Eq.trans (zif_pos w_6) rfl)))))) (Nat.le_refl _) (Nat.le_refl _)
      · by_cases w_8 : (S0 7 p0.toNat) = 109
        · refine z_tabI hx hb dX8_carries_15 (x := S0 7 p0.toNat) ⟨by omega, by omega⟩ (v := 109) w_8 (by decide) (by decide) (off := 89) (by decide) (tgt := 104) (by decide) ?_
          refine lv_aload_n hx hb dX8_carries_104 rfl (lv_at hl 1 rfl) ?_
          refine lv_iload_n hx hb dX8_carries_105 rfl (lv_at hl 0 rfl) ?_
          refine lv_aload_n hx hb dX8_carries_106 rfl (lv_at hl 1 rfl) ?_
          refine va_get (D := D) (ci := 10) (v := .ref (a0 7)) (C := RX8) (T := TX8) (N := 19) hx hb hts (fun w h => List.mem_cons_of_mem _ (List.mem_append_left _ (List.mem_append_right _ h))) hown hK hP 0 rfl rfl 17 (by decide) (hts (.fieldLink RX8 33 "MondayFactoryModel" "told" "[I") (List.mem_of_getElem? (i := 1) rfl)) (fun _ h9 => h9) rfl dX8_carries_107 ?_
          refine lv_iload_n hx hb dX8_carries_110 rfl (lv_at hl 2 rfl) ?_
          refine lv_iconst (v := iI 2) hx hb dX8_carries_111 rfl ?_
          refine zi_add hx hb dX8_carries_112 ?_
          refine z_iald hx hb hK hP 7 0 (f := S0 7) rfl rfl (i := p0 + 2) (by omega) (by omega) (by decide) ((p0 + 2).toNat) rfl dX8_carries_113 ?_
          have f_9 := hB7 ((p0 + 2).toNat)
          refine lv_aload_n hx hb dX8_carries_114 rfl (lv_at hl 1 rfl) ?_
          refine va_get (D := D) (ci := 10) (v := .ref (a0 7)) (C := RX8) (T := TX8) (N := 19) hx hb hts (fun w h => List.mem_cons_of_mem _ (List.mem_append_left _ (List.mem_append_right _ h))) hown hK hP 0 rfl rfl 17 (by decide) (hts (.fieldLink RX8 33 "MondayFactoryModel" "told" "[I") (List.mem_of_getElem? (i := 1) rfl)) (fun _ h9 => h9) rfl dX8_carries_115 ?_
          refine lv_iload_n hx hb dX8_carries_118 rfl (lv_at hl 2 rfl) ?_
          refine lv_iconst (v := iI 3) hx hb dX8_carries_119 rfl ?_
          refine zi_add hx hb dX8_carries_120 ?_
          refine z_iald hx hb hK hP 7 0 (f := S0 7) rfl rfl (i := p0 + 3) (by omega) (by omega) (by decide) ((p0 + 3).toNat) rfl dX8_carries_121 ?_
          have f_10 := hB7 ((p0 + 3).toNat)
          refine z_ai (va_runV (As := [.int (iI (S0 7 ((p0 + 1).toNat))), .int (iI (S0 7 ((p0 + 2).toNat))), .int (iI (S0 7 ((p0 + 3).toNat)))]) (rest := []) ⟨hx, hb, hml, hown, hts⟩ (c_X8_make l D k a0 S0  (S0 7 ((p0 + 1).toNat)) (S0 7 ((p0 + 2).toNat)) (S0 7 ((p0 + 3).toNat)) hB hB0 hC (by omega) (by omega) (by omega) (by omega) (by omega) (by omega) (by omega) _) (cwV 3 hts gX8_carries_X8_make rfl rfl rfl (by decide +kernel) ⟨(Nat.le_of_ble_eq_true rfl), (Nat.le_of_ble_eq_true rfl)⟩) (z_preV hK hG hA hP hD hS [0, 1, 2, 3, 4, 5, 6, 7] rfl (by decide) 10 rfl rfl) rfl rfl hl.1 rfl (lv_room (Nat.le_of_ble_eq_true rfl)) dX8_carries_122 ⟨(Nat.le_of_ble_eq_true rfl), (Nat.le_of_ble_eq_true rfl)⟩) hA hP hD hS [0, 1, 2, 3, 4, 5, 6, 7] rfl rfl (fun H locs hP hD hS => ?_)
          have hP : va_P D vwCl (wRef k a0 (upA (upA (upA S0 0 (sS0_0_X8_make S0 (S0 7 ((p0 + 1).toNat)) (S0 7 ((p0 + 2).toNat)) (S0 7 ((p0 + 3).toNat)))) 1 (sS0_1_X8_make S0 (S0 7 ((p0 + 1).toNat)) (S0 7 ((p0 + 2).toNat)) (S0 7 ((p0 + 3).toNat)))) 2 (sS0_2_X8_make S0 (S0 7 ((p0 + 1).toNat)) (S0 7 ((p0 + 2).toNat)) (S0 7 ((p0 + 3).toNat))))) H := hP
          have hD : va_D A (wRef k a0 (upA (upA (upA S0 0 (sS0_0_X8_make S0 (S0 7 ((p0 + 1).toNat)) (S0 7 ((p0 + 2).toNat)) (S0 7 ((p0 + 3).toNat)))) 1 (sS0_1_X8_make S0 (S0 7 ((p0 + 1).toNat)) (S0 7 ((p0 + 2).toNat)) (S0 7 ((p0 + 3).toNat)))) 2 (sS0_2_X8_make S0 (S0 7 ((p0 + 1).toNat)) (S0 7 ((p0 + 2).toNat)) (S0 7 ((p0 + 3).toNat))))) := hD
          have f_11 := hB7 (((p0 + 1).toNat))
          have f_12 := hB7 (((p0 + 2).toNat))
          have f_13 := hB7 (((p0 + 3).toNat))
          exact z_iret hx hb hr hlocks hP hS dX8_carries_125 (Eq.trans (zif_neg w_3) (Eq.trans (zif_neg w_5) (Eq.trans (zif_neg w_6) (Eq.trans (zif_pos w_8) rfl)))) (Eq.trans (Eq.trans (congrArg (fun z => wRef k a0 (upA (upA (upA S0 0 z) 1 (sS0_1_X8_carries S0 p0)) 2 (sS0_2_X8_carries S0 p0))) (show sS0_0_X8_carries S0 p0 = sS0_0_X8_make S0 (S0 7 ((p0 + 1).toNat)) (S0 7 ((p0 + 2).toNat)) (S0 7 ((p0 + 3).toNat)) from (Eq.trans (zif_neg w_3) (Eq.trans (zif_neg w_5) (Eq.trans (zif_neg w_6) (Eq.trans (zif_pos w_8) rfl)))))) (congrArg (fun z => wRef k a0 (upA (upA (upA S0 0 (sS0_0_X8_make S0 (S0 7 ((p0 + 1).toNat)) (S0 7 ((p0 + 2).toNat)) (S0 7 ((p0 + 3).toNat)))) 1 z) 2 (sS0_2_X8_carries S0 p0))) (show sS0_1_X8_carries S0 p0 = sS0_1_X8_make S0 (S0 7 ((p0 + 1).toNat)) (S0 7 ((p0 + 2).toNat)) (S0 7 ((p0 + 3).toNat)) from (Eq.trans (zif_neg w_3) (Eq.trans (zif_neg w_5) (Eq.trans (zif_neg w_6) (Eq.trans (zif_pos w_8) rfl))))))) (congrArg (fun z => wRef k a0 (upA (upA (upA S0 0 (sS0_0_X8_make S0 (S0 7 ((p0 + 1).toNat)) (S0 7 ((p0 + 2).toNat)) (S0 7 ((p0 + 3).toNat)))) 1 (sS0_1_X8_make S0 (S0 7 ((p0 + 1).toNat)) (S0 7 ((p0 + 2).toNat)) (S0 7 ((p0 + 3).toNat)))) 2 z)) (show sS0_2_X8_carries S0 p0 = sS0_2_X8_make S0 (S0 7 ((p0 + 1).toNat)) (S0 7 ((p0 + 2).toNat)) (S0 7 ((p0 + 3).toNat)) from (Eq.trans (zif_neg w_3) (Eq.trans (zif_neg w_5) (Eq.trans (zif_neg w_6) (Eq.trans (zif_pos w_8) rfl))))))) (Nat.le_refl _) (Nat.le_refl _)
        · by_cases w_14 : (S0 7 p0.toNat) = 111
          · refine z_tabI hx hb dX8_carries_15 (x := S0 7 p0.toNat) ⟨by omega, by omega⟩ (v := 111) w_14 (by decide) (by decide) (off := 150) (by decide) (tgt := 165) (by decide) ?_
            refine lv_aload_n hx hb dX8_carries_165 rfl (lv_at hl 1 rfl) ?_
            refine lv_iload_n hx hb dX8_carries_166 rfl (lv_at hl 0 rfl) ?_
            refine z_ai (va_runV (As := [.int (iI (S0 7 ((p0 + 1).toNat)))]) (rest := []) ⟨hx, hb, hml, hown, hts⟩ (c_X8_leave l D k a0 S0  (S0 7 ((p0 + 1).toNat)) hB hT hB0 hC (by omega) (by omega) (by omega) (by omega) (by omega) _) (cwV 1 hts gX8_carries_X8_leave rfl rfl rfl (by decide +kernel) ⟨(Nat.le_of_ble_eq_true rfl), (Nat.le_of_ble_eq_true rfl)⟩) (z_preV hK hG hA hP hD hS [0, 1, 2, 3, 4, 5, 6, 7] rfl (by decide) 10 rfl rfl) rfl rfl hl.1 rfl (lv_room (Nat.le_of_ble_eq_true rfl)) dX8_carries_167 ⟨(Nat.le_of_ble_eq_true rfl), (Nat.le_of_ble_eq_true rfl)⟩) hA hP hD hS [0, 1, 2, 3, 4, 5, 6, 7] rfl rfl (fun H locs hP hD hS => ?_)
            have hP : va_P D vwCl (wRef k a0 (upA (upA (upA S0 0 (sS0_0_X8_leave S0 (S0 7 ((p0 + 1).toNat)))) 1 (sS0_1_X8_leave S0 (S0 7 ((p0 + 1).toNat)))) 2 (sS0_2_X8_leave S0 (S0 7 ((p0 + 1).toNat))))) H := hP
            have hD : va_D A (wRef k a0 (upA (upA (upA S0 0 (sS0_0_X8_leave S0 (S0 7 ((p0 + 1).toNat)))) 1 (sS0_1_X8_leave S0 (S0 7 ((p0 + 1).toNat)))) 2 (sS0_2_X8_leave S0 (S0 7 ((p0 + 1).toNat))))) := hD
            have f_15 := hB7 (((p0 + 1).toNat))
            exact z_iret hx hb hr hlocks hP hS dX8_carries_170 (Eq.trans (zif_neg w_3) (Eq.trans (zif_neg w_5) (Eq.trans (zif_neg w_6) (Eq.trans (zif_neg w_8) (Eq.trans (zif_pos w_14) rfl))))) (Eq.trans (Eq.trans (congrArg (fun z => wRef k a0 (upA (upA (upA S0 0 z) 1 (sS0_1_X8_carries S0 p0)) 2 (sS0_2_X8_carries S0 p0))) (show sS0_0_X8_carries S0 p0 = sS0_0_X8_leave S0 (S0 7 ((p0 + 1).toNat)) from (Eq.trans (zif_neg w_3) (Eq.trans (zif_neg w_5) (Eq.trans (zif_neg w_6) (Eq.trans (zif_neg w_8) (Eq.trans (zif_pos w_14) rfl))))))) (congrArg (fun z => wRef k a0 (upA (upA (upA S0 0 (sS0_0_X8_leave S0 (S0 7 ((p0 + 1).toNat)))) 1 z) 2 (sS0_2_X8_carries S0 p0))) (show sS0_1_X8_carries S0 p0 = sS0_1_X8_leave S0 (S0 7 ((p0 + 1).toNat)) from (Eq.trans (zif_neg w_3) (Eq.trans (zif_neg w_5) (Eq.trans (zif_neg w_6) (Eq.trans (zif_neg w_8) (Eq.trans (zif_pos w_14) rfl)))))))) (congrArg (fun z => wRef k a0 (upA (upA (upA S0 0 (sS0_0_X8_leave S0 (S0 7 ((p0 + 1).toNat)))) 1 (sS0_1_X8_leave S0 (S0 7 ((p0 + 1).toNat)))) 2 z)) (show sS0_2_X8_carries S0 p0 = sS0_2_X8_leave S0 (S0 7 ((p0 + 1).toNat)) from (Eq.trans (zif_neg w_3) (Eq.trans (zif_neg w_5) (Eq.trans (zif_neg w_6) (Eq.trans (zif_neg w_8) (Eq.trans (zif_pos w_14) rfl)))))))) (Nat.le_refl _) (Nat.le_refl _)
          · by_cases w_16 : (S0 7 p0.toNat) = 114
            · refine z_tabI hx hb dX8_carries_15 (x := S0 7 p0.toNat) ⟨by omega, by omega⟩ (v := 114) w_16 (by decide) (by decide) (off := 162) (by decide) (tgt := 177) (by decide) ?_
              refine lv_aload_n hx hb dX8_carries_177 rfl (lv_at hl 1 rfl) ?_
              refine lv_iload_n hx hb dX8_carries_178 rfl (lv_at hl 0 rfl) ?_
              refine z_ai (va_runV (As := [.int (iI (S0 7 ((p0 + 1).toNat)))]) (rest := []) ⟨hx, hb, hml, hown, hts⟩ (c_X8_repair l D k a0 S0  (S0 7 ((p0 + 1).toNat)) hB hT hB0 hC (by omega) (by omega) (by omega) (by omega) (by omega) _) (cwV 1 hts gX8_carries_X8_repair rfl rfl rfl (by decide +kernel) ⟨(Nat.le_of_ble_eq_true rfl), (Nat.le_of_ble_eq_true rfl)⟩) (z_preV hK hG hA hP hD hS [0, 1, 2, 3, 4, 5, 6, 7] rfl (by decide) 10 rfl rfl) rfl rfl hl.1 rfl (lv_room (Nat.le_of_ble_eq_true rfl)) dX8_carries_179 ⟨(Nat.le_of_ble_eq_true rfl), (Nat.le_of_ble_eq_true rfl)⟩) hA hP hD hS [0, 1, 2, 3, 4, 5, 6, 7] rfl rfl (fun H locs hP hD hS => ?_)
              have hP : va_P D vwCl (wRef k a0 (upA (upA (upA S0 0 (sS0_0_X8_repair S0 (S0 7 ((p0 + 1).toNat)))) 1 (sS0_1_X8_repair S0 (S0 7 ((p0 + 1).toNat)))) 2 (sS0_2_X8_repair S0 (S0 7 ((p0 + 1).toNat))))) H := hP
              have hD : va_D A (wRef k a0 (upA (upA (upA S0 0 (sS0_0_X8_repair S0 (S0 7 ((p0 + 1).toNat)))) 1 (sS0_1_X8_repair S0 (S0 7 ((p0 + 1).toNat)))) 2 (sS0_2_X8_repair S0 (S0 7 ((p0 + 1).toNat))))) := hD
              have f_17 := hB7 (((p0 + 1).toNat))
              exact z_iret hx hb hr hlocks hP hS dX8_carries_182 (Eq.trans (zif_neg w_3) (Eq.trans (zif_neg w_5) (Eq.trans (zif_neg w_6) (Eq.trans (zif_neg w_8) (Eq.trans (zif_neg w_14) (Eq.trans (zif_pos w_16) rfl)))))) (Eq.trans (Eq.trans (congrArg (fun z => wRef k a0 (upA (upA (upA S0 0 z) 1 (sS0_1_X8_carries S0 p0)) 2 (sS0_2_X8_carries S0 p0))) (show sS0_0_X8_carries S0 p0 = sS0_0_X8_repair S0 (S0 7 ((p0 + 1).toNat)) from (Eq.trans (zif_neg w_3) (Eq.trans (zif_neg w_5) (Eq.trans (zif_neg w_6) (Eq.trans (zif_neg w_8) (Eq.trans (zif_neg w_14) (Eq.trans (zif_pos w_16) rfl)))))))) (congrArg (fun z => wRef k a0 (upA (upA (upA S0 0 (sS0_0_X8_repair S0 (S0 7 ((p0 + 1).toNat)))) 1 z) 2 (sS0_2_X8_carries S0 p0))) (show sS0_1_X8_carries S0 p0 = sS0_1_X8_repair S0 (S0 7 ((p0 + 1).toNat)) from (Eq.trans (zif_neg w_3) (Eq.trans (zif_neg w_5) (Eq.trans (zif_neg w_6) (Eq.trans (zif_neg w_8) (Eq.trans (zif_neg w_14) (Eq.trans (zif_pos w_16) rfl))))))))) (congrArg (fun z => wRef k a0 (upA (upA (upA S0 0 (sS0_0_X8_repair S0 (S0 7 ((p0 + 1).toNat)))) 1 (sS0_1_X8_repair S0 (S0 7 ((p0 + 1).toNat)))) 2 z)) (show sS0_2_X8_carries S0 p0 = sS0_2_X8_repair S0 (S0 7 ((p0 + 1).toNat)) from (Eq.trans (zif_neg w_3) (Eq.trans (zif_neg w_5) (Eq.trans (zif_neg w_6) (Eq.trans (zif_neg w_8) (Eq.trans (zif_neg w_14) (Eq.trans (zif_pos w_16) rfl))))))))) (Nat.le_refl _) (Nat.le_refl _)
            · by_cases w_18 : (S0 7 p0.toNat) = 115
              · refine z_tabI hx hb dX8_carries_15 (x := S0 7 p0.toNat) ⟨by omega, by omega⟩ (v := 115) w_18 (by decide) (by decide) (off := 156) (by decide) (tgt := 171) (by decide) ?_
                refine lv_aload_n hx hb dX8_carries_171 rfl (lv_at hl 1 rfl) ?_
                refine lv_iload_n hx hb dX8_carries_172 rfl (lv_at hl 0 rfl) ?_
                refine z_ai (va_runV (As := [.int (iI (S0 7 ((p0 + 1).toNat)))]) (rest := []) ⟨hx, hb, hml, hown, hts⟩ (c_X8_sell l D k a0 S0  (S0 7 ((p0 + 1).toNat)) hB hT hB0 hC (by omega) (by omega) (by omega) (by omega) (by omega) _) (cwV 1 hts gX8_carries_X8_sell rfl rfl rfl (by decide +kernel) ⟨(Nat.le_of_ble_eq_true rfl), (Nat.le_of_ble_eq_true rfl)⟩) (z_preV hK hG hA hP hD hS [0, 1, 2, 3, 4, 5, 6, 7] rfl (by decide) 10 rfl rfl) rfl rfl hl.1 rfl (lv_room (Nat.le_of_ble_eq_true rfl)) dX8_carries_173 ⟨(Nat.le_of_ble_eq_true rfl), (Nat.le_of_ble_eq_true rfl)⟩) hA hP hD hS [0, 1, 2, 3, 4, 5, 6, 7] rfl rfl (fun H locs hP hD hS => ?_)
                have hP : va_P D vwCl (wRef k a0 (upA (upA (upA S0 0 (sS0_0_X8_sell S0 (S0 7 ((p0 + 1).toNat)))) 1 (sS0_1_X8_sell S0 (S0 7 ((p0 + 1).toNat)))) 2 (sS0_2_X8_sell S0 (S0 7 ((p0 + 1).toNat))))) H := hP
                have hD : va_D A (wRef k a0 (upA (upA (upA S0 0 (sS0_0_X8_sell S0 (S0 7 ((p0 + 1).toNat)))) 1 (sS0_1_X8_sell S0 (S0 7 ((p0 + 1).toNat)))) 2 (sS0_2_X8_sell S0 (S0 7 ((p0 + 1).toNat))))) := hD
                have f_19 := hB7 (((p0 + 1).toNat))
                exact z_iret hx hb hr hlocks hP hS dX8_carries_176 (Eq.trans (zif_neg w_3) (Eq.trans (zif_neg w_5) (Eq.trans (zif_neg w_6) (Eq.trans (zif_neg w_8) (Eq.trans (zif_neg w_14) (Eq.trans (zif_neg w_16) (Eq.trans (zif_pos w_18) rfl))))))) (Eq.trans (Eq.trans (congrArg (fun z => wRef k a0 (upA (upA (upA S0 0 z) 1 (sS0_1_X8_carries S0 p0)) 2 (sS0_2_X8_carries S0 p0))) (show sS0_0_X8_carries S0 p0 = sS0_0_X8_sell S0 (S0 7 ((p0 + 1).toNat)) from (Eq.trans (zif_neg w_3) (Eq.trans (zif_neg w_5) (Eq.trans (zif_neg w_6) (Eq.trans (zif_neg w_8) (Eq.trans (zif_neg w_14) (Eq.trans (zif_neg w_16) (Eq.trans (zif_pos w_18) rfl))))))))) (congrArg (fun z => wRef k a0 (upA (upA (upA S0 0 (sS0_0_X8_sell S0 (S0 7 ((p0 + 1).toNat)))) 1 z) 2 (sS0_2_X8_carries S0 p0))) (show sS0_1_X8_carries S0 p0 = sS0_1_X8_sell S0 (S0 7 ((p0 + 1).toNat)) from (Eq.trans (zif_neg w_3) (Eq.trans (zif_neg w_5) (Eq.trans (zif_neg w_6) (Eq.trans (zif_neg w_8) (Eq.trans (zif_neg w_14) (Eq.trans (zif_neg w_16) (Eq.trans (zif_pos w_18) rfl)))))))))) (congrArg (fun z => wRef k a0 (upA (upA (upA S0 0 (sS0_0_X8_sell S0 (S0 7 ((p0 + 1).toNat)))) 1 (sS0_1_X8_sell S0 (S0 7 ((p0 + 1).toNat)))) 2 z)) (show sS0_2_X8_carries S0 p0 = sS0_2_X8_sell S0 (S0 7 ((p0 + 1).toNat)) from (Eq.trans (zif_neg w_3) (Eq.trans (zif_neg w_5) (Eq.trans (zif_neg w_6) (Eq.trans (zif_neg w_8) (Eq.trans (zif_neg w_14) (Eq.trans (zif_neg w_16) (Eq.trans (zif_pos w_18) rfl)))))))))) (Nat.le_refl _) (Nat.le_refl _)
              · by_cases w_20 : (S0 7 p0.toNat) = 116
                · refine z_tabI hx hb dX8_carries_15 (x := S0 7 p0.toNat) ⟨by omega, by omega⟩ (v := 116) w_20 (by decide) (by decide) (off := 117) (by decide) (tgt := 132) (by decide) ?_
                  refine lv_aload_n hx hb dX8_carries_132 rfl (lv_at hl 1 rfl) ?_
                  refine lv_iload_n hx hb dX8_carries_133 rfl (lv_at hl 0 rfl) ?_
                  refine lv_aload_n hx hb dX8_carries_134 rfl (lv_at hl 1 rfl) ?_
                  refine va_get (D := D) (ci := 10) (v := .ref (a0 7)) (C := RX8) (T := TX8) (N := 19) hx hb hts (fun w h => List.mem_cons_of_mem _ (List.mem_append_left _ (List.mem_append_right _ h))) hown hK hP 0 rfl rfl 17 (by decide) (hts (.fieldLink RX8 33 "MondayFactoryModel" "told" "[I") (List.mem_of_getElem? (i := 1) rfl)) (fun _ h9 => h9) rfl dX8_carries_135 ?_
                  refine lv_iload_n hx hb dX8_carries_138 rfl (lv_at hl 2 rfl) ?_
                  refine lv_iconst (v := iI 2) hx hb dX8_carries_139 rfl ?_
                  refine zi_add hx hb dX8_carries_140 ?_
                  refine z_iald hx hb hK hP 7 0 (f := S0 7) rfl rfl (i := p0 + 2) (by omega) (by omega) (by decide) ((p0 + 2).toNat) rfl dX8_carries_141 ?_
                  have f_21 := hB7 ((p0 + 2).toNat)
                  refine lv_aload_n hx hb dX8_carries_142 rfl (lv_at hl 1 rfl) ?_
                  refine va_get (D := D) (ci := 10) (v := .ref (a0 7)) (C := RX8) (T := TX8) (N := 19) hx hb hts (fun w h => List.mem_cons_of_mem _ (List.mem_append_left _ (List.mem_append_right _ h))) hown hK hP 0 rfl rfl 17 (by decide) (hts (.fieldLink RX8 33 "MondayFactoryModel" "told" "[I") (List.mem_of_getElem? (i := 1) rfl)) (fun _ h9 => h9) rfl dX8_carries_143 ?_
                  refine lv_iload_n hx hb dX8_carries_146 rfl (lv_at hl 2 rfl) ?_
                  refine lv_iconst (v := iI 3) hx hb dX8_carries_147 rfl ?_
                  refine zi_add hx hb dX8_carries_148 ?_
                  refine z_iald hx hb hK hP 7 0 (f := S0 7) rfl rfl (i := p0 + 3) (by omega) (by omega) (by decide) ((p0 + 3).toNat) rfl dX8_carries_149 ?_
                  have f_22 := hB7 ((p0 + 3).toNat)
                  refine z_ai (va_runV (As := [.int (iI (S0 7 ((p0 + 1).toNat))), .int (iI (S0 7 ((p0 + 2).toNat))), .int (iI (S0 7 ((p0 + 3).toNat)))]) (rest := []) ⟨hx, hb, hml, hown, hts⟩ (c_X8_tell l D k a0 S0  (S0 7 ((p0 + 1).toNat)) (S0 7 ((p0 + 2).toNat)) (S0 7 ((p0 + 3).toNat)) hB hB0 hC (by omega) (by omega) (by omega) (by omega) (by omega) (by omega) (by omega) _) (cwV 3 hts gX8_carries_X8_tell rfl rfl rfl (by decide +kernel) ⟨(Nat.le_of_ble_eq_true rfl), (Nat.le_of_ble_eq_true rfl)⟩) (z_preV hK hG hA hP hD hS [0, 1, 2, 3, 4, 5, 6, 7] rfl (by decide) 10 rfl rfl) rfl rfl hl.1 rfl (lv_room (Nat.le_of_ble_eq_true rfl)) dX8_carries_150 ⟨(Nat.le_of_ble_eq_true rfl), (Nat.le_of_ble_eq_true rfl)⟩) hA hP hD hS [0, 1, 2, 3, 4, 5, 6, 7] rfl rfl (fun H locs hP hD hS => ?_)
                  have hP : va_P D vwCl (wRef k a0 (upA (upA (upA S0 0 (sS0_0_X8_tell S0 (S0 7 ((p0 + 1).toNat)) (S0 7 ((p0 + 2).toNat)) (S0 7 ((p0 + 3).toNat)))) 1 (sS0_1_X8_tell S0 (S0 7 ((p0 + 1).toNat)) (S0 7 ((p0 + 2).toNat)) (S0 7 ((p0 + 3).toNat)))) 2 (sS0_2_X8_tell S0 (S0 7 ((p0 + 1).toNat)) (S0 7 ((p0 + 2).toNat)) (S0 7 ((p0 + 3).toNat))))) H := hP
                  have hD : va_D A (wRef k a0 (upA (upA (upA S0 0 (sS0_0_X8_tell S0 (S0 7 ((p0 + 1).toNat)) (S0 7 ((p0 + 2).toNat)) (S0 7 ((p0 + 3).toNat)))) 1 (sS0_1_X8_tell S0 (S0 7 ((p0 + 1).toNat)) (S0 7 ((p0 + 2).toNat)) (S0 7 ((p0 + 3).toNat)))) 2 (sS0_2_X8_tell S0 (S0 7 ((p0 + 1).toNat)) (S0 7 ((p0 + 2).toNat)) (S0 7 ((p0 + 3).toNat))))) := hD
                  have f_23 := hB7 (((p0 + 1).toNat))
                  have f_24 := hB7 (((p0 + 2).toNat))
                  have f_25 := hB7 (((p0 + 3).toNat))
                  exact z_iret hx hb hr hlocks hP hS dX8_carries_153 (Eq.trans (zif_neg w_3) (Eq.trans (zif_neg w_5) (Eq.trans (zif_neg w_6) (Eq.trans (zif_neg w_8) (Eq.trans (zif_neg w_14) (Eq.trans (zif_neg w_16) (Eq.trans (zif_neg w_18) (Eq.trans (zif_pos w_20) rfl)))))))) (Eq.trans (Eq.trans (congrArg (fun z => wRef k a0 (upA (upA (upA S0 0 z) 1 (sS0_1_X8_carries S0 p0)) 2 (sS0_2_X8_carries S0 p0))) (show sS0_0_X8_carries S0 p0 = sS0_0_X8_tell S0 (S0 7 ((p0 + 1).toNat)) (S0 7 ((p0 + 2).toNat)) (S0 7 ((p0 + 3).toNat)) from (Eq.trans (zif_neg w_3) (Eq.trans (zif_neg w_5) (Eq.trans (zif_neg w_6) (Eq.trans (zif_neg w_8) (Eq.trans (zif_neg w_14) (Eq.trans (zif_neg w_16) (Eq.trans (zif_neg w_18) (Eq.trans (zif_pos w_20) rfl)))))))))) (congrArg (fun z => wRef k a0 (upA (upA (upA S0 0 (sS0_0_X8_tell S0 (S0 7 ((p0 + 1).toNat)) (S0 7 ((p0 + 2).toNat)) (S0 7 ((p0 + 3).toNat)))) 1 z) 2 (sS0_2_X8_carries S0 p0))) (show sS0_1_X8_carries S0 p0 = sS0_1_X8_tell S0 (S0 7 ((p0 + 1).toNat)) (S0 7 ((p0 + 2).toNat)) (S0 7 ((p0 + 3).toNat)) from (Eq.trans (zif_neg w_3) (Eq.trans (zif_neg w_5) (Eq.trans (zif_neg w_6) (Eq.trans (zif_neg w_8) (Eq.trans (zif_neg w_14) (Eq.trans (zif_neg w_16) (Eq.trans (zif_neg w_18) (Eq.trans (zif_pos w_20) rfl))))))))))) (congrArg (fun z => wRef k a0 (upA (upA (upA S0 0 (sS0_0_X8_tell S0 (S0 7 ((p0 + 1).toNat)) (S0 7 ((p0 + 2).toNat)) (S0 7 ((p0 + 3).toNat)))) 1 (sS0_1_X8_tell S0 (S0 7 ((p0 + 1).toNat)) (S0 7 ((p0 + 2).toNat)) (S0 7 ((p0 + 3).toNat)))) 2 z)) (show sS0_2_X8_carries S0 p0 = sS0_2_X8_tell S0 (S0 7 ((p0 + 1).toNat)) (S0 7 ((p0 + 2).toNat)) (S0 7 ((p0 + 3).toNat)) from (Eq.trans (zif_neg w_3) (Eq.trans (zif_neg w_5) (Eq.trans (zif_neg w_6) (Eq.trans (zif_neg w_8) (Eq.trans (zif_neg w_14) (Eq.trans (zif_neg w_16) (Eq.trans (zif_neg w_18) (Eq.trans (zif_pos w_20) rfl))))))))))) (Nat.le_refl _) (Nat.le_refl _)
                · refine z_tabD hx hb dX8_carries_15 (x := S0 7 p0.toNat) ⟨by omega, by omega⟩ (tgt := 183) (by decide) (by rcases (show (S0 7 p0.toNat < 98 ∨ 116 < S0 7 p0.toNat) ∨ (S0 7 p0.toNat) = 99 ∨ (S0 7 p0.toNat) = 100 ∨ (S0 7 p0.toNat) = 101 ∨ (S0 7 p0.toNat) = 102 ∨ (S0 7 p0.toNat) = 103 ∨ (S0 7 p0.toNat) = 106 ∨ (S0 7 p0.toNat) = 107 ∨ (S0 7 p0.toNat) = 108 ∨ (S0 7 p0.toNat) = 110 ∨ (S0 7 p0.toNat) = 112 ∨ (S0 7 p0.toNat) = 113 by omega) with h9 | h9 | h9 | h9 | h9 | h9 | h9 | h9 | h9 | h9 | h9 | h9; (left; exact h9); (right; rw [h9]; exact ⟨_, rfl, rfl, by decide, by decide⟩); (right; rw [h9]; exact ⟨_, rfl, rfl, by decide, by decide⟩); (right; rw [h9]; exact ⟨_, rfl, rfl, by decide, by decide⟩); (right; rw [h9]; exact ⟨_, rfl, rfl, by decide, by decide⟩); (right; rw [h9]; exact ⟨_, rfl, rfl, by decide, by decide⟩); (right; rw [h9]; exact ⟨_, rfl, rfl, by decide, by decide⟩); (right; rw [h9]; exact ⟨_, rfl, rfl, by decide, by decide⟩); (right; rw [h9]; exact ⟨_, rfl, rfl, by decide, by decide⟩); (right; rw [h9]; exact ⟨_, rfl, rfl, by decide, by decide⟩); (right; rw [h9]; exact ⟨_, rfl, rfl, by decide, by decide⟩); (right; rw [h9]; exact ⟨_, rfl, rfl, by decide, by decide⟩)) ?_
                  refine lv_aload_n hx hb dX8_carries_183 rfl (lv_at hl 1 rfl) ?_
                  refine z_ai (va_runV (As := []) (rest := []) ⟨hx, hb, hml, hown, hts⟩ (c_X8_week l D k a0 S0   hB hT hB0 hC (by omega) (by omega) (by omega) (by omega) _) (cwV 0 hts gX8_carries_X8_week rfl rfl rfl (by decide +kernel) ⟨(Nat.le_of_ble_eq_true rfl), (Nat.le_of_ble_eq_true rfl)⟩) (z_preV hK hG hA hP hD hS [0, 1, 2, 3, 4, 5, 6, 7] rfl (by decide) 10 rfl rfl) rfl rfl hl.1 rfl (lv_room (Nat.le_of_ble_eq_true rfl)) dX8_carries_184 ⟨(Nat.le_of_ble_eq_true rfl), (Nat.le_of_ble_eq_true rfl)⟩) hA hP hD hS [0, 1, 2, 3, 4, 5, 6, 7] rfl rfl (fun H locs hP hD hS => ?_)
                  have hP : va_P D vwCl (wRef k a0 (upA (upA (upA S0 0 (sS0_0_X8_week S0)) 1 (sS0_1_X8_week S0)) 2 (sS0_2_X8_week S0))) H := hP
                  have hD : va_D A (wRef k a0 (upA (upA (upA S0 0 (sS0_0_X8_week S0)) 1 (sS0_1_X8_week S0)) 2 (sS0_2_X8_week S0))) := hD
                  exact z_iret hx hb hr hlocks hP hS dX8_carries_187 (Eq.trans (zif_neg w_3) (Eq.trans (zif_neg w_5) (Eq.trans (zif_neg w_6) (Eq.trans (zif_neg w_8) (Eq.trans (zif_neg w_14) (Eq.trans (zif_neg w_16) (Eq.trans (zif_neg w_18) (Eq.trans (zif_neg w_20) rfl)))))))) (Eq.trans (Eq.trans (congrArg (fun z => wRef k a0 (upA (upA (upA S0 0 z) 1 (sS0_1_X8_carries S0 p0)) 2 (sS0_2_X8_carries S0 p0))) (show sS0_0_X8_carries S0 p0 = sS0_0_X8_week S0 from (Eq.trans (zif_neg w_3) (Eq.trans (zif_neg w_5) (Eq.trans (zif_neg w_6) (Eq.trans (zif_neg w_8) (Eq.trans (zif_neg w_14) (Eq.trans (zif_neg w_16) (Eq.trans (zif_neg w_18) (Eq.trans (zif_neg w_20) rfl)))))))))) (congrArg (fun z => wRef k a0 (upA (upA (upA S0 0 (sS0_0_X8_week S0)) 1 z) 2 (sS0_2_X8_carries S0 p0))) (show sS0_1_X8_carries S0 p0 = sS0_1_X8_week S0 from (Eq.trans (zif_neg w_3) (Eq.trans (zif_neg w_5) (Eq.trans (zif_neg w_6) (Eq.trans (zif_neg w_8) (Eq.trans (zif_neg w_14) (Eq.trans (zif_neg w_16) (Eq.trans (zif_neg w_18) (Eq.trans (zif_neg w_20) rfl))))))))))) (congrArg (fun z => wRef k a0 (upA (upA (upA S0 0 (sS0_0_X8_week S0)) 1 (sS0_1_X8_week S0)) 2 z)) (show sS0_2_X8_carries S0 p0 = sS0_2_X8_week S0 from (Eq.trans (zif_neg w_3) (Eq.trans (zif_neg w_5) (Eq.trans (zif_neg w_6) (Eq.trans (zif_neg w_8) (Eq.trans (zif_neg w_14) (Eq.trans (zif_neg w_16) (Eq.trans (zif_neg w_18) (Eq.trans (zif_neg w_20) rfl))))))))))) (Nat.le_refl _) (Nat.le_refl _)
theorem e_X8_carries (S0 : Nat → Nat → Int) (p0 : Int) (Q : Int → (Nat → Int) → (Nat → Int) → (Nat → Int) → Prop) (L0 : ((S0 7 p0.toNat) = 98) → Q (sp_X8_blank S0 (S0 7 ((p0 + 1).toNat))) (sS0_0_X8_blank S0 (S0 7 ((p0 + 1).toNat))) (sS0_1_X8_blank S0 (S0 7 ((p0 + 1).toNat))) (sS0_2_X8_blank S0 (S0 7 ((p0 + 1).toNat))))
  (L1 : (¬ ((S0 7 p0.toNat) = 98)) → ((S0 7 p0.toNat) = 104) → Q (sp_X8_hire S0) (sS0_0_X8_hire S0) (sS0_1_X8_hire S0) (sS0_2_X8_hire S0))
  (L2 : (¬ ((S0 7 p0.toNat) = 98)) → (¬ ((S0 7 p0.toNat) = 104)) → ((S0 7 p0.toNat) = 105) → Q (sp_X8_inspect S0 (S0 7 ((p0 + 1).toNat))) (sS0_0_X8_inspect S0 (S0 7 ((p0 + 1).toNat))) (sS0_1_X8_inspect S0 (S0 7 ((p0 + 1).toNat))) (sS0_2_X8_inspect S0 (S0 7 ((p0 + 1).toNat))))
  (L3 : (¬ ((S0 7 p0.toNat) = 98)) → (¬ ((S0 7 p0.toNat) = 104)) → (¬ ((S0 7 p0.toNat) = 105)) → ((S0 7 p0.toNat) = 109) → Q (sp_X8_make S0 (S0 7 ((p0 + 1).toNat)) (S0 7 ((p0 + 2).toNat)) (S0 7 ((p0 + 3).toNat))) (sS0_0_X8_make S0 (S0 7 ((p0 + 1).toNat)) (S0 7 ((p0 + 2).toNat)) (S0 7 ((p0 + 3).toNat))) (sS0_1_X8_make S0 (S0 7 ((p0 + 1).toNat)) (S0 7 ((p0 + 2).toNat)) (S0 7 ((p0 + 3).toNat))) (sS0_2_X8_make S0 (S0 7 ((p0 + 1).toNat)) (S0 7 ((p0 + 2).toNat)) (S0 7 ((p0 + 3).toNat))))
  (L4 : (¬ ((S0 7 p0.toNat) = 98)) → (¬ ((S0 7 p0.toNat) = 104)) → (¬ ((S0 7 p0.toNat) = 105)) → (¬ ((S0 7 p0.toNat) = 109)) → ((S0 7 p0.toNat) = 111) → Q (sp_X8_leave S0 (S0 7 ((p0 + 1).toNat))) (sS0_0_X8_leave S0 (S0 7 ((p0 + 1).toNat))) (sS0_1_X8_leave S0 (S0 7 ((p0 + 1).toNat))) (sS0_2_X8_leave S0 (S0 7 ((p0 + 1).toNat))))
  (L5 : (¬ ((S0 7 p0.toNat) = 98)) → (¬ ((S0 7 p0.toNat) = 104)) → (¬ ((S0 7 p0.toNat) = 105)) → (¬ ((S0 7 p0.toNat) = 109)) → (¬ ((S0 7 p0.toNat) = 111)) → ((S0 7 p0.toNat) = 114) → Q (sp_X8_repair S0 (S0 7 ((p0 + 1).toNat))) (sS0_0_X8_repair S0 (S0 7 ((p0 + 1).toNat))) (sS0_1_X8_repair S0 (S0 7 ((p0 + 1).toNat))) (sS0_2_X8_repair S0 (S0 7 ((p0 + 1).toNat))))
  (L6 : (¬ ((S0 7 p0.toNat) = 98)) → (¬ ((S0 7 p0.toNat) = 104)) → (¬ ((S0 7 p0.toNat) = 105)) → (¬ ((S0 7 p0.toNat) = 109)) → (¬ ((S0 7 p0.toNat) = 111)) → (¬ ((S0 7 p0.toNat) = 114)) → ((S0 7 p0.toNat) = 115) → Q (sp_X8_sell S0 (S0 7 ((p0 + 1).toNat))) (sS0_0_X8_sell S0 (S0 7 ((p0 + 1).toNat))) (sS0_1_X8_sell S0 (S0 7 ((p0 + 1).toNat))) (sS0_2_X8_sell S0 (S0 7 ((p0 + 1).toNat))))
  (L7 : (¬ ((S0 7 p0.toNat) = 98)) → (¬ ((S0 7 p0.toNat) = 104)) → (¬ ((S0 7 p0.toNat) = 105)) → (¬ ((S0 7 p0.toNat) = 109)) → (¬ ((S0 7 p0.toNat) = 111)) → (¬ ((S0 7 p0.toNat) = 114)) → (¬ ((S0 7 p0.toNat) = 115)) → ((S0 7 p0.toNat) = 116) → Q (sp_X8_tell S0 (S0 7 ((p0 + 1).toNat)) (S0 7 ((p0 + 2).toNat)) (S0 7 ((p0 + 3).toNat))) (sS0_0_X8_tell S0 (S0 7 ((p0 + 1).toNat)) (S0 7 ((p0 + 2).toNat)) (S0 7 ((p0 + 3).toNat))) (sS0_1_X8_tell S0 (S0 7 ((p0 + 1).toNat)) (S0 7 ((p0 + 2).toNat)) (S0 7 ((p0 + 3).toNat))) (sS0_2_X8_tell S0 (S0 7 ((p0 + 1).toNat)) (S0 7 ((p0 + 2).toNat)) (S0 7 ((p0 + 3).toNat))))
  (L8 : (¬ ((S0 7 p0.toNat) = 98)) → (¬ ((S0 7 p0.toNat) = 104)) → (¬ ((S0 7 p0.toNat) = 105)) → (¬ ((S0 7 p0.toNat) = 109)) → (¬ ((S0 7 p0.toNat) = 111)) → (¬ ((S0 7 p0.toNat) = 114)) → (¬ ((S0 7 p0.toNat) = 115)) → (¬ ((S0 7 p0.toNat) = 116)) → Q (sp_X8_week S0) (sS0_0_X8_week S0) (sS0_1_X8_week S0) (sS0_2_X8_week S0)) : Q (sp_X8_carries S0 p0) (sS0_0_X8_carries S0 p0) (sS0_1_X8_carries S0 p0) (sS0_2_X8_carries S0 p0) := by
  unfold sp_X8_carries sS0_0_X8_carries sS0_1_X8_carries sS0_2_X8_carries
  exact (el4 (fun h0 => (L0 h0)) (fun h0 => (el4 (fun h1 => (L1 h0 h1)) (fun h1 => (el4 (fun h2 => (L2 h0 h1 h2)) (fun h2 => (el4 (fun h3 => (L3 h0 h1 h2 h3)) (fun h3 => (el4 (fun h4 => (L4 h0 h1 h2 h3 h4)) (fun h4 => (el4 (fun h5 => (L5 h0 h1 h2 h3 h4 h5)) (fun h5 => (el4 (fun h6 => (L6 h0 h1 h2 h3 h4 h5 h6)) (fun h6 => (el4 (fun h7 => (L7 h0 h1 h2 h3 h4 h5 h6 h7)) (fun h7 => (L8 h0 h1 h2 h3 h4 h5 h6 h7)))))))))))))))))
noncomputable def rCrr (S0 : Nat → Nat → Int) (p0 : Int) : Nat → Nat → Int := upA (upA (upA S0 0 (sS0_0_X8_carries S0 p0)) 1 (sS0_1_X8_carries S0 p0)) 2 (sS0_2_X8_carries S0 p0)
set_option maxHeartbeats 4000000 in
set_option maxRecDepth 100000 in
theorem c_X8_carW (l : Launch) (D : va_G) (k : Nat → ClassId) (a0 : Nat → Nat) (S0 : Nat → Nat → Int) (p0 : Int) (hB : zBf (S0 1)) (hT : zBt (S0 1)) (hB0 : zBf (S0 0)) (hC : ∀ b : Int, 0 ≤ b → b ≤ 2 → 0 ≤ S0 1 (15 + 26 * b + 0).toNat ∧ S0 1 (15 + 26 * b + 0).toNat ≤ 5) (hI : 0 ≤ S0 1 9 ∧ S0 1 9 ≤ 4) (hF : 0 ≤ S0 1 10 ∧ S0 1 10 ≤ 8) (hch : 0 ≤ S0 0 5 ∧ S0 0 5 ≤ 8) (hw : S0 0 6 = 0 ∨ S0 0 6 = 1) (hB7 : zBf (S0 7)) (h0 : 0 ≤ p0 ∧ p0 ≤ 120) : zMi l yX8_carries wsX8_carries ({ frames := 6, cells := 0, slots := 0, locals := 136 } : Room) D k [.ref (a0 0), .int (iI p0)] (wRef k a0 S0) (sp_X8_carries S0 p0) (wRef k a0 (rCrr S0 p0)) 0 0 := c_X8_carries l D k a0 S0 p0 hB hT hB0 hC hI hF hch hw hB7 h0
/-- the reference behind the first orders of a text -/
noncomputable def rPl (S : Nat → Nat → Int) : Nat → (Nat → Nat → Int)
  | 0 => S
  | n + 1 => rCrr (rPl S n) (4 * (n : Int))
theorem rPl_s {S : Nat → Nat → Int} {x : Int} (hx : 0 ≤ x) : rCrr (rPl S x.toNat) (4 * x) = rPl S (x + 1).toNat := by
  rw [show (x + 1).toNat = x.toNat + 1 by omega]
  show _ = rCrr (rPl S x.toNat) (4 * (x.toNat : Int))
  rw [show ((x.toNat : Nat) : Int) = x by omega]
