set_option maxHeartbeats 4000000 in
set_option maxRecDepth 100000 in
theorem c_X3_dueBehind (l : Launch) (D : va_G) (k : Nat → ClassId)  (p0 : Int) (p1 : Int) (h0 : -1 ≤ p0 ∧ p0 ≤ 3) (h1 : 0 ≤ p1 ∧ p1 < 65536) : zMi l yX3_dueBehind wsX3_dueBehind ({ frames := 1, cells := 0, slots := 0, locals := 20 } : Room) D k [.int (iI p0), .int (iI p1)] (([] : va_W)) (iDue p0 p1) (([] : va_W)) 0 0 := by
  refine zMi_of (cc := cX3_dueBehind) (maxL := 2) (ret := (some .int)) (by decide) rfl (Nat.le_of_ble_eq_true rfl) ?_
  intro p e s m args below meth c A ls hx hb hr hml hown hts hlocks hK hP hD hG hA hS hl
  have hown : s.vm.findClass RX3 = some m.cls := hown
  have hl : lv_has ls 2 [(0, .int (iI p0)), (1, .int (iI p1))] := hl
  obtain ⟨H, hH⟩ : ∃ z, z = s.heap := ⟨_, rfl⟩
  obtain ⟨locs, hlc⟩ : ∃ z : List Loc, z = [] := ⟨_, rfl⟩
  rw [← hH] at hP
  have hS : va_S A s.heap H locs := by rw [hH, hlc]; exact hS
  rw [← hlc, ← hH]
  clear hlc hH
  refine lv_iload_n hx hb dX3_dueBehind_0 rfl (lv_at hl 0 rfl) ?_
  refine lv_iconst (v := iI (-1)) hx hb dX3_dueBehind_1 rfl ?_
  refine zi_icmp_ne (tgt := 10) hx hb dX3_dueBehind_2 (by decide) ⟨by omega, by omega⟩ ⟨by omega, by omega⟩ (fun c_1 => ?_) (fun c_1 => ?_)
  · refine lv_iload_n hx hb dX3_dueBehind_10 rfl (lv_at hl 0 rfl) ?_
    refine zi_if_ne (tgt := 27) hx hb dX3_dueBehind_11 (by decide) ⟨by omega, by omega⟩ (fun c_2 => ?_) (fun c_2 => ?_)
    · refine lv_iload_n hx hb dX3_dueBehind_27 rfl (lv_at hl 1 rfl) ?_
      refine z_ai0 (va_runS (As := [.int (iI p1)]) (rest := []) ⟨hx, hb, hml, hown, hts⟩ (c_X3_isDigit l D k   p1 (by omega) _) (va_cwS 1 hts gX3_dueBehind_X3_isDigit rfl rfl rfl (by decide +kernel) ⟨(Nat.le_of_ble_eq_true rfl), (Nat.le_of_ble_eq_true rfl)⟩) (z_preS hK hG hA hP hD hS [] rfl (by decide)) rfl rfl hl.1 rfl (lv_room (Nat.le_of_ble_eq_true rfl)) dX3_dueBehind_28 ⟨(Nat.le_of_ble_eq_true rfl), (Nat.le_of_ble_eq_true rfl)⟩) hA hP hD hS [] rfl (fun H locs hP hS => ?_)
      refine zi_if_eqB (tgt := 40) hx hb dX3_dueBehind_31 (by decide) (fun c_3 => ?_) (fun c_3 => ?_)
      · refine lv_bipush (v := iI (-2)) hx hb dX3_dueBehind_40 (by decide) ?_
        exact z_iret hx hb hr hlocks hP hS dX3_dueBehind_42 (by unfold iDue; first | exact zif_pos (by assumption) | (rw [zif_neg (by assumption)]; first | (rw [zif_pos (by assumption)]; first | exact zif_pos (by assumption) | exact zif_neg (by assumption)) | (rw [zif_neg (by assumption)]; first | exact zif_pos (by assumption) | exact zif_neg (by assumption)))) rfl (Nat.le_refl _) (Nat.le_refl _)
      · refine lv_iload_n hx hb dX3_dueBehind_34 rfl (lv_at hl 0 rfl) ?_
        refine lv_iconst (v := iI 1) hx hb dX3_dueBehind_35 rfl ?_
        refine zi_sub hx hb dX3_dueBehind_36 ?_
        refine lv_goto (tgt := 42) hx hb dX3_dueBehind_37 (by decide) ?_
        exact z_iret hx hb hr hlocks hP hS dX3_dueBehind_42 (by unfold iDue; first | exact zif_pos (by assumption) | (rw [zif_neg (by assumption)]; first | (rw [zif_pos (by assumption)]; first | exact zif_pos (by assumption) | exact zif_neg (by assumption)) | (rw [zif_neg (by assumption)]; first | exact zif_pos (by assumption) | exact zif_neg (by assumption)))) rfl (Nat.le_refl _) (Nat.le_refl _)
    · refine lv_iload_n hx hb dX3_dueBehind_14 rfl (lv_at hl 1 rfl) ?_
      refine lv_bipush (v := iI 59) hx hb dX3_dueBehind_15 (by decide) ?_
      refine zi_icmp_ne (tgt := 24) hx hb dX3_dueBehind_17 (by decide) ⟨by omega, by omega⟩ ⟨by omega, by omega⟩ (fun c_4 => ?_) (fun c_4 => ?_)
      · refine lv_bipush (v := iI (-2)) hx hb dX3_dueBehind_24 (by decide) ?_
        exact z_iret hx hb hr hlocks hP hS dX3_dueBehind_26 (by unfold iDue; first | exact zif_pos (by assumption) | (rw [zif_neg (by assumption)]; first | (rw [zif_pos (by assumption)]; first | exact zif_pos (by assumption) | exact zif_neg (by assumption)) | (rw [zif_neg (by assumption)]; first | exact zif_pos (by assumption) | exact zif_neg (by assumption)))) rfl (Nat.le_refl _) (Nat.le_refl _)
      · refine lv_iconst (v := iI (-1)) hx hb dX3_dueBehind_20 rfl ?_
        refine lv_goto (tgt := 26) hx hb dX3_dueBehind_21 (by decide) ?_
        exact z_iret hx hb hr hlocks hP hS dX3_dueBehind_26 (by unfold iDue; first | exact zif_pos (by assumption) | (rw [zif_neg (by assumption)]; first | (rw [zif_pos (by assumption)]; first | exact zif_pos (by assumption) | exact zif_neg (by assumption)) | (rw [zif_neg (by assumption)]; first | exact zif_pos (by assumption) | exact zif_neg (by assumption)))) rfl (Nat.le_refl _) (Nat.le_refl _)
  · refine lv_iload_n hx hb dX3_dueBehind_5 rfl (lv_at hl 1 rfl) ?_
    refine z_ai0 (va_runS (As := [.int (iI p1)]) (rest := []) ⟨hx, hb, hml, hown, hts⟩ (c_X3_numbersOf l D k   p1 (by omega) _) (va_cwS 1 hts gX3_dueBehind_X3_numbersOf rfl rfl rfl (by decide +kernel) ⟨(Nat.le_of_ble_eq_true rfl), (Nat.le_of_ble_eq_true rfl)⟩) (z_preS hK hG hA hP hD hS [] rfl (by decide)) rfl rfl hl.1 rfl (lv_room (Nat.le_of_ble_eq_true rfl)) dX3_dueBehind_6 ⟨(Nat.le_of_ble_eq_true rfl), (Nat.le_of_ble_eq_true rfl)⟩) hA hP hD hS [] rfl (fun H locs hP hS => ?_)
    have q_5 : iNums p1 = -2 ∨ (0 ≤ iNums p1 ∧ iNums p1 ≤ 3) := iNums_rng
    exact z_iret hx hb hr hlocks hP hS dX3_dueBehind_9 (by unfold iDue; first | exact zif_pos (by assumption) | (rw [zif_neg (by assumption)]; first | (rw [zif_pos (by assumption)]; first | exact zif_pos (by assumption) | exact zif_neg (by assumption)) | (rw [zif_neg (by assumption)]; first | exact zif_pos (by assumption) | exact zif_neg (by assumption)))) rfl (Nat.le_refl _) (Nat.le_refl _)
noncomputable def sp_X3_findError_L4 (S0 : Nat → Nat → Int) (p0 : Int) : Nat → Int → Int → Int
  | 0, _, _ => 0
  | n + 1, x2, x3 => zif (p0 ≤ x3)
    (zif (x2 = 0)
      (-1)
      (p0))
    (zif ((iDue x2 (iSign (S0 1) x3)) = (-2))
      (x3)
      (sp_X3_findError_L4 S0 p0 n (iDue x2 (iSign (S0 1) x3)) (x3 + 1)))
noncomputable def sp_X3_findError (S0 : Nat → Nat → Int) (p0 : Int) : Int := sp_X3_findError_L4 S0 p0 61 (-1) 0
set_option maxHeartbeats 4000000 in
set_option maxRecDepth 100000 in
theorem c_X3_findError (l : Launch) (D : va_G) (k : Nat → ClassId) (a0 : Nat → Nat) (S0 : Nat → Nat → Int) (p0 : Int) (hS1 : ∀ j : Nat, 0 ≤ S0 1 j ∧ S0 1 j < 65536) (h0 : 0 ≤ p0 ∧ p0 ≤ 60) : zMi l yX3_findError wsX3_findError ({ frames := 2, cells := 0, slots := 0, locals := 41 } : Room) D k [.ref (a0 0), .int (iI p0)] (wInput k a0 S0) (sp_X3_findError S0 p0) (wInput k a0 S0) 0 0 := by
  refine zMi_of (cc := cX3_findError) (maxL := 4) (ret := (some .int)) (by decide) rfl (Nat.le_of_ble_eq_true rfl) ?_
  intro p e s m args below meth c A ls hx hb hr hml hown hts hlocks hK hP hD hG hA hS hl
  have hown : s.vm.findClass RX3 = some m.cls := hown
  have hl : lv_has ls 4 [(0, .ref (a0 0)), (1, .int (iI p0))] := hl
  obtain ⟨H, hH⟩ : ∃ z, z = s.heap := ⟨_, rfl⟩
  obtain ⟨locs, hlc⟩ : ∃ z : List Loc, z = [] := ⟨_, rfl⟩
  rw [← hH] at hP
  have hS : va_S A s.heap H locs := by rw [hH, hlc]; exact hS
  rw [← hlc, ← hH]
  clear hlc hH
  refine lv_iconst (v := iI (-1)) hx hb dX3_findError_0 rfl ?_
  refine lv_istore_n (lv' := [(2, .int (iI (-1))), (0, .ref (a0 0)), (1, .int (iI p0))]) hx hb dX3_findError_1 rfl hl (by decide) rfl (fun ls hl => ?_)
  refine lv_iconst (v := iI 0) hx hb dX3_findError_2 rfl ?_
  refine lv_istore_n (lv' := [(3, .int (iI 0)), (2, .int (iI (-1))), (0, .ref (a0 0)), (1, .int (iI p0))]) hx hb dX3_findError_3 rfl hl (by decide) rfl (fun ls hl => ?_)
  have lp4_0 : ∀ (n : Nat) (x2 : Int) (x3 : Int), (p0 - x3).toNat < n → (0 ≤ x3 ∧ x3 ≤ p0) → (-1 ≤ x2 ∧ x2 ≤ 3) → sp_X3_findError S0 p0 = sp_X3_findError_L4 S0 p0 n x2 x3 → ∀ (H : Heap) (locs : List Loc) (ls : Array Slot), va_P D vwCl (wInput k a0 S0) H → va_D A (wInput k a0 S0) → va_S A s.heap H locs → lv_has ls 4 [(3, .int (iI x3)), (2, .int (iI x2)), (0, .ref (a0 0)), (1, .int (iI p0))] → W p l e ({ frames := 2, cells := 0, slots := 0, locals := 41 } : Room) s m args below meth c H locs 0 0 (MQ below (zQi D A (sp_X3_findError S0 p0) (wInput k a0 S0)) args s 0 0 A) (F0 m 4 ls []) := by
    intro n4
    induction n4 with
    | zero => intro x2 x3 hm; exact absurd hm (Nat.not_lt_zero _)
    | succ n4 ih4 =>
      intro x2 x3 hm4 i0 i1 E4_0_r H locs ls hP hD hS hl
      refine lv_iload_n hx hb dX3_findError_4 rfl (lv_at hl 0 rfl) ?_
      refine lv_iload_n hx hb dX3_findError_5 rfl (lv_at hl 3 rfl) ?_
      refine zi_icmp_ge (tgt := 33) hx hb dX3_findError_6 (by decide) ⟨by omega, by omega⟩ ⟨by omega, by omega⟩ (fun c_1 => ?_) (fun c_1 => ?_)
      · refine lv_iload_n hx hb dX3_findError_33 rfl (lv_at hl 1 rfl) ?_
        refine zi_if_ne (tgt := 41) hx hb dX3_findError_34 (by decide) ⟨by omega, by omega⟩ (fun c_2 => ?_) (fun c_2 => ?_)
        · refine lv_iload_n hx hb dX3_findError_41 rfl (lv_at hl 3 rfl) ?_
          exact z_iret hx hb hr hlocks hP hS dX3_findError_42 (Eq.trans E4_0_r (Eq.trans (zif_pos c_1) (Eq.trans (zif_neg c_2) rfl))) rfl (Nat.le_refl _) (Nat.le_refl _)
        · refine lv_iconst (v := iI (-1)) hx hb dX3_findError_37 rfl ?_
          refine lv_goto (tgt := 42) hx hb dX3_findError_38 (by decide) ?_
          exact z_iret hx hb hr hlocks hP hS dX3_findError_42 (Eq.trans E4_0_r (Eq.trans (zif_pos c_1) (Eq.trans (zif_pos c_2) rfl))) rfl (Nat.le_refl _) (Nat.le_refl _)
      · refine lv_iload_n hx hb dX3_findError_9 rfl (lv_at hl 1 rfl) ?_
        refine lv_aload_n hx hb dX3_findError_10 rfl (lv_at hl 2 rfl) ?_
        refine lv_iload_n hx hb dX3_findError_11 rfl (lv_at hl 0 rfl) ?_
        refine z_ai0 (va_runV (As := [.int (iI x3)]) (rest := [.int (iI x2)]) ⟨hx, hb, hml, hown, hts⟩ (c_X3_signAt l D k a0 S0  x3 hS1 (by omega) _) (cwV 1 hts gX3_findError_X3_signAt rfl rfl rfl (by decide +kernel) ⟨(Nat.le_of_ble_eq_true rfl), (Nat.le_of_ble_eq_true rfl)⟩) (z_preV hK hG hA hP hD hS [0, 1] rfl (by decide) 5 rfl rfl) rfl rfl hl.1 rfl (lv_room (Nat.le_of_ble_eq_true rfl)) dX3_findError_12 ⟨(Nat.le_of_ble_eq_true rfl), (Nat.le_of_ble_eq_true rfl)⟩) hA hP hD hS [0, 1] rfl (fun H locs hP hS => ?_)
        have q_3 : 0 ≤ iSign (S0 1) x3 ∧ iSign (S0 1) x3 < 65536 := iSign_rng hS1
        refine z_ai0 (va_runS (As := [.int (iI x2), .int (iI (iSign (S0 1) x3))]) (rest := []) ⟨hx, hb, hml, hown, hts⟩ (c_X3_dueBehind l D k   x2 (iSign (S0 1) x3) (by omega) (by omega) _) (va_cwS 2 hts gX3_findError_X3_dueBehind rfl rfl rfl (by decide +kernel) ⟨(Nat.le_of_ble_eq_true rfl), (Nat.le_of_ble_eq_true rfl)⟩) (z_preS hK hG hA hP hD hS [] rfl (by decide)) rfl rfl hl.1 rfl (lv_room (Nat.le_of_ble_eq_true rfl)) dX3_findError_15 ⟨(Nat.le_of_ble_eq_true rfl), (Nat.le_of_ble_eq_true rfl)⟩) hA hP hD hS [] rfl (fun H locs hP hS => ?_)
        have q_4 : -2 ≤ iDue x2 (iSign (S0 1) x3) ∧ iDue x2 (iSign (S0 1) x3) ≤ 3 := iDue_rng (by omega)
        refine lv_istore_n (lv' := [(2, .int (iI (iDue x2 (iSign (S0 1) x3)))), (3, .int (iI x3)), (0, .ref (a0 0)), (1, .int (iI p0))]) hx hb dX3_findError_18 rfl hl (by decide) rfl (fun ls hl => ?_)
        refine lv_iload_n hx hb dX3_findError_19 rfl (lv_at hl 0 rfl) ?_
        refine lv_bipush (v := iI (-2)) hx hb dX3_findError_20 (by decide) ?_
        refine zi_icmp_ne (tgt := 27) hx hb dX3_findError_22 (by decide) ⟨by omega, by omega⟩ ⟨by omega, by omega⟩ (fun c_5 => ?_) (fun c_5 => ?_)
        · refine lv_iinc (v := iI (x3 + 1)) (lv' := [(3, .int (iI (x3 + 1))), (2, .int (iI (iDue x2 (iSign (S0 1) x3)))), (0, .ref (a0 0)), (1, .int (iI p0))]) hx hb dX3_findError_27 hl (k := 1) rfl (iI_add _ _) (by decide) rfl (fun ls hl => ?_)
          refine lv_goto (tgt := 4) hx hb dX3_findError_30 (by decide) ?_
          exact ih4 (iDue x2 (iSign (S0 1) x3)) (x3 + 1) (by omega) (by omega) (by omega) (Eq.trans E4_0_r (Eq.trans (zif_neg c_1) (Eq.trans (zif_neg c_5) rfl))) H locs ls hP hD hS (lv_sub hl [0, 1, 2, 3] rfl)
        · refine lv_iload_n hx hb dX3_findError_25 rfl (lv_at hl 1 rfl) ?_
          exact z_iret hx hb hr hlocks hP hS dX3_findError_26 (Eq.trans E4_0_r (Eq.trans (zif_neg c_1) (Eq.trans (zif_pos c_5) rfl))) rfl (Nat.le_refl _) (Nat.le_refl _)
  exact lp4_0 61 (-1) 0 (by omega) (by omega) (by omega) rfl H locs ls hP hD hS (lv_sub hl [0, 1, 2, 3] rfl)
set_option maxHeartbeats 4000000 in
set_option maxRecDepth 100000 in
theorem c_X3_countOrders (l : Launch) (D : va_G) (k : Nat → ClassId) (a0 : Nat → Nat) (S0 : Nat → Nat → Int) (p0 : Int) (hS1 : ∀ j : Nat, 0 ≤ S0 1 j ∧ S0 1 j < 65536) (h0 : 0 ≤ p0 ∧ p0 ≤ 60) : zMi l yX3_countOrders wsX3_countOrders ({ frames := 1, cells := 0, slots := 0, locals := 21 } : Room) D k [.ref (a0 0), .int (iI p0)] (wInput k a0 S0) (iCount (S0 1) p0) (wInput k a0 S0) 0 0 := by
  refine zMi_of (cc := cX3_countOrders) (maxL := 4) (ret := (some .int)) (by decide) rfl (Nat.le_of_ble_eq_true rfl) ?_
  intro p e s m args below meth c A ls hx hb hr hml hown hts hlocks hK hP hD hG hA hS hl
  have hown : s.vm.findClass RX3 = some m.cls := hown
  have hl : lv_has ls 4 [(0, .ref (a0 0)), (1, .int (iI p0))] := hl
  obtain ⟨H, hH⟩ : ∃ z, z = s.heap := ⟨_, rfl⟩
  obtain ⟨locs, hlc⟩ : ∃ z : List Loc, z = [] := ⟨_, rfl⟩
  rw [← hH] at hP
  have hS : va_S A s.heap H locs := by rw [hH, hlc]; exact hS
  rw [← hlc, ← hH]
  clear hlc hH
  refine lv_iconst (v := iI 0) hx hb dX3_countOrders_0 rfl ?_
  refine lv_istore_n (lv' := [(2, .int (iI 0)), (0, .ref (a0 0)), (1, .int (iI p0))]) hx hb dX3_countOrders_1 rfl hl (by decide) rfl (fun ls hl => ?_)
  refine lv_iconst (v := iI 0) hx hb dX3_countOrders_2 rfl ?_
  refine lv_istore_n (lv' := [(3, .int (iI 0)), (2, .int (iI 0)), (0, .ref (a0 0)), (1, .int (iI p0))]) hx hb dX3_countOrders_3 rfl hl (by decide) rfl (fun ls hl => ?_)
  have lp4_0 : ∀ (n : Nat) (x2 : Int) (x3 : Int), (60 - x3).toNat < n → (0 ≤ x3) → (x3 ≤ p0) → (x2 = sumI (fun k => zif (iNums (iSign (S0 1) k) = -2) 0 1) x3) → ∀ (H : Heap) (locs : List Loc) (ls : Array Slot), va_P D vwCl (wInput k a0 S0) H → va_D A (wInput k a0 S0) → va_S A s.heap H locs → lv_has ls 4 [(3, .int (iI x3)), (2, .int (iI x2)), (0, .ref (a0 0)), (1, .int (iI p0))] → W p l e ({ frames := 1, cells := 0, slots := 0, locals := 21 } : Room) s m args below meth c H locs 0 0 (MQ below (zQi D A (iCount (S0 1) p0) (wInput k a0 S0)) args s 0 0 A) (F0 m 4 ls []) := by
    intro n4
    induction n4 with
    | zero => intro x2 x3 hm; exact absurd hm (Nat.not_lt_zero _)
    | succ n4 ih4 =>
      intro x2 x3 hm4 i0 i1 iF  H locs ls hP hD hS hl
      refine lv_iload_n hx hb dX3_countOrders_4 rfl (lv_at hl 0 rfl) ?_
      refine lv_iload_n hx hb dX3_countOrders_5 rfl (lv_at hl 3 rfl) ?_
      refine zi_icmp_ge (tgt := 36) hx hb dX3_countOrders_6 (by decide) ⟨by omega, by omega⟩ ⟨by omega, by omega⟩ (fun c_1 => ?_) (fun c_1 => ?_)
      · have v_2 : x2 = iCount (S0 1) p0 := (by rw [iF, show x3 = p0 by omega]; rfl)
        rw [v_2] at hl
        refine lv_iload_n hx hb dX3_countOrders_36 rfl (lv_at hl 1 rfl) ?_
        exact z_iret hx hb hr hlocks hP hS dX3_countOrders_37 rfl rfl (Nat.le_refl _) (Nat.le_refl _)
      · refine lv_iload_n hx hb dX3_countOrders_9 rfl (lv_at hl 1 rfl) ?_
        refine lv_aload_n hx hb dX3_countOrders_10 rfl (lv_at hl 2 rfl) ?_
        refine lv_iload_n hx hb dX3_countOrders_11 rfl (lv_at hl 0 rfl) ?_
        refine z_ai0 (va_runV (As := [.int (iI x3)]) (rest := [.int (iI x2)]) ⟨hx, hb, hml, hown, hts⟩ (c_X3_signAt l D k a0 S0  x3 hS1 (by omega) _) (cwV 1 hts gX3_countOrders_X3_signAt rfl rfl rfl (by decide +kernel) ⟨(Nat.le_of_ble_eq_true rfl), (Nat.le_of_ble_eq_true rfl)⟩) (z_preV hK hG hA hP hD hS [0, 1] rfl (by decide) 5 rfl rfl) rfl rfl hl.1 rfl (lv_room (Nat.le_of_ble_eq_true rfl)) dX3_countOrders_12 ⟨(Nat.le_of_ble_eq_true rfl), (Nat.le_of_ble_eq_true rfl)⟩) hA hP hD hS [0, 1] rfl (fun H locs hP hS => ?_)
        have q_3 : 0 ≤ iSign (S0 1) x3 ∧ iSign (S0 1) x3 < 65536 := iSign_rng hS1
        refine z_ai0 (va_runS (As := [.int (iI (iSign (S0 1) x3))]) (rest := [.int (iI x2)]) ⟨hx, hb, hml, hown, hts⟩ (c_X3_numbersOf l D k   (iSign (S0 1) x3) (by omega) _) (va_cwS 1 hts gX3_countOrders_X3_numbersOf rfl rfl rfl (by decide +kernel) ⟨(Nat.le_of_ble_eq_true rfl), (Nat.le_of_ble_eq_true rfl)⟩) (z_preS hK hG hA hP hD hS [] rfl (by decide)) rfl rfl hl.1 rfl (lv_room (Nat.le_of_ble_eq_true rfl)) dX3_countOrders_15 ⟨(Nat.le_of_ble_eq_true rfl), (Nat.le_of_ble_eq_true rfl)⟩) hA hP hD hS [] rfl (fun H locs hP hS => ?_)
        have q_4 : iNums (iSign (S0 1) x3) = -2 ∨ (0 ≤ iNums (iSign (S0 1) x3) ∧ iNums (iSign (S0 1) x3) ≤ 3) := iNums_rng
        refine lv_bipush (v := iI (-2)) hx hb dX3_countOrders_18 (by decide) ?_
        have c_5K : W p l e ({ frames := 1, cells := 0, slots := 0, locals := 21 } : Room) s m args below meth c H locs 0 0 (MQ below (zQi D A (iCount (S0 1) p0) (wInput k a0 S0)) args s 0 0 A) (F0 m 28 ls [.int (iI (zif ((iNums (iSign (S0 1) x3)) = (-2)) 0 1)), .int (iI x2)]) := by
          have c_5O := zif_or ((iNums (iSign (S0 1) x3)) = (-2)) 0 1
          refine zi_add hx hb dX3_countOrders_28 ?_
          refine lv_istore_n (lv' := [(2, .int (iI (x2 + (zif ((iNums (iSign (S0 1) x3)) = (-2)) 0 1)))), (3, .int (iI x3)), (0, .ref (a0 0)), (1, .int (iI p0))]) hx hb dX3_countOrders_29 rfl hl (by decide) rfl (fun ls hl => ?_)
          refine lv_iinc (v := iI (x3 + 1)) (lv' := [(3, .int (iI (x3 + 1))), (2, .int (iI (x2 + (zif ((iNums (iSign (S0 1) x3)) = (-2)) 0 1)))), (0, .ref (a0 0)), (1, .int (iI p0))]) hx hb dX3_countOrders_30 hl (k := 1) rfl (iI_add _ _) (by decide) rfl (fun ls hl => ?_)
          refine lv_goto (tgt := 4) hx hb dX3_countOrders_33 (by decide) ?_
          exact ih4 (x2 + (zif ((iNums (iSign (S0 1) x3)) = (-2)) 0 1)) (x3 + 1) (by omega) (by omega) (by omega) (by rw [iF]; exact sumI_e i0 rfl)  H locs ls hP hD hS (lv_sub hl [0, 1, 2, 3] rfl)
        refine zi_icmp_ne (tgt := 27) hx hb dX3_countOrders_20 (by decide) ⟨by omega, by omega⟩ ⟨by omega, by omega⟩ (fun c_5 => ?_) (fun c_5 => ?_)
        · refine lv_iconst (v := iI 1) hx hb dX3_countOrders_27 rfl ?_
          exact z_eqi (z2 := zif ((iNums (iSign (S0 1) x3)) = (-2)) 0 1) (zif_neg c_5).symm c_5K
        · refine lv_iconst (v := iI 0) hx hb dX3_countOrders_23 rfl ?_
          refine lv_goto (tgt := 28) hx hb dX3_countOrders_24 (by decide) ?_
          exact z_eqi (z2 := zif ((iNums (iSign (S0 1) x3)) = (-2)) 0 1) (zif_pos c_5).symm c_5K
  exact lp4_0 61 0 0 (by omega) (by omega) (by omega) rfl  H locs ls hP hD hS (lv_sub hl [0, 1, 2, 3] rfl)
