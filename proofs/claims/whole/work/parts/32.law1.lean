theorem pass_rng (S0 S1 : Nat → Nat → Int) (p0 p1 p2 : Int) : 0 ≤ sp_X7_passes_ok S0 S1 p0 p1 p2 ∧ sp_X7_passes_ok S0 S1 p0 p1 p2 ≤ 1 := by
  unfold sp_X7_passes_ok
  repeat (first | exact ⟨by decide, by decide⟩ | refine el1 (Q := fun z => 0 ≤ z ∧ z ≤ 1) (fun _ => ?_) (fun _ => ?_))
theorem mend_rng (S0 S1 : Nat → Nat → Int) (p0 : Int) : 0 ≤ sp_X7_wouldMend_ok S0 S1 p0 ∧ sp_X7_wouldMend_ok S0 S1 p0 ≤ 1 := by
  unfold sp_X7_wouldMend_ok
  repeat (first | exact ⟨by decide, by decide⟩ | refine el1 (Q := fun z => 0 ≤ z ∧ z ≤ 1) (fun _ => ?_) (fun _ => ?_))
set_option maxHeartbeats 4000000 in
set_option maxRecDepth 100000 in
theorem c_L_beltOf_ok (l : Launch) (hst : l.stackTraces = false) (D : va_G) (k : Nat → ClassId) (a0 : Nat → Nat) (o1 : Nat → Nat) (S0 : Nat → Nat → Int) (S1 : Nat → Nat → Int) (S2 : Nat → Nat → Int) (p1 : Int) (p2 : Int) (hp : pOK S1) (h0 : -2147483648 ≤ p1 ∧ p1 < 2147483648) (h1 : -2147483648 ≤ p2 ∧ p2 < 2147483648) (hc : 0 ≤ p1 ∧ p1 < 3) (hw : 0 ≤ p2 ∧ p2 ≤ 6) : zML l yL_beltOf wsL_beltOf ({ frames := 6, cells := 1, slots := 6, locals := 89 } : Room) D k [.ref (a0 0), .int (iI p1), .int (iI p2), .ref (o1 0)] (wFac k a0 S0 ++ (wPlant k (subA a0 1) S1 ++ wArrJ k o1 S2)) (0) (wFac k a0 S0 ++ (wPlant k (subA a0 1) S1 ++ wArrJ k o1 (up2 S2 0 0 (sp_X7_beltOf_ok S0 S1 p1 p2)))) 1 6 := by
  refine zML_of (cc := cL_beltOf) (maxL := 5) (ret := (some .int)) (hh := [(0, 10, 13, 13), (0, 10, 17, 15)]) (by decide) rfl (Nat.le_of_ble_eq_true rfl) ?_
  intro p e s m args below meth c A ls hx hb hr hml hown hts hlocks hK hP hD hG hE hT hA hS hl
  have hown : s.vm.findClass RL = some m.cls := hown
  have hl : lv_has ls 5 [(0, .ref (a0 0)), (1, .int (iI p1)), (2, .int (iI p2)), (3, .ref (o1 0))] := hl
  obtain ⟨H, hH⟩ : ∃ z, z = s.heap := ⟨_, rfl⟩
  obtain ⟨locs, hlc⟩ : ∃ z : List Loc, z = [] := ⟨_, rfl⟩
  rw [← hH] at hP
  have hS : va_S A s.heap H locs := by rw [hH, hlc]; exact hS
  rw [← hlc, ← hH]
  clear hlc hH
  have kp := hp.2
  refine lv_aload_n hx hb dL_beltOf_0 rfl (lv_at hl 3 rfl) ?_
  refine lv_iconst (v := iI 0) hx hb dL_beltOf_1 rfl ?_
  refine lv_aload_n hx hb dL_beltOf_2 rfl (lv_at hl 0 rfl) ?_
  refine lv_iload_n hx hb dL_beltOf_3 rfl (lv_at hl 1 rfl) ?_
  refine lv_iload_n hx hb dL_beltOf_4 rfl (lv_at hl 2 rfl) ?_
  refine z_ai0 (va_runV (As := [.int (iI p1), .int (iI p2)]) (rest := [.int (iI 0), .ref (o1 0)]) ⟨hx, hb, hml, hown, hts⟩ (c_X7_beltOf_ok l D k a0 S0 S1  p1 p2 hp (by omega) (by omega) (by omega) (by omega) _) (cwV 2 hts gL_beltOf_X7_beltOf rfl rfl rfl (by decide +kernel) ⟨(Nat.le_of_ble_eq_true rfl), (Nat.le_of_ble_eq_true rfl)⟩) (z_preV hK hG hA hP hD hS (zrg 0 1 ++ zrg 1 15) (z_mcat (z_hd (n := 1) rfl) (z_sk (n := 1) (off := 0) (m := 15) rfl (z_hd (n := 15) rfl))) (by decide +kernel) 9 rfl rfl) rfl rfl hl.1 rfl (lv_room (Nat.le_of_ble_eq_true rfl)) dL_beltOf_5 ⟨(Nat.le_of_ble_eq_true rfl), (Nat.le_of_ble_eq_true rfl)⟩) hA hP hD hS (zrg 0 1 ++ zrg 1 15) (z_mcat (z_hd (n := 1) rfl) (z_sk (n := 1) (off := 0) (m := 15) rfl (z_hd (n := 15) rfl))) (fun H locs hP hS => ?_)
  refine lv_i2l (v := (iI (sp_X7_beltOf_ok S0 S1 p1 p2)).toInt64) hx hb dL_beltOf_8 rfl ?_
  refine z_last hx hb hK hP hD hS 16 4 (f := S2 0) rfl rfl (i := 0) (by omega) (by omega) (by decide) 0 rfl dL_beltOf_9 (fun H locs hP hD hS => ?_)
  have hP : va_P D vwCl (wFac k a0 S0 ++ (wPlant k (subA a0 1) S1 ++ wArrJ k o1 (up2 S2 0 0 (sp_X7_beltOf_ok S0 S1 p1 p2)))) H := hP
  have hD : va_D A (wFac k a0 S0 ++ (wPlant k (subA a0 1) S1 ++ wArrJ k o1 (up2 S2 0 0 (sp_X7_beltOf_ok S0 S1 p1 p2)))) := hD
  refine lv_goto (tgt := 21) hx hb dL_beltOf_10 (by decide) ?_
  refine lv_iconst (v := iI 0) hx hb dL_beltOf_21 rfl ?_
  exact vx_ret (z_iret hx hb hr hlocks hP hS dL_beltOf_22 rfl rfl (Nat.le_of_ble_eq_true rfl) (Nat.le_of_ble_eq_true rfl))
set_option maxHeartbeats 4000000 in
set_option maxRecDepth 100000 in
theorem c_L_beltOf_b (l : Launch) (hst : l.stackTraces = false) (D : va_G) (k : Nat → ClassId) (a0 : Nat → Nat) (o1 : Nat → Nat) (S0 : Nat → Nat → Int) (S1 : Nat → Nat → Int) (S2 : Nat → Nat → Int) (p1 : Int) (p2 : Int) (hp : pOK S1) (h0 : -2147483648 ≤ p1 ∧ p1 < 2147483648) (hc : ¬ (0 ≤ p1 ∧ p1 < 3)) : zML l yL_beltOf wsL_beltOf ({ frames := 8, cells := 1, slots := 6, locals := 126 } : Room) D k [.ref (a0 0), .int (iI p1), .int (iI p2), .ref (o1 0)] (wFac k a0 S0 ++ (wPlant k (subA a0 1) S1 ++ wArrJ k o1 S2)) (1) (wFac k a0 S0 ++ (wPlant k (subA a0 1) S1 ++ wArrJ k o1 S2)) 1 6 := by
  refine zML_of (cc := cL_beltOf) (maxL := 5) (ret := (some .int)) (hh := [(0, 10, 13, 13), (0, 10, 17, 15)]) (by decide) rfl (Nat.le_of_ble_eq_true rfl) ?_
  intro p e s m args below meth c A ls hx hb hr hml hown hts hlocks hK hP hD hG hE hT hA hS hl
  have hown : s.vm.findClass RL = some m.cls := hown
  have hl : lv_has ls 5 [(0, .ref (a0 0)), (1, .int (iI p1)), (2, .int (iI p2)), (3, .ref (o1 0))] := hl
  obtain ⟨H, hH⟩ : ∃ z, z = s.heap := ⟨_, rfl⟩
  obtain ⟨locs, hlc⟩ : ∃ z : List Loc, z = [] := ⟨_, rfl⟩
  rw [← hH] at hP
  have hS : va_S A s.heap H locs := by rw [hH, hlc]; exact hS
  rw [← hlc, ← hH]
  clear hlc hH
  have kp := hp.2
  refine lv_aload_n hx hb dL_beltOf_0 rfl (lv_at hl 3 rfl) ?_
  refine lv_iconst (v := iI 0) hx hb dL_beltOf_1 rfl ?_
  refine lv_aload_n hx hb dL_beltOf_2 rfl (lv_at hl 0 rfl) ?_
  refine lv_iload_n hx hb dL_beltOf_3 rfl (lv_at hl 1 rfl) ?_
  refine lv_iload_n hx hb dL_beltOf_4 rfl (lv_at hl 2 rfl) ?_
  refine z_axc0 (vx_runV (As := [.int (iI p1), .int (iI p2)]) (rest := [.int (iI 0), .ref (o1 0)]) ⟨hx, hb, hml, hown, hts⟩ (c_X7_beltOf_b l hst D k a0 S0 S1  p1 p2 hp (by omega) (by omega) _) (cwV 2 hts gL_beltOf_X7_beltOf rfl rfl rfl (by decide +kernel) ⟨(Nat.le_of_ble_eq_true rfl), (Nat.le_of_ble_eq_true rfl)⟩) (z_preVx hK hG hE hA hP hD hS (zrg 0 1 ++ zrg 1 15) (z_mcat (z_hd (n := 1) rfl) (z_sk (n := 1) (off := 0) (m := 15) rfl (z_hd (n := 15) rfl))) (by decide +kernel) 9 rfl rfl) rfl rfl hl.1 rfl (lv_room (Nat.le_of_ble_eq_true rfl)) dL_beltOf_5 ⟨(Nat.le_of_ble_eq_true rfl), (Nat.le_of_ble_eq_true rfl)⟩) hA hP hD hS (zrg 0 1 ++ zrg 1 15) (z_mcat (z_hd (n := 1) rfl) (z_sk (n := 1) (off := 0) (m := 15) rfl (z_hd (n := 15) rfl))) (fun ce q9 H locs hP hS hce hcv hcl => ?_)
  refine vx_catch (name := "java/lang/IndexOutOfBoundsException") (E := "java/lang/IndexOutOfBoundsException") hown [] (⟨0, 10, 13, 13⟩ : ExceptionTableEntry) [(⟨0, 10, 17, 15⟩ : ExceptionTableEntry)] (hT.trans rfl) (fun _ h => absurd h List.not_mem_nil) rfl (by decide) (hts (.classLink RL 13 "java/lang/IndexOutOfBoundsException") (List.mem_of_getElem? (i := 1) rfl)) (va_Nw.use rfl (hE.1 "java/lang/IndexOutOfBoundsException" zXm_ioob)) hce hcv hcl ?_
  refine lv_astore (lv' := [(4, .ref q9), (0, .ref (a0 0)), (1, .int (iI p1)), (2, .int (iI p2)), (3, .ref (o1 0))]) hx hb dL_beltOf_13 hl (by decide) rfl (fun ls hl => ?_)
  refine lv_iconst (v := iI 1) hx hb dL_beltOf_15 rfl ?_
  exact vx_ret (z_iret hx hb hr hlocks hP hS dL_beltOf_16 rfl rfl (Nat.le_of_ble_eq_true rfl) (Nat.le_of_ble_eq_true rfl))
set_option maxHeartbeats 4000000 in
set_option maxRecDepth 100000 in
theorem c_L_beltOf_w (l : Launch) (hst : l.stackTraces = false) (D : va_G) (k : Nat → ClassId) (a0 : Nat → Nat) (o1 : Nat → Nat) (S0 : Nat → Nat → Int) (S1 : Nat → Nat → Int) (S2 : Nat → Nat → Int) (p1 : Int) (p2 : Int) (hp : pOK S1) (h0 : -2147483648 ≤ p1 ∧ p1 < 2147483648) (h1 : -2147483648 ≤ p2 ∧ p2 < 2147483648) (hc : 0 ≤ p1 ∧ p1 < 3) (hw : ¬ (0 ≤ p2 ∧ p2 ≤ 6)) : zML l yL_beltOf wsL_beltOf ({ frames := 8, cells := 1, slots := 6, locals := 126 } : Room) D k [.ref (a0 0), .int (iI p1), .int (iI p2), .ref (o1 0)] (wFac k a0 S0 ++ (wPlant k (subA a0 1) S1 ++ wArrJ k o1 S2)) (2) (wFac k a0 S0 ++ (wPlant k (subA a0 1) S1 ++ wArrJ k o1 S2)) 1 6 := by
  refine zML_of (cc := cL_beltOf) (maxL := 5) (ret := (some .int)) (hh := [(0, 10, 13, 13), (0, 10, 17, 15)]) (by decide) rfl (Nat.le_of_ble_eq_true rfl) ?_
  intro p e s m args below meth c A ls hx hb hr hml hown hts hlocks hK hP hD hG hE hT hA hS hl
  have hown : s.vm.findClass RL = some m.cls := hown
  have hl : lv_has ls 5 [(0, .ref (a0 0)), (1, .int (iI p1)), (2, .int (iI p2)), (3, .ref (o1 0))] := hl
  obtain ⟨H, hH⟩ : ∃ z, z = s.heap := ⟨_, rfl⟩
  obtain ⟨locs, hlc⟩ : ∃ z : List Loc, z = [] := ⟨_, rfl⟩
  rw [← hH] at hP
  have hS : va_S A s.heap H locs := by rw [hH, hlc]; exact hS
  rw [← hlc, ← hH]
  clear hlc hH
  have kp := hp.2
  refine lv_aload_n hx hb dL_beltOf_0 rfl (lv_at hl 3 rfl) ?_
  refine lv_iconst (v := iI 0) hx hb dL_beltOf_1 rfl ?_
  refine lv_aload_n hx hb dL_beltOf_2 rfl (lv_at hl 0 rfl) ?_
  refine lv_iload_n hx hb dL_beltOf_3 rfl (lv_at hl 1 rfl) ?_
  refine lv_iload_n hx hb dL_beltOf_4 rfl (lv_at hl 2 rfl) ?_
  refine z_axc0 (vx_runV (As := [.int (iI p1), .int (iI p2)]) (rest := [.int (iI 0), .ref (o1 0)]) ⟨hx, hb, hml, hown, hts⟩ (c_X7_beltOf_w l hst D k a0 S0 S1  p1 p2 hp (by omega) (by omega) (by omega) (by omega) _) (cwV 2 hts gL_beltOf_X7_beltOf rfl rfl rfl (by decide +kernel) ⟨(Nat.le_of_ble_eq_true rfl), (Nat.le_of_ble_eq_true rfl)⟩) (z_preVx hK hG hE hA hP hD hS (zrg 0 1 ++ zrg 1 15) (z_mcat (z_hd (n := 1) rfl) (z_sk (n := 1) (off := 0) (m := 15) rfl (z_hd (n := 15) rfl))) (by decide +kernel) 9 rfl rfl) rfl rfl hl.1 rfl (lv_room (Nat.le_of_ble_eq_true rfl)) dL_beltOf_5 ⟨(Nat.le_of_ble_eq_true rfl), (Nat.le_of_ble_eq_true rfl)⟩) hA hP hD hS (zrg 0 1 ++ zrg 1 15) (z_mcat (z_hd (n := 1) rfl) (z_sk (n := 1) (off := 0) (m := 15) rfl (z_hd (n := 15) rfl))) (fun ce q9 H locs hP hS hce hcv hcl => ?_)
  refine vx_catch (name := "java/lang/IllegalArgumentException") (E := "java/lang/IllegalArgumentException") hown [(⟨0, 10, 13, 13⟩ : ExceptionTableEntry)] (⟨0, 10, 17, 15⟩ : ExceptionTableEntry) [] (hT.trans rfl) (List.forall_mem_cons.mpr ⟨Or.inr ⟨by decide, _, (hts (.classLink RL 13 "java/lang/IndexOutOfBoundsException") (List.mem_of_getElem? (i := 1) rfl)), hE.2.2 ("java/lang/IllegalArgumentException", "java/lang/IndexOutOfBoundsException") (by decide +kernel)⟩, (fun _ h => absurd h List.not_mem_nil)⟩) rfl (by decide) (hts (.classLink RL 15 "java/lang/IllegalArgumentException") (List.mem_of_getElem? (i := 2) rfl)) (va_Nw.use rfl (hE.1 "java/lang/IllegalArgumentException" zXm_iarg)) hce hcv hcl ?_
  refine lv_astore (lv' := [(4, .ref q9), (0, .ref (a0 0)), (1, .int (iI p1)), (2, .int (iI p2)), (3, .ref (o1 0))]) hx hb dL_beltOf_17 hl (by decide) rfl (fun ls hl => ?_)
  refine lv_iconst (v := iI 2) hx hb dL_beltOf_19 rfl ?_
  exact vx_ret (z_iret hx hb hr hlocks hP hS dL_beltOf_20 rfl rfl (Nat.le_of_ble_eq_true rfl) (Nat.le_of_ble_eq_true rfl))
set_option maxHeartbeats 4000000 in
set_option maxRecDepth 100000 in
theorem c_L_carrier_ok (l : Launch) (hst : l.stackTraces = false) (D : va_G) (k : Nat → ClassId) (a0 : Nat → Nat) (o1 : Nat → Nat) (S0 : Nat → Nat → Int) (S1 : Nat → Nat → Int) (S2 : Nat → Nat → Int) (p1 : Int) (p2 : Int) (p3 : Int) (hp : pOK S1) (h0 : -2147483648 ≤ p1 ∧ p1 < 2147483648) (h1 : -2147483648 ≤ p2 ∧ p2 < 2147483648) (h2 : -2147483648 ≤ p3 ∧ p3 < 2147483648) (hc : 0 ≤ p2 ∧ ((p1 = 0 ∧ p2 < S1 3 1) ∨ (p1 = 1 ∧ p2 < S1 6 1) ∨ (p1 = 2 ∧ p2 < S1 9 1))) (hw : 0 ≤ p3 ∧ p3 ≤ 3) : zML l yL_carrier wsL_carrier ({ frames := 6, cells := 1, slots := 6, locals := 82 } : Room) D k [.ref (a0 0), .int (iI p1), .int (iI p2), .int (iI p3), .ref (o1 0)] (wFac k a0 S0 ++ (wPlant k (subA a0 1) S1 ++ wArrJ k o1 S2)) (0) (wFac k a0 S0 ++ (wPlant k (subA a0 1) S1 ++ wArrJ k o1 (up2 S2 0 0 (sp_X7_carrier_ok S0 S1 p1 p2 p3)))) 1 6 := by
  refine zML_of (cc := cL_carrier) (maxL := 6) (ret := (some .int)) (hh := [(0, 12, 15, 13), (0, 12, 19, 15)]) (by decide) rfl (Nat.le_of_ble_eq_true rfl) ?_
  intro p e s m args below meth c A ls hx hb hr hml hown hts hlocks hK hP hD hG hE hT hA hS hl
  have hown : s.vm.findClass RL = some m.cls := hown
  have hl : lv_has ls 6 [(0, .ref (a0 0)), (1, .int (iI p1)), (2, .int (iI p2)), (3, .int (iI p3)), (4, .ref (o1 0))] := hl
  obtain ⟨H, hH⟩ : ∃ z, z = s.heap := ⟨_, rfl⟩
  obtain ⟨locs, hlc⟩ : ∃ z : List Loc, z = [] := ⟨_, rfl⟩
  rw [← hH] at hP
  have hS : va_S A s.heap H locs := by rw [hH, hlc]; exact hS
  rw [← hlc, ← hH]
  clear hlc hH
  have kp := hp.2
  refine lv_aload hx hb dL_carrier_0 (lv_at hl 4 rfl) ?_
  refine lv_iconst (v := iI 0) hx hb dL_carrier_2 rfl ?_
  refine lv_aload_n hx hb dL_carrier_3 rfl (lv_at hl 0 rfl) ?_
  refine lv_iload_n hx hb dL_carrier_4 rfl (lv_at hl 1 rfl) ?_
  refine lv_iload_n hx hb dL_carrier_5 rfl (lv_at hl 2 rfl) ?_
  refine lv_iload_n hx hb dL_carrier_6 rfl (lv_at hl 3 rfl) ?_
  refine z_ai0 (va_runV (As := [.int (iI p1), .int (iI p2), .int (iI p3)]) (rest := [.int (iI 0), .ref (o1 0)]) ⟨hx, hb, hml, hown, hts⟩ (c_X7_carrier_ok l D k a0 S0 S1  p1 p2 p3 hp (by omega) (by omega) (by omega) (by omega) (by omega) _) (cwV 3 hts gL_carrier_X7_carrier rfl rfl rfl (by decide +kernel) ⟨(Nat.le_of_ble_eq_true rfl), (Nat.le_of_ble_eq_true rfl)⟩) (z_preV hK hG hA hP hD hS (zrg 0 1 ++ zrg 1 15) (z_mcat (z_hd (n := 1) rfl) (z_sk (n := 1) (off := 0) (m := 15) rfl (z_hd (n := 15) rfl))) (by decide +kernel) 9 rfl rfl) rfl rfl hl.1 rfl (lv_room (Nat.le_of_ble_eq_true rfl)) dL_carrier_7 ⟨(Nat.le_of_ble_eq_true rfl), (Nat.le_of_ble_eq_true rfl)⟩) hA hP hD hS (zrg 0 1 ++ zrg 1 15) (z_mcat (z_hd (n := 1) rfl) (z_sk (n := 1) (off := 0) (m := 15) rfl (z_hd (n := 15) rfl))) (fun H locs hP hS => ?_)
  refine lv_i2l (v := (iI (sp_X7_carrier_ok S0 S1 p1 p2 p3)).toInt64) hx hb dL_carrier_10 rfl ?_
  refine z_last hx hb hK hP hD hS 16 4 (f := S2 0) rfl rfl (i := 0) (by omega) (by omega) (by decide) 0 rfl dL_carrier_11 (fun H locs hP hD hS => ?_)
  have hP : va_P D vwCl (wFac k a0 S0 ++ (wPlant k (subA a0 1) S1 ++ wArrJ k o1 (up2 S2 0 0 (sp_X7_carrier_ok S0 S1 p1 p2 p3)))) H := hP
  have hD : va_D A (wFac k a0 S0 ++ (wPlant k (subA a0 1) S1 ++ wArrJ k o1 (up2 S2 0 0 (sp_X7_carrier_ok S0 S1 p1 p2 p3)))) := hD
  refine lv_goto (tgt := 23) hx hb dL_carrier_12 (by decide) ?_
  refine lv_iconst (v := iI 0) hx hb dL_carrier_23 rfl ?_
  exact vx_ret (z_iret hx hb hr hlocks hP hS dL_carrier_24 rfl rfl (Nat.le_of_ble_eq_true rfl) (Nat.le_of_ble_eq_true rfl))
set_option maxHeartbeats 4000000 in
set_option maxRecDepth 100000 in
theorem c_L_carrier_b (l : Launch) (hst : l.stackTraces = false) (D : va_G) (k : Nat → ClassId) (a0 : Nat → Nat) (o1 : Nat → Nat) (S0 : Nat → Nat → Int) (S1 : Nat → Nat → Int) (S2 : Nat → Nat → Int) (p1 : Int) (p2 : Int) (p3 : Int) (hp : pOK S1) (h0 : -2147483648 ≤ p1 ∧ p1 < 2147483648) (h1 : -2147483648 ≤ p2 ∧ p2 < 2147483648) (hc : ¬ (0 ≤ p2 ∧ ((p1 = 0 ∧ p2 < S1 3 1) ∨ (p1 = 1 ∧ p2 < S1 6 1) ∨ (p1 = 2 ∧ p2 < S1 9 1)))) : zML l yL_carrier wsL_carrier ({ frames := 8, cells := 1, slots := 6, locals := 128 } : Room) D k [.ref (a0 0), .int (iI p1), .int (iI p2), .int (iI p3), .ref (o1 0)] (wFac k a0 S0 ++ (wPlant k (subA a0 1) S1 ++ wArrJ k o1 S2)) (1) (wFac k a0 S0 ++ (wPlant k (subA a0 1) S1 ++ wArrJ k o1 S2)) 1 6 := by
  refine zML_of (cc := cL_carrier) (maxL := 6) (ret := (some .int)) (hh := [(0, 12, 15, 13), (0, 12, 19, 15)]) (by decide) rfl (Nat.le_of_ble_eq_true rfl) ?_
  intro p e s m args below meth c A ls hx hb hr hml hown hts hlocks hK hP hD hG hE hT hA hS hl
  have hown : s.vm.findClass RL = some m.cls := hown
  have hl : lv_has ls 6 [(0, .ref (a0 0)), (1, .int (iI p1)), (2, .int (iI p2)), (3, .int (iI p3)), (4, .ref (o1 0))] := hl
  obtain ⟨H, hH⟩ : ∃ z, z = s.heap := ⟨_, rfl⟩
  obtain ⟨locs, hlc⟩ : ∃ z : List Loc, z = [] := ⟨_, rfl⟩
  rw [← hH] at hP
  have hS : va_S A s.heap H locs := by rw [hH, hlc]; exact hS
  rw [← hlc, ← hH]
  clear hlc hH
  have kp := hp.2
  refine lv_aload hx hb dL_carrier_0 (lv_at hl 4 rfl) ?_
  refine lv_iconst (v := iI 0) hx hb dL_carrier_2 rfl ?_
  refine lv_aload_n hx hb dL_carrier_3 rfl (lv_at hl 0 rfl) ?_
  refine lv_iload_n hx hb dL_carrier_4 rfl (lv_at hl 1 rfl) ?_
  refine lv_iload_n hx hb dL_carrier_5 rfl (lv_at hl 2 rfl) ?_
  refine lv_iload_n hx hb dL_carrier_6 rfl (lv_at hl 3 rfl) ?_
  refine z_axc0 (vx_runV (As := [.int (iI p1), .int (iI p2), .int (iI p3)]) (rest := [.int (iI 0), .ref (o1 0)]) ⟨hx, hb, hml, hown, hts⟩ (c_X7_carrier_b l hst D k a0 S0 S1  p1 p2 p3 hp (by omega) (by omega) (by omega) _) (cwV 3 hts gL_carrier_X7_carrier rfl rfl rfl (by decide +kernel) ⟨(Nat.le_of_ble_eq_true rfl), (Nat.le_of_ble_eq_true rfl)⟩) (z_preVx hK hG hE hA hP hD hS (zrg 0 1 ++ zrg 1 15) (z_mcat (z_hd (n := 1) rfl) (z_sk (n := 1) (off := 0) (m := 15) rfl (z_hd (n := 15) rfl))) (by decide +kernel) 9 rfl rfl) rfl rfl hl.1 rfl (lv_room (Nat.le_of_ble_eq_true rfl)) dL_carrier_7 ⟨(Nat.le_of_ble_eq_true rfl), (Nat.le_of_ble_eq_true rfl)⟩) hA hP hD hS (zrg 0 1 ++ zrg 1 15) (z_mcat (z_hd (n := 1) rfl) (z_sk (n := 1) (off := 0) (m := 15) rfl (z_hd (n := 15) rfl))) (fun ce q9 H locs hP hS hce hcv hcl => ?_)
  refine vx_catch (name := "java/lang/IndexOutOfBoundsException") (E := "java/lang/IndexOutOfBoundsException") hown [] (⟨0, 12, 15, 13⟩ : ExceptionTableEntry) [(⟨0, 12, 19, 15⟩ : ExceptionTableEntry)] (hT.trans rfl) (fun _ h => absurd h List.not_mem_nil) rfl (by decide) (hts (.classLink RL 13 "java/lang/IndexOutOfBoundsException") (List.mem_of_getElem? (i := 1) rfl)) (va_Nw.use rfl (hE.1 "java/lang/IndexOutOfBoundsException" zXm_ioob)) hce hcv hcl ?_
  refine lv_astore (lv' := [(5, .ref q9), (0, .ref (a0 0)), (1, .int (iI p1)), (2, .int (iI p2)), (3, .int (iI p3)), (4, .ref (o1 0))]) hx hb dL_carrier_15 hl (by decide) rfl (fun ls hl => ?_)
  refine lv_iconst (v := iI 1) hx hb dL_carrier_17 rfl ?_
  exact vx_ret (z_iret hx hb hr hlocks hP hS dL_carrier_18 rfl rfl (Nat.le_of_ble_eq_true rfl) (Nat.le_of_ble_eq_true rfl))
set_option maxHeartbeats 4000000 in
set_option maxRecDepth 100000 in
theorem c_L_carrier_w (l : Launch) (hst : l.stackTraces = false) (D : va_G) (k : Nat → ClassId) (a0 : Nat → Nat) (o1 : Nat → Nat) (S0 : Nat → Nat → Int) (S1 : Nat → Nat → Int) (S2 : Nat → Nat → Int) (p1 : Int) (p2 : Int) (p3 : Int) (hp : pOK S1) (h0 : -2147483648 ≤ p1 ∧ p1 < 2147483648) (h1 : -2147483648 ≤ p2 ∧ p2 < 2147483648) (h2 : -2147483648 ≤ p3 ∧ p3 < 2147483648) (hc : 0 ≤ p2 ∧ ((p1 = 0 ∧ p2 < S1 3 1) ∨ (p1 = 1 ∧ p2 < S1 6 1) ∨ (p1 = 2 ∧ p2 < S1 9 1))) (hw : ¬ (0 ≤ p3 ∧ p3 ≤ 3)) : zML l yL_carrier wsL_carrier ({ frames := 8, cells := 1, slots := 6, locals := 127 } : Room) D k [.ref (a0 0), .int (iI p1), .int (iI p2), .int (iI p3), .ref (o1 0)] (wFac k a0 S0 ++ (wPlant k (subA a0 1) S1 ++ wArrJ k o1 S2)) (2) (wFac k a0 S0 ++ (wPlant k (subA a0 1) S1 ++ wArrJ k o1 S2)) 1 6 := by
  refine zML_of (cc := cL_carrier) (maxL := 6) (ret := (some .int)) (hh := [(0, 12, 15, 13), (0, 12, 19, 15)]) (by decide) rfl (Nat.le_of_ble_eq_true rfl) ?_
  intro p e s m args below meth c A ls hx hb hr hml hown hts hlocks hK hP hD hG hE hT hA hS hl
  have hown : s.vm.findClass RL = some m.cls := hown
  have hl : lv_has ls 6 [(0, .ref (a0 0)), (1, .int (iI p1)), (2, .int (iI p2)), (3, .int (iI p3)), (4, .ref (o1 0))] := hl
  obtain ⟨H, hH⟩ : ∃ z, z = s.heap := ⟨_, rfl⟩
  obtain ⟨locs, hlc⟩ : ∃ z : List Loc, z = [] := ⟨_, rfl⟩
  rw [← hH] at hP
  have hS : va_S A s.heap H locs := by rw [hH, hlc]; exact hS
  rw [← hlc, ← hH]
  clear hlc hH
  have kp := hp.2
  refine lv_aload hx hb dL_carrier_0 (lv_at hl 4 rfl) ?_
  refine lv_iconst (v := iI 0) hx hb dL_carrier_2 rfl ?_
  refine lv_aload_n hx hb dL_carrier_3 rfl (lv_at hl 0 rfl) ?_
  refine lv_iload_n hx hb dL_carrier_4 rfl (lv_at hl 1 rfl) ?_
  refine lv_iload_n hx hb dL_carrier_5 rfl (lv_at hl 2 rfl) ?_
  refine lv_iload_n hx hb dL_carrier_6 rfl (lv_at hl 3 rfl) ?_
  refine z_axc0 (vx_runV (As := [.int (iI p1), .int (iI p2), .int (iI p3)]) (rest := [.int (iI 0), .ref (o1 0)]) ⟨hx, hb, hml, hown, hts⟩ (c_X7_carrier_w l hst D k a0 S0 S1  p1 p2 p3 hp (by omega) (by omega) (by omega) (by omega) (by omega) _) (cwV 3 hts gL_carrier_X7_carrier rfl rfl rfl (by decide +kernel) ⟨(Nat.le_of_ble_eq_true rfl), (Nat.le_of_ble_eq_true rfl)⟩) (z_preVx hK hG hE hA hP hD hS (zrg 0 1 ++ zrg 1 15) (z_mcat (z_hd (n := 1) rfl) (z_sk (n := 1) (off := 0) (m := 15) rfl (z_hd (n := 15) rfl))) (by decide +kernel) 9 rfl rfl) rfl rfl hl.1 rfl (lv_room (Nat.le_of_ble_eq_true rfl)) dL_carrier_7 ⟨(Nat.le_of_ble_eq_true rfl), (Nat.le_of_ble_eq_true rfl)⟩) hA hP hD hS (zrg 0 1 ++ zrg 1 15) (z_mcat (z_hd (n := 1) rfl) (z_sk (n := 1) (off := 0) (m := 15) rfl (z_hd (n := 15) rfl))) (fun ce q9 H locs hP hS hce hcv hcl => ?_)
  refine vx_catch (name := "java/lang/IllegalArgumentException") (E := "java/lang/IllegalArgumentException") hown [(⟨0, 12, 15, 13⟩ : ExceptionTableEntry)] (⟨0, 12, 19, 15⟩ : ExceptionTableEntry) [] (hT.trans rfl) (List.forall_mem_cons.mpr ⟨Or.inr ⟨by decide, _, (hts (.classLink RL 13 "java/lang/IndexOutOfBoundsException") (List.mem_of_getElem? (i := 1) rfl)), hE.2.2 ("java/lang/IllegalArgumentException", "java/lang/IndexOutOfBoundsException") (by decide +kernel)⟩, (fun _ h => absurd h List.not_mem_nil)⟩) rfl (by decide) (hts (.classLink RL 15 "java/lang/IllegalArgumentException") (List.mem_of_getElem? (i := 2) rfl)) (va_Nw.use rfl (hE.1 "java/lang/IllegalArgumentException" zXm_iarg)) hce hcv hcl ?_
  refine lv_astore (lv' := [(5, .ref q9), (0, .ref (a0 0)), (1, .int (iI p1)), (2, .int (iI p2)), (3, .int (iI p3)), (4, .ref (o1 0))]) hx hb dL_carrier_19 hl (by decide) rfl (fun ls hl => ?_)
  refine lv_iconst (v := iI 2) hx hb dL_carrier_21 rfl ?_
  exact vx_ret (z_iret hx hb hr hlocks hP hS dL_carrier_22 rfl rfl (Nat.le_of_ble_eq_true rfl) (Nat.le_of_ble_eq_true rfl))
set_option maxHeartbeats 4000000 in
set_option maxRecDepth 100000 in
theorem c_L_yawns_ok (l : Launch) (hst : l.stackTraces = false) (D : va_G) (k : Nat → ClassId) (a0 : Nat → Nat) (o1 : Nat → Nat) (S0 : Nat → Nat → Int) (S1 : Nat → Nat → Int) (S2 : Nat → Nat → Int) (p1 : Int) (hp : pOK S1) (h0 : -2147483648 ≤ p1 ∧ p1 < 2147483648) (hc : 0 ≤ p1 ∧ p1 < S1 13 1) : zML l yL_yawns wsL_yawns ({ frames := 6, cells := 1, slots := 6, locals := 82 } : Room) D k [.ref (a0 0), .int (iI p1), .ref (o1 0)] (wFac k a0 S0 ++ (wPlant k (subA a0 1) S1 ++ wArrJ k o1 S2)) (0) (wFac k a0 S0 ++ (wPlant k (subA a0 1) S1 ++ wArrJ k o1 (up2 S2 0 0 (wYaw (S1 14) (S1 13 1) p1)))) 1 6 := by
  refine zML_of (cc := cL_yawns) (maxL := 4) (ret := (some .int)) (hh := [(0, 9, 12, 13)]) (by decide) rfl (Nat.le_of_ble_eq_true rfl) ?_
  intro p e s m args below meth c A ls hx hb hr hml hown hts hlocks hK hP hD hG hE hT hA hS hl
  have hown : s.vm.findClass RL = some m.cls := hown
  have hl : lv_has ls 4 [(0, .ref (a0 0)), (1, .int (iI p1)), (2, .ref (o1 0))] := hl
  obtain ⟨H, hH⟩ : ∃ z, z = s.heap := ⟨_, rfl⟩
  obtain ⟨locs, hlc⟩ : ∃ z : List Loc, z = [] := ⟨_, rfl⟩
  rw [← hH] at hP
  have hS : va_S A s.heap H locs := by rw [hH, hlc]; exact hS
  rw [← hlc, ← hH]
  clear hlc hH
  have kp := hp.2
  refine lv_aload_n hx hb dL_yawns_0 rfl (lv_at hl 2 rfl) ?_
  refine lv_iconst (v := iI 0) hx hb dL_yawns_1 rfl ?_
  refine lv_aload_n hx hb dL_yawns_2 rfl (lv_at hl 0 rfl) ?_
  refine lv_iload_n hx hb dL_yawns_3 rfl (lv_at hl 1 rfl) ?_
  refine z_ai0 (va_runV (As := [.int (iI p1)]) (rest := [.int (iI 0), .ref (o1 0)]) ⟨hx, hb, hml, hown, hts⟩ (c_X7_yawns_ok l D k a0 S0 S1  p1 hp (by omega) (by omega) _) (cwV 1 hts gL_yawns_X7_yawns rfl rfl rfl (by decide +kernel) ⟨(Nat.le_of_ble_eq_true rfl), (Nat.le_of_ble_eq_true rfl)⟩) (z_preV hK hG hA hP hD hS (zrg 0 1 ++ zrg 1 15) (z_mcat (z_hd (n := 1) rfl) (z_sk (n := 1) (off := 0) (m := 15) rfl (z_hd (n := 15) rfl))) (by decide +kernel) 9 rfl rfl) rfl rfl hl.1 rfl (lv_room (Nat.le_of_ble_eq_true rfl)) dL_yawns_4 ⟨(Nat.le_of_ble_eq_true rfl), (Nat.le_of_ble_eq_true rfl)⟩) hA hP hD hS (zrg 0 1 ++ zrg 1 15) (z_mcat (z_hd (n := 1) rfl) (z_sk (n := 1) (off := 0) (m := 15) rfl (z_hd (n := 15) rfl))) (fun H locs hP hS => ?_)
  have f_1 : -1000000000 ≤ S1 13 1 ∧ S1 13 1 ≤ 1000000000 := (pOK_b hp 13 (by decide)) 1
  refine lv_i2l (v := (iI (wYaw (S1 14) (S1 13 1) p1)).toInt64) hx hb dL_yawns_7 rfl ?_
  refine z_last hx hb hK hP hD hS 16 4 (f := S2 0) rfl rfl (i := 0) (by omega) (by omega) (by decide) 0 rfl dL_yawns_8 (fun H locs hP hD hS => ?_)
  have hP : va_P D vwCl (wFac k a0 S0 ++ (wPlant k (subA a0 1) S1 ++ wArrJ k o1 (up2 S2 0 0 (wYaw (S1 14) (S1 13 1) p1)))) H := hP
  have hD : va_D A (wFac k a0 S0 ++ (wPlant k (subA a0 1) S1 ++ wArrJ k o1 (up2 S2 0 0 (wYaw (S1 14) (S1 13 1) p1)))) := hD
  refine lv_goto (tgt := 15) hx hb dL_yawns_9 (by decide) ?_
  refine lv_iconst (v := iI 0) hx hb dL_yawns_15 rfl ?_
  exact vx_ret (z_iret hx hb hr hlocks hP hS dL_yawns_16 rfl rfl (Nat.le_of_ble_eq_true rfl) (Nat.le_of_ble_eq_true rfl))
set_option maxHeartbeats 4000000 in
set_option maxRecDepth 100000 in
theorem c_L_yawns_x (l : Launch) (hst : l.stackTraces = false) (D : va_G) (k : Nat → ClassId) (a0 : Nat → Nat) (o1 : Nat → Nat) (S0 : Nat → Nat → Int) (S1 : Nat → Nat → Int) (S2 : Nat → Nat → Int) (p1 : Int) (hp : pOK S1) (h0 : -2147483648 ≤ p1 ∧ p1 < 2147483648) (hc : ¬ (0 ≤ p1 ∧ p1 < S1 13 1)) : zML l yL_yawns wsL_yawns ({ frames := 7, cells := 1, slots := 6, locals := 103 } : Room) D k [.ref (a0 0), .int (iI p1), .ref (o1 0)] (wFac k a0 S0 ++ (wPlant k (subA a0 1) S1 ++ wArrJ k o1 S2)) (1) (wFac k a0 S0 ++ (wPlant k (subA a0 1) S1 ++ wArrJ k o1 S2)) 1 6 := by
  refine zML_of (cc := cL_yawns) (maxL := 4) (ret := (some .int)) (hh := [(0, 9, 12, 13)]) (by decide) rfl (Nat.le_of_ble_eq_true rfl) ?_
  intro p e s m args below meth c A ls hx hb hr hml hown hts hlocks hK hP hD hG hE hT hA hS hl
  have hown : s.vm.findClass RL = some m.cls := hown
  have hl : lv_has ls 4 [(0, .ref (a0 0)), (1, .int (iI p1)), (2, .ref (o1 0))] := hl
  obtain ⟨H, hH⟩ : ∃ z, z = s.heap := ⟨_, rfl⟩
  obtain ⟨locs, hlc⟩ : ∃ z : List Loc, z = [] := ⟨_, rfl⟩
  rw [← hH] at hP
  have hS : va_S A s.heap H locs := by rw [hH, hlc]; exact hS
  rw [← hlc, ← hH]
  clear hlc hH
  have kp := hp.2
  refine lv_aload_n hx hb dL_yawns_0 rfl (lv_at hl 2 rfl) ?_
  refine lv_iconst (v := iI 0) hx hb dL_yawns_1 rfl ?_
  refine lv_aload_n hx hb dL_yawns_2 rfl (lv_at hl 0 rfl) ?_
  refine lv_iload_n hx hb dL_yawns_3 rfl (lv_at hl 1 rfl) ?_
  refine z_axc0 (vx_runV (As := [.int (iI p1)]) (rest := [.int (iI 0), .ref (o1 0)]) ⟨hx, hb, hml, hown, hts⟩ (c_X7_yawns_x l hst D k a0 S0 S1  p1 hp (by omega) (by omega) _) (cwV 1 hts gL_yawns_X7_yawns rfl rfl rfl (by decide +kernel) ⟨(Nat.le_of_ble_eq_true rfl), (Nat.le_of_ble_eq_true rfl)⟩) (z_preVx hK hG hE hA hP hD hS (zrg 0 1 ++ zrg 1 15) (z_mcat (z_hd (n := 1) rfl) (z_sk (n := 1) (off := 0) (m := 15) rfl (z_hd (n := 15) rfl))) (by decide +kernel) 9 rfl rfl) rfl rfl hl.1 rfl (lv_room (Nat.le_of_ble_eq_true rfl)) dL_yawns_4 ⟨(Nat.le_of_ble_eq_true rfl), (Nat.le_of_ble_eq_true rfl)⟩) hA hP hD hS (zrg 0 1 ++ zrg 1 15) (z_mcat (z_hd (n := 1) rfl) (z_sk (n := 1) (off := 0) (m := 15) rfl (z_hd (n := 15) rfl))) (fun ce q9 H locs hP hS hce hcv hcl => ?_)
  refine vx_catch (name := "java/lang/IndexOutOfBoundsException") (E := "java/lang/IndexOutOfBoundsException") hown [] (⟨0, 9, 12, 13⟩ : ExceptionTableEntry) [] (hT.trans rfl) (fun _ h => absurd h List.not_mem_nil) rfl (by decide) (hts (.classLink RL 13 "java/lang/IndexOutOfBoundsException") (List.mem_of_getElem? (i := 1) rfl)) (va_Nw.use rfl (hE.1 "java/lang/IndexOutOfBoundsException" zXm_ioob)) hce hcv hcl ?_
  refine lv_astore_n (lv' := [(3, .ref q9), (0, .ref (a0 0)), (1, .int (iI p1)), (2, .ref (o1 0))]) hx hb dL_yawns_12 rfl hl (by decide) rfl (fun ls hl => ?_)
  refine lv_iconst (v := iI 1) hx hb dL_yawns_13 rfl ?_
  exact vx_ret (z_iret hx hb hr hlocks hP hS dL_yawns_14 rfl rfl (Nat.le_of_ble_eq_true rfl) (Nat.le_of_ble_eq_true rfl))
noncomputable def sp_L_passes_ok (S0 : Nat → Nat → Int) (S1 : Nat → Nat → Int) (S2 : Nat → Nat → Int) (p1 : Int) (p2 : Int) (p3 : Int) : Int := zif ((sp_X7_passes_ok S0 S1 p1 p2 p3) = 0)
  (0)
  (0)
noncomputable def sS2_0_L_passes_ok (S0 : Nat → Nat → Int) (S1 : Nat → Nat → Int) (S2 : Nat → Nat → Int) (p1 : Int) (p2 : Int) (p3 : Int) : (Nat → Int) := zif ((sp_X7_passes_ok S0 S1 p1 p2 p3) = 0)
  (upZ (S2 0) 0 0)
  (upZ (S2 0) 0 1)
set_option maxHeartbeats 4000000 in
set_option maxRecDepth 100000 in
theorem c_L_passes_ok (l : Launch) (hst : l.stackTraces = false) (D : va_G) (k : Nat → ClassId) (a0 : Nat → Nat) (o1 : Nat → Nat) (S0 : Nat → Nat → Int) (S1 : Nat → Nat → Int) (S2 : Nat → Nat → Int) (p1 : Int) (p2 : Int) (p3 : Int) (hp : pOK S1) (h0 : -2147483648 ≤ p1 ∧ p1 < 2147483648) (h1 : -2147483648 ≤ p2 ∧ p2 < 2147483648) (h2 : -2147483648 ≤ p3 ∧ p3 < 2147483648) (hc : 0 ≤ p2 ∧ ((p1 = 0 ∧ p2 < S1 3 1) ∨ (p1 = 1 ∧ p2 < S1 6 1) ∨ (p1 = 2 ∧ p2 < S1 9 1))) (hw : 1 ≤ p3 ∧ p3 ≤ 3) : zML l yL_passes wsL_passes ({ frames := 6, cells := 1, slots := 6, locals := 82 } : Room) D k [.ref (a0 0), .int (iI p1), .int (iI p2), .int (iI p3), .ref (o1 0)] (wFac k a0 S0 ++ (wPlant k (subA a0 1) S1 ++ wArrJ k o1 S2)) (sp_L_passes_ok S0 S1 S2 p1 p2 p3) (wFac k a0 S0 ++ (wPlant k (subA a0 1) S1 ++ wArrJ k o1 (upA S2 0 (sS2_0_L_passes_ok S0 S1 S2 p1 p2 p3)))) 1 6 := by
  refine zML_of (cc := cL_passes) (maxL := 6) (ret := (some .int)) (hh := [(0, 19, 22, 13), (0, 19, 26, 15)]) (by decide) rfl (Nat.le_of_ble_eq_true rfl) ?_
  intro p e s m args below meth c A ls hx hb hr hml hown hts hlocks hK hP hD hG hE hT hA hS hl
  have hown : s.vm.findClass RL = some m.cls := hown
  have hl : lv_has ls 6 [(0, .ref (a0 0)), (1, .int (iI p1)), (2, .int (iI p2)), (3, .int (iI p3)), (4, .ref (o1 0))] := hl
  obtain ⟨H, hH⟩ : ∃ z, z = s.heap := ⟨_, rfl⟩
  obtain ⟨locs, hlc⟩ : ∃ z : List Loc, z = [] := ⟨_, rfl⟩
  rw [← hH] at hP
  have hS : va_S A s.heap H locs := by rw [hH, hlc]; exact hS
  rw [← hlc, ← hH]
  clear hlc hH
  have kp := hp.2
  refine lv_aload hx hb dL_passes_0 (lv_at hl 4 rfl) ?_
  refine lv_iconst (v := iI 0) hx hb dL_passes_2 rfl ?_
  refine lv_aload_n hx hb dL_passes_3 rfl (lv_at hl 0 rfl) ?_
  refine lv_iload_n hx hb dL_passes_4 rfl (lv_at hl 1 rfl) ?_
  refine lv_iload_n hx hb dL_passes_5 rfl (lv_at hl 2 rfl) ?_
  refine lv_iload_n hx hb dL_passes_6 rfl (lv_at hl 3 rfl) ?_
  refine z_ai0 (va_runV (As := [.int (iI p1), .int (iI p2), .int (iI p3)]) (rest := [.int (iI 0), .ref (o1 0)]) ⟨hx, hb, hml, hown, hts⟩ (c_X7_passes_ok l D k a0 S0 S1  p1 p2 p3 hp (by omega) (by omega) (by omega) (by omega) (by omega) _) (cwV 3 hts gL_passes_X7_passes rfl rfl rfl (by decide +kernel) ⟨(Nat.le_of_ble_eq_true rfl), (Nat.le_of_ble_eq_true rfl)⟩) (z_preV hK hG hA hP hD hS (zrg 0 1 ++ zrg 1 15) (z_mcat (z_hd (n := 1) rfl) (z_sk (n := 1) (off := 0) (m := 15) rfl (z_hd (n := 15) rfl))) (by decide +kernel) 9 rfl rfl) rfl rfl hl.1 rfl (lv_room (Nat.le_of_ble_eq_true rfl)) dL_passes_7 ⟨(Nat.le_of_ble_eq_true rfl), (Nat.le_of_ble_eq_true rfl)⟩) hA hP hD hS (zrg 0 1 ++ zrg 1 15) (z_mcat (z_hd (n := 1) rfl) (z_sk (n := 1) (off := 0) (m := 15) rfl (z_hd (n := 15) rfl))) (fun H locs hP hS => ?_)
  have q_1 : 0 ≤ sp_X7_passes_ok S0 S1 p1 p2 p3 ∧ sp_X7_passes_ok S0 S1 p1 p2 p3 ≤ 1 := pass_rng S0 S1 p1 p2 p3
  refine zi_if_eq (tgt := 17) hx hb dL_passes_10 (by decide) ⟨by omega, by omega⟩ (fun c_2 => ?_) (fun c_2 => ?_)
  · refine lv_lconst (v := (iI 0).toInt64) hx hb dL_passes_17 rfl ?_
    refine z_last hx hb hK hP hD hS 16 4 (f := S2 0) rfl rfl (i := 0) (by omega) (by omega) (by decide) 0 rfl dL_passes_18 (fun H locs hP hD hS => ?_)
    have hP : va_P D vwCl (wFac k a0 S0 ++ (wPlant k (subA a0 1) S1 ++ wArrJ k o1 (up2 S2 0 0 0))) H := hP
    have hD : va_D A (wFac k a0 S0 ++ (wPlant k (subA a0 1) S1 ++ wArrJ k o1 (up2 S2 0 0 0))) := hD
    refine lv_goto (tgt := 30) hx hb dL_passes_19 (by decide) ?_
    refine lv_iconst (v := iI 0) hx hb dL_passes_30 rfl ?_
    exact vx_ret (z_iret hx hb hr hlocks hP hS dL_passes_31 (Eq.trans (zif_pos c_2) rfl) (congrArg (fun z => wFac k a0 S0 ++ (wPlant k (subA a0 1) S1 ++ wArrJ k o1 (upA S2 0 z))) (show sS2_0_L_passes_ok S0 S1 S2 p1 p2 p3 = upZ (S2 0) 0 0 from (Eq.trans (zif_pos c_2) rfl))) (Nat.le_of_ble_eq_true rfl) (Nat.le_of_ble_eq_true rfl))
  · refine lv_lconst (v := (iI 1).toInt64) hx hb dL_passes_13 rfl ?_
    refine lv_goto (tgt := 18) hx hb dL_passes_14 (by decide) ?_
    refine z_last hx hb hK hP hD hS 16 4 (f := S2 0) rfl rfl (i := 0) (by omega) (by omega) (by decide) 0 rfl dL_passes_18 (fun H locs hP hD hS => ?_)
    have hP : va_P D vwCl (wFac k a0 S0 ++ (wPlant k (subA a0 1) S1 ++ wArrJ k o1 (up2 S2 0 0 1))) H := hP
    have hD : va_D A (wFac k a0 S0 ++ (wPlant k (subA a0 1) S1 ++ wArrJ k o1 (up2 S2 0 0 1))) := hD
    refine lv_goto (tgt := 30) hx hb dL_passes_19 (by decide) ?_
    refine lv_iconst (v := iI 0) hx hb dL_passes_30 rfl ?_
    exact vx_ret (z_iret hx hb hr hlocks hP hS dL_passes_31 (Eq.trans (zif_neg c_2) rfl) (congrArg (fun z => wFac k a0 S0 ++ (wPlant k (subA a0 1) S1 ++ wArrJ k o1 (upA S2 0 z))) (show sS2_0_L_passes_ok S0 S1 S2 p1 p2 p3 = upZ (S2 0) 0 1 from (Eq.trans (zif_neg c_2) rfl))) (Nat.le_of_ble_eq_true rfl) (Nat.le_of_ble_eq_true rfl))
set_option maxHeartbeats 4000000 in
set_option maxRecDepth 100000 in
theorem c_L_passes_b (l : Launch) (hst : l.stackTraces = false) (D : va_G) (k : Nat → ClassId) (a0 : Nat → Nat) (o1 : Nat → Nat) (S0 : Nat → Nat → Int) (S1 : Nat → Nat → Int) (S2 : Nat → Nat → Int) (p1 : Int) (p2 : Int) (p3 : Int) (hp : pOK S1) (h0 : -2147483648 ≤ p1 ∧ p1 < 2147483648) (h1 : -2147483648 ≤ p2 ∧ p2 < 2147483648) (hc : ¬ (0 ≤ p2 ∧ ((p1 = 0 ∧ p2 < S1 3 1) ∨ (p1 = 1 ∧ p2 < S1 6 1) ∨ (p1 = 2 ∧ p2 < S1 9 1)))) : zML l yL_passes wsL_passes ({ frames := 8, cells := 1, slots := 6, locals := 128 } : Room) D k [.ref (a0 0), .int (iI p1), .int (iI p2), .int (iI p3), .ref (o1 0)] (wFac k a0 S0 ++ (wPlant k (subA a0 1) S1 ++ wArrJ k o1 S2)) (1) (wFac k a0 S0 ++ (wPlant k (subA a0 1) S1 ++ wArrJ k o1 S2)) 1 6 := by
  refine zML_of (cc := cL_passes) (maxL := 6) (ret := (some .int)) (hh := [(0, 19, 22, 13), (0, 19, 26, 15)]) (by decide) rfl (Nat.le_of_ble_eq_true rfl) ?_
  intro p e s m args below meth c A ls hx hb hr hml hown hts hlocks hK hP hD hG hE hT hA hS hl
  have hown : s.vm.findClass RL = some m.cls := hown
  have hl : lv_has ls 6 [(0, .ref (a0 0)), (1, .int (iI p1)), (2, .int (iI p2)), (3, .int (iI p3)), (4, .ref (o1 0))] := hl
  obtain ⟨H, hH⟩ : ∃ z, z = s.heap := ⟨_, rfl⟩
  obtain ⟨locs, hlc⟩ : ∃ z : List Loc, z = [] := ⟨_, rfl⟩
  rw [← hH] at hP
  have hS : va_S A s.heap H locs := by rw [hH, hlc]; exact hS
  rw [← hlc, ← hH]
  clear hlc hH
  have kp := hp.2
  refine lv_aload hx hb dL_passes_0 (lv_at hl 4 rfl) ?_
  refine lv_iconst (v := iI 0) hx hb dL_passes_2 rfl ?_
  refine lv_aload_n hx hb dL_passes_3 rfl (lv_at hl 0 rfl) ?_
  refine lv_iload_n hx hb dL_passes_4 rfl (lv_at hl 1 rfl) ?_
  refine lv_iload_n hx hb dL_passes_5 rfl (lv_at hl 2 rfl) ?_
  refine lv_iload_n hx hb dL_passes_6 rfl (lv_at hl 3 rfl) ?_
  refine z_axc0 (vx_runV (As := [.int (iI p1), .int (iI p2), .int (iI p3)]) (rest := [.int (iI 0), .ref (o1 0)]) ⟨hx, hb, hml, hown, hts⟩ (c_X7_passes_b l hst D k a0 S0 S1  p1 p2 p3 hp (by omega) (by omega) (by omega) _) (cwV 3 hts gL_passes_X7_passes rfl rfl rfl (by decide +kernel) ⟨(Nat.le_of_ble_eq_true rfl), (Nat.le_of_ble_eq_true rfl)⟩) (z_preVx hK hG hE hA hP hD hS (zrg 0 1 ++ zrg 1 15) (z_mcat (z_hd (n := 1) rfl) (z_sk (n := 1) (off := 0) (m := 15) rfl (z_hd (n := 15) rfl))) (by decide +kernel) 9 rfl rfl) rfl rfl hl.1 rfl (lv_room (Nat.le_of_ble_eq_true rfl)) dL_passes_7 ⟨(Nat.le_of_ble_eq_true rfl), (Nat.le_of_ble_eq_true rfl)⟩) hA hP hD hS (zrg 0 1 ++ zrg 1 15) (z_mcat (z_hd (n := 1) rfl) (z_sk (n := 1) (off := 0) (m := 15) rfl (z_hd (n := 15) rfl))) (fun ce q9 H locs hP hS hce hcv hcl => ?_)
  refine vx_catch (name := "java/lang/IndexOutOfBoundsException") (E := "java/lang/IndexOutOfBoundsException") hown [] (⟨0, 19, 22, 13⟩ : ExceptionTableEntry) [(⟨0, 19, 26, 15⟩ : ExceptionTableEntry)] (hT.trans rfl) (fun _ h => absurd h List.not_mem_nil) rfl (by decide) (hts (.classLink RL 13 "java/lang/IndexOutOfBoundsException") (List.mem_of_getElem? (i := 1) rfl)) (va_Nw.use rfl (hE.1 "java/lang/IndexOutOfBoundsException" zXm_ioob)) hce hcv hcl ?_
  refine lv_astore (lv' := [(5, .ref q9), (0, .ref (a0 0)), (1, .int (iI p1)), (2, .int (iI p2)), (3, .int (iI p3)), (4, .ref (o1 0))]) hx hb dL_passes_22 hl (by decide) rfl (fun ls hl => ?_)
  refine lv_iconst (v := iI 1) hx hb dL_passes_24 rfl ?_
  exact vx_ret (z_iret hx hb hr hlocks hP hS dL_passes_25 rfl rfl (Nat.le_of_ble_eq_true rfl) (Nat.le_of_ble_eq_true rfl))
set_option maxHeartbeats 4000000 in
set_option maxRecDepth 100000 in
theorem c_L_passes_w (l : Launch) (hst : l.stackTraces = false) (D : va_G) (k : Nat → ClassId) (a0 : Nat → Nat) (o1 : Nat → Nat) (S0 : Nat → Nat → Int) (S1 : Nat → Nat → Int) (S2 : Nat → Nat → Int) (p1 : Int) (p2 : Int) (p3 : Int) (hp : pOK S1) (h0 : -2147483648 ≤ p1 ∧ p1 < 2147483648) (h1 : -2147483648 ≤ p2 ∧ p2 < 2147483648) (h2 : -2147483648 ≤ p3 ∧ p3 < 2147483648) (hc : 0 ≤ p2 ∧ ((p1 = 0 ∧ p2 < S1 3 1) ∨ (p1 = 1 ∧ p2 < S1 6 1) ∨ (p1 = 2 ∧ p2 < S1 9 1))) (hw : ¬ (1 ≤ p3 ∧ p3 ≤ 3)) : zML l yL_passes wsL_passes ({ frames := 7, cells := 1, slots := 6, locals := 106 } : Room) D k [.ref (a0 0), .int (iI p1), .int (iI p2), .int (iI p3), .ref (o1 0)] (wFac k a0 S0 ++ (wPlant k (subA a0 1) S1 ++ wArrJ k o1 S2)) (2) (wFac k a0 S0 ++ (wPlant k (subA a0 1) S1 ++ wArrJ k o1 S2)) 1 6 := by
  refine zML_of (cc := cL_passes) (maxL := 6) (ret := (some .int)) (hh := [(0, 19, 22, 13), (0, 19, 26, 15)]) (by decide) rfl (Nat.le_of_ble_eq_true rfl) ?_
  intro p e s m args below meth c A ls hx hb hr hml hown hts hlocks hK hP hD hG hE hT hA hS hl
  have hown : s.vm.findClass RL = some m.cls := hown
  have hl : lv_has ls 6 [(0, .ref (a0 0)), (1, .int (iI p1)), (2, .int (iI p2)), (3, .int (iI p3)), (4, .ref (o1 0))] := hl
  obtain ⟨H, hH⟩ : ∃ z, z = s.heap := ⟨_, rfl⟩
  obtain ⟨locs, hlc⟩ : ∃ z : List Loc, z = [] := ⟨_, rfl⟩
  rw [← hH] at hP
  have hS : va_S A s.heap H locs := by rw [hH, hlc]; exact hS
  rw [← hlc, ← hH]
  clear hlc hH
  have kp := hp.2
  refine lv_aload hx hb dL_passes_0 (lv_at hl 4 rfl) ?_
  refine lv_iconst (v := iI 0) hx hb dL_passes_2 rfl ?_
  refine lv_aload_n hx hb dL_passes_3 rfl (lv_at hl 0 rfl) ?_
  refine lv_iload_n hx hb dL_passes_4 rfl (lv_at hl 1 rfl) ?_
  refine lv_iload_n hx hb dL_passes_5 rfl (lv_at hl 2 rfl) ?_
  refine lv_iload_n hx hb dL_passes_6 rfl (lv_at hl 3 rfl) ?_
  refine z_axc0 (vx_runV (As := [.int (iI p1), .int (iI p2), .int (iI p3)]) (rest := [.int (iI 0), .ref (o1 0)]) ⟨hx, hb, hml, hown, hts⟩ (c_X7_passes_w l hst D k a0 S0 S1  p1 p2 p3 hp (by omega) (by omega) (by omega) (by omega) (by omega) _) (cwV 3 hts gL_passes_X7_passes rfl rfl rfl (by decide +kernel) ⟨(Nat.le_of_ble_eq_true rfl), (Nat.le_of_ble_eq_true rfl)⟩) (z_preVx hK hG hE hA hP hD hS (zrg 0 1 ++ zrg 1 15) (z_mcat (z_hd (n := 1) rfl) (z_sk (n := 1) (off := 0) (m := 15) rfl (z_hd (n := 15) rfl))) (by decide +kernel) 9 rfl rfl) rfl rfl hl.1 rfl (lv_room (Nat.le_of_ble_eq_true rfl)) dL_passes_7 ⟨(Nat.le_of_ble_eq_true rfl), (Nat.le_of_ble_eq_true rfl)⟩) hA hP hD hS (zrg 0 1 ++ zrg 1 15) (z_mcat (z_hd (n := 1) rfl) (z_sk (n := 1) (off := 0) (m := 15) rfl (z_hd (n := 15) rfl))) (fun ce q9 H locs hP hS hce hcv hcl => ?_)
  refine vx_catch (name := "java/lang/IllegalArgumentException") (E := "java/lang/IllegalArgumentException") hown [(⟨0, 19, 22, 13⟩ : ExceptionTableEntry)] (⟨0, 19, 26, 15⟩ : ExceptionTableEntry) [] (hT.trans rfl) (List.forall_mem_cons.mpr ⟨Or.inr ⟨by decide, _, (hts (.classLink RL 13 "java/lang/IndexOutOfBoundsException") (List.mem_of_getElem? (i := 1) rfl)), hE.2.2 ("java/lang/IllegalArgumentException", "java/lang/IndexOutOfBoundsException") (by decide +kernel)⟩, (fun _ h => absurd h List.not_mem_nil)⟩) rfl (by decide) (hts (.classLink RL 15 "java/lang/IllegalArgumentException") (List.mem_of_getElem? (i := 2) rfl)) (va_Nw.use rfl (hE.1 "java/lang/IllegalArgumentException" zXm_iarg)) hce hcv hcl ?_
  refine lv_astore (lv' := [(5, .ref q9), (0, .ref (a0 0)), (1, .int (iI p1)), (2, .int (iI p2)), (3, .int (iI p3)), (4, .ref (o1 0))]) hx hb dL_passes_26 hl (by decide) rfl (fun ls hl => ?_)
  refine lv_iconst (v := iI 2) hx hb dL_passes_28 rfl ?_
  exact vx_ret (z_iret hx hb hr hlocks hP hS dL_passes_29 rfl rfl (Nat.le_of_ble_eq_true rfl) (Nat.le_of_ble_eq_true rfl))
set_option maxHeartbeats 4000000 in
set_option maxRecDepth 100000 in
theorem c_L_next_ok (l : Launch) (hst : l.stackTraces = false) (D : va_G) (k : Nat → ClassId) (a0 : Nat → Nat) (o1 : Nat → Nat) (S0 : Nat → Nat → Int) (S1 : Nat → Nat → Int) (S2 : Nat → Nat → Int) (hp : pOK S1) (hc : 1 ≤ S1 13 1) : zML l yL_next wsL_next ({ frames := 6, cells := 1, slots := 6, locals := 82 } : Room) D k [.ref (a0 0), .ref (o1 0)] (wFac k a0 S0 ++ (wPlant k (subA a0 1) S1 ++ wArrJ k o1 S2)) (0) (wFac k a0 S0 ++ (wPlant k (subA a0 1) S1 ++ wArrJ k o1 (up2 S2 0 0 (sp_X1_freshAt (sub2 S1 13) 0)))) 1 6 := by
  refine zML_of (cc := cL_next) (maxL := 3) (ret := (some .int)) (hh := [(0, 8, 11, 60)]) (by decide) rfl (Nat.le_of_ble_eq_true rfl) ?_
  intro p e s m args below meth c A ls hx hb hr hml hown hts hlocks hK hP hD hG hE hT hA hS hl
  have hown : s.vm.findClass RL = some m.cls := hown
  have hl : lv_has ls 3 [(0, .ref (a0 0)), (1, .ref (o1 0))] := hl
  obtain ⟨H, hH⟩ : ∃ z, z = s.heap := ⟨_, rfl⟩
  obtain ⟨locs, hlc⟩ : ∃ z : List Loc, z = [] := ⟨_, rfl⟩
  rw [← hH] at hP
  have hS : va_S A s.heap H locs := by rw [hH, hlc]; exact hS
  rw [← hlc, ← hH]
  clear hlc hH
  have kp := hp.2
  refine lv_aload_n hx hb dL_next_0 rfl (lv_at hl 1 rfl) ?_
  refine lv_iconst (v := iI 0) hx hb dL_next_1 rfl ?_
  refine lv_aload_n hx hb dL_next_2 rfl (lv_at hl 0 rfl) ?_
  refine z_ai0 (va_runV (As := []) (rest := [.int (iI 0), .ref (o1 0)]) ⟨hx, hb, hml, hown, hts⟩ (c_X7_next_ok l D k a0 S0 S1   hp (by omega) _) (cwV 0 hts gL_next_X7_next rfl rfl rfl (by decide +kernel) ⟨(Nat.le_of_ble_eq_true rfl), (Nat.le_of_ble_eq_true rfl)⟩) (z_preV hK hG hA hP hD hS (zrg 0 1 ++ zrg 1 15) (z_mcat (z_hd (n := 1) rfl) (z_sk (n := 1) (off := 0) (m := 15) rfl (z_hd (n := 15) rfl))) (by decide +kernel) 9 rfl rfl) rfl rfl hl.1 rfl (lv_room (Nat.le_of_ble_eq_true rfl)) dL_next_3 ⟨(Nat.le_of_ble_eq_true rfl), (Nat.le_of_ble_eq_true rfl)⟩) hA hP hD hS (zrg 0 1 ++ zrg 1 15) (z_mcat (z_hd (n := 1) rfl) (z_sk (n := 1) (off := 0) (m := 15) rfl (z_hd (n := 15) rfl))) (fun H locs hP hS => ?_)
  refine lv_i2l (v := (iI (sp_X1_freshAt (sub2 S1 13) 0)).toInt64) hx hb dL_next_6 rfl ?_
  refine z_last hx hb hK hP hD hS 16 4 (f := S2 0) rfl rfl (i := 0) (by omega) (by omega) (by decide) 0 rfl dL_next_7 (fun H locs hP hD hS => ?_)
  have hP : va_P D vwCl (wFac k a0 S0 ++ (wPlant k (subA a0 1) S1 ++ wArrJ k o1 (up2 S2 0 0 (sp_X1_freshAt (sub2 S1 13) 0)))) H := hP
  have hD : va_D A (wFac k a0 S0 ++ (wPlant k (subA a0 1) S1 ++ wArrJ k o1 (up2 S2 0 0 (sp_X1_freshAt (sub2 S1 13) 0)))) := hD
  refine lv_goto (tgt := 14) hx hb dL_next_8 (by decide) ?_
  refine lv_iconst (v := iI 0) hx hb dL_next_14 rfl ?_
  exact vx_ret (z_iret hx hb hr hlocks hP hS dL_next_15 rfl rfl (Nat.le_of_ble_eq_true rfl) (Nat.le_of_ble_eq_true rfl))
set_option maxHeartbeats 4000000 in
set_option maxRecDepth 100000 in
theorem c_L_next_x (l : Launch) (hst : l.stackTraces = false) (D : va_G) (k : Nat → ClassId) (a0 : Nat → Nat) (o1 : Nat → Nat) (S0 : Nat → Nat → Int) (S1 : Nat → Nat → Int) (S2 : Nat → Nat → Int) (hp : pOK S1) (hc : S1 13 1 = 0) : zML l yL_next wsL_next ({ frames := 8, cells := 1, slots := 6, locals := 122 } : Room) D k [.ref (a0 0), .ref (o1 0)] (wFac k a0 S0 ++ (wPlant k (subA a0 1) S1 ++ wArrJ k o1 S2)) (1) (wFac k a0 S0 ++ (wPlant k (subA a0 1) S1 ++ wArrJ k o1 S2)) 1 6 := by
  refine zML_of (cc := cL_next) (maxL := 3) (ret := (some .int)) (hh := [(0, 8, 11, 60)]) (by decide) rfl (Nat.le_of_ble_eq_true rfl) ?_
  intro p e s m args below meth c A ls hx hb hr hml hown hts hlocks hK hP hD hG hE hT hA hS hl
  have hown : s.vm.findClass RL = some m.cls := hown
  have hl : lv_has ls 3 [(0, .ref (a0 0)), (1, .ref (o1 0))] := hl
  obtain ⟨H, hH⟩ : ∃ z, z = s.heap := ⟨_, rfl⟩
  obtain ⟨locs, hlc⟩ : ∃ z : List Loc, z = [] := ⟨_, rfl⟩
  rw [← hH] at hP
  have hS : va_S A s.heap H locs := by rw [hH, hlc]; exact hS
  rw [← hlc, ← hH]
  clear hlc hH
  have kp := hp.2
  refine lv_aload_n hx hb dL_next_0 rfl (lv_at hl 1 rfl) ?_
  refine lv_iconst (v := iI 0) hx hb dL_next_1 rfl ?_
  refine lv_aload_n hx hb dL_next_2 rfl (lv_at hl 0 rfl) ?_
  refine z_axc0 (vx_runV (As := []) (rest := [.int (iI 0), .ref (o1 0)]) ⟨hx, hb, hml, hown, hts⟩ (c_X7_next_x l hst D k a0 S0 S1   hp (by omega) _) (cwV 0 hts gL_next_X7_next rfl rfl rfl (by decide +kernel) ⟨(Nat.le_of_ble_eq_true rfl), (Nat.le_of_ble_eq_true rfl)⟩) (z_preVx hK hG hE hA hP hD hS (zrg 0 1 ++ zrg 1 15) (z_mcat (z_hd (n := 1) rfl) (z_sk (n := 1) (off := 0) (m := 15) rfl (z_hd (n := 15) rfl))) (by decide +kernel) 9 rfl rfl) rfl rfl hl.1 rfl (lv_room (Nat.le_of_ble_eq_true rfl)) dL_next_3 ⟨(Nat.le_of_ble_eq_true rfl), (Nat.le_of_ble_eq_true rfl)⟩) hA hP hD hS (zrg 0 1 ++ zrg 1 15) (z_mcat (z_hd (n := 1) rfl) (z_sk (n := 1) (off := 0) (m := 15) rfl (z_hd (n := 15) rfl))) (fun ce q9 H locs hP hS hce hcv hcl => ?_)
  refine vx_catch (name := "java/util/NoSuchElementException") (E := "java/util/NoSuchElementException") hown [] (⟨0, 8, 11, 60⟩ : ExceptionTableEntry) [] (hT.trans rfl) (fun _ h => absurd h List.not_mem_nil) rfl (by decide) (hts (.classLink RL 60 "java/util/NoSuchElementException") (List.mem_of_getElem? (i := 1) rfl)) (va_Nw.use rfl (hE.1 "java/util/NoSuchElementException" zXm_nose)) hce hcv hcl ?_
  refine lv_astore_n (lv' := [(2, .ref q9), (0, .ref (a0 0)), (1, .ref (o1 0))]) hx hb dL_next_11 rfl hl (by decide) rfl (fun ls hl => ?_)
  refine lv_iconst (v := iI 1) hx hb dL_next_12 rfl ?_
  exact vx_ret (z_iret hx hb hr hlocks hP hS dL_next_13 rfl rfl (Nat.le_of_ble_eq_true rfl) (Nat.le_of_ble_eq_true rfl))
set_option maxHeartbeats 4000000 in
set_option maxRecDepth 100000 in
theorem c_L_rejectOf_ok (l : Launch) (hst : l.stackTraces = false) (D : va_G) (k : Nat → ClassId) (a0 : Nat → Nat) (o1 : Nat → Nat) (S0 : Nat → Nat → Int) (S1 : Nat → Nat → Int) (S2 : Nat → Nat → Int) (p1 : Int) (p2 : Int) (hp : pOK S1) (h0 : -2147483648 ≤ p1 ∧ p1 < 2147483648) (h1 : -2147483648 ≤ p2 ∧ p2 < 2147483648) (hc : 0 ≤ p1 ∧ p1 < S1 11 1) (hw : 0 ≤ p2 ∧ p2 ≤ 5) : zML l yL_rejectOf wsL_rejectOf ({ frames := 6, cells := 1, slots := 6, locals := 88 } : Room) D k [.ref (a0 0), .int (iI p1), .int (iI p2), .ref (o1 0)] (wFac k a0 S0 ++ (wPlant k (subA a0 1) S1 ++ wArrJ k o1 S2)) (0) (wFac k a0 S0 ++ (wPlant k (subA a0 1) S1 ++ wArrJ k o1 (up2 S2 0 0 (sp_X7_rejectOf_ok S0 S1 p1 p2)))) 1 6 := by
  refine zML_of (cc := cL_rejectOf) (maxL := 5) (ret := (some .int)) (hh := [(0, 10, 13, 13), (0, 10, 17, 15)]) (by decide) rfl (Nat.le_of_ble_eq_true rfl) ?_
  intro p e s m args below meth c A ls hx hb hr hml hown hts hlocks hK hP hD hG hE hT hA hS hl
  have hown : s.vm.findClass RL = some m.cls := hown
  have hl : lv_has ls 5 [(0, .ref (a0 0)), (1, .int (iI p1)), (2, .int (iI p2)), (3, .ref (o1 0))] := hl
  obtain ⟨H, hH⟩ : ∃ z, z = s.heap := ⟨_, rfl⟩
  obtain ⟨locs, hlc⟩ : ∃ z : List Loc, z = [] := ⟨_, rfl⟩
  rw [← hH] at hP
  have hS : va_S A s.heap H locs := by rw [hH, hlc]; exact hS
  rw [← hlc, ← hH]
  clear hlc hH
  have kp := hp.2
  refine lv_aload_n hx hb dL_rejectOf_0 rfl (lv_at hl 3 rfl) ?_
  refine lv_iconst (v := iI 0) hx hb dL_rejectOf_1 rfl ?_
  refine lv_aload_n hx hb dL_rejectOf_2 rfl (lv_at hl 0 rfl) ?_
  refine lv_iload_n hx hb dL_rejectOf_3 rfl (lv_at hl 1 rfl) ?_
  refine lv_iload_n hx hb dL_rejectOf_4 rfl (lv_at hl 2 rfl) ?_
  refine z_ai0 (va_runV (As := [.int (iI p1), .int (iI p2)]) (rest := [.int (iI 0), .ref (o1 0)]) ⟨hx, hb, hml, hown, hts⟩ (c_X7_rejectOf_ok l D k a0 S0 S1  p1 p2 hp (by omega) (by omega) (by omega) (by omega) _) (cwV 2 hts gL_rejectOf_X7_rejectOf rfl rfl rfl (by decide +kernel) ⟨(Nat.le_of_ble_eq_true rfl), (Nat.le_of_ble_eq_true rfl)⟩) (z_preV hK hG hA hP hD hS (zrg 0 1 ++ zrg 1 15) (z_mcat (z_hd (n := 1) rfl) (z_sk (n := 1) (off := 0) (m := 15) rfl (z_hd (n := 15) rfl))) (by decide +kernel) 9 rfl rfl) rfl rfl hl.1 rfl (lv_room (Nat.le_of_ble_eq_true rfl)) dL_rejectOf_5 ⟨(Nat.le_of_ble_eq_true rfl), (Nat.le_of_ble_eq_true rfl)⟩) hA hP hD hS (zrg 0 1 ++ zrg 1 15) (z_mcat (z_hd (n := 1) rfl) (z_sk (n := 1) (off := 0) (m := 15) rfl (z_hd (n := 15) rfl))) (fun H locs hP hS => ?_)
  refine lv_i2l (v := (iI (sp_X7_rejectOf_ok S0 S1 p1 p2)).toInt64) hx hb dL_rejectOf_8 rfl ?_
  refine z_last hx hb hK hP hD hS 16 4 (f := S2 0) rfl rfl (i := 0) (by omega) (by omega) (by decide) 0 rfl dL_rejectOf_9 (fun H locs hP hD hS => ?_)
  have hP : va_P D vwCl (wFac k a0 S0 ++ (wPlant k (subA a0 1) S1 ++ wArrJ k o1 (up2 S2 0 0 (sp_X7_rejectOf_ok S0 S1 p1 p2)))) H := hP
  have hD : va_D A (wFac k a0 S0 ++ (wPlant k (subA a0 1) S1 ++ wArrJ k o1 (up2 S2 0 0 (sp_X7_rejectOf_ok S0 S1 p1 p2)))) := hD
  refine lv_goto (tgt := 21) hx hb dL_rejectOf_10 (by decide) ?_
  refine lv_iconst (v := iI 0) hx hb dL_rejectOf_21 rfl ?_
  exact vx_ret (z_iret hx hb hr hlocks hP hS dL_rejectOf_22 rfl rfl (Nat.le_of_ble_eq_true rfl) (Nat.le_of_ble_eq_true rfl))
set_option maxHeartbeats 4000000 in
set_option maxRecDepth 100000 in
theorem c_L_rejectOf_b (l : Launch) (hst : l.stackTraces = false) (D : va_G) (k : Nat → ClassId) (a0 : Nat → Nat) (o1 : Nat → Nat) (S0 : Nat → Nat → Int) (S1 : Nat → Nat → Int) (S2 : Nat → Nat → Int) (p1 : Int) (p2 : Int) (hp : pOK S1) (h0 : -2147483648 ≤ p1 ∧ p1 < 2147483648) (hc : ¬ (0 ≤ p1 ∧ p1 < S1 11 1)) : zML l yL_rejectOf wsL_rejectOf ({ frames := 8, cells := 1, slots := 6, locals := 125 } : Room) D k [.ref (a0 0), .int (iI p1), .int (iI p2), .ref (o1 0)] (wFac k a0 S0 ++ (wPlant k (subA a0 1) S1 ++ wArrJ k o1 S2)) (1) (wFac k a0 S0 ++ (wPlant k (subA a0 1) S1 ++ wArrJ k o1 S2)) 1 6 := by
  refine zML_of (cc := cL_rejectOf) (maxL := 5) (ret := (some .int)) (hh := [(0, 10, 13, 13), (0, 10, 17, 15)]) (by decide) rfl (Nat.le_of_ble_eq_true rfl) ?_
  intro p e s m args below meth c A ls hx hb hr hml hown hts hlocks hK hP hD hG hE hT hA hS hl
  have hown : s.vm.findClass RL = some m.cls := hown
  have hl : lv_has ls 5 [(0, .ref (a0 0)), (1, .int (iI p1)), (2, .int (iI p2)), (3, .ref (o1 0))] := hl
  obtain ⟨H, hH⟩ : ∃ z, z = s.heap := ⟨_, rfl⟩
  obtain ⟨locs, hlc⟩ : ∃ z : List Loc, z = [] := ⟨_, rfl⟩
  rw [← hH] at hP
  have hS : va_S A s.heap H locs := by rw [hH, hlc]; exact hS
  rw [← hlc, ← hH]
  clear hlc hH
  have kp := hp.2
  refine lv_aload_n hx hb dL_rejectOf_0 rfl (lv_at hl 3 rfl) ?_
  refine lv_iconst (v := iI 0) hx hb dL_rejectOf_1 rfl ?_
  refine lv_aload_n hx hb dL_rejectOf_2 rfl (lv_at hl 0 rfl) ?_
  refine lv_iload_n hx hb dL_rejectOf_3 rfl (lv_at hl 1 rfl) ?_
  refine lv_iload_n hx hb dL_rejectOf_4 rfl (lv_at hl 2 rfl) ?_
  refine z_axc0 (vx_runV (As := [.int (iI p1), .int (iI p2)]) (rest := [.int (iI 0), .ref (o1 0)]) ⟨hx, hb, hml, hown, hts⟩ (c_X7_rejectOf_b l hst D k a0 S0 S1  p1 p2 hp (by omega) (by omega) _) (cwV 2 hts gL_rejectOf_X7_rejectOf rfl rfl rfl (by decide +kernel) ⟨(Nat.le_of_ble_eq_true rfl), (Nat.le_of_ble_eq_true rfl)⟩) (z_preVx hK hG hE hA hP hD hS (zrg 0 1 ++ zrg 1 15) (z_mcat (z_hd (n := 1) rfl) (z_sk (n := 1) (off := 0) (m := 15) rfl (z_hd (n := 15) rfl))) (by decide +kernel) 9 rfl rfl) rfl rfl hl.1 rfl (lv_room (Nat.le_of_ble_eq_true rfl)) dL_rejectOf_5 ⟨(Nat.le_of_ble_eq_true rfl), (Nat.le_of_ble_eq_true rfl)⟩) hA hP hD hS (zrg 0 1 ++ zrg 1 15) (z_mcat (z_hd (n := 1) rfl) (z_sk (n := 1) (off := 0) (m := 15) rfl (z_hd (n := 15) rfl))) (fun ce q9 H locs hP hS hce hcv hcl => ?_)
  refine vx_catch (name := "java/lang/IndexOutOfBoundsException") (E := "java/lang/IndexOutOfBoundsException") hown [] (⟨0, 10, 13, 13⟩ : ExceptionTableEntry) [(⟨0, 10, 17, 15⟩ : ExceptionTableEntry)] (hT.trans rfl) (fun _ h => absurd h List.not_mem_nil) rfl (by decide) (hts (.classLink RL 13 "java/lang/IndexOutOfBoundsException") (List.mem_of_getElem? (i := 1) rfl)) (va_Nw.use rfl (hE.1 "java/lang/IndexOutOfBoundsException" zXm_ioob)) hce hcv hcl ?_
  refine lv_astore (lv' := [(4, .ref q9), (0, .ref (a0 0)), (1, .int (iI p1)), (2, .int (iI p2)), (3, .ref (o1 0))]) hx hb dL_rejectOf_13 hl (by decide) rfl (fun ls hl => ?_)
  refine lv_iconst (v := iI 1) hx hb dL_rejectOf_15 rfl ?_
  exact vx_ret (z_iret hx hb hr hlocks hP hS dL_rejectOf_16 rfl rfl (Nat.le_of_ble_eq_true rfl) (Nat.le_of_ble_eq_true rfl))
set_option maxHeartbeats 4000000 in
set_option maxRecDepth 100000 in
theorem c_L_rejectOf_w (l : Launch) (hst : l.stackTraces = false) (D : va_G) (k : Nat → ClassId) (a0 : Nat → Nat) (o1 : Nat → Nat) (S0 : Nat → Nat → Int) (S1 : Nat → Nat → Int) (S2 : Nat → Nat → Int) (p1 : Int) (p2 : Int) (hp : pOK S1) (h0 : -2147483648 ≤ p1 ∧ p1 < 2147483648) (h1 : -2147483648 ≤ p2 ∧ p2 < 2147483648) (hc : 0 ≤ p1 ∧ p1 < S1 11 1) (hw : ¬ (0 ≤ p2 ∧ p2 ≤ 5)) : zML l yL_rejectOf wsL_rejectOf ({ frames := 8, cells := 1, slots := 6, locals := 125 } : Room) D k [.ref (a0 0), .int (iI p1), .int (iI p2), .ref (o1 0)] (wFac k a0 S0 ++ (wPlant k (subA a0 1) S1 ++ wArrJ k o1 S2)) (2) (wFac k a0 S0 ++ (wPlant k (subA a0 1) S1 ++ wArrJ k o1 S2)) 1 6 := by
  refine zML_of (cc := cL_rejectOf) (maxL := 5) (ret := (some .int)) (hh := [(0, 10, 13, 13), (0, 10, 17, 15)]) (by decide) rfl (Nat.le_of_ble_eq_true rfl) ?_
  intro p e s m args below meth c A ls hx hb hr hml hown hts hlocks hK hP hD hG hE hT hA hS hl
  have hown : s.vm.findClass RL = some m.cls := hown
  have hl : lv_has ls 5 [(0, .ref (a0 0)), (1, .int (iI p1)), (2, .int (iI p2)), (3, .ref (o1 0))] := hl
  obtain ⟨H, hH⟩ : ∃ z, z = s.heap := ⟨_, rfl⟩
  obtain ⟨locs, hlc⟩ : ∃ z : List Loc, z = [] := ⟨_, rfl⟩
  rw [← hH] at hP
  have hS : va_S A s.heap H locs := by rw [hH, hlc]; exact hS
  rw [← hlc, ← hH]
  clear hlc hH
  have kp := hp.2
  refine lv_aload_n hx hb dL_rejectOf_0 rfl (lv_at hl 3 rfl) ?_
  refine lv_iconst (v := iI 0) hx hb dL_rejectOf_1 rfl ?_
  refine lv_aload_n hx hb dL_rejectOf_2 rfl (lv_at hl 0 rfl) ?_
  refine lv_iload_n hx hb dL_rejectOf_3 rfl (lv_at hl 1 rfl) ?_
  refine lv_iload_n hx hb dL_rejectOf_4 rfl (lv_at hl 2 rfl) ?_
  refine z_axc0 (vx_runV (As := [.int (iI p1), .int (iI p2)]) (rest := [.int (iI 0), .ref (o1 0)]) ⟨hx, hb, hml, hown, hts⟩ (c_X7_rejectOf_w l hst D k a0 S0 S1  p1 p2 hp (by omega) (by omega) (by omega) (by omega) _) (cwV 2 hts gL_rejectOf_X7_rejectOf rfl rfl rfl (by decide +kernel) ⟨(Nat.le_of_ble_eq_true rfl), (Nat.le_of_ble_eq_true rfl)⟩) (z_preVx hK hG hE hA hP hD hS (zrg 0 1 ++ zrg 1 15) (z_mcat (z_hd (n := 1) rfl) (z_sk (n := 1) (off := 0) (m := 15) rfl (z_hd (n := 15) rfl))) (by decide +kernel) 9 rfl rfl) rfl rfl hl.1 rfl (lv_room (Nat.le_of_ble_eq_true rfl)) dL_rejectOf_5 ⟨(Nat.le_of_ble_eq_true rfl), (Nat.le_of_ble_eq_true rfl)⟩) hA hP hD hS (zrg 0 1 ++ zrg 1 15) (z_mcat (z_hd (n := 1) rfl) (z_sk (n := 1) (off := 0) (m := 15) rfl (z_hd (n := 15) rfl))) (fun ce q9 H locs hP hS hce hcv hcl => ?_)
  refine vx_catch (name := "java/lang/IllegalArgumentException") (E := "java/lang/IllegalArgumentException") hown [(⟨0, 10, 13, 13⟩ : ExceptionTableEntry)] (⟨0, 10, 17, 15⟩ : ExceptionTableEntry) [] (hT.trans rfl) (List.forall_mem_cons.mpr ⟨Or.inr ⟨by decide, _, (hts (.classLink RL 13 "java/lang/IndexOutOfBoundsException") (List.mem_of_getElem? (i := 1) rfl)), hE.2.2 ("java/lang/IllegalArgumentException", "java/lang/IndexOutOfBoundsException") (by decide +kernel)⟩, (fun _ h => absurd h List.not_mem_nil)⟩) rfl (by decide) (hts (.classLink RL 15 "java/lang/IllegalArgumentException") (List.mem_of_getElem? (i := 2) rfl)) (va_Nw.use rfl (hE.1 "java/lang/IllegalArgumentException" zXm_iarg)) hce hcv hcl ?_
  refine lv_astore (lv' := [(4, .ref q9), (0, .ref (a0 0)), (1, .int (iI p1)), (2, .int (iI p2)), (3, .ref (o1 0))]) hx hb dL_rejectOf_17 hl (by decide) rfl (fun ls hl => ?_)
  refine lv_iconst (v := iI 2) hx hb dL_rejectOf_19 rfl ?_
  exact vx_ret (z_iret hx hb hr hlocks hP hS dL_rejectOf_20 rfl rfl (Nat.le_of_ble_eq_true rfl) (Nat.le_of_ble_eq_true rfl))
set_option maxHeartbeats 4000000 in
set_option maxRecDepth 100000 in
theorem c_L_best_ok (l : Launch) (hst : l.stackTraces = false) (D : va_G) (k : Nat → ClassId) (a0 : Nat → Nat) (o1 : Nat → Nat) (S0 : Nat → Nat → Int) (S1 : Nat → Nat → Int) (S2 : Nat → Nat → Int) (hp : pOK S1) (hc : 1 ≤ S1 11 1) : zML l yL_best wsL_best ({ frames := 6, cells := 1, slots := 6, locals := 108 } : Room) D k [.ref (a0 0), .ref (o1 0)] (wFac k a0 S0 ++ (wPlant k (subA a0 1) S1 ++ wArrJ k o1 S2)) (0) (wFac k a0 S0 ++ (wPlant k (subA a0 1) S1 ++ wArrJ k o1 (up2 S2 0 0 (wBest (S1 12) (S1 11 1) (S1 0 9))))) 1 6 := by
  refine zML_of (cc := cL_best) (maxL := 3) (ret := (some .int)) (hh := [(0, 8, 11, 60)]) (by decide) rfl (Nat.le_of_ble_eq_true rfl) ?_
  intro p e s m args below meth c A ls hx hb hr hml hown hts hlocks hK hP hD hG hE hT hA hS hl
  have hown : s.vm.findClass RL = some m.cls := hown
  have hl : lv_has ls 3 [(0, .ref (a0 0)), (1, .ref (o1 0))] := hl
  obtain ⟨H, hH⟩ : ∃ z, z = s.heap := ⟨_, rfl⟩
  obtain ⟨locs, hlc⟩ : ∃ z : List Loc, z = [] := ⟨_, rfl⟩
  rw [← hH] at hP
  have hS : va_S A s.heap H locs := by rw [hH, hlc]; exact hS
  rw [← hlc, ← hH]
  clear hlc hH
  have kp := hp.2
  refine lv_aload_n hx hb dL_best_0 rfl (lv_at hl 1 rfl) ?_
  refine lv_iconst (v := iI 0) hx hb dL_best_1 rfl ?_
  refine lv_aload_n hx hb dL_best_2 rfl (lv_at hl 0 rfl) ?_
  refine z_ai0 (va_runV (As := []) (rest := [.int (iI 0), .ref (o1 0)]) ⟨hx, hb, hml, hown, hts⟩ (c_X7_best_ok l D k a0 S0 S1   hp (by omega) _) (cwV 0 hts gL_best_X7_best rfl rfl rfl (by decide +kernel) ⟨(Nat.le_of_ble_eq_true rfl), (Nat.le_of_ble_eq_true rfl)⟩) (z_preV hK hG hA hP hD hS (zrg 0 1 ++ zrg 1 15) (z_mcat (z_hd (n := 1) rfl) (z_sk (n := 1) (off := 0) (m := 15) rfl (z_hd (n := 15) rfl))) (by decide +kernel) 9 rfl rfl) rfl rfl hl.1 rfl (lv_room (Nat.le_of_ble_eq_true rfl)) dL_best_3 ⟨(Nat.le_of_ble_eq_true rfl), (Nat.le_of_ble_eq_true rfl)⟩) hA hP hD hS (zrg 0 1 ++ zrg 1 15) (z_mcat (z_hd (n := 1) rfl) (z_sk (n := 1) (off := 0) (m := 15) rfl (z_hd (n := 15) rfl))) (fun H locs hP hS => ?_)
  have f_1 : -1000000000 ≤ S1 11 1 ∧ S1 11 1 ≤ 1000000000 := (pOK_b hp 11 (by decide)) 1
  have f_2 : -1000000000 ≤ S1 0 9 ∧ S1 0 9 ≤ 1000000000 := (pOK_b hp 0 (by decide)) 9
  refine lv_i2l (v := (iI (wBest (S1 12) (S1 11 1) (S1 0 9))).toInt64) hx hb dL_best_6 rfl ?_
  refine z_last hx hb hK hP hD hS 16 4 (f := S2 0) rfl rfl (i := 0) (by omega) (by omega) (by decide) 0 rfl dL_best_7 (fun H locs hP hD hS => ?_)
  have hP : va_P D vwCl (wFac k a0 S0 ++ (wPlant k (subA a0 1) S1 ++ wArrJ k o1 (up2 S2 0 0 (wBest (S1 12) (S1 11 1) (S1 0 9))))) H := hP
  have hD : va_D A (wFac k a0 S0 ++ (wPlant k (subA a0 1) S1 ++ wArrJ k o1 (up2 S2 0 0 (wBest (S1 12) (S1 11 1) (S1 0 9))))) := hD
  refine lv_goto (tgt := 14) hx hb dL_best_8 (by decide) ?_
  refine lv_iconst (v := iI 0) hx hb dL_best_14 rfl ?_
  exact vx_ret (z_iret hx hb hr hlocks hP hS dL_best_15 rfl rfl (Nat.le_of_ble_eq_true rfl) (Nat.le_of_ble_eq_true rfl))
set_option maxHeartbeats 4000000 in
set_option maxRecDepth 100000 in
theorem c_L_best_x (l : Launch) (hst : l.stackTraces = false) (D : va_G) (k : Nat → ClassId) (a0 : Nat → Nat) (o1 : Nat → Nat) (S0 : Nat → Nat → Int) (S1 : Nat → Nat → Int) (S2 : Nat → Nat → Int) (hp : pOK S1) (hc : S1 11 1 = 0) : zML l yL_best wsL_best ({ frames := 7, cells := 1, slots := 6, locals := 108 } : Room) D k [.ref (a0 0), .ref (o1 0)] (wFac k a0 S0 ++ (wPlant k (subA a0 1) S1 ++ wArrJ k o1 S2)) (1) (wFac k a0 S0 ++ (wPlant k (subA a0 1) S1 ++ wArrJ k o1 S2)) 1 6 := by
  refine zML_of (cc := cL_best) (maxL := 3) (ret := (some .int)) (hh := [(0, 8, 11, 60)]) (by decide) rfl (Nat.le_of_ble_eq_true rfl) ?_
  intro p e s m args below meth c A ls hx hb hr hml hown hts hlocks hK hP hD hG hE hT hA hS hl
  have hown : s.vm.findClass RL = some m.cls := hown
  have hl : lv_has ls 3 [(0, .ref (a0 0)), (1, .ref (o1 0))] := hl
  obtain ⟨H, hH⟩ : ∃ z, z = s.heap := ⟨_, rfl⟩
  obtain ⟨locs, hlc⟩ : ∃ z : List Loc, z = [] := ⟨_, rfl⟩
  rw [← hH] at hP
  have hS : va_S A s.heap H locs := by rw [hH, hlc]; exact hS
  rw [← hlc, ← hH]
  clear hlc hH
  have kp := hp.2
  refine lv_aload_n hx hb dL_best_0 rfl (lv_at hl 1 rfl) ?_
  refine lv_iconst (v := iI 0) hx hb dL_best_1 rfl ?_
  refine lv_aload_n hx hb dL_best_2 rfl (lv_at hl 0 rfl) ?_
  refine z_axc0 (vx_runV (As := []) (rest := [.int (iI 0), .ref (o1 0)]) ⟨hx, hb, hml, hown, hts⟩ (c_X7_best_x l hst D k a0 S0 S1   hp (by omega) _) (cwV 0 hts gL_best_X7_best rfl rfl rfl (by decide +kernel) ⟨(Nat.le_of_ble_eq_true rfl), (Nat.le_of_ble_eq_true rfl)⟩) (z_preVx hK hG hE hA hP hD hS (zrg 0 1 ++ zrg 1 15) (z_mcat (z_hd (n := 1) rfl) (z_sk (n := 1) (off := 0) (m := 15) rfl (z_hd (n := 15) rfl))) (by decide +kernel) 9 rfl rfl) rfl rfl hl.1 rfl (lv_room (Nat.le_of_ble_eq_true rfl)) dL_best_3 ⟨(Nat.le_of_ble_eq_true rfl), (Nat.le_of_ble_eq_true rfl)⟩) hA hP hD hS (zrg 0 1 ++ zrg 1 15) (z_mcat (z_hd (n := 1) rfl) (z_sk (n := 1) (off := 0) (m := 15) rfl (z_hd (n := 15) rfl))) (fun ce q9 H locs hP hS hce hcv hcl => ?_)
  refine vx_catch (name := "java/util/NoSuchElementException") (E := "java/util/NoSuchElementException") hown [] (⟨0, 8, 11, 60⟩ : ExceptionTableEntry) [] (hT.trans rfl) (fun _ h => absurd h List.not_mem_nil) rfl (by decide) (hts (.classLink RL 60 "java/util/NoSuchElementException") (List.mem_of_getElem? (i := 1) rfl)) (va_Nw.use rfl (hE.1 "java/util/NoSuchElementException" zXm_nose)) hce hcv hcl ?_
  refine lv_astore_n (lv' := [(2, .ref q9), (0, .ref (a0 0)), (1, .ref (o1 0))]) hx hb dL_best_11 rfl hl (by decide) rfl (fun ls hl => ?_)
  refine lv_iconst (v := iI 1) hx hb dL_best_12 rfl ?_
  exact vx_ret (z_iret hx hb hr hlocks hP hS dL_best_13 rfl rfl (Nat.le_of_ble_eq_true rfl) (Nat.le_of_ble_eq_true rfl))
noncomputable def sp_L_wouldMend_ok (S0 : Nat → Nat → Int) (S1 : Nat → Nat → Int) (S2 : Nat → Nat → Int) (p1 : Int) : Int := zif ((sp_X7_wouldMend_ok S0 S1 p1) = 0)
  (0)
  (0)
noncomputable def sS2_0_L_wouldMend_ok (S0 : Nat → Nat → Int) (S1 : Nat → Nat → Int) (S2 : Nat → Nat → Int) (p1 : Int) : (Nat → Int) := zif ((sp_X7_wouldMend_ok S0 S1 p1) = 0)
  (upZ (S2 0) 0 0)
  (upZ (S2 0) 0 1)
set_option maxHeartbeats 4000000 in
set_option maxRecDepth 100000 in
theorem c_L_wouldMend_ok (l : Launch) (hst : l.stackTraces = false) (D : va_G) (k : Nat → ClassId) (a0 : Nat → Nat) (o1 : Nat → Nat) (S0 : Nat → Nat → Int) (S1 : Nat → Nat → Int) (S2 : Nat → Nat → Int) (p1 : Int) (hp : pOK S1) (h0 : -2147483648 ≤ p1 ∧ p1 < 2147483648) (hc : 0 ≤ p1 ∧ p1 < S1 11 1) : zML l yL_wouldMend wsL_wouldMend ({ frames := 6, cells := 1, slots := 6, locals := 89 } : Room) D k [.ref (a0 0), .int (iI p1), .ref (o1 0)] (wFac k a0 S0 ++ (wPlant k (subA a0 1) S1 ++ wArrJ k o1 S2)) (sp_L_wouldMend_ok S0 S1 S2 p1) (wFac k a0 S0 ++ (wPlant k (subA a0 1) S1 ++ wArrJ k o1 (upA S2 0 (sS2_0_L_wouldMend_ok S0 S1 S2 p1)))) 1 6 := by
  refine zML_of (cc := cL_wouldMend) (maxL := 4) (ret := (some .int)) (hh := [(0, 16, 19, 13)]) (by decide) rfl (Nat.le_of_ble_eq_true rfl) ?_
  intro p e s m args below meth c A ls hx hb hr hml hown hts hlocks hK hP hD hG hE hT hA hS hl
  have hown : s.vm.findClass RL = some m.cls := hown
  have hl : lv_has ls 4 [(0, .ref (a0 0)), (1, .int (iI p1)), (2, .ref (o1 0))] := hl
  obtain ⟨H, hH⟩ : ∃ z, z = s.heap := ⟨_, rfl⟩
  obtain ⟨locs, hlc⟩ : ∃ z : List Loc, z = [] := ⟨_, rfl⟩
  rw [← hH] at hP
  have hS : va_S A s.heap H locs := by rw [hH, hlc]; exact hS
  rw [← hlc, ← hH]
  clear hlc hH
  have kp := hp.2
  refine lv_aload_n hx hb dL_wouldMend_0 rfl (lv_at hl 2 rfl) ?_
  refine lv_iconst (v := iI 0) hx hb dL_wouldMend_1 rfl ?_
  refine lv_aload_n hx hb dL_wouldMend_2 rfl (lv_at hl 0 rfl) ?_
  refine lv_iload_n hx hb dL_wouldMend_3 rfl (lv_at hl 1 rfl) ?_
  refine z_ai0 (va_runV (As := [.int (iI p1)]) (rest := [.int (iI 0), .ref (o1 0)]) ⟨hx, hb, hml, hown, hts⟩ (c_X7_wouldMend_ok l D k a0 S0 S1  p1 hp (by omega) (by omega) _) (cwV 1 hts gL_wouldMend_X7_wouldMend rfl rfl rfl (by decide +kernel) ⟨(Nat.le_of_ble_eq_true rfl), (Nat.le_of_ble_eq_true rfl)⟩) (z_preV hK hG hA hP hD hS (zrg 0 1 ++ zrg 1 15) (z_mcat (z_hd (n := 1) rfl) (z_sk (n := 1) (off := 0) (m := 15) rfl (z_hd (n := 15) rfl))) (by decide +kernel) 9 rfl rfl) rfl rfl hl.1 rfl (lv_room (Nat.le_of_ble_eq_true rfl)) dL_wouldMend_4 ⟨(Nat.le_of_ble_eq_true rfl), (Nat.le_of_ble_eq_true rfl)⟩) hA hP hD hS (zrg 0 1 ++ zrg 1 15) (z_mcat (z_hd (n := 1) rfl) (z_sk (n := 1) (off := 0) (m := 15) rfl (z_hd (n := 15) rfl))) (fun H locs hP hS => ?_)
  have q_1 : 0 ≤ sp_X7_wouldMend_ok S0 S1 p1 ∧ sp_X7_wouldMend_ok S0 S1 p1 ≤ 1 := mend_rng S0 S1 p1
  refine zi_if_eq (tgt := 14) hx hb dL_wouldMend_7 (by decide) ⟨by omega, by omega⟩ (fun c_2 => ?_) (fun c_2 => ?_)
  · refine lv_lconst (v := (iI 0).toInt64) hx hb dL_wouldMend_14 rfl ?_
    refine z_last hx hb hK hP hD hS 16 4 (f := S2 0) rfl rfl (i := 0) (by omega) (by omega) (by decide) 0 rfl dL_wouldMend_15 (fun H locs hP hD hS => ?_)
    have hP : va_P D vwCl (wFac k a0 S0 ++ (wPlant k (subA a0 1) S1 ++ wArrJ k o1 (up2 S2 0 0 0))) H := hP
    have hD : va_D A (wFac k a0 S0 ++ (wPlant k (subA a0 1) S1 ++ wArrJ k o1 (up2 S2 0 0 0))) := hD
    refine lv_goto (tgt := 22) hx hb dL_wouldMend_16 (by decide) ?_
    refine lv_iconst (v := iI 0) hx hb dL_wouldMend_22 rfl ?_
    exact vx_ret (z_iret hx hb hr hlocks hP hS dL_wouldMend_23 (Eq.trans (zif_pos c_2) rfl) (congrArg (fun z => wFac k a0 S0 ++ (wPlant k (subA a0 1) S1 ++ wArrJ k o1 (upA S2 0 z))) (show sS2_0_L_wouldMend_ok S0 S1 S2 p1 = upZ (S2 0) 0 0 from (Eq.trans (zif_pos c_2) rfl))) (Nat.le_of_ble_eq_true rfl) (Nat.le_of_ble_eq_true rfl))
  · refine lv_lconst (v := (iI 1).toInt64) hx hb dL_wouldMend_10 rfl ?_
    refine lv_goto (tgt := 15) hx hb dL_wouldMend_11 (by decide) ?_
    refine z_last hx hb hK hP hD hS 16 4 (f := S2 0) rfl rfl (i := 0) (by omega) (by omega) (by decide) 0 rfl dL_wouldMend_15 (fun H locs hP hD hS => ?_)
    have hP : va_P D vwCl (wFac k a0 S0 ++ (wPlant k (subA a0 1) S1 ++ wArrJ k o1 (up2 S2 0 0 1))) H := hP
    have hD : va_D A (wFac k a0 S0 ++ (wPlant k (subA a0 1) S1 ++ wArrJ k o1 (up2 S2 0 0 1))) := hD
    refine lv_goto (tgt := 22) hx hb dL_wouldMend_16 (by decide) ?_
    refine lv_iconst (v := iI 0) hx hb dL_wouldMend_22 rfl ?_
    exact vx_ret (z_iret hx hb hr hlocks hP hS dL_wouldMend_23 (Eq.trans (zif_neg c_2) rfl) (congrArg (fun z => wFac k a0 S0 ++ (wPlant k (subA a0 1) S1 ++ wArrJ k o1 (upA S2 0 z))) (show sS2_0_L_wouldMend_ok S0 S1 S2 p1 = upZ (S2 0) 0 1 from (Eq.trans (zif_neg c_2) rfl))) (Nat.le_of_ble_eq_true rfl) (Nat.le_of_ble_eq_true rfl))
set_option maxHeartbeats 4000000 in
set_option maxRecDepth 100000 in
theorem c_L_wouldMend_x (l : Launch) (hst : l.stackTraces = false) (D : va_G) (k : Nat → ClassId) (a0 : Nat → Nat) (o1 : Nat → Nat) (S0 : Nat → Nat → Int) (S1 : Nat → Nat → Int) (S2 : Nat → Nat → Int) (p1 : Int) (hp : pOK S1) (h0 : -2147483648 ≤ p1 ∧ p1 < 2147483648) (hc : ¬ (0 ≤ p1 ∧ p1 < S1 11 1)) : zML l yL_wouldMend wsL_wouldMend ({ frames := 8, cells := 1, slots := 6, locals := 127 } : Room) D k [.ref (a0 0), .int (iI p1), .ref (o1 0)] (wFac k a0 S0 ++ (wPlant k (subA a0 1) S1 ++ wArrJ k o1 S2)) (1) (wFac k a0 S0 ++ (wPlant k (subA a0 1) S1 ++ wArrJ k o1 S2)) 1 6 := by
  refine zML_of (cc := cL_wouldMend) (maxL := 4) (ret := (some .int)) (hh := [(0, 16, 19, 13)]) (by decide) rfl (Nat.le_of_ble_eq_true rfl) ?_
  intro p e s m args below meth c A ls hx hb hr hml hown hts hlocks hK hP hD hG hE hT hA hS hl
  have hown : s.vm.findClass RL = some m.cls := hown
  have hl : lv_has ls 4 [(0, .ref (a0 0)), (1, .int (iI p1)), (2, .ref (o1 0))] := hl
  obtain ⟨H, hH⟩ : ∃ z, z = s.heap := ⟨_, rfl⟩
  obtain ⟨locs, hlc⟩ : ∃ z : List Loc, z = [] := ⟨_, rfl⟩
  rw [← hH] at hP
  have hS : va_S A s.heap H locs := by rw [hH, hlc]; exact hS
  rw [← hlc, ← hH]
  clear hlc hH
  have kp := hp.2
  refine lv_aload_n hx hb dL_wouldMend_0 rfl (lv_at hl 2 rfl) ?_
  refine lv_iconst (v := iI 0) hx hb dL_wouldMend_1 rfl ?_
  refine lv_aload_n hx hb dL_wouldMend_2 rfl (lv_at hl 0 rfl) ?_
  refine lv_iload_n hx hb dL_wouldMend_3 rfl (lv_at hl 1 rfl) ?_
  refine z_axc0 (vx_runV (As := [.int (iI p1)]) (rest := [.int (iI 0), .ref (o1 0)]) ⟨hx, hb, hml, hown, hts⟩ (c_X7_wouldMend_x l hst D k a0 S0 S1  p1 hp (by omega) (by omega) _) (cwV 1 hts gL_wouldMend_X7_wouldMend rfl rfl rfl (by decide +kernel) ⟨(Nat.le_of_ble_eq_true rfl), (Nat.le_of_ble_eq_true rfl)⟩) (z_preVx hK hG hE hA hP hD hS (zrg 0 1 ++ zrg 1 15) (z_mcat (z_hd (n := 1) rfl) (z_sk (n := 1) (off := 0) (m := 15) rfl (z_hd (n := 15) rfl))) (by decide +kernel) 9 rfl rfl) rfl rfl hl.1 rfl (lv_room (Nat.le_of_ble_eq_true rfl)) dL_wouldMend_4 ⟨(Nat.le_of_ble_eq_true rfl), (Nat.le_of_ble_eq_true rfl)⟩) hA hP hD hS (zrg 0 1 ++ zrg 1 15) (z_mcat (z_hd (n := 1) rfl) (z_sk (n := 1) (off := 0) (m := 15) rfl (z_hd (n := 15) rfl))) (fun ce q9 H locs hP hS hce hcv hcl => ?_)
  refine vx_catch (name := "java/lang/IndexOutOfBoundsException") (E := "java/lang/IndexOutOfBoundsException") hown [] (⟨0, 16, 19, 13⟩ : ExceptionTableEntry) [] (hT.trans rfl) (fun _ h => absurd h List.not_mem_nil) rfl (by decide) (hts (.classLink RL 13 "java/lang/IndexOutOfBoundsException") (List.mem_of_getElem? (i := 1) rfl)) (va_Nw.use rfl (hE.1 "java/lang/IndexOutOfBoundsException" zXm_ioob)) hce hcv hcl ?_
  refine lv_astore_n (lv' := [(3, .ref q9), (0, .ref (a0 0)), (1, .int (iI p1)), (2, .ref (o1 0))]) hx hb dL_wouldMend_19 rfl hl (by decide) rfl (fun ls hl => ?_)
  refine lv_iconst (v := iI 1) hx hb dL_wouldMend_20 rfl ?_
  exact vx_ret (z_iret hx hb hr hlocks hP hS dL_wouldMend_21 rfl rfl (Nat.le_of_ble_eq_true rfl) (Nat.le_of_ble_eq_true rfl))
set_option maxHeartbeats 4000000 in
set_option maxRecDepth 100000 in
theorem c_L_fresh_ok (l : Launch) (hst : l.stackTraces = false) (D : va_G) (k : Nat → ClassId) (a0 : Nat → Nat) (o1 : Nat → Nat) (S0 : Nat → Nat → Int) (S1 : Nat → Nat → Int) (S2 : Nat → Nat → Int) (p1 : Int) (hp : pOK S1) (h0 : -2147483648 ≤ p1 ∧ p1 < 2147483648) (hc : 0 ≤ p1 ∧ p1 < S1 13 1) : zML l yL_fresh wsL_fresh ({ frames := 6, cells := 1, slots := 6, locals := 82 } : Room) D k [.ref (a0 0), .int (iI p1), .ref (o1 0)] (wFac k a0 S0 ++ (wPlant k (subA a0 1) S1 ++ wArrJ k o1 S2)) (0) (wFac k a0 S0 ++ (wPlant k (subA a0 1) S1 ++ wArrJ k o1 (up2 S2 0 0 (sp_X1_freshAt (sub2 S1 13) p1)))) 1 6 := by
  refine zML_of (cc := cL_fresh) (maxL := 4) (ret := (some .int)) (hh := [(0, 9, 12, 60)]) (by decide) rfl (Nat.le_of_ble_eq_true rfl) ?_
  intro p e s m args below meth c A ls hx hb hr hml hown hts hlocks hK hP hD hG hE hT hA hS hl
  have hown : s.vm.findClass RL = some m.cls := hown
  have hl : lv_has ls 4 [(0, .ref (a0 0)), (1, .int (iI p1)), (2, .ref (o1 0))] := hl
  obtain ⟨H, hH⟩ : ∃ z, z = s.heap := ⟨_, rfl⟩
  obtain ⟨locs, hlc⟩ : ∃ z : List Loc, z = [] := ⟨_, rfl⟩
  rw [← hH] at hP
  have hS : va_S A s.heap H locs := by rw [hH, hlc]; exact hS
  rw [← hlc, ← hH]
  clear hlc hH
  have kp := hp.2
  refine lv_aload_n hx hb dL_fresh_0 rfl (lv_at hl 2 rfl) ?_
  refine lv_iconst (v := iI 0) hx hb dL_fresh_1 rfl ?_
  refine lv_aload_n hx hb dL_fresh_2 rfl (lv_at hl 0 rfl) ?_
  refine lv_iload_n hx hb dL_fresh_3 rfl (lv_at hl 1 rfl) ?_
  refine z_ai0 (va_runV (As := [.int (iI p1)]) (rest := [.int (iI 0), .ref (o1 0)]) ⟨hx, hb, hml, hown, hts⟩ (c_X7_fresh_ok l D k a0 S0 S1  p1 hp (by omega) (by omega) _) (cwV 1 hts gL_fresh_X7_fresh rfl rfl rfl (by decide +kernel) ⟨(Nat.le_of_ble_eq_true rfl), (Nat.le_of_ble_eq_true rfl)⟩) (z_preV hK hG hA hP hD hS (zrg 0 1 ++ zrg 1 15) (z_mcat (z_hd (n := 1) rfl) (z_sk (n := 1) (off := 0) (m := 15) rfl (z_hd (n := 15) rfl))) (by decide +kernel) 9 rfl rfl) rfl rfl hl.1 rfl (lv_room (Nat.le_of_ble_eq_true rfl)) dL_fresh_4 ⟨(Nat.le_of_ble_eq_true rfl), (Nat.le_of_ble_eq_true rfl)⟩) hA hP hD hS (zrg 0 1 ++ zrg 1 15) (z_mcat (z_hd (n := 1) rfl) (z_sk (n := 1) (off := 0) (m := 15) rfl (z_hd (n := 15) rfl))) (fun H locs hP hS => ?_)
  refine lv_i2l (v := (iI (sp_X1_freshAt (sub2 S1 13) p1)).toInt64) hx hb dL_fresh_7 rfl ?_
  refine z_last hx hb hK hP hD hS 16 4 (f := S2 0) rfl rfl (i := 0) (by omega) (by omega) (by decide) 0 rfl dL_fresh_8 (fun H locs hP hD hS => ?_)
  have hP : va_P D vwCl (wFac k a0 S0 ++ (wPlant k (subA a0 1) S1 ++ wArrJ k o1 (up2 S2 0 0 (sp_X1_freshAt (sub2 S1 13) p1)))) H := hP
  have hD : va_D A (wFac k a0 S0 ++ (wPlant k (subA a0 1) S1 ++ wArrJ k o1 (up2 S2 0 0 (sp_X1_freshAt (sub2 S1 13) p1)))) := hD
  refine lv_goto (tgt := 15) hx hb dL_fresh_9 (by decide) ?_
  refine lv_iconst (v := iI 0) hx hb dL_fresh_15 rfl ?_
  exact vx_ret (z_iret hx hb hr hlocks hP hS dL_fresh_16 rfl rfl (Nat.le_of_ble_eq_true rfl) (Nat.le_of_ble_eq_true rfl))
set_option maxHeartbeats 4000000 in
set_option maxRecDepth 100000 in
theorem c_L_fresh_x (l : Launch) (hst : l.stackTraces = false) (D : va_G) (k : Nat → ClassId) (a0 : Nat → Nat) (o1 : Nat → Nat) (S0 : Nat → Nat → Int) (S1 : Nat → Nat → Int) (S2 : Nat → Nat → Int) (p1 : Int) (hp : pOK S1) (h0 : -2147483648 ≤ p1 ∧ p1 < 2147483648) (hc : ¬ (0 ≤ p1 ∧ p1 < S1 13 1)) : zML l yL_fresh wsL_fresh ({ frames := 7, cells := 1, slots := 6, locals := 103 } : Room) D k [.ref (a0 0), .int (iI p1), .ref (o1 0)] (wFac k a0 S0 ++ (wPlant k (subA a0 1) S1 ++ wArrJ k o1 S2)) (1) (wFac k a0 S0 ++ (wPlant k (subA a0 1) S1 ++ wArrJ k o1 S2)) 1 6 := by
  refine zML_of (cc := cL_fresh) (maxL := 4) (ret := (some .int)) (hh := [(0, 9, 12, 60)]) (by decide) rfl (Nat.le_of_ble_eq_true rfl) ?_
  intro p e s m args below meth c A ls hx hb hr hml hown hts hlocks hK hP hD hG hE hT hA hS hl
  have hown : s.vm.findClass RL = some m.cls := hown
  have hl : lv_has ls 4 [(0, .ref (a0 0)), (1, .int (iI p1)), (2, .ref (o1 0))] := hl
  obtain ⟨H, hH⟩ : ∃ z, z = s.heap := ⟨_, rfl⟩
  obtain ⟨locs, hlc⟩ : ∃ z : List Loc, z = [] := ⟨_, rfl⟩
  rw [← hH] at hP
  have hS : va_S A s.heap H locs := by rw [hH, hlc]; exact hS
  rw [← hlc, ← hH]
  clear hlc hH
  have kp := hp.2
  refine lv_aload_n hx hb dL_fresh_0 rfl (lv_at hl 2 rfl) ?_
  refine lv_iconst (v := iI 0) hx hb dL_fresh_1 rfl ?_
  refine lv_aload_n hx hb dL_fresh_2 rfl (lv_at hl 0 rfl) ?_
  refine lv_iload_n hx hb dL_fresh_3 rfl (lv_at hl 1 rfl) ?_
  refine z_axc0 (vx_runV (As := [.int (iI p1)]) (rest := [.int (iI 0), .ref (o1 0)]) ⟨hx, hb, hml, hown, hts⟩ (c_X7_fresh_x l hst D k a0 S0 S1  p1 hp (by omega) (by omega) _) (cwV 1 hts gL_fresh_X7_fresh rfl rfl rfl (by decide +kernel) ⟨(Nat.le_of_ble_eq_true rfl), (Nat.le_of_ble_eq_true rfl)⟩) (z_preVx hK hG hE hA hP hD hS (zrg 0 1 ++ zrg 1 15) (z_mcat (z_hd (n := 1) rfl) (z_sk (n := 1) (off := 0) (m := 15) rfl (z_hd (n := 15) rfl))) (by decide +kernel) 9 rfl rfl) rfl rfl hl.1 rfl (lv_room (Nat.le_of_ble_eq_true rfl)) dL_fresh_4 ⟨(Nat.le_of_ble_eq_true rfl), (Nat.le_of_ble_eq_true rfl)⟩) hA hP hD hS (zrg 0 1 ++ zrg 1 15) (z_mcat (z_hd (n := 1) rfl) (z_sk (n := 1) (off := 0) (m := 15) rfl (z_hd (n := 15) rfl))) (fun ce q9 H locs hP hS hce hcv hcl => ?_)
  refine vx_catch (name := "java/util/NoSuchElementException") (E := "java/util/NoSuchElementException") hown [] (⟨0, 9, 12, 60⟩ : ExceptionTableEntry) [] (hT.trans rfl) (fun _ h => absurd h List.not_mem_nil) rfl (by decide) (hts (.classLink RL 60 "java/util/NoSuchElementException") (List.mem_of_getElem? (i := 1) rfl)) (va_Nw.use rfl (hE.1 "java/util/NoSuchElementException" zXm_nose)) hce hcv hcl ?_
  refine lv_astore_n (lv' := [(3, .ref q9), (0, .ref (a0 0)), (1, .int (iI p1)), (2, .ref (o1 0))]) hx hb dL_fresh_12 rfl hl (by decide) rfl (fun ls hl => ?_)
  refine lv_iconst (v := iI 1) hx hb dL_fresh_13 rfl ?_
  exact vx_ret (z_iret hx hb hr hlocks hP hS dL_fresh_14 rfl rfl (Nat.le_of_ble_eq_true rfl) (Nat.le_of_ble_eq_true rfl))
set_option maxHeartbeats 4000000 in
set_option maxRecDepth 100000 in
theorem c_L_greyest_ok (l : Launch) (hst : l.stackTraces = false) (D : va_G) (k : Nat → ClassId) (a0 : Nat → Nat) (o1 : Nat → Nat) (S0 : Nat → Nat → Int) (S1 : Nat → Nat → Int) (S2 : Nat → Nat → Int) (p1 : Int) (hp : pOK S1) (h0 : -2147483648 ≤ p1 ∧ p1 < 2147483648) (hc : 0 ≤ p1 ∧ p1 < 3) : zML l yL_greyest wsL_greyest ({ frames := 6, cells := 1, slots := 6, locals := 135 } : Room) D k [.ref (a0 0), .int (iI p1), .ref (o1 0)] (wFac k a0 S0 ++ (wPlant k (subA a0 1) S1 ++ wArrJ k o1 S2)) (0) (wFac k a0 S0 ++ (wPlant k (subA a0 1) S1 ++ wArrJ k o1 (up2 S2 0 0 (sp_X5_greyestAt S1 p1)))) 1 6 := by
  refine zML_of (cc := cL_greyest) (maxL := 4) (ret := (some .int)) (hh := [(0, 9, 12, 60)]) (by decide) rfl (Nat.le_of_ble_eq_true rfl) ?_
  intro p e s m args below meth c A ls hx hb hr hml hown hts hlocks hK hP hD hG hE hT hA hS hl
  have hown : s.vm.findClass RL = some m.cls := hown
  have hl : lv_has ls 4 [(0, .ref (a0 0)), (1, .int (iI p1)), (2, .ref (o1 0))] := hl
  obtain ⟨H, hH⟩ : ∃ z, z = s.heap := ⟨_, rfl⟩
  obtain ⟨locs, hlc⟩ : ∃ z : List Loc, z = [] := ⟨_, rfl⟩
  rw [← hH] at hP
  have hS : va_S A s.heap H locs := by rw [hH, hlc]; exact hS
  rw [← hlc, ← hH]
  clear hlc hH
  have kp := hp.2
  refine lv_aload_n hx hb dL_greyest_0 rfl (lv_at hl 2 rfl) ?_
  refine lv_iconst (v := iI 0) hx hb dL_greyest_1 rfl ?_
  refine lv_aload_n hx hb dL_greyest_2 rfl (lv_at hl 0 rfl) ?_
  refine lv_iload_n hx hb dL_greyest_3 rfl (lv_at hl 1 rfl) ?_
  refine z_ai0 (va_runV (As := [.int (iI p1)]) (rest := [.int (iI 0), .ref (o1 0)]) ⟨hx, hb, hml, hown, hts⟩ (c_X7_greyest_ok l D k a0 S0 S1  p1 hp (by omega) (by omega) _) (cwV 1 hts gL_greyest_X7_greyest rfl rfl rfl (by decide +kernel) ⟨(Nat.le_of_ble_eq_true rfl), (Nat.le_of_ble_eq_true rfl)⟩) (z_preV hK hG hA hP hD hS (zrg 0 1 ++ zrg 1 15) (z_mcat (z_hd (n := 1) rfl) (z_sk (n := 1) (off := 0) (m := 15) rfl (z_hd (n := 15) rfl))) (by decide +kernel) 9 rfl rfl) rfl rfl hl.1 rfl (lv_room (Nat.le_of_ble_eq_true rfl)) dL_greyest_4 ⟨(Nat.le_of_ble_eq_true rfl), (Nat.le_of_ble_eq_true rfl)⟩) hA hP hD hS (zrg 0 1 ++ zrg 1 15) (z_mcat (z_hd (n := 1) rfl) (z_sk (n := 1) (off := 0) (m := 15) rfl (z_hd (n := 15) rfl))) (fun H locs hP hS => ?_)
  refine lv_i2l (v := (iI (sp_X5_greyestAt S1 p1)).toInt64) hx hb dL_greyest_7 rfl ?_
  refine z_last hx hb hK hP hD hS 16 4 (f := S2 0) rfl rfl (i := 0) (by omega) (by omega) (by decide) 0 rfl dL_greyest_8 (fun H locs hP hD hS => ?_)
  have hP : va_P D vwCl (wFac k a0 S0 ++ (wPlant k (subA a0 1) S1 ++ wArrJ k o1 (up2 S2 0 0 (sp_X5_greyestAt S1 p1)))) H := hP
  have hD : va_D A (wFac k a0 S0 ++ (wPlant k (subA a0 1) S1 ++ wArrJ k o1 (up2 S2 0 0 (sp_X5_greyestAt S1 p1)))) := hD
  refine lv_goto (tgt := 15) hx hb dL_greyest_9 (by decide) ?_
  refine lv_iconst (v := iI 0) hx hb dL_greyest_15 rfl ?_
  exact vx_ret (z_iret hx hb hr hlocks hP hS dL_greyest_16 rfl rfl (Nat.le_of_ble_eq_true rfl) (Nat.le_of_ble_eq_true rfl))
set_option maxHeartbeats 4000000 in
set_option maxRecDepth 100000 in
theorem c_L_greyest_x (l : Launch) (hst : l.stackTraces = false) (D : va_G) (k : Nat → ClassId) (a0 : Nat → Nat) (o1 : Nat → Nat) (S0 : Nat → Nat → Int) (S1 : Nat → Nat → Int) (S2 : Nat → Nat → Int) (p1 : Int) (hp : pOK S1) (h0 : -2147483648 ≤ p1 ∧ p1 < 2147483648) (hc : ¬ (0 ≤ p1 ∧ p1 < 3)) : zML l yL_greyest wsL_greyest ({ frames := 7, cells := 1, slots := 6, locals := 103 } : Room) D k [.ref (a0 0), .int (iI p1), .ref (o1 0)] (wFac k a0 S0 ++ (wPlant k (subA a0 1) S1 ++ wArrJ k o1 S2)) (1) (wFac k a0 S0 ++ (wPlant k (subA a0 1) S1 ++ wArrJ k o1 S2)) 1 6 := by
  refine zML_of (cc := cL_greyest) (maxL := 4) (ret := (some .int)) (hh := [(0, 9, 12, 60)]) (by decide) rfl (Nat.le_of_ble_eq_true rfl) ?_
  intro p e s m args below meth c A ls hx hb hr hml hown hts hlocks hK hP hD hG hE hT hA hS hl
  have hown : s.vm.findClass RL = some m.cls := hown
  have hl : lv_has ls 4 [(0, .ref (a0 0)), (1, .int (iI p1)), (2, .ref (o1 0))] := hl
  obtain ⟨H, hH⟩ : ∃ z, z = s.heap := ⟨_, rfl⟩
  obtain ⟨locs, hlc⟩ : ∃ z : List Loc, z = [] := ⟨_, rfl⟩
  rw [← hH] at hP
  have hS : va_S A s.heap H locs := by rw [hH, hlc]; exact hS
  rw [← hlc, ← hH]
  clear hlc hH
  have kp := hp.2
  refine lv_aload_n hx hb dL_greyest_0 rfl (lv_at hl 2 rfl) ?_
  refine lv_iconst (v := iI 0) hx hb dL_greyest_1 rfl ?_
  refine lv_aload_n hx hb dL_greyest_2 rfl (lv_at hl 0 rfl) ?_
  refine lv_iload_n hx hb dL_greyest_3 rfl (lv_at hl 1 rfl) ?_
  refine z_axc0 (vx_runV (As := [.int (iI p1)]) (rest := [.int (iI 0), .ref (o1 0)]) ⟨hx, hb, hml, hown, hts⟩ (c_X7_greyest_x l hst D k a0 S0 S1  p1 hp (by omega) (by omega) _) (cwV 1 hts gL_greyest_X7_greyest rfl rfl rfl (by decide +kernel) ⟨(Nat.le_of_ble_eq_true rfl), (Nat.le_of_ble_eq_true rfl)⟩) (z_preVx hK hG hE hA hP hD hS (zrg 0 1 ++ zrg 1 15) (z_mcat (z_hd (n := 1) rfl) (z_sk (n := 1) (off := 0) (m := 15) rfl (z_hd (n := 15) rfl))) (by decide +kernel) 9 rfl rfl) rfl rfl hl.1 rfl (lv_room (Nat.le_of_ble_eq_true rfl)) dL_greyest_4 ⟨(Nat.le_of_ble_eq_true rfl), (Nat.le_of_ble_eq_true rfl)⟩) hA hP hD hS (zrg 0 1 ++ zrg 1 15) (z_mcat (z_hd (n := 1) rfl) (z_sk (n := 1) (off := 0) (m := 15) rfl (z_hd (n := 15) rfl))) (fun ce q9 H locs hP hS hce hcv hcl => ?_)
  refine vx_catch (name := "java/util/NoSuchElementException") (E := "java/util/NoSuchElementException") hown [] (⟨0, 9, 12, 60⟩ : ExceptionTableEntry) [] (hT.trans rfl) (fun _ h => absurd h List.not_mem_nil) rfl (by decide) (hts (.classLink RL 60 "java/util/NoSuchElementException") (List.mem_of_getElem? (i := 1) rfl)) (va_Nw.use rfl (hE.1 "java/util/NoSuchElementException" zXm_nose)) hce hcv hcl ?_
  refine lv_astore_n (lv' := [(3, .ref q9), (0, .ref (a0 0)), (1, .int (iI p1)), (2, .ref (o1 0))]) hx hb dL_greyest_12 rfl hl (by decide) rfl (fun ls hl => ?_)
  refine lv_iconst (v := iI 1) hx hb dL_greyest_13 rfl ?_
  exact vx_ret (z_iret hx hb hr hlocks hP hS dL_greyest_14 rfl rfl (Nat.le_of_ble_eq_true rfl) (Nat.le_of_ble_eq_true rfl))
set_option maxHeartbeats 4000000 in
set_option maxRecDepth 100000 in
theorem c_L_leastGrey_0 (l : Launch) (hst : l.stackTraces = false) (D : va_G) (k : Nat → ClassId) (a0 : Nat → Nat) (o1 : Nat → Nat) (S0 : Nat → Nat → Int) (S1 : Nat → Nat → Int) (S2 : Nat → Nat → Int) (hp : pOK S1) : zML l yL_leastGrey wsL_leastGrey ({ frames := 6, cells := 1, slots := 6, locals := 82 } : Room) D k [.ref (a0 0), .int (iI 0), .ref (o1 0)] (wFac k a0 S0 ++ (wPlant k (subA a0 1) S1 ++ wArrJ k o1 S2)) (0) (wFac k a0 S0 ++ (wPlant k (subA a0 1) S1 ++ wArrJ k o1 (up2 S2 0 0 (wLeast (S1 4) (S1 3 1))))) 1 6 := by
  refine zML_of (cc := cL_leastGrey) (maxL := 4) (ret := (some .int)) (hh := [(0, 9, 12, 13)]) (by decide) rfl (Nat.le_of_ble_eq_true rfl) ?_
  intro p e s m args below meth c A ls hx hb hr hml hown hts hlocks hK hP hD hG hE hT hA hS hl
  have hown : s.vm.findClass RL = some m.cls := hown
  have hl : lv_has ls 4 [(0, .ref (a0 0)), (1, .int (iI 0)), (2, .ref (o1 0))] := hl
  obtain ⟨H, hH⟩ : ∃ z, z = s.heap := ⟨_, rfl⟩
  obtain ⟨locs, hlc⟩ : ∃ z : List Loc, z = [] := ⟨_, rfl⟩
  rw [← hH] at hP
  have hS : va_S A s.heap H locs := by rw [hH, hlc]; exact hS
  rw [← hlc, ← hH]
  clear hlc hH
  have kp := hp.2
  refine lv_aload_n hx hb dL_leastGrey_0 rfl (lv_at hl 2 rfl) ?_
  refine lv_iconst (v := iI 0) hx hb dL_leastGrey_1 rfl ?_
  refine lv_aload_n hx hb dL_leastGrey_2 rfl (lv_at hl 0 rfl) ?_
  refine lv_iload_n hx hb dL_leastGrey_3 rfl (lv_at hl 1 rfl) ?_
  refine z_ai0 (va_runV (As := [.int (iI 0)]) (rest := [.int (iI 0), .ref (o1 0)]) ⟨hx, hb, hml, hown, hts⟩ (c_X7_leastGrey_0 l D k a0 S0 S1   hp _) (cwV 1 hts gL_leastGrey_X7_leastGrey rfl rfl rfl (by decide +kernel) ⟨(Nat.le_of_ble_eq_true rfl), (Nat.le_of_ble_eq_true rfl)⟩) (z_preV hK hG hA hP hD hS (zrg 0 1 ++ zrg 1 15) (z_mcat (z_hd (n := 1) rfl) (z_sk (n := 1) (off := 0) (m := 15) rfl (z_hd (n := 15) rfl))) (by decide +kernel) 9 rfl rfl) rfl rfl hl.1 rfl (lv_room (Nat.le_of_ble_eq_true rfl)) dL_leastGrey_4 ⟨(Nat.le_of_ble_eq_true rfl), (Nat.le_of_ble_eq_true rfl)⟩) hA hP hD hS (zrg 0 1 ++ zrg 1 15) (z_mcat (z_hd (n := 1) rfl) (z_sk (n := 1) (off := 0) (m := 15) rfl (z_hd (n := 15) rfl))) (fun H locs hP hS => ?_)
  have f_1 : -1000000000 ≤ S1 3 1 ∧ S1 3 1 ≤ 1000000000 := (pOK_b hp 3 (by decide)) 1
  refine lv_i2l (v := (iI (wLeast (S1 4) (S1 3 1))).toInt64) hx hb dL_leastGrey_7 rfl ?_
  refine z_last hx hb hK hP hD hS 16 4 (f := S2 0) rfl rfl (i := 0) (by omega) (by omega) (by decide) 0 rfl dL_leastGrey_8 (fun H locs hP hD hS => ?_)
  have hP : va_P D vwCl (wFac k a0 S0 ++ (wPlant k (subA a0 1) S1 ++ wArrJ k o1 (up2 S2 0 0 (wLeast (S1 4) (S1 3 1))))) H := hP
  have hD : va_D A (wFac k a0 S0 ++ (wPlant k (subA a0 1) S1 ++ wArrJ k o1 (up2 S2 0 0 (wLeast (S1 4) (S1 3 1))))) := hD
  refine lv_goto (tgt := 15) hx hb dL_leastGrey_9 (by decide) ?_
  refine lv_iconst (v := iI 0) hx hb dL_leastGrey_15 rfl ?_
  exact vx_ret (z_iret hx hb hr hlocks hP hS dL_leastGrey_16 rfl rfl (Nat.le_of_ble_eq_true rfl) (Nat.le_of_ble_eq_true rfl))
set_option maxHeartbeats 4000000 in
set_option maxRecDepth 100000 in
theorem c_L_leastGrey_1 (l : Launch) (hst : l.stackTraces = false) (D : va_G) (k : Nat → ClassId) (a0 : Nat → Nat) (o1 : Nat → Nat) (S0 : Nat → Nat → Int) (S1 : Nat → Nat → Int) (S2 : Nat → Nat → Int) (hp : pOK S1) : zML l yL_leastGrey wsL_leastGrey ({ frames := 6, cells := 1, slots := 6, locals := 82 } : Room) D k [.ref (a0 0), .int (iI 1), .ref (o1 0)] (wFac k a0 S0 ++ (wPlant k (subA a0 1) S1 ++ wArrJ k o1 S2)) (0) (wFac k a0 S0 ++ (wPlant k (subA a0 1) S1 ++ wArrJ k o1 (up2 S2 0 0 (wLeast (S1 7) (S1 6 1))))) 1 6 := by
  refine zML_of (cc := cL_leastGrey) (maxL := 4) (ret := (some .int)) (hh := [(0, 9, 12, 13)]) (by decide) rfl (Nat.le_of_ble_eq_true rfl) ?_
  intro p e s m args below meth c A ls hx hb hr hml hown hts hlocks hK hP hD hG hE hT hA hS hl
  have hown : s.vm.findClass RL = some m.cls := hown
  have hl : lv_has ls 4 [(0, .ref (a0 0)), (1, .int (iI 1)), (2, .ref (o1 0))] := hl
  obtain ⟨H, hH⟩ : ∃ z, z = s.heap := ⟨_, rfl⟩
  obtain ⟨locs, hlc⟩ : ∃ z : List Loc, z = [] := ⟨_, rfl⟩
  rw [← hH] at hP
  have hS : va_S A s.heap H locs := by rw [hH, hlc]; exact hS
  rw [← hlc, ← hH]
  clear hlc hH
  have kp := hp.2
  refine lv_aload_n hx hb dL_leastGrey_0 rfl (lv_at hl 2 rfl) ?_
  refine lv_iconst (v := iI 0) hx hb dL_leastGrey_1 rfl ?_
  refine lv_aload_n hx hb dL_leastGrey_2 rfl (lv_at hl 0 rfl) ?_
  refine lv_iload_n hx hb dL_leastGrey_3 rfl (lv_at hl 1 rfl) ?_
  refine z_ai0 (va_runV (As := [.int (iI 1)]) (rest := [.int (iI 0), .ref (o1 0)]) ⟨hx, hb, hml, hown, hts⟩ (c_X7_leastGrey_1 l D k a0 S0 S1   hp _) (cwV 1 hts gL_leastGrey_X7_leastGrey rfl rfl rfl (by decide +kernel) ⟨(Nat.le_of_ble_eq_true rfl), (Nat.le_of_ble_eq_true rfl)⟩) (z_preV hK hG hA hP hD hS (zrg 0 1 ++ zrg 1 15) (z_mcat (z_hd (n := 1) rfl) (z_sk (n := 1) (off := 0) (m := 15) rfl (z_hd (n := 15) rfl))) (by decide +kernel) 9 rfl rfl) rfl rfl hl.1 rfl (lv_room (Nat.le_of_ble_eq_true rfl)) dL_leastGrey_4 ⟨(Nat.le_of_ble_eq_true rfl), (Nat.le_of_ble_eq_true rfl)⟩) hA hP hD hS (zrg 0 1 ++ zrg 1 15) (z_mcat (z_hd (n := 1) rfl) (z_sk (n := 1) (off := 0) (m := 15) rfl (z_hd (n := 15) rfl))) (fun H locs hP hS => ?_)
  have f_1 : -1000000000 ≤ S1 6 1 ∧ S1 6 1 ≤ 1000000000 := (pOK_b hp 6 (by decide)) 1
  refine lv_i2l (v := (iI (wLeast (S1 7) (S1 6 1))).toInt64) hx hb dL_leastGrey_7 rfl ?_
  refine z_last hx hb hK hP hD hS 16 4 (f := S2 0) rfl rfl (i := 0) (by omega) (by omega) (by decide) 0 rfl dL_leastGrey_8 (fun H locs hP hD hS => ?_)
  have hP : va_P D vwCl (wFac k a0 S0 ++ (wPlant k (subA a0 1) S1 ++ wArrJ k o1 (up2 S2 0 0 (wLeast (S1 7) (S1 6 1))))) H := hP
  have hD : va_D A (wFac k a0 S0 ++ (wPlant k (subA a0 1) S1 ++ wArrJ k o1 (up2 S2 0 0 (wLeast (S1 7) (S1 6 1))))) := hD
  refine lv_goto (tgt := 15) hx hb dL_leastGrey_9 (by decide) ?_
  refine lv_iconst (v := iI 0) hx hb dL_leastGrey_15 rfl ?_
  exact vx_ret (z_iret hx hb hr hlocks hP hS dL_leastGrey_16 rfl rfl (Nat.le_of_ble_eq_true rfl) (Nat.le_of_ble_eq_true rfl))
set_option maxHeartbeats 4000000 in
set_option maxRecDepth 100000 in
theorem c_L_leastGrey_2 (l : Launch) (hst : l.stackTraces = false) (D : va_G) (k : Nat → ClassId) (a0 : Nat → Nat) (o1 : Nat → Nat) (S0 : Nat → Nat → Int) (S1 : Nat → Nat → Int) (S2 : Nat → Nat → Int) (hp : pOK S1) : zML l yL_leastGrey wsL_leastGrey ({ frames := 6, cells := 1, slots := 6, locals := 82 } : Room) D k [.ref (a0 0), .int (iI 2), .ref (o1 0)] (wFac k a0 S0 ++ (wPlant k (subA a0 1) S1 ++ wArrJ k o1 S2)) (0) (wFac k a0 S0 ++ (wPlant k (subA a0 1) S1 ++ wArrJ k o1 (up2 S2 0 0 (wLeast (S1 10) (S1 9 1))))) 1 6 := by
  refine zML_of (cc := cL_leastGrey) (maxL := 4) (ret := (some .int)) (hh := [(0, 9, 12, 13)]) (by decide) rfl (Nat.le_of_ble_eq_true rfl) ?_
  intro p e s m args below meth c A ls hx hb hr hml hown hts hlocks hK hP hD hG hE hT hA hS hl
  have hown : s.vm.findClass RL = some m.cls := hown
  have hl : lv_has ls 4 [(0, .ref (a0 0)), (1, .int (iI 2)), (2, .ref (o1 0))] := hl
  obtain ⟨H, hH⟩ : ∃ z, z = s.heap := ⟨_, rfl⟩
  obtain ⟨locs, hlc⟩ : ∃ z : List Loc, z = [] := ⟨_, rfl⟩
  rw [← hH] at hP
  have hS : va_S A s.heap H locs := by rw [hH, hlc]; exact hS
  rw [← hlc, ← hH]
  clear hlc hH
  have kp := hp.2
  refine lv_aload_n hx hb dL_leastGrey_0 rfl (lv_at hl 2 rfl) ?_
  refine lv_iconst (v := iI 0) hx hb dL_leastGrey_1 rfl ?_
  refine lv_aload_n hx hb dL_leastGrey_2 rfl (lv_at hl 0 rfl) ?_
  refine lv_iload_n hx hb dL_leastGrey_3 rfl (lv_at hl 1 rfl) ?_
  refine z_ai0 (va_runV (As := [.int (iI 2)]) (rest := [.int (iI 0), .ref (o1 0)]) ⟨hx, hb, hml, hown, hts⟩ (c_X7_leastGrey_2 l D k a0 S0 S1   hp _) (cwV 1 hts gL_leastGrey_X7_leastGrey rfl rfl rfl (by decide +kernel) ⟨(Nat.le_of_ble_eq_true rfl), (Nat.le_of_ble_eq_true rfl)⟩) (z_preV hK hG hA hP hD hS (zrg 0 1 ++ zrg 1 15) (z_mcat (z_hd (n := 1) rfl) (z_sk (n := 1) (off := 0) (m := 15) rfl (z_hd (n := 15) rfl))) (by decide +kernel) 9 rfl rfl) rfl rfl hl.1 rfl (lv_room (Nat.le_of_ble_eq_true rfl)) dL_leastGrey_4 ⟨(Nat.le_of_ble_eq_true rfl), (Nat.le_of_ble_eq_true rfl)⟩) hA hP hD hS (zrg 0 1 ++ zrg 1 15) (z_mcat (z_hd (n := 1) rfl) (z_sk (n := 1) (off := 0) (m := 15) rfl (z_hd (n := 15) rfl))) (fun H locs hP hS => ?_)
  have f_1 : -1000000000 ≤ S1 9 1 ∧ S1 9 1 ≤ 1000000000 := (pOK_b hp 9 (by decide)) 1
  refine lv_i2l (v := (iI (wLeast (S1 10) (S1 9 1))).toInt64) hx hb dL_leastGrey_7 rfl ?_
  refine z_last hx hb hK hP hD hS 16 4 (f := S2 0) rfl rfl (i := 0) (by omega) (by omega) (by decide) 0 rfl dL_leastGrey_8 (fun H locs hP hD hS => ?_)
  have hP : va_P D vwCl (wFac k a0 S0 ++ (wPlant k (subA a0 1) S1 ++ wArrJ k o1 (up2 S2 0 0 (wLeast (S1 10) (S1 9 1))))) H := hP
  have hD : va_D A (wFac k a0 S0 ++ (wPlant k (subA a0 1) S1 ++ wArrJ k o1 (up2 S2 0 0 (wLeast (S1 10) (S1 9 1))))) := hD
  refine lv_goto (tgt := 15) hx hb dL_leastGrey_9 (by decide) ?_
  refine lv_iconst (v := iI 0) hx hb dL_leastGrey_15 rfl ?_
  exact vx_ret (z_iret hx hb hr hlocks hP hS dL_leastGrey_16 rfl rfl (Nat.le_of_ble_eq_true rfl) (Nat.le_of_ble_eq_true rfl))
set_option maxHeartbeats 4000000 in
set_option maxRecDepth 100000 in
theorem c_L_leastGrey_x (l : Launch) (hst : l.stackTraces = false) (D : va_G) (k : Nat → ClassId) (a0 : Nat → Nat) (o1 : Nat → Nat) (S0 : Nat → Nat → Int) (S1 : Nat → Nat → Int) (S2 : Nat → Nat → Int) (p1 : Int) (hp : pOK S1) (h0 : -2147483648 ≤ p1 ∧ p1 < 2147483648) (hc : ¬ (0 ≤ p1 ∧ p1 < 3)) : zML l yL_leastGrey wsL_leastGrey ({ frames := 8, cells := 1, slots := 6, locals := 127 } : Room) D k [.ref (a0 0), .int (iI p1), .ref (o1 0)] (wFac k a0 S0 ++ (wPlant k (subA a0 1) S1 ++ wArrJ k o1 S2)) (1) (wFac k a0 S0 ++ (wPlant k (subA a0 1) S1 ++ wArrJ k o1 S2)) 1 6 := by
  refine zML_of (cc := cL_leastGrey) (maxL := 4) (ret := (some .int)) (hh := [(0, 9, 12, 13)]) (by decide) rfl (Nat.le_of_ble_eq_true rfl) ?_
  intro p e s m args below meth c A ls hx hb hr hml hown hts hlocks hK hP hD hG hE hT hA hS hl
  have hown : s.vm.findClass RL = some m.cls := hown
  have hl : lv_has ls 4 [(0, .ref (a0 0)), (1, .int (iI p1)), (2, .ref (o1 0))] := hl
  obtain ⟨H, hH⟩ : ∃ z, z = s.heap := ⟨_, rfl⟩
  obtain ⟨locs, hlc⟩ : ∃ z : List Loc, z = [] := ⟨_, rfl⟩
  rw [← hH] at hP
  have hS : va_S A s.heap H locs := by rw [hH, hlc]; exact hS
  rw [← hlc, ← hH]
  clear hlc hH
  have kp := hp.2
  refine lv_aload_n hx hb dL_leastGrey_0 rfl (lv_at hl 2 rfl) ?_
  refine lv_iconst (v := iI 0) hx hb dL_leastGrey_1 rfl ?_
  refine lv_aload_n hx hb dL_leastGrey_2 rfl (lv_at hl 0 rfl) ?_
  refine lv_iload_n hx hb dL_leastGrey_3 rfl (lv_at hl 1 rfl) ?_
  refine z_axc0 (vx_runV (As := [.int (iI p1)]) (rest := [.int (iI 0), .ref (o1 0)]) ⟨hx, hb, hml, hown, hts⟩ (c_X7_leastGrey_x l hst D k a0 S0 S1  p1 hp (by omega) (by omega) _) (cwV 1 hts gL_leastGrey_X7_leastGrey rfl rfl rfl (by decide +kernel) ⟨(Nat.le_of_ble_eq_true rfl), (Nat.le_of_ble_eq_true rfl)⟩) (z_preVx hK hG hE hA hP hD hS (zrg 0 1 ++ zrg 1 15) (z_mcat (z_hd (n := 1) rfl) (z_sk (n := 1) (off := 0) (m := 15) rfl (z_hd (n := 15) rfl))) (by decide +kernel) 9 rfl rfl) rfl rfl hl.1 rfl (lv_room (Nat.le_of_ble_eq_true rfl)) dL_leastGrey_4 ⟨(Nat.le_of_ble_eq_true rfl), (Nat.le_of_ble_eq_true rfl)⟩) hA hP hD hS (zrg 0 1 ++ zrg 1 15) (z_mcat (z_hd (n := 1) rfl) (z_sk (n := 1) (off := 0) (m := 15) rfl (z_hd (n := 15) rfl))) (fun ce q9 H locs hP hS hce hcv hcl => ?_)
  refine vx_catch (name := "java/lang/IndexOutOfBoundsException") (E := "java/lang/IndexOutOfBoundsException") hown [] (⟨0, 9, 12, 13⟩ : ExceptionTableEntry) [] (hT.trans rfl) (fun _ h => absurd h List.not_mem_nil) rfl (by decide) (hts (.classLink RL 13 "java/lang/IndexOutOfBoundsException") (List.mem_of_getElem? (i := 1) rfl)) (va_Nw.use rfl (hE.1 "java/lang/IndexOutOfBoundsException" zXm_ioob)) hce hcv hcl ?_
  refine lv_astore_n (lv' := [(3, .ref q9), (0, .ref (a0 0)), (1, .int (iI p1)), (2, .ref (o1 0))]) hx hb dL_leastGrey_12 rfl hl (by decide) rfl (fun ls hl => ?_)
  refine lv_iconst (v := iI 1) hx hb dL_leastGrey_13 rfl ?_
  exact vx_ret (z_iret hx hb hr hlocks hP hS dL_leastGrey_14 rfl rfl (Nat.le_of_ble_eq_true rfl) (Nat.le_of_ble_eq_true rfl))
set_option maxHeartbeats 4000000 in
set_option maxRecDepth 100000 in
theorem c_L_line_0 (l : Launch) (hst : l.stackTraces = false) (D : va_G) (k : Nat → ClassId) (a0 : Nat → Nat) (o1 : Nat → Nat) (S0 : Nat → Nat → Int) (S1 : Nat → Nat → Int) (S2 : Nat → Nat → Int) (S3 : Nat → Nat → Int) (hp : pOK S1) (hV : ∀ k w : Int, 0 ≤ w → w ≤ 3 → -48 ≤ wNum (S1 4) (S1 3 1) k w ∧ wNum (S1 4) (S1 3 1) k w ≤ 60000) (hl1 : -48 ≤ S1 2 1 ∧ S1 2 1 ≤ 60000) (hl2 : -48 ≤ S1 2 2 ∧ S1 2 2 ≤ 60000) : zML l yL_line wsL_line ({ frames := 6, cells := 1, slots := 6, locals := 109 } : Room) D k [.ref (a0 0), .int (iI 0), .ref (o1 0)] (wFac k a0 S0 ++ (wPlant k (subA a0 1) S1 ++ (wLine k (subA a0 185) S2 ++ wArrJ k o1 S3))) (0) (wFac k a0 S0 ++ (wPlant k (subA a0 1) S1 ++ (wLine k (subA a0 185) (upA (upA (up2 (up2 (up2 (up2 (up2 (up2 (up2 (up2 (up2 S2 0 1 0) 1 0 ((48 + (S1 2 1)))) 0 1 (((0)) + 1)) 1 1 47) 0 1 (((((0)) + 1)) + 1)) 1 2 ((48 + (S1 2 2)))) 0 1 ((((((((0)) + 1)) + 1))) + 1)) 1 3 58) 0 1 ((((((((((0)) + 1)) + 1))) + 1)) + 1)) 0 (upZ (S2 0) 1 (wLineB (S1 2) (S1 4) (S1 3 1) (S2 1)).2)) 1 ((wLineB (S1 2) (S1 4) (S1 3 1) (S2 1)).1)) ++ wArrJ k o1 (up2 S3 0 0 ((wLineB (S1 2) (S1 4) (S1 3 1) (S2 1)).2))))) 1 6 := by
  refine zML_of (cc := cL_line) (maxL := 4) (ret := (some .int)) (hh := [(0, 9, 12, 13)]) (by decide) rfl (Nat.le_of_ble_eq_true rfl) ?_
  intro p e s m args below meth c A ls hx hb hr hml hown hts hlocks hK hP hD hG hE hT hA hS hl
  have hown : s.vm.findClass RL = some m.cls := hown
  have hl : lv_has ls 4 [(0, .ref (a0 0)), (1, .int (iI 0)), (2, .ref (o1 0))] := hl
  obtain ⟨H, hH⟩ : ∃ z, z = s.heap := ⟨_, rfl⟩
  obtain ⟨locs, hlc⟩ : ∃ z : List Loc, z = [] := ⟨_, rfl⟩
  rw [← hH] at hP
  have hS : va_S A s.heap H locs := by rw [hH, hlc]; exact hS
  rw [← hlc, ← hH]
  clear hlc hH
  have kp := hp.2
  refine lv_aload_n hx hb dL_line_0 rfl (lv_at hl 2 rfl) ?_
  refine lv_iconst (v := iI 0) hx hb dL_line_1 rfl ?_
  refine lv_aload_n hx hb dL_line_2 rfl (lv_at hl 0 rfl) ?_
  refine lv_iload_n hx hb dL_line_3 rfl (lv_at hl 1 rfl) ?_
  refine z_ai (va_runV (As := [.int (iI 0)]) (rest := [.int (iI 0), .ref (o1 0)]) ⟨hx, hb, hml, hown, hts⟩ (c_X7_line_0 l D k a0 S0 S1 S2   hp hV (by omega) (by omega) _) (cwV 1 hts gL_line_X7_line rfl rfl rfl (by decide +kernel) ⟨(Nat.le_of_ble_eq_true rfl), (Nat.le_of_ble_eq_true rfl)⟩) (z_preV hK hG hA hP hD hS (zrg 0 1 ++ (zrg 1 15 ++ zrg 16 2)) (z_mcat (z_hd (n := 1) rfl) (z_mcat (z_sk (n := 1) (off := 0) (m := 15) rfl (z_hd (n := 15) rfl)) (z_sk (n := 1) (off := 15) (m := 2) rfl (z_sk (n := 15) (off := 0) (m := 2) rfl (z_hd (n := 2) rfl))))) (by decide +kernel) 9 rfl rfl) rfl rfl hl.1 rfl (lv_room (Nat.le_of_ble_eq_true rfl)) dL_line_4 ⟨(Nat.le_of_ble_eq_true rfl), (Nat.le_of_ble_eq_true rfl)⟩) hA hP hD hS (zrg 0 1 ++ (zrg 1 15 ++ zrg 16 2)) (z_mcat (z_hd (n := 1) rfl) (z_mcat (z_sk (n := 1) (off := 0) (m := 15) rfl (z_hd (n := 15) rfl)) (z_sk (n := 1) (off := 15) (m := 2) rfl (z_sk (n := 15) (off := 0) (m := 2) rfl (z_hd (n := 2) rfl))))) (z_mfst rfl (z_mfst rfl rfl)) (fun H locs hP hD hS => ?_)
  have hz_2 : zset (wFac k a0 S0 ++ (wPlant k (subA a0 1) S1 ++ (wLine k (subA a0 185) S2 ++ wArrJ k o1 S3))) (zrg 0 1) (wFac k a0 S0) = wFac k a0 S0 ++ (wPlant k (subA a0 1) S1 ++ (wLine k (subA a0 185) S2 ++ wArrJ k o1 S3)) := (z_zhd (n := 1) rfl rfl)
  have hz_3 : zset (wFac k a0 S0 ++ (wPlant k (subA a0 1) S1 ++ (wLine k (subA a0 185) S2 ++ wArrJ k o1 S3))) (zrg 1 15) (wPlant k (subA a0 1) S1) = wFac k a0 S0 ++ (wPlant k (subA a0 1) S1 ++ (wLine k (subA a0 185) S2 ++ wArrJ k o1 S3)) := (z_zsk (n := 1) (off := 0) (m := 15) rfl (z_zhd (n := 15) rfl rfl))
  have hz_4 : zset (wFac k a0 S0 ++ (wPlant k (subA a0 1) S1 ++ (wLine k (subA a0 185) S2 ++ wArrJ k o1 S3))) (zrg 16 2) (wLine k (subA a0 185) (upA (upA (up2 (up2 (up2 (up2 (up2 (up2 (up2 (up2 (up2 S2 0 1 0) 1 0 ((48 + (S1 2 1)))) 0 1 (((0)) + 1)) 1 1 47) 0 1 (((((0)) + 1)) + 1)) 1 2 ((48 + (S1 2 2)))) 0 1 ((((((((0)) + 1)) + 1))) + 1)) 1 3 58) 0 1 ((((((((((0)) + 1)) + 1))) + 1)) + 1)) 0 (upZ (S2 0) 1 (wLineB (S1 2) (S1 4) (S1 3 1) (S2 1)).2)) 1 ((wLineB (S1 2) (S1 4) (S1 3 1) (S2 1)).1))) = wFac k a0 S0 ++ (wPlant k (subA a0 1) S1 ++ (wLine k (subA a0 185) (upA (upA (up2 (up2 (up2 (up2 (up2 (up2 (up2 (up2 (up2 S2 0 1 0) 1 0 ((48 + (S1 2 1)))) 0 1 (((0)) + 1)) 1 1 47) 0 1 (((((0)) + 1)) + 1)) 1 2 ((48 + (S1 2 2)))) 0 1 ((((((((0)) + 1)) + 1))) + 1)) 1 3 58) 0 1 ((((((((((0)) + 1)) + 1))) + 1)) + 1)) 0 (upZ (S2 0) 1 (wLineB (S1 2) (S1 4) (S1 3 1) (S2 1)).2)) 1 ((wLineB (S1 2) (S1 4) (S1 3 1) (S2 1)).1)) ++ wArrJ k o1 S3)) := (z_zsk (n := 1) (off := 15) (m := 2) rfl (z_zsk (n := 15) (off := 0) (m := 2) rfl (z_zhd (n := 2) rfl rfl)))
  have hE_1 : zset (wFac k a0 S0 ++ (wPlant k (subA a0 1) S1 ++ (wLine k (subA a0 185) S2 ++ wArrJ k o1 S3))) (zrg 0 1 ++ (zrg 1 15 ++ zrg 16 2)) (wFac k a0 S0 ++ (wPlant k (subA a0 1) S1 ++ wLine k (subA a0 185) (upA (upA (up2 (up2 (up2 (up2 (up2 (up2 (up2 (up2 (up2 S2 0 1 0) 1 0 ((48 + (S1 2 1)))) 0 1 (((0)) + 1)) 1 1 47) 0 1 (((((0)) + 1)) + 1)) 1 2 ((48 + (S1 2 2)))) 0 1 ((((((((0)) + 1)) + 1))) + 1)) 1 3 58) 0 1 ((((((((((0)) + 1)) + 1))) + 1)) + 1)) 0 (upZ (S2 0) 1 (wLineB (S1 2) (S1 4) (S1 3 1) (S2 1)).2)) 1 ((wLineB (S1 2) (S1 4) (S1 3 1) (S2 1)).1)))) = wFac k a0 S0 ++ (wPlant k (subA a0 1) S1 ++ (wLine k (subA a0 185) (upA (upA (up2 (up2 (up2 (up2 (up2 (up2 (up2 (up2 (up2 S2 0 1 0) 1 0 ((48 + (S1 2 1)))) 0 1 (((0)) + 1)) 1 1 47) 0 1 (((((0)) + 1)) + 1)) 1 2 ((48 + (S1 2 2)))) 0 1 ((((((((0)) + 1)) + 1))) + 1)) 1 3 58) 0 1 ((((((((((0)) + 1)) + 1))) + 1)) + 1)) 0 (upZ (S2 0) 1 (wLineB (S1 2) (S1 4) (S1 3 1) (S2 1)).2)) 1 ((wLineB (S1 2) (S1 4) (S1 3 1) (S2 1)).1)) ++ wArrJ k o1 S3)) := (z_zcat rfl hz_2 (z_zcat rfl hz_3 hz_4))
  have hP : va_P D vwCl (wFac k a0 S0 ++ (wPlant k (subA a0 1) S1 ++ (wLine k (subA a0 185) (upA (upA (up2 (up2 (up2 (up2 (up2 (up2 (up2 (up2 (up2 S2 0 1 0) 1 0 ((48 + (S1 2 1)))) 0 1 (((0)) + 1)) 1 1 47) 0 1 (((((0)) + 1)) + 1)) 1 2 ((48 + (S1 2 2)))) 0 1 ((((((((0)) + 1)) + 1))) + 1)) 1 3 58) 0 1 ((((((((((0)) + 1)) + 1))) + 1)) + 1)) 0 (upZ (S2 0) 1 (wLineB (S1 2) (S1 4) (S1 3 1) (S2 1)).2)) 1 ((wLineB (S1 2) (S1 4) (S1 3 1) (S2 1)).1)) ++ wArrJ k o1 S3))) H := z_to hE_1 hP
  have hD : va_D A (wFac k a0 S0 ++ (wPlant k (subA a0 1) S1 ++ (wLine k (subA a0 185) (upA (upA (up2 (up2 (up2 (up2 (up2 (up2 (up2 (up2 (up2 S2 0 1 0) 1 0 ((48 + (S1 2 1)))) 0 1 (((0)) + 1)) 1 1 47) 0 1 (((((0)) + 1)) + 1)) 1 2 ((48 + (S1 2 2)))) 0 1 ((((((((0)) + 1)) + 1))) + 1)) 1 3 58) 0 1 ((((((((((0)) + 1)) + 1))) + 1)) + 1)) 0 (upZ (S2 0) 1 (wLineB (S1 2) (S1 4) (S1 3 1) (S2 1)).2)) 1 ((wLineB (S1 2) (S1 4) (S1 3 1) (S2 1)).1)) ++ wArrJ k o1 S3))) := z_to2 hE_1 hD
  have f_5 : -1000000000 ≤ S1 3 1 ∧ S1 3 1 ≤ 1000000000 := (pOK_b hp 3 (by decide)) 1
  refine lv_i2l (v := (iI ((wLineB (S1 2) (S1 4) (S1 3 1) (S2 1)).2)).toInt64) hx hb dL_line_7 rfl ?_
  refine z_last hx hb hK hP hD hS 18 4 (f := S3 0) rfl rfl (i := 0) (by omega) (by omega) (by decide) 0 rfl dL_line_8 (fun H locs hP hD hS => ?_)
  have hP : va_P D vwCl (wFac k a0 S0 ++ (wPlant k (subA a0 1) S1 ++ (wLine k (subA a0 185) (upA (upA (up2 (up2 (up2 (up2 (up2 (up2 (up2 (up2 (up2 S2 0 1 0) 1 0 ((48 + (S1 2 1)))) 0 1 (((0)) + 1)) 1 1 47) 0 1 (((((0)) + 1)) + 1)) 1 2 ((48 + (S1 2 2)))) 0 1 ((((((((0)) + 1)) + 1))) + 1)) 1 3 58) 0 1 ((((((((((0)) + 1)) + 1))) + 1)) + 1)) 0 (upZ (S2 0) 1 (wLineB (S1 2) (S1 4) (S1 3 1) (S2 1)).2)) 1 ((wLineB (S1 2) (S1 4) (S1 3 1) (S2 1)).1)) ++ wArrJ k o1 (up2 S3 0 0 ((wLineB (S1 2) (S1 4) (S1 3 1) (S2 1)).2))))) H := hP
  have hD : va_D A (wFac k a0 S0 ++ (wPlant k (subA a0 1) S1 ++ (wLine k (subA a0 185) (upA (upA (up2 (up2 (up2 (up2 (up2 (up2 (up2 (up2 (up2 S2 0 1 0) 1 0 ((48 + (S1 2 1)))) 0 1 (((0)) + 1)) 1 1 47) 0 1 (((((0)) + 1)) + 1)) 1 2 ((48 + (S1 2 2)))) 0 1 ((((((((0)) + 1)) + 1))) + 1)) 1 3 58) 0 1 ((((((((((0)) + 1)) + 1))) + 1)) + 1)) 0 (upZ (S2 0) 1 (wLineB (S1 2) (S1 4) (S1 3 1) (S2 1)).2)) 1 ((wLineB (S1 2) (S1 4) (S1 3 1) (S2 1)).1)) ++ wArrJ k o1 (up2 S3 0 0 ((wLineB (S1 2) (S1 4) (S1 3 1) (S2 1)).2))))) := hD
  refine lv_goto (tgt := 15) hx hb dL_line_9 (by decide) ?_
  refine lv_iconst (v := iI 0) hx hb dL_line_15 rfl ?_
  exact vx_ret (z_iret hx hb hr hlocks hP hS dL_line_16 rfl rfl (Nat.le_of_ble_eq_true rfl) (Nat.le_of_ble_eq_true rfl))
set_option maxHeartbeats 4000000 in
set_option maxRecDepth 100000 in
theorem c_L_line_1 (l : Launch) (hst : l.stackTraces = false) (D : va_G) (k : Nat → ClassId) (a0 : Nat → Nat) (o1 : Nat → Nat) (S0 : Nat → Nat → Int) (S1 : Nat → Nat → Int) (S2 : Nat → Nat → Int) (S3 : Nat → Nat → Int) (hp : pOK S1) (hV : ∀ k w : Int, 0 ≤ w → w ≤ 3 → -48 ≤ wNum (S1 7) (S1 6 1) k w ∧ wNum (S1 7) (S1 6 1) k w ≤ 60000) (hl1 : -48 ≤ S1 5 1 ∧ S1 5 1 ≤ 60000) (hl2 : -48 ≤ S1 5 2 ∧ S1 5 2 ≤ 60000) : zML l yL_line wsL_line ({ frames := 6, cells := 1, slots := 6, locals := 109 } : Room) D k [.ref (a0 0), .int (iI 1), .ref (o1 0)] (wFac k a0 S0 ++ (wPlant k (subA a0 1) S1 ++ (wLine k (subA a0 185) S2 ++ wArrJ k o1 S3))) (0) (wFac k a0 S0 ++ (wPlant k (subA a0 1) S1 ++ (wLine k (subA a0 185) (upA (upA (up2 (up2 (up2 (up2 (up2 (up2 (up2 (up2 (up2 S2 0 1 0) 1 0 ((48 + (S1 5 1)))) 0 1 (((0)) + 1)) 1 1 47) 0 1 (((((0)) + 1)) + 1)) 1 2 ((48 + (S1 5 2)))) 0 1 ((((((((0)) + 1)) + 1))) + 1)) 1 3 58) 0 1 ((((((((((0)) + 1)) + 1))) + 1)) + 1)) 0 (upZ (S2 0) 1 (wLineB (S1 5) (S1 7) (S1 6 1) (S2 1)).2)) 1 ((wLineB (S1 5) (S1 7) (S1 6 1) (S2 1)).1)) ++ wArrJ k o1 (up2 S3 0 0 ((wLineB (S1 5) (S1 7) (S1 6 1) (S2 1)).2))))) 1 6 := by
  refine zML_of (cc := cL_line) (maxL := 4) (ret := (some .int)) (hh := [(0, 9, 12, 13)]) (by decide) rfl (Nat.le_of_ble_eq_true rfl) ?_
  intro p e s m args below meth c A ls hx hb hr hml hown hts hlocks hK hP hD hG hE hT hA hS hl
  have hown : s.vm.findClass RL = some m.cls := hown
  have hl : lv_has ls 4 [(0, .ref (a0 0)), (1, .int (iI 1)), (2, .ref (o1 0))] := hl
  obtain ⟨H, hH⟩ : ∃ z, z = s.heap := ⟨_, rfl⟩
  obtain ⟨locs, hlc⟩ : ∃ z : List Loc, z = [] := ⟨_, rfl⟩
  rw [← hH] at hP
  have hS : va_S A s.heap H locs := by rw [hH, hlc]; exact hS
  rw [← hlc, ← hH]
  clear hlc hH
  have kp := hp.2
  refine lv_aload_n hx hb dL_line_0 rfl (lv_at hl 2 rfl) ?_
  refine lv_iconst (v := iI 0) hx hb dL_line_1 rfl ?_
  refine lv_aload_n hx hb dL_line_2 rfl (lv_at hl 0 rfl) ?_
  refine lv_iload_n hx hb dL_line_3 rfl (lv_at hl 1 rfl) ?_
  refine z_ai (va_runV (As := [.int (iI 1)]) (rest := [.int (iI 0), .ref (o1 0)]) ⟨hx, hb, hml, hown, hts⟩ (c_X7_line_1 l D k a0 S0 S1 S2   hp hV (by omega) (by omega) _) (cwV 1 hts gL_line_X7_line rfl rfl rfl (by decide +kernel) ⟨(Nat.le_of_ble_eq_true rfl), (Nat.le_of_ble_eq_true rfl)⟩) (z_preV hK hG hA hP hD hS (zrg 0 1 ++ (zrg 1 15 ++ zrg 16 2)) (z_mcat (z_hd (n := 1) rfl) (z_mcat (z_sk (n := 1) (off := 0) (m := 15) rfl (z_hd (n := 15) rfl)) (z_sk (n := 1) (off := 15) (m := 2) rfl (z_sk (n := 15) (off := 0) (m := 2) rfl (z_hd (n := 2) rfl))))) (by decide +kernel) 9 rfl rfl) rfl rfl hl.1 rfl (lv_room (Nat.le_of_ble_eq_true rfl)) dL_line_4 ⟨(Nat.le_of_ble_eq_true rfl), (Nat.le_of_ble_eq_true rfl)⟩) hA hP hD hS (zrg 0 1 ++ (zrg 1 15 ++ zrg 16 2)) (z_mcat (z_hd (n := 1) rfl) (z_mcat (z_sk (n := 1) (off := 0) (m := 15) rfl (z_hd (n := 15) rfl)) (z_sk (n := 1) (off := 15) (m := 2) rfl (z_sk (n := 15) (off := 0) (m := 2) rfl (z_hd (n := 2) rfl))))) (z_mfst rfl (z_mfst rfl rfl)) (fun H locs hP hD hS => ?_)
  have hz_2 : zset (wFac k a0 S0 ++ (wPlant k (subA a0 1) S1 ++ (wLine k (subA a0 185) S2 ++ wArrJ k o1 S3))) (zrg 0 1) (wFac k a0 S0) = wFac k a0 S0 ++ (wPlant k (subA a0 1) S1 ++ (wLine k (subA a0 185) S2 ++ wArrJ k o1 S3)) := (z_zhd (n := 1) rfl rfl)
  have hz_3 : zset (wFac k a0 S0 ++ (wPlant k (subA a0 1) S1 ++ (wLine k (subA a0 185) S2 ++ wArrJ k o1 S3))) (zrg 1 15) (wPlant k (subA a0 1) S1) = wFac k a0 S0 ++ (wPlant k (subA a0 1) S1 ++ (wLine k (subA a0 185) S2 ++ wArrJ k o1 S3)) := (z_zsk (n := 1) (off := 0) (m := 15) rfl (z_zhd (n := 15) rfl rfl))
  have hz_4 : zset (wFac k a0 S0 ++ (wPlant k (subA a0 1) S1 ++ (wLine k (subA a0 185) S2 ++ wArrJ k o1 S3))) (zrg 16 2) (wLine k (subA a0 185) (upA (upA (up2 (up2 (up2 (up2 (up2 (up2 (up2 (up2 (up2 S2 0 1 0) 1 0 ((48 + (S1 5 1)))) 0 1 (((0)) + 1)) 1 1 47) 0 1 (((((0)) + 1)) + 1)) 1 2 ((48 + (S1 5 2)))) 0 1 ((((((((0)) + 1)) + 1))) + 1)) 1 3 58) 0 1 ((((((((((0)) + 1)) + 1))) + 1)) + 1)) 0 (upZ (S2 0) 1 (wLineB (S1 5) (S1 7) (S1 6 1) (S2 1)).2)) 1 ((wLineB (S1 5) (S1 7) (S1 6 1) (S2 1)).1))) = wFac k a0 S0 ++ (wPlant k (subA a0 1) S1 ++ (wLine k (subA a0 185) (upA (upA (up2 (up2 (up2 (up2 (up2 (up2 (up2 (up2 (up2 S2 0 1 0) 1 0 ((48 + (S1 5 1)))) 0 1 (((0)) + 1)) 1 1 47) 0 1 (((((0)) + 1)) + 1)) 1 2 ((48 + (S1 5 2)))) 0 1 ((((((((0)) + 1)) + 1))) + 1)) 1 3 58) 0 1 ((((((((((0)) + 1)) + 1))) + 1)) + 1)) 0 (upZ (S2 0) 1 (wLineB (S1 5) (S1 7) (S1 6 1) (S2 1)).2)) 1 ((wLineB (S1 5) (S1 7) (S1 6 1) (S2 1)).1)) ++ wArrJ k o1 S3)) := (z_zsk (n := 1) (off := 15) (m := 2) rfl (z_zsk (n := 15) (off := 0) (m := 2) rfl (z_zhd (n := 2) rfl rfl)))
  have hE_1 : zset (wFac k a0 S0 ++ (wPlant k (subA a0 1) S1 ++ (wLine k (subA a0 185) S2 ++ wArrJ k o1 S3))) (zrg 0 1 ++ (zrg 1 15 ++ zrg 16 2)) (wFac k a0 S0 ++ (wPlant k (subA a0 1) S1 ++ wLine k (subA a0 185) (upA (upA (up2 (up2 (up2 (up2 (up2 (up2 (up2 (up2 (up2 S2 0 1 0) 1 0 ((48 + (S1 5 1)))) 0 1 (((0)) + 1)) 1 1 47) 0 1 (((((0)) + 1)) + 1)) 1 2 ((48 + (S1 5 2)))) 0 1 ((((((((0)) + 1)) + 1))) + 1)) 1 3 58) 0 1 ((((((((((0)) + 1)) + 1))) + 1)) + 1)) 0 (upZ (S2 0) 1 (wLineB (S1 5) (S1 7) (S1 6 1) (S2 1)).2)) 1 ((wLineB (S1 5) (S1 7) (S1 6 1) (S2 1)).1)))) = wFac k a0 S0 ++ (wPlant k (subA a0 1) S1 ++ (wLine k (subA a0 185) (upA (upA (up2 (up2 (up2 (up2 (up2 (up2 (up2 (up2 (up2 S2 0 1 0) 1 0 ((48 + (S1 5 1)))) 0 1 (((0)) + 1)) 1 1 47) 0 1 (((((0)) + 1)) + 1)) 1 2 ((48 + (S1 5 2)))) 0 1 ((((((((0)) + 1)) + 1))) + 1)) 1 3 58) 0 1 ((((((((((0)) + 1)) + 1))) + 1)) + 1)) 0 (upZ (S2 0) 1 (wLineB (S1 5) (S1 7) (S1 6 1) (S2 1)).2)) 1 ((wLineB (S1 5) (S1 7) (S1 6 1) (S2 1)).1)) ++ wArrJ k o1 S3)) := (z_zcat rfl hz_2 (z_zcat rfl hz_3 hz_4))
  have hP : va_P D vwCl (wFac k a0 S0 ++ (wPlant k (subA a0 1) S1 ++ (wLine k (subA a0 185) (upA (upA (up2 (up2 (up2 (up2 (up2 (up2 (up2 (up2 (up2 S2 0 1 0) 1 0 ((48 + (S1 5 1)))) 0 1 (((0)) + 1)) 1 1 47) 0 1 (((((0)) + 1)) + 1)) 1 2 ((48 + (S1 5 2)))) 0 1 ((((((((0)) + 1)) + 1))) + 1)) 1 3 58) 0 1 ((((((((((0)) + 1)) + 1))) + 1)) + 1)) 0 (upZ (S2 0) 1 (wLineB (S1 5) (S1 7) (S1 6 1) (S2 1)).2)) 1 ((wLineB (S1 5) (S1 7) (S1 6 1) (S2 1)).1)) ++ wArrJ k o1 S3))) H := z_to hE_1 hP
  have hD : va_D A (wFac k a0 S0 ++ (wPlant k (subA a0 1) S1 ++ (wLine k (subA a0 185) (upA (upA (up2 (up2 (up2 (up2 (up2 (up2 (up2 (up2 (up2 S2 0 1 0) 1 0 ((48 + (S1 5 1)))) 0 1 (((0)) + 1)) 1 1 47) 0 1 (((((0)) + 1)) + 1)) 1 2 ((48 + (S1 5 2)))) 0 1 ((((((((0)) + 1)) + 1))) + 1)) 1 3 58) 0 1 ((((((((((0)) + 1)) + 1))) + 1)) + 1)) 0 (upZ (S2 0) 1 (wLineB (S1 5) (S1 7) (S1 6 1) (S2 1)).2)) 1 ((wLineB (S1 5) (S1 7) (S1 6 1) (S2 1)).1)) ++ wArrJ k o1 S3))) := z_to2 hE_1 hD
  have f_5 : -1000000000 ≤ S1 6 1 ∧ S1 6 1 ≤ 1000000000 := (pOK_b hp 6 (by decide)) 1
  refine lv_i2l (v := (iI ((wLineB (S1 5) (S1 7) (S1 6 1) (S2 1)).2)).toInt64) hx hb dL_line_7 rfl ?_
  refine z_last hx hb hK hP hD hS 18 4 (f := S3 0) rfl rfl (i := 0) (by omega) (by omega) (by decide) 0 rfl dL_line_8 (fun H locs hP hD hS => ?_)
  have hP : va_P D vwCl (wFac k a0 S0 ++ (wPlant k (subA a0 1) S1 ++ (wLine k (subA a0 185) (upA (upA (up2 (up2 (up2 (up2 (up2 (up2 (up2 (up2 (up2 S2 0 1 0) 1 0 ((48 + (S1 5 1)))) 0 1 (((0)) + 1)) 1 1 47) 0 1 (((((0)) + 1)) + 1)) 1 2 ((48 + (S1 5 2)))) 0 1 ((((((((0)) + 1)) + 1))) + 1)) 1 3 58) 0 1 ((((((((((0)) + 1)) + 1))) + 1)) + 1)) 0 (upZ (S2 0) 1 (wLineB (S1 5) (S1 7) (S1 6 1) (S2 1)).2)) 1 ((wLineB (S1 5) (S1 7) (S1 6 1) (S2 1)).1)) ++ wArrJ k o1 (up2 S3 0 0 ((wLineB (S1 5) (S1 7) (S1 6 1) (S2 1)).2))))) H := hP
  have hD : va_D A (wFac k a0 S0 ++ (wPlant k (subA a0 1) S1 ++ (wLine k (subA a0 185) (upA (upA (up2 (up2 (up2 (up2 (up2 (up2 (up2 (up2 (up2 S2 0 1 0) 1 0 ((48 + (S1 5 1)))) 0 1 (((0)) + 1)) 1 1 47) 0 1 (((((0)) + 1)) + 1)) 1 2 ((48 + (S1 5 2)))) 0 1 ((((((((0)) + 1)) + 1))) + 1)) 1 3 58) 0 1 ((((((((((0)) + 1)) + 1))) + 1)) + 1)) 0 (upZ (S2 0) 1 (wLineB (S1 5) (S1 7) (S1 6 1) (S2 1)).2)) 1 ((wLineB (S1 5) (S1 7) (S1 6 1) (S2 1)).1)) ++ wArrJ k o1 (up2 S3 0 0 ((wLineB (S1 5) (S1 7) (S1 6 1) (S2 1)).2))))) := hD
  refine lv_goto (tgt := 15) hx hb dL_line_9 (by decide) ?_
  refine lv_iconst (v := iI 0) hx hb dL_line_15 rfl ?_
  exact vx_ret (z_iret hx hb hr hlocks hP hS dL_line_16 rfl rfl (Nat.le_of_ble_eq_true rfl) (Nat.le_of_ble_eq_true rfl))
set_option maxHeartbeats 4000000 in
set_option maxRecDepth 100000 in
theorem c_L_line_2 (l : Launch) (hst : l.stackTraces = false) (D : va_G) (k : Nat → ClassId) (a0 : Nat → Nat) (o1 : Nat → Nat) (S0 : Nat → Nat → Int) (S1 : Nat → Nat → Int) (S2 : Nat → Nat → Int) (S3 : Nat → Nat → Int) (hp : pOK S1) (hV : ∀ k w : Int, 0 ≤ w → w ≤ 3 → -48 ≤ wNum (S1 10) (S1 9 1) k w ∧ wNum (S1 10) (S1 9 1) k w ≤ 60000) (hl1 : -48 ≤ S1 8 1 ∧ S1 8 1 ≤ 60000) (hl2 : -48 ≤ S1 8 2 ∧ S1 8 2 ≤ 60000) : zML l yL_line wsL_line ({ frames := 6, cells := 1, slots := 6, locals := 109 } : Room) D k [.ref (a0 0), .int (iI 2), .ref (o1 0)] (wFac k a0 S0 ++ (wPlant k (subA a0 1) S1 ++ (wLine k (subA a0 185) S2 ++ wArrJ k o1 S3))) (0) (wFac k a0 S0 ++ (wPlant k (subA a0 1) S1 ++ (wLine k (subA a0 185) (upA (upA (up2 (up2 (up2 (up2 (up2 (up2 (up2 (up2 (up2 S2 0 1 0) 1 0 ((48 + (S1 8 1)))) 0 1 (((0)) + 1)) 1 1 47) 0 1 (((((0)) + 1)) + 1)) 1 2 ((48 + (S1 8 2)))) 0 1 ((((((((0)) + 1)) + 1))) + 1)) 1 3 58) 0 1 ((((((((((0)) + 1)) + 1))) + 1)) + 1)) 0 (upZ (S2 0) 1 (wLineB (S1 8) (S1 10) (S1 9 1) (S2 1)).2)) 1 ((wLineB (S1 8) (S1 10) (S1 9 1) (S2 1)).1)) ++ wArrJ k o1 (up2 S3 0 0 ((wLineB (S1 8) (S1 10) (S1 9 1) (S2 1)).2))))) 1 6 := by
  refine zML_of (cc := cL_line) (maxL := 4) (ret := (some .int)) (hh := [(0, 9, 12, 13)]) (by decide) rfl (Nat.le_of_ble_eq_true rfl) ?_
  intro p e s m args below meth c A ls hx hb hr hml hown hts hlocks hK hP hD hG hE hT hA hS hl
  have hown : s.vm.findClass RL = some m.cls := hown
  have hl : lv_has ls 4 [(0, .ref (a0 0)), (1, .int (iI 2)), (2, .ref (o1 0))] := hl
  obtain ⟨H, hH⟩ : ∃ z, z = s.heap := ⟨_, rfl⟩
  obtain ⟨locs, hlc⟩ : ∃ z : List Loc, z = [] := ⟨_, rfl⟩
  rw [← hH] at hP
  have hS : va_S A s.heap H locs := by rw [hH, hlc]; exact hS
  rw [← hlc, ← hH]
  clear hlc hH
  have kp := hp.2
  refine lv_aload_n hx hb dL_line_0 rfl (lv_at hl 2 rfl) ?_
  refine lv_iconst (v := iI 0) hx hb dL_line_1 rfl ?_
  refine lv_aload_n hx hb dL_line_2 rfl (lv_at hl 0 rfl) ?_
  refine lv_iload_n hx hb dL_line_3 rfl (lv_at hl 1 rfl) ?_
  refine z_ai (va_runV (As := [.int (iI 2)]) (rest := [.int (iI 0), .ref (o1 0)]) ⟨hx, hb, hml, hown, hts⟩ (c_X7_line_2 l D k a0 S0 S1 S2   hp hV (by omega) (by omega) _) (cwV 1 hts gL_line_X7_line rfl rfl rfl (by decide +kernel) ⟨(Nat.le_of_ble_eq_true rfl), (Nat.le_of_ble_eq_true rfl)⟩) (z_preV hK hG hA hP hD hS (zrg 0 1 ++ (zrg 1 15 ++ zrg 16 2)) (z_mcat (z_hd (n := 1) rfl) (z_mcat (z_sk (n := 1) (off := 0) (m := 15) rfl (z_hd (n := 15) rfl)) (z_sk (n := 1) (off := 15) (m := 2) rfl (z_sk (n := 15) (off := 0) (m := 2) rfl (z_hd (n := 2) rfl))))) (by decide +kernel) 9 rfl rfl) rfl rfl hl.1 rfl (lv_room (Nat.le_of_ble_eq_true rfl)) dL_line_4 ⟨(Nat.le_of_ble_eq_true rfl), (Nat.le_of_ble_eq_true rfl)⟩) hA hP hD hS (zrg 0 1 ++ (zrg 1 15 ++ zrg 16 2)) (z_mcat (z_hd (n := 1) rfl) (z_mcat (z_sk (n := 1) (off := 0) (m := 15) rfl (z_hd (n := 15) rfl)) (z_sk (n := 1) (off := 15) (m := 2) rfl (z_sk (n := 15) (off := 0) (m := 2) rfl (z_hd (n := 2) rfl))))) (z_mfst rfl (z_mfst rfl rfl)) (fun H locs hP hD hS => ?_)
  have hz_2 : zset (wFac k a0 S0 ++ (wPlant k (subA a0 1) S1 ++ (wLine k (subA a0 185) S2 ++ wArrJ k o1 S3))) (zrg 0 1) (wFac k a0 S0) = wFac k a0 S0 ++ (wPlant k (subA a0 1) S1 ++ (wLine k (subA a0 185) S2 ++ wArrJ k o1 S3)) := (z_zhd (n := 1) rfl rfl)
  have hz_3 : zset (wFac k a0 S0 ++ (wPlant k (subA a0 1) S1 ++ (wLine k (subA a0 185) S2 ++ wArrJ k o1 S3))) (zrg 1 15) (wPlant k (subA a0 1) S1) = wFac k a0 S0 ++ (wPlant k (subA a0 1) S1 ++ (wLine k (subA a0 185) S2 ++ wArrJ k o1 S3)) := (z_zsk (n := 1) (off := 0) (m := 15) rfl (z_zhd (n := 15) rfl rfl))
  have hz_4 : zset (wFac k a0 S0 ++ (wPlant k (subA a0 1) S1 ++ (wLine k (subA a0 185) S2 ++ wArrJ k o1 S3))) (zrg 16 2) (wLine k (subA a0 185) (upA (upA (up2 (up2 (up2 (up2 (up2 (up2 (up2 (up2 (up2 S2 0 1 0) 1 0 ((48 + (S1 8 1)))) 0 1 (((0)) + 1)) 1 1 47) 0 1 (((((0)) + 1)) + 1)) 1 2 ((48 + (S1 8 2)))) 0 1 ((((((((0)) + 1)) + 1))) + 1)) 1 3 58) 0 1 ((((((((((0)) + 1)) + 1))) + 1)) + 1)) 0 (upZ (S2 0) 1 (wLineB (S1 8) (S1 10) (S1 9 1) (S2 1)).2)) 1 ((wLineB (S1 8) (S1 10) (S1 9 1) (S2 1)).1))) = wFac k a0 S0 ++ (wPlant k (subA a0 1) S1 ++ (wLine k (subA a0 185) (upA (upA (up2 (up2 (up2 (up2 (up2 (up2 (up2 (up2 (up2 S2 0 1 0) 1 0 ((48 + (S1 8 1)))) 0 1 (((0)) + 1)) 1 1 47) 0 1 (((((0)) + 1)) + 1)) 1 2 ((48 + (S1 8 2)))) 0 1 ((((((((0)) + 1)) + 1))) + 1)) 1 3 58) 0 1 ((((((((((0)) + 1)) + 1))) + 1)) + 1)) 0 (upZ (S2 0) 1 (wLineB (S1 8) (S1 10) (S1 9 1) (S2 1)).2)) 1 ((wLineB (S1 8) (S1 10) (S1 9 1) (S2 1)).1)) ++ wArrJ k o1 S3)) := (z_zsk (n := 1) (off := 15) (m := 2) rfl (z_zsk (n := 15) (off := 0) (m := 2) rfl (z_zhd (n := 2) rfl rfl)))
  have hE_1 : zset (wFac k a0 S0 ++ (wPlant k (subA a0 1) S1 ++ (wLine k (subA a0 185) S2 ++ wArrJ k o1 S3))) (zrg 0 1 ++ (zrg 1 15 ++ zrg 16 2)) (wFac k a0 S0 ++ (wPlant k (subA a0 1) S1 ++ wLine k (subA a0 185) (upA (upA (up2 (up2 (up2 (up2 (up2 (up2 (up2 (up2 (up2 S2 0 1 0) 1 0 ((48 + (S1 8 1)))) 0 1 (((0)) + 1)) 1 1 47) 0 1 (((((0)) + 1)) + 1)) 1 2 ((48 + (S1 8 2)))) 0 1 ((((((((0)) + 1)) + 1))) + 1)) 1 3 58) 0 1 ((((((((((0)) + 1)) + 1))) + 1)) + 1)) 0 (upZ (S2 0) 1 (wLineB (S1 8) (S1 10) (S1 9 1) (S2 1)).2)) 1 ((wLineB (S1 8) (S1 10) (S1 9 1) (S2 1)).1)))) = wFac k a0 S0 ++ (wPlant k (subA a0 1) S1 ++ (wLine k (subA a0 185) (upA (upA (up2 (up2 (up2 (up2 (up2 (up2 (up2 (up2 (up2 S2 0 1 0) 1 0 ((48 + (S1 8 1)))) 0 1 (((0)) + 1)) 1 1 47) 0 1 (((((0)) + 1)) + 1)) 1 2 ((48 + (S1 8 2)))) 0 1 ((((((((0)) + 1)) + 1))) + 1)) 1 3 58) 0 1 ((((((((((0)) + 1)) + 1))) + 1)) + 1)) 0 (upZ (S2 0) 1 (wLineB (S1 8) (S1 10) (S1 9 1) (S2 1)).2)) 1 ((wLineB (S1 8) (S1 10) (S1 9 1) (S2 1)).1)) ++ wArrJ k o1 S3)) := (z_zcat rfl hz_2 (z_zcat rfl hz_3 hz_4))
  have hP : va_P D vwCl (wFac k a0 S0 ++ (wPlant k (subA a0 1) S1 ++ (wLine k (subA a0 185) (upA (upA (up2 (up2 (up2 (up2 (up2 (up2 (up2 (up2 (up2 S2 0 1 0) 1 0 ((48 + (S1 8 1)))) 0 1 (((0)) + 1)) 1 1 47) 0 1 (((((0)) + 1)) + 1)) 1 2 ((48 + (S1 8 2)))) 0 1 ((((((((0)) + 1)) + 1))) + 1)) 1 3 58) 0 1 ((((((((((0)) + 1)) + 1))) + 1)) + 1)) 0 (upZ (S2 0) 1 (wLineB (S1 8) (S1 10) (S1 9 1) (S2 1)).2)) 1 ((wLineB (S1 8) (S1 10) (S1 9 1) (S2 1)).1)) ++ wArrJ k o1 S3))) H := z_to hE_1 hP
  have hD : va_D A (wFac k a0 S0 ++ (wPlant k (subA a0 1) S1 ++ (wLine k (subA a0 185) (upA (upA (up2 (up2 (up2 (up2 (up2 (up2 (up2 (up2 (up2 S2 0 1 0) 1 0 ((48 + (S1 8 1)))) 0 1 (((0)) + 1)) 1 1 47) 0 1 (((((0)) + 1)) + 1)) 1 2 ((48 + (S1 8 2)))) 0 1 ((((((((0)) + 1)) + 1))) + 1)) 1 3 58) 0 1 ((((((((((0)) + 1)) + 1))) + 1)) + 1)) 0 (upZ (S2 0) 1 (wLineB (S1 8) (S1 10) (S1 9 1) (S2 1)).2)) 1 ((wLineB (S1 8) (S1 10) (S1 9 1) (S2 1)).1)) ++ wArrJ k o1 S3))) := z_to2 hE_1 hD
  have f_5 : -1000000000 ≤ S1 9 1 ∧ S1 9 1 ≤ 1000000000 := (pOK_b hp 9 (by decide)) 1
  refine lv_i2l (v := (iI ((wLineB (S1 8) (S1 10) (S1 9 1) (S2 1)).2)).toInt64) hx hb dL_line_7 rfl ?_
  refine z_last hx hb hK hP hD hS 18 4 (f := S3 0) rfl rfl (i := 0) (by omega) (by omega) (by decide) 0 rfl dL_line_8 (fun H locs hP hD hS => ?_)
  have hP : va_P D vwCl (wFac k a0 S0 ++ (wPlant k (subA a0 1) S1 ++ (wLine k (subA a0 185) (upA (upA (up2 (up2 (up2 (up2 (up2 (up2 (up2 (up2 (up2 S2 0 1 0) 1 0 ((48 + (S1 8 1)))) 0 1 (((0)) + 1)) 1 1 47) 0 1 (((((0)) + 1)) + 1)) 1 2 ((48 + (S1 8 2)))) 0 1 ((((((((0)) + 1)) + 1))) + 1)) 1 3 58) 0 1 ((((((((((0)) + 1)) + 1))) + 1)) + 1)) 0 (upZ (S2 0) 1 (wLineB (S1 8) (S1 10) (S1 9 1) (S2 1)).2)) 1 ((wLineB (S1 8) (S1 10) (S1 9 1) (S2 1)).1)) ++ wArrJ k o1 (up2 S3 0 0 ((wLineB (S1 8) (S1 10) (S1 9 1) (S2 1)).2))))) H := hP
  have hD : va_D A (wFac k a0 S0 ++ (wPlant k (subA a0 1) S1 ++ (wLine k (subA a0 185) (upA (upA (up2 (up2 (up2 (up2 (up2 (up2 (up2 (up2 (up2 S2 0 1 0) 1 0 ((48 + (S1 8 1)))) 0 1 (((0)) + 1)) 1 1 47) 0 1 (((((0)) + 1)) + 1)) 1 2 ((48 + (S1 8 2)))) 0 1 ((((((((0)) + 1)) + 1))) + 1)) 1 3 58) 0 1 ((((((((((0)) + 1)) + 1))) + 1)) + 1)) 0 (upZ (S2 0) 1 (wLineB (S1 8) (S1 10) (S1 9 1) (S2 1)).2)) 1 ((wLineB (S1 8) (S1 10) (S1 9 1) (S2 1)).1)) ++ wArrJ k o1 (up2 S3 0 0 ((wLineB (S1 8) (S1 10) (S1 9 1) (S2 1)).2))))) := hD
  refine lv_goto (tgt := 15) hx hb dL_line_9 (by decide) ?_
  refine lv_iconst (v := iI 0) hx hb dL_line_15 rfl ?_
  exact vx_ret (z_iret hx hb hr hlocks hP hS dL_line_16 rfl rfl (Nat.le_of_ble_eq_true rfl) (Nat.le_of_ble_eq_true rfl))
set_option maxHeartbeats 4000000 in
set_option maxRecDepth 100000 in
theorem c_L_line_x (l : Launch) (hst : l.stackTraces = false) (D : va_G) (k : Nat → ClassId) (a0 : Nat → Nat) (o1 : Nat → Nat) (S0 : Nat → Nat → Int) (S1 : Nat → Nat → Int) (S2 : Nat → Nat → Int) (S3 : Nat → Nat → Int) (p1 : Int) (hp : pOK S1) (h0 : -2147483648 ≤ p1 ∧ p1 < 2147483648) (hc : ¬ (0 ≤ p1 ∧ p1 < 3)) : zML l yL_line wsL_line ({ frames := 8, cells := 1, slots := 6, locals := 124 } : Room) D k [.ref (a0 0), .int (iI p1), .ref (o1 0)] (wFac k a0 S0 ++ (wPlant k (subA a0 1) S1 ++ (wLine k (subA a0 185) S2 ++ wArrJ k o1 S3))) (1) (wFac k a0 S0 ++ (wPlant k (subA a0 1) S1 ++ (wLine k (subA a0 185) S2 ++ wArrJ k o1 S3))) 1 6 := by
  refine zML_of (cc := cL_line) (maxL := 4) (ret := (some .int)) (hh := [(0, 9, 12, 13)]) (by decide) rfl (Nat.le_of_ble_eq_true rfl) ?_
  intro p e s m args below meth c A ls hx hb hr hml hown hts hlocks hK hP hD hG hE hT hA hS hl
  have hown : s.vm.findClass RL = some m.cls := hown
  have hl : lv_has ls 4 [(0, .ref (a0 0)), (1, .int (iI p1)), (2, .ref (o1 0))] := hl
  obtain ⟨H, hH⟩ : ∃ z, z = s.heap := ⟨_, rfl⟩
  obtain ⟨locs, hlc⟩ : ∃ z : List Loc, z = [] := ⟨_, rfl⟩
  rw [← hH] at hP
  have hS : va_S A s.heap H locs := by rw [hH, hlc]; exact hS
  rw [← hlc, ← hH]
  clear hlc hH
  have kp := hp.2
  refine lv_aload_n hx hb dL_line_0 rfl (lv_at hl 2 rfl) ?_
  refine lv_iconst (v := iI 0) hx hb dL_line_1 rfl ?_
  refine lv_aload_n hx hb dL_line_2 rfl (lv_at hl 0 rfl) ?_
  refine lv_iload_n hx hb dL_line_3 rfl (lv_at hl 1 rfl) ?_
  refine z_axc0 (vx_runV (As := [.int (iI p1)]) (rest := [.int (iI 0), .ref (o1 0)]) ⟨hx, hb, hml, hown, hts⟩ (c_X7_line_x l hst D k a0 S0 S1 S2  p1 hp (by omega) (by omega) _) (cwV 1 hts gL_line_X7_line rfl rfl rfl (by decide +kernel) ⟨(Nat.le_of_ble_eq_true rfl), (Nat.le_of_ble_eq_true rfl)⟩) (z_preVx hK hG hE hA hP hD hS (zrg 0 1 ++ (zrg 1 15 ++ zrg 16 2)) (z_mcat (z_hd (n := 1) rfl) (z_mcat (z_sk (n := 1) (off := 0) (m := 15) rfl (z_hd (n := 15) rfl)) (z_sk (n := 1) (off := 15) (m := 2) rfl (z_sk (n := 15) (off := 0) (m := 2) rfl (z_hd (n := 2) rfl))))) (by decide +kernel) 9 rfl rfl) rfl rfl hl.1 rfl (lv_room (Nat.le_of_ble_eq_true rfl)) dL_line_4 ⟨(Nat.le_of_ble_eq_true rfl), (Nat.le_of_ble_eq_true rfl)⟩) hA hP hD hS (zrg 0 1 ++ (zrg 1 15 ++ zrg 16 2)) (z_mcat (z_hd (n := 1) rfl) (z_mcat (z_sk (n := 1) (off := 0) (m := 15) rfl (z_hd (n := 15) rfl)) (z_sk (n := 1) (off := 15) (m := 2) rfl (z_sk (n := 15) (off := 0) (m := 2) rfl (z_hd (n := 2) rfl))))) (fun ce q9 H locs hP hS hce hcv hcl => ?_)
  refine vx_catch (name := "java/lang/IndexOutOfBoundsException") (E := "java/lang/IndexOutOfBoundsException") hown [] (⟨0, 9, 12, 13⟩ : ExceptionTableEntry) [] (hT.trans rfl) (fun _ h => absurd h List.not_mem_nil) rfl (by decide) (hts (.classLink RL 13 "java/lang/IndexOutOfBoundsException") (List.mem_of_getElem? (i := 1) rfl)) (va_Nw.use rfl (hE.1 "java/lang/IndexOutOfBoundsException" zXm_ioob)) hce hcv hcl ?_
  refine lv_astore_n (lv' := [(3, .ref q9), (0, .ref (a0 0)), (1, .int (iI p1)), (2, .ref (o1 0))]) hx hb dL_line_12 rfl hl (by decide) rfl (fun ls hl => ?_)
  refine lv_iconst (v := iI 1) hx hb dL_line_13 rfl ?_
  exact vx_ret (z_iret hx hb hr hlocks hP hS dL_line_14 rfl rfl (Nat.le_of_ble_eq_true rfl) (Nat.le_of_ble_eq_true rfl))
set_option maxHeartbeats 4000000 in
set_option maxRecDepth 100000 in
theorem c_L_character_ok (l : Launch) (hst : l.stackTraces = false) (D : va_G) (k : Nat → ClassId) (a0 : Nat → Nat) (o1 : Nat → Nat) (S0 : Nat → Nat → Int) (S1 : Nat → Nat → Int) (S2 : Nat → Nat → Int) (p1 : Int) (hc15 : 0 ≤ S1 0 1 ∧ S1 0 1 ≤ 39) (h0 : -2147483648 ≤ p1 ∧ p1 < 2147483648) (hS1 : ∀ j : Nat, 0 ≤ S1 1 j ∧ S1 1 j < 65536) (hc : 0 ≤ p1 ∧ p1 < S1 0 1) : zML l yL_character wsL_character ({ frames := 6, cells := 1, slots := 6, locals := 82 } : Room) D k [.ref (a0 0), .int (iI p1), .ref (o1 0)] (wFac k a0 S0 ++ (wLine k (subA a0 185) S1 ++ wArrJ k o1 S2)) (0) (wFac k a0 S0 ++ (wLine k (subA a0 185) S1 ++ wArrJ k o1 (up2 S2 0 0 (S1 1 p1.toNat)))) 1 6 := by
  refine zML_of (cc := cL_character) (maxL := 4) (ret := (some .int)) (hh := [(0, 9, 12, 13)]) (by decide) rfl (Nat.le_of_ble_eq_true rfl) ?_
  intro p e s m args below meth c A ls hx hb hr hml hown hts hlocks hK hP hD hG hE hT hA hS hl
  have hown : s.vm.findClass RL = some m.cls := hown
  have hl : lv_has ls 4 [(0, .ref (a0 0)), (1, .int (iI p1)), (2, .ref (o1 0))] := hl
  obtain ⟨H, hH⟩ : ∃ z, z = s.heap := ⟨_, rfl⟩
  obtain ⟨locs, hlc⟩ : ∃ z : List Loc, z = [] := ⟨_, rfl⟩
  rw [← hH] at hP
  have hS : va_S A s.heap H locs := by rw [hH, hlc]; exact hS
  rw [← hlc, ← hH]
  clear hlc hH
  refine lv_aload_n hx hb dL_character_0 rfl (lv_at hl 2 rfl) ?_
  refine lv_iconst (v := iI 0) hx hb dL_character_1 rfl ?_
  refine lv_aload_n hx hb dL_character_2 rfl (lv_at hl 0 rfl) ?_
  refine lv_iload_n hx hb dL_character_3 rfl (lv_at hl 1 rfl) ?_
  refine z_ai0 (va_runV (As := [.int (iI p1)]) (rest := [.int (iI 0), .ref (o1 0)]) ⟨hx, hb, hml, hown, hts⟩ (c_X7_character_ok l D k a0 S0 S1  p1 (by omega) (by omega) hS1 (by omega) _) (cwV 1 hts gL_character_X7_character rfl rfl rfl (by decide +kernel) ⟨(Nat.le_of_ble_eq_true rfl), (Nat.le_of_ble_eq_true rfl)⟩) (z_preV hK hG hA hP hD hS [0, 1, 2] rfl (by decide) 9 rfl rfl) rfl rfl hl.1 rfl (lv_room (Nat.le_of_ble_eq_true rfl)) dL_character_4 ⟨(Nat.le_of_ble_eq_true rfl), (Nat.le_of_ble_eq_true rfl)⟩) hA hP hD hS [0, 1, 2] rfl (fun H locs hP hS => ?_)
  refine lv_i2l (v := (iI (S1 1 p1.toNat)).toInt64) hx hb dL_character_7 rfl ?_
  refine z_last hx hb hK hP hD hS 3 4 (f := S2 0) rfl rfl (i := 0) (by omega) (by omega) (by decide) 0 rfl dL_character_8 (fun H locs hP hD hS => ?_)
  have hP : va_P D vwCl (wFac k a0 S0 ++ (wLine k (subA a0 185) S1 ++ wArrJ k o1 (up2 S2 0 0 (S1 1 p1.toNat)))) H := hP
  have hD : va_D A (wFac k a0 S0 ++ (wLine k (subA a0 185) S1 ++ wArrJ k o1 (up2 S2 0 0 (S1 1 p1.toNat)))) := hD
  refine lv_goto (tgt := 15) hx hb dL_character_9 (by decide) ?_
  refine lv_iconst (v := iI 0) hx hb dL_character_15 rfl ?_
  exact vx_ret (z_iret hx hb hr hlocks hP hS dL_character_16 rfl rfl (Nat.le_of_ble_eq_true rfl) (Nat.le_of_ble_eq_true rfl))
set_option maxHeartbeats 4000000 in
set_option maxRecDepth 100000 in
theorem c_L_character_x (l : Launch) (hst : l.stackTraces = false) (D : va_G) (k : Nat → ClassId) (a0 : Nat → Nat) (o1 : Nat → Nat) (S0 : Nat → Nat → Int) (S1 : Nat → Nat → Int) (S2 : Nat → Nat → Int) (p1 : Int) (hc15 : 0 ≤ S1 0 1 ∧ S1 0 1 ≤ 39) (h0 : -2147483648 ≤ p1 ∧ p1 < 2147483648) (hc : ¬ (0 ≤ p1 ∧ p1 < S1 0 1)) : zML l yL_character wsL_character ({ frames := 7, cells := 1, slots := 6, locals := 103 } : Room) D k [.ref (a0 0), .int (iI p1), .ref (o1 0)] (wFac k a0 S0 ++ (wLine k (subA a0 185) S1 ++ wArrJ k o1 S2)) (1) (wFac k a0 S0 ++ (wLine k (subA a0 185) S1 ++ wArrJ k o1 S2)) 1 6 := by
  refine zML_of (cc := cL_character) (maxL := 4) (ret := (some .int)) (hh := [(0, 9, 12, 13)]) (by decide) rfl (Nat.le_of_ble_eq_true rfl) ?_
  intro p e s m args below meth c A ls hx hb hr hml hown hts hlocks hK hP hD hG hE hT hA hS hl
  have hown : s.vm.findClass RL = some m.cls := hown
  have hl : lv_has ls 4 [(0, .ref (a0 0)), (1, .int (iI p1)), (2, .ref (o1 0))] := hl
  obtain ⟨H, hH⟩ : ∃ z, z = s.heap := ⟨_, rfl⟩
  obtain ⟨locs, hlc⟩ : ∃ z : List Loc, z = [] := ⟨_, rfl⟩
  rw [← hH] at hP
  have hS : va_S A s.heap H locs := by rw [hH, hlc]; exact hS
  rw [← hlc, ← hH]
  clear hlc hH
  refine lv_aload_n hx hb dL_character_0 rfl (lv_at hl 2 rfl) ?_
  refine lv_iconst (v := iI 0) hx hb dL_character_1 rfl ?_
  refine lv_aload_n hx hb dL_character_2 rfl (lv_at hl 0 rfl) ?_
  refine lv_iload_n hx hb dL_character_3 rfl (lv_at hl 1 rfl) ?_
  refine z_axc0 (vx_runV (As := [.int (iI p1)]) (rest := [.int (iI 0), .ref (o1 0)]) ⟨hx, hb, hml, hown, hts⟩ (c_X7_character_x l hst D k a0 S0 S1  p1 (by omega) (by omega) (by omega) _) (cwV 1 hts gL_character_X7_character rfl rfl rfl (by decide +kernel) ⟨(Nat.le_of_ble_eq_true rfl), (Nat.le_of_ble_eq_true rfl)⟩) (z_preVx hK hG hE hA hP hD hS [0, 1, 2] rfl (by decide) 9 rfl rfl) rfl rfl hl.1 rfl (lv_room (Nat.le_of_ble_eq_true rfl)) dL_character_4 ⟨(Nat.le_of_ble_eq_true rfl), (Nat.le_of_ble_eq_true rfl)⟩) hA hP hD hS [0, 1, 2] rfl (fun ce q9 H locs hP hS hce hcv hcl => ?_)
  refine vx_catch (name := "java/lang/IndexOutOfBoundsException") (E := "java/lang/IndexOutOfBoundsException") hown [] (⟨0, 9, 12, 13⟩ : ExceptionTableEntry) [] (hT.trans rfl) (fun _ h => absurd h List.not_mem_nil) rfl (by decide) (hts (.classLink RL 13 "java/lang/IndexOutOfBoundsException") (List.mem_of_getElem? (i := 1) rfl)) (va_Nw.use rfl (hE.1 "java/lang/IndexOutOfBoundsException" zXm_ioob)) hce hcv hcl ?_
  refine lv_astore_n (lv' := [(3, .ref q9), (0, .ref (a0 0)), (1, .int (iI p1)), (2, .ref (o1 0))]) hx hb dL_character_12 rfl hl (by decide) rfl (fun ls hl => ?_)
  refine lv_iconst (v := iI 1) hx hb dL_character_13 rfl ?_
  exact vx_ret (z_iret hx hb hr hlocks hP hS dL_character_14 rfl rfl (Nat.le_of_ble_eq_true rfl) (Nat.le_of_ble_eq_true rfl))
set_option maxHeartbeats 4000000 in
set_option maxRecDepth 100000 in
theorem c_L_append_ok (l : Launch) (hst : l.stackTraces = false) (D : va_G) (k : Nat → ClassId) (a0 : Nat → Nat) (o1 : Nat → Nat) (S0 : Nat → Nat → Int) (S1 : Nat → Nat → Int) (S2 : Nat → Nat → Int) (p1 : Int) (h0 : 0 ≤ p1 ∧ p1 < 65536) (hc : 0 ≤ S1 0 1 ∧ S1 0 1 < 60) : zML l yL_append wsL_append ({ frames := 6, cells := 1, slots := 6, locals := 82 } : Room) D k [.ref (a0 0), .int (iI p1), .ref (o1 0)] (wFac k a0 S0 ++ (wInput k (subA a0 183) S1 ++ wArrJ k o1 S2)) (0) (wFac k a0 S0 ++ (wInput k (subA a0 183) (up2 (up2 S1 1 ((S1 0 1).toNat) p1) 0 1 ((S1 0 1) + 1)) ++ wArrJ k o1 (up2 S2 0 0 ((S1 0 1) + 1)))) 1 6 := by
  refine zML_of (cc := cL_append) (maxL := 4) (ret := (some .int)) (hh := [(0, 9, 12, 98)]) (by decide) rfl (Nat.le_of_ble_eq_true rfl) ?_
  intro p e s m args below meth c A ls hx hb hr hml hown hts hlocks hK hP hD hG hE hT hA hS hl
  have hown : s.vm.findClass RL = some m.cls := hown
  have hl : lv_has ls 4 [(0, .ref (a0 0)), (1, .int (iI p1)), (2, .ref (o1 0))] := hl
  obtain ⟨H, hH⟩ : ∃ z, z = s.heap := ⟨_, rfl⟩
  obtain ⟨locs, hlc⟩ : ∃ z : List Loc, z = [] := ⟨_, rfl⟩
  rw [← hH] at hP
  have hS : va_S A s.heap H locs := by rw [hH, hlc]; exact hS
  rw [← hlc, ← hH]
  clear hlc hH
  refine lv_aload_n hx hb dL_append_0 rfl (lv_at hl 2 rfl) ?_
  refine lv_iconst (v := iI 0) hx hb dL_append_1 rfl ?_
  refine lv_aload_n hx hb dL_append_2 rfl (lv_at hl 0 rfl) ?_
  refine lv_iload_n hx hb dL_append_3 rfl (lv_at hl 1 rfl) ?_
  refine z_ai (va_runV (As := [.int (iI p1)]) (rest := [.int (iI 0), .ref (o1 0)]) ⟨hx, hb, hml, hown, hts⟩ (c_X7_append_ok l D k a0 S0 S1  p1 (by omega) (by omega) _) (cwV 1 hts gL_append_X7_append rfl rfl rfl (by decide +kernel) ⟨(Nat.le_of_ble_eq_true rfl), (Nat.le_of_ble_eq_true rfl)⟩) (z_preV hK hG hA hP hD hS [0, 1, 2] rfl (by decide) 9 rfl rfl) rfl rfl hl.1 rfl (lv_room (Nat.le_of_ble_eq_true rfl)) dL_append_4 ⟨(Nat.le_of_ble_eq_true rfl), (Nat.le_of_ble_eq_true rfl)⟩) hA hP hD hS [0, 1, 2] rfl rfl (fun H locs hP hD hS => ?_)
  have hP : va_P D vwCl (wFac k a0 S0 ++ (wInput k (subA a0 183) (up2 (up2 S1 1 ((S1 0 1).toNat) p1) 0 1 ((S1 0 1) + 1)) ++ wArrJ k o1 S2)) H := hP
  have hD : va_D A (wFac k a0 S0 ++ (wInput k (subA a0 183) (up2 (up2 S1 1 ((S1 0 1).toNat) p1) 0 1 ((S1 0 1) + 1)) ++ wArrJ k o1 S2)) := hD
  refine lv_i2l (v := (iI ((S1 0 1) + 1)).toInt64) hx hb dL_append_7 rfl ?_
  refine z_last hx hb hK hP hD hS 3 4 (f := S2 0) rfl rfl (i := 0) (by omega) (by omega) (by decide) 0 rfl dL_append_8 (fun H locs hP hD hS => ?_)
  have hP : va_P D vwCl (wFac k a0 S0 ++ (wInput k (subA a0 183) (up2 (up2 S1 1 ((S1 0 1).toNat) p1) 0 1 ((S1 0 1) + 1)) ++ wArrJ k o1 (up2 S2 0 0 ((S1 0 1) + 1)))) H := hP
  have hD : va_D A (wFac k a0 S0 ++ (wInput k (subA a0 183) (up2 (up2 S1 1 ((S1 0 1).toNat) p1) 0 1 ((S1 0 1) + 1)) ++ wArrJ k o1 (up2 S2 0 0 ((S1 0 1) + 1)))) := hD
  refine lv_goto (tgt := 15) hx hb dL_append_9 (by decide) ?_
  refine lv_iconst (v := iI 0) hx hb dL_append_15 rfl ?_
  exact vx_ret (z_iret hx hb hr hlocks hP hS dL_append_16 rfl rfl (Nat.le_of_ble_eq_true rfl) (Nat.le_of_ble_eq_true rfl))
set_option maxHeartbeats 4000000 in
set_option maxRecDepth 100000 in
theorem c_L_append_x (l : Launch) (hst : l.stackTraces = false) (D : va_G) (k : Nat → ClassId) (a0 : Nat → Nat) (o1 : Nat → Nat) (S0 : Nat → Nat → Int) (S1 : Nat → Nat → Int) (S2 : Nat → Nat → Int) (p1 : Int) (h0 : 0 ≤ p1 ∧ p1 < 65536) (hc : S1 0 1 = 60) : zML l yL_append wsL_append ({ frames := 7, cells := 1, slots := 6, locals := 103 } : Room) D k [.ref (a0 0), .int (iI p1), .ref (o1 0)] (wFac k a0 S0 ++ (wInput k (subA a0 183) S1 ++ wArrJ k o1 S2)) (1) (wFac k a0 S0 ++ (wInput k (subA a0 183) S1 ++ wArrJ k o1 S2)) 1 6 := by
  refine zML_of (cc := cL_append) (maxL := 4) (ret := (some .int)) (hh := [(0, 9, 12, 98)]) (by decide) rfl (Nat.le_of_ble_eq_true rfl) ?_
  intro p e s m args below meth c A ls hx hb hr hml hown hts hlocks hK hP hD hG hE hT hA hS hl
  have hown : s.vm.findClass RL = some m.cls := hown
  have hl : lv_has ls 4 [(0, .ref (a0 0)), (1, .int (iI p1)), (2, .ref (o1 0))] := hl
  obtain ⟨H, hH⟩ : ∃ z, z = s.heap := ⟨_, rfl⟩
  obtain ⟨locs, hlc⟩ : ∃ z : List Loc, z = [] := ⟨_, rfl⟩
  rw [← hH] at hP
  have hS : va_S A s.heap H locs := by rw [hH, hlc]; exact hS
  rw [← hlc, ← hH]
  clear hlc hH
  refine lv_aload_n hx hb dL_append_0 rfl (lv_at hl 2 rfl) ?_
  refine lv_iconst (v := iI 0) hx hb dL_append_1 rfl ?_
  refine lv_aload_n hx hb dL_append_2 rfl (lv_at hl 0 rfl) ?_
  refine lv_iload_n hx hb dL_append_3 rfl (lv_at hl 1 rfl) ?_
  refine z_axc0 (vx_runV (As := [.int (iI p1)]) (rest := [.int (iI 0), .ref (o1 0)]) ⟨hx, hb, hml, hown, hts⟩ (c_X7_append_x l hst D k a0 S0 S1  p1 (by omega) (by omega) _) (cwV 1 hts gL_append_X7_append rfl rfl rfl (by decide +kernel) ⟨(Nat.le_of_ble_eq_true rfl), (Nat.le_of_ble_eq_true rfl)⟩) (z_preVx hK hG hE hA hP hD hS [0, 1, 2] rfl (by decide) 9 rfl rfl) rfl rfl hl.1 rfl (lv_room (Nat.le_of_ble_eq_true rfl)) dL_append_4 ⟨(Nat.le_of_ble_eq_true rfl), (Nat.le_of_ble_eq_true rfl)⟩) hA hP hD hS [0, 1, 2] rfl (fun ce q9 H locs hP hS hce hcv hcl => ?_)
  refine vx_catch (name := "java/lang/IllegalStateException") (E := "java/lang/IllegalStateException") hown [] (⟨0, 9, 12, 98⟩ : ExceptionTableEntry) [] (hT.trans rfl) (fun _ h => absurd h List.not_mem_nil) rfl (by decide) (hts (.classLink RL 98 "java/lang/IllegalStateException") (List.mem_of_getElem? (i := 1) rfl)) (va_Nw.use rfl (hE.1 "java/lang/IllegalStateException" zXm_ista)) hce hcv hcl ?_
  refine lv_astore_n (lv' := [(3, .ref q9), (0, .ref (a0 0)), (1, .int (iI p1)), (2, .ref (o1 0))]) hx hb dL_append_12 rfl hl (by decide) rfl (fun ls hl => ?_)
  refine lv_iconst (v := iI 1) hx hb dL_append_13 rfl ?_
  exact vx_ret (z_iret hx hb hr hlocks hP hS dL_append_14 rfl rfl (Nat.le_of_ble_eq_true rfl) (Nat.le_of_ble_eq_true rfl))
set_option maxHeartbeats 4000000 in
set_option maxRecDepth 100000 in
theorem c_L_refusal_ok (l : Launch) (hst : l.stackTraces = false) (D : va_G) (k : Nat → ClassId) (a0 : Nat → Nat) (o1 : Nat → Nat) (S0 : Nat → Nat → Int) (S1 : Nat → Nat → Int) (p1 : Int) (h0 : -2147483648 ≤ p1 ∧ p1 < 2147483648) (hr9 : 0 ≤ S0 0 9 ∧ S0 0 9 ≤ 5) (hc : ¬ S0 0 9 = 0) : zML l yL_refusal wsL_refusal ({ frames := 6, cells := 1, slots := 6, locals := 82 } : Room) D k [.ref (a0 0), .int (iI p1), .ref (o1 0)] (wFac k a0 S0 ++ wArrJ k o1 S1) (0) (wFac k a0 S0 ++ wArrJ k o1 (up2 S1 0 0 (sp_X7_refusal_ok S0 p1))) 1 6 := by
  refine zML_of (cc := cL_refusal) (maxL := 4) (ret := (some .int)) (hh := [(0, 9, 12, 60)]) (by decide) rfl (Nat.le_of_ble_eq_true rfl) ?_
  intro p e s m args below meth c A ls hx hb hr hml hown hts hlocks hK hP hD hG hE hT hA hS hl
  have hown : s.vm.findClass RL = some m.cls := hown
  have hl : lv_has ls 4 [(0, .ref (a0 0)), (1, .int (iI p1)), (2, .ref (o1 0))] := hl
  obtain ⟨H, hH⟩ : ∃ z, z = s.heap := ⟨_, rfl⟩
  obtain ⟨locs, hlc⟩ : ∃ z : List Loc, z = [] := ⟨_, rfl⟩
  rw [← hH] at hP
  have hS : va_S A s.heap H locs := by rw [hH, hlc]; exact hS
  rw [← hlc, ← hH]
  clear hlc hH
  refine lv_aload_n hx hb dL_refusal_0 rfl (lv_at hl 2 rfl) ?_
  refine lv_iconst (v := iI 0) hx hb dL_refusal_1 rfl ?_
  refine lv_aload_n hx hb dL_refusal_2 rfl (lv_at hl 0 rfl) ?_
  refine lv_iload_n hx hb dL_refusal_3 rfl (lv_at hl 1 rfl) ?_
  refine z_ai0 (va_runV (As := [.int (iI p1)]) (rest := [.int (iI 0), .ref (o1 0)]) ⟨hx, hb, hml, hown, hts⟩ (c_X7_refusal_ok l D k a0 S0  p1 (by omega) (by omega) (by omega) _) (cwV 1 hts gL_refusal_X7_refusal rfl rfl rfl (by decide +kernel) ⟨(Nat.le_of_ble_eq_true rfl), (Nat.le_of_ble_eq_true rfl)⟩) (z_preV hK hG hA hP hD hS [0] rfl (by decide) 9 rfl rfl) rfl rfl hl.1 rfl (lv_room (Nat.le_of_ble_eq_true rfl)) dL_refusal_4 ⟨(Nat.le_of_ble_eq_true rfl), (Nat.le_of_ble_eq_true rfl)⟩) hA hP hD hS [0] rfl (fun H locs hP hS => ?_)
  refine lv_i2l (v := (iI (sp_X7_refusal_ok S0 p1)).toInt64) hx hb dL_refusal_7 rfl ?_
  refine z_last hx hb hK hP hD hS 1 4 (f := S1 0) rfl rfl (i := 0) (by omega) (by omega) (by decide) 0 rfl dL_refusal_8 (fun H locs hP hD hS => ?_)
  have hP : va_P D vwCl (wFac k a0 S0 ++ wArrJ k o1 (up2 S1 0 0 (sp_X7_refusal_ok S0 p1))) H := hP
  have hD : va_D A (wFac k a0 S0 ++ wArrJ k o1 (up2 S1 0 0 (sp_X7_refusal_ok S0 p1))) := hD
  refine lv_goto (tgt := 15) hx hb dL_refusal_9 (by decide) ?_
  refine lv_iconst (v := iI 0) hx hb dL_refusal_15 rfl ?_
  exact vx_ret (z_iret hx hb hr hlocks hP hS dL_refusal_16 rfl rfl (Nat.le_of_ble_eq_true rfl) (Nat.le_of_ble_eq_true rfl))
set_option maxHeartbeats 4000000 in
set_option maxRecDepth 100000 in
theorem c_L_refusal_x (l : Launch) (hst : l.stackTraces = false) (D : va_G) (k : Nat → ClassId) (a0 : Nat → Nat) (o1 : Nat → Nat) (S0 : Nat → Nat → Int) (S1 : Nat → Nat → Int) (p1 : Int) (h0 : -2147483648 ≤ p1 ∧ p1 < 2147483648) (hc : S0 0 9 = 0) : zML l yL_refusal wsL_refusal ({ frames := 7, cells := 1, slots := 6, locals := 103 } : Room) D k [.ref (a0 0), .int (iI p1), .ref (o1 0)] (wFac k a0 S0 ++ wArrJ k o1 S1) (1) (wFac k a0 S0 ++ wArrJ k o1 S1) 1 6 := by
  refine zML_of (cc := cL_refusal) (maxL := 4) (ret := (some .int)) (hh := [(0, 9, 12, 60)]) (by decide) rfl (Nat.le_of_ble_eq_true rfl) ?_
  intro p e s m args below meth c A ls hx hb hr hml hown hts hlocks hK hP hD hG hE hT hA hS hl
  have hown : s.vm.findClass RL = some m.cls := hown
  have hl : lv_has ls 4 [(0, .ref (a0 0)), (1, .int (iI p1)), (2, .ref (o1 0))] := hl
  obtain ⟨H, hH⟩ : ∃ z, z = s.heap := ⟨_, rfl⟩
  obtain ⟨locs, hlc⟩ : ∃ z : List Loc, z = [] := ⟨_, rfl⟩
  rw [← hH] at hP
  have hS : va_S A s.heap H locs := by rw [hH, hlc]; exact hS
  rw [← hlc, ← hH]
  clear hlc hH
  refine lv_aload_n hx hb dL_refusal_0 rfl (lv_at hl 2 rfl) ?_
  refine lv_iconst (v := iI 0) hx hb dL_refusal_1 rfl ?_
  refine lv_aload_n hx hb dL_refusal_2 rfl (lv_at hl 0 rfl) ?_
  refine lv_iload_n hx hb dL_refusal_3 rfl (lv_at hl 1 rfl) ?_
  refine z_axc0 (vx_runV (As := [.int (iI p1)]) (rest := [.int (iI 0), .ref (o1 0)]) ⟨hx, hb, hml, hown, hts⟩ (c_X7_refusal_x l hst D k a0 S0  p1 (by omega) (by omega) _) (cwV 1 hts gL_refusal_X7_refusal rfl rfl rfl (by decide +kernel) ⟨(Nat.le_of_ble_eq_true rfl), (Nat.le_of_ble_eq_true rfl)⟩) (z_preVx hK hG hE hA hP hD hS [0] rfl (by decide) 9 rfl rfl) rfl rfl hl.1 rfl (lv_room (Nat.le_of_ble_eq_true rfl)) dL_refusal_4 ⟨(Nat.le_of_ble_eq_true rfl), (Nat.le_of_ble_eq_true rfl)⟩) hA hP hD hS [0] rfl (fun ce q9 H locs hP hS hce hcv hcl => ?_)
  refine vx_catch (name := "java/util/NoSuchElementException") (E := "java/util/NoSuchElementException") hown [] (⟨0, 9, 12, 60⟩ : ExceptionTableEntry) [] (hT.trans rfl) (fun _ h => absurd h List.not_mem_nil) rfl (by decide) (hts (.classLink RL 60 "java/util/NoSuchElementException") (List.mem_of_getElem? (i := 1) rfl)) (va_Nw.use rfl (hE.1 "java/util/NoSuchElementException" zXm_nose)) hce hcv hcl ?_
  refine lv_astore_n (lv' := [(3, .ref q9), (0, .ref (a0 0)), (1, .int (iI p1)), (2, .ref (o1 0))]) hx hb dL_refusal_12 rfl hl (by decide) rfl (fun ls hl => ?_)
  refine lv_iconst (v := iI 1) hx hb dL_refusal_13 rfl ?_
  exact vx_ret (z_iret hx hb hr hlocks hP hS dL_refusal_14 rfl rfl (Nat.le_of_ble_eq_true rfl) (Nat.le_of_ble_eq_true rfl))
set_option maxHeartbeats 4000000 in
set_option maxRecDepth 100000 in
theorem c_L_account_ok (l : Launch) (hst : l.stackTraces = false) (D : va_G) (k : Nat → ClassId) (a0 : Nat → Nat) (o1 : Nat → Nat) (S0 : Nat → Nat → Int) (S1 : Nat → Nat → Int) (S2 : Nat → Nat → Int) (S3 : Nat → Nat → Int) (S4 : Nat → Nat → Int) (p1 : Int) (hp : pOK S1) (h0 : -2147483648 ≤ p1 ∧ p1 < 2147483648) (hc : 0 ≤ p1 ∧ p1 ≤ 14) : zML l yL_account wsL_account ({ frames := 6, cells := 1, slots := 6, locals := 133 } : Room) D k [.ref (a0 0), .int (iI p1), .ref (o1 0)] (wFac k a0 S0 ++ (wPlant k (subA a0 1) S1 ++ (wHist k (subA a0 61) S2 ++ (wInput k (subA a0 183) S3 ++ wArrJ k o1 S4)))) (0) (wFac k a0 S0 ++ (wPlant k (subA a0 1) S1 ++ (wHist k (subA a0 61) S2 ++ (wInput k (subA a0 183) S3 ++ wArrJ k o1 (up2 S4 0 0 (sp_X7_account_ok S0 S1 S2 S3 p1)))))) 1 6 := by
  refine zML_of (cc := cL_account) (maxL := 4) (ret := (some .int)) (hh := [(0, 9, 12, 15)]) (by decide) rfl (Nat.le_of_ble_eq_true rfl) ?_
  intro p e s m args below meth c A ls hx hb hr hml hown hts hlocks hK hP hD hG hE hT hA hS hl
  have hown : s.vm.findClass RL = some m.cls := hown
  have hl : lv_has ls 4 [(0, .ref (a0 0)), (1, .int (iI p1)), (2, .ref (o1 0))] := hl
  obtain ⟨H, hH⟩ : ∃ z, z = s.heap := ⟨_, rfl⟩
  obtain ⟨locs, hlc⟩ : ∃ z : List Loc, z = [] := ⟨_, rfl⟩
  rw [← hH] at hP
  have hS : va_S A s.heap H locs := by rw [hH, hlc]; exact hS
  rw [← hlc, ← hH]
  clear hlc hH
  have kp := hp.2
  refine lv_aload_n hx hb dL_account_0 rfl (lv_at hl 2 rfl) ?_
  refine lv_iconst (v := iI 0) hx hb dL_account_1 rfl ?_
  refine lv_aload_n hx hb dL_account_2 rfl (lv_at hl 0 rfl) ?_
  refine lv_iload_n hx hb dL_account_3 rfl (lv_at hl 1 rfl) ?_
  refine z_ai0 (va_runV (As := [.int (iI p1)]) (rest := [.int (iI 0), .ref (o1 0)]) ⟨hx, hb, hml, hown, hts⟩ (c_X7_account_ok l D k a0 S0 S1 S2 S3  p1 hp (by omega) (by omega) _) (cwV 1 hts gL_account_X7_account rfl rfl rfl (by decide +kernel) ⟨(Nat.le_of_ble_eq_true rfl), (Nat.le_of_ble_eq_true rfl)⟩) (z_preV hK hG hA hP hD hS (zrg 0 1 ++ (zrg 1 15 ++ (zrg 16 2 ++ zrg 18 2))) (z_mcat (z_hd (n := 1) rfl) (z_mcat (z_sk (n := 1) (off := 0) (m := 15) rfl (z_hd (n := 15) rfl)) (z_mcat (z_sk (n := 1) (off := 15) (m := 2) rfl (z_sk (n := 15) (off := 0) (m := 2) rfl (z_hd (n := 2) rfl))) (z_sk (n := 1) (off := 17) (m := 2) rfl (z_sk (n := 15) (off := 2) (m := 2) rfl (z_sk (n := 2) (off := 0) (m := 2) rfl (z_hd (n := 2) rfl))))))) (by decide +kernel) 9 rfl rfl) rfl rfl hl.1 rfl (lv_room (Nat.le_of_ble_eq_true rfl)) dL_account_4 ⟨(Nat.le_of_ble_eq_true rfl), (Nat.le_of_ble_eq_true rfl)⟩) hA hP hD hS (zrg 0 1 ++ (zrg 1 15 ++ (zrg 16 2 ++ zrg 18 2))) (z_mcat (z_hd (n := 1) rfl) (z_mcat (z_sk (n := 1) (off := 0) (m := 15) rfl (z_hd (n := 15) rfl)) (z_mcat (z_sk (n := 1) (off := 15) (m := 2) rfl (z_sk (n := 15) (off := 0) (m := 2) rfl (z_hd (n := 2) rfl))) (z_sk (n := 1) (off := 17) (m := 2) rfl (z_sk (n := 15) (off := 2) (m := 2) rfl (z_sk (n := 2) (off := 0) (m := 2) rfl (z_hd (n := 2) rfl))))))) (fun H locs hP hS => ?_)
  refine lv_i2l (v := (iI (sp_X7_account_ok S0 S1 S2 S3 p1)).toInt64) hx hb dL_account_7 rfl ?_
  refine z_last hx hb hK hP hD hS 20 4 (f := S4 0) rfl rfl (i := 0) (by omega) (by omega) (by decide) 0 rfl dL_account_8 (fun H locs hP hD hS => ?_)
  have hP : va_P D vwCl (wFac k a0 S0 ++ (wPlant k (subA a0 1) S1 ++ (wHist k (subA a0 61) S2 ++ (wInput k (subA a0 183) S3 ++ wArrJ k o1 (up2 S4 0 0 (sp_X7_account_ok S0 S1 S2 S3 p1)))))) H := hP
  have hD : va_D A (wFac k a0 S0 ++ (wPlant k (subA a0 1) S1 ++ (wHist k (subA a0 61) S2 ++ (wInput k (subA a0 183) S3 ++ wArrJ k o1 (up2 S4 0 0 (sp_X7_account_ok S0 S1 S2 S3 p1)))))) := hD
  refine lv_goto (tgt := 15) hx hb dL_account_9 (by decide) ?_
  refine lv_iconst (v := iI 0) hx hb dL_account_15 rfl ?_
  exact vx_ret (z_iret hx hb hr hlocks hP hS dL_account_16 rfl rfl (Nat.le_of_ble_eq_true rfl) (Nat.le_of_ble_eq_true rfl))
set_option maxHeartbeats 4000000 in
set_option maxRecDepth 100000 in
theorem c_L_account_x (l : Launch) (hst : l.stackTraces = false) (D : va_G) (k : Nat → ClassId) (a0 : Nat → Nat) (o1 : Nat → Nat) (S0 : Nat → Nat → Int) (S1 : Nat → Nat → Int) (S2 : Nat → Nat → Int) (S3 : Nat → Nat → Int) (S4 : Nat → Nat → Int) (p1 : Int) (hp : pOK S1) (h0 : -2147483648 ≤ p1 ∧ p1 < 2147483648) (hc : ¬ (0 ≤ p1 ∧ p1 ≤ 14)) : zML l yL_account wsL_account ({ frames := 8, cells := 1, slots := 6, locals := 124 } : Room) D k [.ref (a0 0), .int (iI p1), .ref (o1 0)] (wFac k a0 S0 ++ (wPlant k (subA a0 1) S1 ++ (wHist k (subA a0 61) S2 ++ (wInput k (subA a0 183) S3 ++ wArrJ k o1 S4)))) (1) (wFac k a0 S0 ++ (wPlant k (subA a0 1) S1 ++ (wHist k (subA a0 61) S2 ++ (wInput k (subA a0 183) S3 ++ wArrJ k o1 S4)))) 1 6 := by
  refine zML_of (cc := cL_account) (maxL := 4) (ret := (some .int)) (hh := [(0, 9, 12, 15)]) (by decide) rfl (Nat.le_of_ble_eq_true rfl) ?_
  intro p e s m args below meth c A ls hx hb hr hml hown hts hlocks hK hP hD hG hE hT hA hS hl
  have hown : s.vm.findClass RL = some m.cls := hown
  have hl : lv_has ls 4 [(0, .ref (a0 0)), (1, .int (iI p1)), (2, .ref (o1 0))] := hl
  obtain ⟨H, hH⟩ : ∃ z, z = s.heap := ⟨_, rfl⟩
  obtain ⟨locs, hlc⟩ : ∃ z : List Loc, z = [] := ⟨_, rfl⟩
  rw [← hH] at hP
  have hS : va_S A s.heap H locs := by rw [hH, hlc]; exact hS
  rw [← hlc, ← hH]
  clear hlc hH
  have kp := hp.2
  refine lv_aload_n hx hb dL_account_0 rfl (lv_at hl 2 rfl) ?_
  refine lv_iconst (v := iI 0) hx hb dL_account_1 rfl ?_
  refine lv_aload_n hx hb dL_account_2 rfl (lv_at hl 0 rfl) ?_
  refine lv_iload_n hx hb dL_account_3 rfl (lv_at hl 1 rfl) ?_
  refine z_axc0 (vx_runV (As := [.int (iI p1)]) (rest := [.int (iI 0), .ref (o1 0)]) ⟨hx, hb, hml, hown, hts⟩ (c_X7_account_x l hst D k a0 S0 S1 S2 S3  p1 hp (by omega) (by omega) _) (cwV 1 hts gL_account_X7_account rfl rfl rfl (by decide +kernel) ⟨(Nat.le_of_ble_eq_true rfl), (Nat.le_of_ble_eq_true rfl)⟩) (z_preVx hK hG hE hA hP hD hS (zrg 0 1 ++ (zrg 1 15 ++ (zrg 16 2 ++ zrg 18 2))) (z_mcat (z_hd (n := 1) rfl) (z_mcat (z_sk (n := 1) (off := 0) (m := 15) rfl (z_hd (n := 15) rfl)) (z_mcat (z_sk (n := 1) (off := 15) (m := 2) rfl (z_sk (n := 15) (off := 0) (m := 2) rfl (z_hd (n := 2) rfl))) (z_sk (n := 1) (off := 17) (m := 2) rfl (z_sk (n := 15) (off := 2) (m := 2) rfl (z_sk (n := 2) (off := 0) (m := 2) rfl (z_hd (n := 2) rfl))))))) (by decide +kernel) 9 rfl rfl) rfl rfl hl.1 rfl (lv_room (Nat.le_of_ble_eq_true rfl)) dL_account_4 ⟨(Nat.le_of_ble_eq_true rfl), (Nat.le_of_ble_eq_true rfl)⟩) hA hP hD hS (zrg 0 1 ++ (zrg 1 15 ++ (zrg 16 2 ++ zrg 18 2))) (z_mcat (z_hd (n := 1) rfl) (z_mcat (z_sk (n := 1) (off := 0) (m := 15) rfl (z_hd (n := 15) rfl)) (z_mcat (z_sk (n := 1) (off := 15) (m := 2) rfl (z_sk (n := 15) (off := 0) (m := 2) rfl (z_hd (n := 2) rfl))) (z_sk (n := 1) (off := 17) (m := 2) rfl (z_sk (n := 15) (off := 2) (m := 2) rfl (z_sk (n := 2) (off := 0) (m := 2) rfl (z_hd (n := 2) rfl))))))) (fun ce q9 H locs hP hS hce hcv hcl => ?_)
  refine vx_catch (name := "java/lang/IllegalArgumentException") (E := "java/lang/IllegalArgumentException") hown [] (⟨0, 9, 12, 15⟩ : ExceptionTableEntry) [] (hT.trans rfl) (fun _ h => absurd h List.not_mem_nil) rfl (by decide) (hts (.classLink RL 15 "java/lang/IllegalArgumentException") (List.mem_of_getElem? (i := 1) rfl)) (va_Nw.use rfl (hE.1 "java/lang/IllegalArgumentException" zXm_iarg)) hce hcv hcl ?_
  refine lv_astore_n (lv' := [(3, .ref q9), (0, .ref (a0 0)), (1, .int (iI p1)), (2, .ref (o1 0))]) hx hb dL_account_12 rfl hl (by decide) rfl (fun ls hl => ?_)
  refine lv_iconst (v := iI 1) hx hb dL_account_13 rfl ?_
  exact vx_ret (z_iret hx hb hr hlocks hP hS dL_account_14 rfl rfl (Nat.le_of_ble_eq_true rfl) (Nat.le_of_ble_eq_true rfl))
