set_option maxHeartbeats 4000000 in
set_option maxRecDepth 100000 in
theorem c_L_wouldFail_f0 (l : Launch) (hst : l.stackTraces = false) (D : va_G) (k : Nat → ClassId) (a0 : Nat → Nat) (o1 : Nat → Nat) (S0 : Nat → Nat → Int) (S1 : Nat → Nat → Int) (S2 : Nat → Nat → Int) (S3 : Nat → Nat → Int) (p2 : Int) (hp : pOK S1) (hat : aOK S2) (h1 : -2147483648 ≤ p2 ∧ p2 < 2147483648) (hc : 0 ≤ p2 ∧ p2 < S1 3 1) (hI : 1 ≤ S1 13 1) : zML l yL_wouldFail wsL_wouldFail ({ frames := 6, cells := 1, slots := 6, locals := 149 } : Room) D k [.ref (a0 0), .int (iI 0), .int (iI p2), .int (iI 0), .ref (o1 0)] (wFac k a0 S0 ++ (wPlant k (subA a0 1) S1 ++ (wPlant k (subA a0 16) S2 ++ wArrJ k o1 S3))) (0) (wFac k a0 S0 ++ (wPlant k (subA a0 1) S1 ++ (wPlant k (subA a0 16) ((wInsp0 (upA (upA ((wCopy S2 S1)) 3 (upZ ((((wCopy S2 S1)) 3)) 1 (wCutK (((((wCopy S2 S1)) 3) 1)) 0 p2))) 4 (wCutN ((((wCopy S2 S1)) 4)) (((((wCopy S2 S1)) 3) 1)) 0 p2)))) ++ wArrJ k o1 (up2 S3 0 0 (sp_X5_inspectFront_0 (upA (upA ((wCopy S2 S1)) 3 (upZ ((((wCopy S2 S1)) 3)) 1 (wCutK (((((wCopy S2 S1)) 3) 1)) 0 p2))) 4 (wCutN ((((wCopy S2 S1)) 4)) (((((wCopy S2 S1)) 3) 1)) 0 p2))))))) 1 6 := by
  refine zML_of (cc := cL_wouldFail) (maxL := 6) (ret := (some .int)) (hh := [(0, 12, 15, 13), (0, 12, 19, 60)]) (by decide) rfl (Nat.le_of_ble_eq_true rfl) ?_
  intro p e s m args below meth c A ls hx hb hr hml hown hts hlocks hK hP hD hG hE hT hA hS hl
  have hown : s.vm.findClass RL = some m.cls := hown
  have hl : lv_has ls 6 [(0, .ref (a0 0)), (1, .int (iI 0)), (2, .int (iI p2)), (3, .int (iI 0)), (4, .ref (o1 0))] := hl
  obtain ⟨H, hH⟩ : ∃ z, z = s.heap := ⟨_, rfl⟩
  obtain ⟨locs, hlc⟩ : ∃ z : List Loc, z = [] := ⟨_, rfl⟩
  rw [← hH] at hP
  have hS : va_S A s.heap H locs := by rw [hH, hlc]; exact hS
  rw [← hlc, ← hH]
  clear hlc hH
  have kp := hp.2
  refine lv_aload hx hb dL_wouldFail_0 (lv_at hl 4 rfl) ?_
  refine lv_iconst (v := iI 0) hx hb dL_wouldFail_2 rfl ?_
  refine lv_aload_n hx hb dL_wouldFail_3 rfl (lv_at hl 0 rfl) ?_
  refine lv_iload_n hx hb dL_wouldFail_4 rfl (lv_at hl 1 rfl) ?_
  refine lv_iload_n hx hb dL_wouldFail_5 rfl (lv_at hl 2 rfl) ?_
  refine lv_iload_n hx hb dL_wouldFail_6 rfl (lv_at hl 3 rfl) ?_
  refine z_ai (va_runV (As := [.int (iI 0), .int (iI p2), .int (iI 0)]) (rest := [.int (iI 0), .ref (o1 0)]) ⟨hx, hb, hml, hown, hts⟩ (c_X7_wouldFail_f0 l D k a0 S0 S1 S2  p2 hp hat (by omega) (by omega) (by omega) _) (cwV 3 hts gL_wouldFail_X7_wouldFail rfl rfl rfl (by decide +kernel) ⟨(Nat.le_of_ble_eq_true rfl), (Nat.le_of_ble_eq_true rfl)⟩) (z_preV hK hG hA hP hD hS (zrg 0 1 ++ (zrg 1 15 ++ zrg 16 15)) (z_mcat (z_hd (n := 1) rfl) (z_mcat (z_sk (n := 1) (off := 0) (m := 15) rfl (z_hd (n := 15) rfl)) (z_sk (n := 1) (off := 15) (m := 15) rfl (z_sk (n := 15) (off := 0) (m := 15) rfl (z_hd (n := 15) rfl))))) (by decide +kernel) 9 rfl rfl) rfl rfl hl.1 rfl (lv_room (Nat.le_of_ble_eq_true rfl)) dL_wouldFail_7 ⟨(Nat.le_of_ble_eq_true rfl), (Nat.le_of_ble_eq_true rfl)⟩) hA hP hD hS (zrg 0 1 ++ (zrg 1 15 ++ zrg 16 15)) (z_mcat (z_hd (n := 1) rfl) (z_mcat (z_sk (n := 1) (off := 0) (m := 15) rfl (z_hd (n := 15) rfl)) (z_sk (n := 1) (off := 15) (m := 15) rfl (z_sk (n := 15) (off := 0) (m := 15) rfl (z_hd (n := 15) rfl))))) (z_mfst rfl (z_mfst rfl rfl)) (fun H locs hP hD hS => ?_)
  have hz_2 : zset (wFac k a0 S0 ++ (wPlant k (subA a0 1) S1 ++ (wPlant k (subA a0 16) S2 ++ wArrJ k o1 S3))) (zrg 0 1) (wFac k a0 S0) = wFac k a0 S0 ++ (wPlant k (subA a0 1) S1 ++ (wPlant k (subA a0 16) S2 ++ wArrJ k o1 S3)) := (z_zhd (n := 1) rfl rfl)
  have hz_3 : zset (wFac k a0 S0 ++ (wPlant k (subA a0 1) S1 ++ (wPlant k (subA a0 16) S2 ++ wArrJ k o1 S3))) (zrg 1 15) (wPlant k (subA a0 1) S1) = wFac k a0 S0 ++ (wPlant k (subA a0 1) S1 ++ (wPlant k (subA a0 16) S2 ++ wArrJ k o1 S3)) := (z_zsk (n := 1) (off := 0) (m := 15) rfl (z_zhd (n := 15) rfl rfl))
  have hz_4 : zset (wFac k a0 S0 ++ (wPlant k (subA a0 1) S1 ++ (wPlant k (subA a0 16) S2 ++ wArrJ k o1 S3))) (zrg 16 15) (wPlant k (subA a0 16) ((wInsp0 (upA (upA ((wCopy S2 S1)) 3 (upZ ((((wCopy S2 S1)) 3)) 1 (wCutK (((((wCopy S2 S1)) 3) 1)) 0 p2))) 4 (wCutN ((((wCopy S2 S1)) 4)) (((((wCopy S2 S1)) 3) 1)) 0 p2))))) = wFac k a0 S0 ++ (wPlant k (subA a0 1) S1 ++ (wPlant k (subA a0 16) ((wInsp0 (upA (upA ((wCopy S2 S1)) 3 (upZ ((((wCopy S2 S1)) 3)) 1 (wCutK (((((wCopy S2 S1)) 3) 1)) 0 p2))) 4 (wCutN ((((wCopy S2 S1)) 4)) (((((wCopy S2 S1)) 3) 1)) 0 p2)))) ++ wArrJ k o1 S3)) := (z_zsk (n := 1) (off := 15) (m := 15) rfl (z_zsk (n := 15) (off := 0) (m := 15) rfl (z_zhd (n := 15) rfl rfl)))
  have hE_1 : zset (wFac k a0 S0 ++ (wPlant k (subA a0 1) S1 ++ (wPlant k (subA a0 16) S2 ++ wArrJ k o1 S3))) (zrg 0 1 ++ (zrg 1 15 ++ zrg 16 15)) (wFac k a0 S0 ++ (wPlant k (subA a0 1) S1 ++ wPlant k (subA a0 16) ((wInsp0 (upA (upA ((wCopy S2 S1)) 3 (upZ ((((wCopy S2 S1)) 3)) 1 (wCutK (((((wCopy S2 S1)) 3) 1)) 0 p2))) 4 (wCutN ((((wCopy S2 S1)) 4)) (((((wCopy S2 S1)) 3) 1)) 0 p2)))))) = wFac k a0 S0 ++ (wPlant k (subA a0 1) S1 ++ (wPlant k (subA a0 16) ((wInsp0 (upA (upA ((wCopy S2 S1)) 3 (upZ ((((wCopy S2 S1)) 3)) 1 (wCutK (((((wCopy S2 S1)) 3) 1)) 0 p2))) 4 (wCutN ((((wCopy S2 S1)) 4)) (((((wCopy S2 S1)) 3) 1)) 0 p2)))) ++ wArrJ k o1 S3)) := (z_zcat rfl hz_2 (z_zcat rfl hz_3 hz_4))
  have hP : va_P D vwCl (wFac k a0 S0 ++ (wPlant k (subA a0 1) S1 ++ (wPlant k (subA a0 16) ((wInsp0 (upA (upA ((wCopy S2 S1)) 3 (upZ ((((wCopy S2 S1)) 3)) 1 (wCutK (((((wCopy S2 S1)) 3) 1)) 0 p2))) 4 (wCutN ((((wCopy S2 S1)) 4)) (((((wCopy S2 S1)) 3) 1)) 0 p2)))) ++ wArrJ k o1 S3))) H := z_to hE_1 hP
  have hD : va_D A (wFac k a0 S0 ++ (wPlant k (subA a0 1) S1 ++ (wPlant k (subA a0 16) ((wInsp0 (upA (upA ((wCopy S2 S1)) 3 (upZ ((((wCopy S2 S1)) 3)) 1 (wCutK (((((wCopy S2 S1)) 3) 1)) 0 p2))) 4 (wCutN ((((wCopy S2 S1)) 4)) (((((wCopy S2 S1)) 3) 1)) 0 p2)))) ++ wArrJ k o1 S3))) := z_to2 hE_1 hD
  refine lv_i2l (v := (iI (sp_X5_inspectFront_0 (upA (upA ((wCopy S2 S1)) 3 (upZ ((((wCopy S2 S1)) 3)) 1 (wCutK (((((wCopy S2 S1)) 3) 1)) 0 p2))) 4 (wCutN ((((wCopy S2 S1)) 4)) (((((wCopy S2 S1)) 3) 1)) 0 p2)))).toInt64) hx hb dL_wouldFail_10 rfl ?_
  refine z_last hx hb hK hP hD hS 31 4 (f := S3 0) rfl rfl (i := 0) (by omega) (by omega) (by decide) 0 rfl dL_wouldFail_11 (fun H locs hP hD hS => ?_)
  have hP : va_P D vwCl (wFac k a0 S0 ++ (wPlant k (subA a0 1) S1 ++ (wPlant k (subA a0 16) ((wInsp0 (upA (upA ((wCopy S2 S1)) 3 (upZ ((((wCopy S2 S1)) 3)) 1 (wCutK (((((wCopy S2 S1)) 3) 1)) 0 p2))) 4 (wCutN ((((wCopy S2 S1)) 4)) (((((wCopy S2 S1)) 3) 1)) 0 p2)))) ++ wArrJ k o1 (up2 S3 0 0 (sp_X5_inspectFront_0 (upA (upA ((wCopy S2 S1)) 3 (upZ ((((wCopy S2 S1)) 3)) 1 (wCutK (((((wCopy S2 S1)) 3) 1)) 0 p2))) 4 (wCutN ((((wCopy S2 S1)) 4)) (((((wCopy S2 S1)) 3) 1)) 0 p2))))))) H := hP
  have hD : va_D A (wFac k a0 S0 ++ (wPlant k (subA a0 1) S1 ++ (wPlant k (subA a0 16) ((wInsp0 (upA (upA ((wCopy S2 S1)) 3 (upZ ((((wCopy S2 S1)) 3)) 1 (wCutK (((((wCopy S2 S1)) 3) 1)) 0 p2))) 4 (wCutN ((((wCopy S2 S1)) 4)) (((((wCopy S2 S1)) 3) 1)) 0 p2)))) ++ wArrJ k o1 (up2 S3 0 0 (sp_X5_inspectFront_0 (upA (upA ((wCopy S2 S1)) 3 (upZ ((((wCopy S2 S1)) 3)) 1 (wCutK (((((wCopy S2 S1)) 3) 1)) 0 p2))) 4 (wCutN ((((wCopy S2 S1)) 4)) (((((wCopy S2 S1)) 3) 1)) 0 p2))))))) := hD
  refine lv_goto (tgt := 23) hx hb dL_wouldFail_12 (by decide) ?_
  refine lv_iconst (v := iI 0) hx hb dL_wouldFail_23 rfl ?_
  exact vx_ret (z_iret hx hb hr hlocks hP hS dL_wouldFail_24 rfl rfl (Nat.le_of_ble_eq_true rfl) (Nat.le_of_ble_eq_true rfl))
set_option maxHeartbeats 4000000 in
set_option maxRecDepth 100000 in
theorem c_L_wouldFail_t0 (l : Launch) (hst : l.stackTraces = false) (D : va_G) (k : Nat → ClassId) (a0 : Nat → Nat) (o1 : Nat → Nat) (S0 : Nat → Nat → Int) (S1 : Nat → Nat → Int) (S2 : Nat → Nat → Int) (S3 : Nat → Nat → Int) (p2 : Int) (p3 : Int) (hp : pOK S1) (hat : aOK S2) (h1 : -2147483648 ≤ p2 ∧ p2 < 2147483648) (hc : 0 ≤ p2 ∧ p2 < S1 3 1) (hI : 1 ≤ S1 13 1) (h2 : -2147483648 ≤ p3 ∧ p3 < 2147483648) (hn : ¬ p3 = 0) : zML l yL_wouldFail wsL_wouldFail ({ frames := 6, cells := 1, slots := 6, locals := 98 } : Room) D k [.ref (a0 0), .int (iI 0), .int (iI p2), .int (iI p3), .ref (o1 0)] (wFac k a0 S0 ++ (wPlant k (subA a0 1) S1 ++ (wPlant k (subA a0 16) S2 ++ wArrJ k o1 S3))) (0) (wFac k a0 S0 ++ (wPlant k (subA a0 1) S1 ++ (wPlant k (subA a0 16) S2 ++ wArrJ k o1 (up2 S3 0 0 (sp_X7_failBackwards_0 S0 S1 p2))))) 1 6 := by
  refine zML_of (cc := cL_wouldFail) (maxL := 6) (ret := (some .int)) (hh := [(0, 12, 15, 13), (0, 12, 19, 60)]) (by decide) rfl (Nat.le_of_ble_eq_true rfl) ?_
  intro p e s m args below meth c A ls hx hb hr hml hown hts hlocks hK hP hD hG hE hT hA hS hl
  have hown : s.vm.findClass RL = some m.cls := hown
  have hl : lv_has ls 6 [(0, .ref (a0 0)), (1, .int (iI 0)), (2, .int (iI p2)), (3, .int (iI p3)), (4, .ref (o1 0))] := hl
  obtain ⟨H, hH⟩ : ∃ z, z = s.heap := ⟨_, rfl⟩
  obtain ⟨locs, hlc⟩ : ∃ z : List Loc, z = [] := ⟨_, rfl⟩
  rw [← hH] at hP
  have hS : va_S A s.heap H locs := by rw [hH, hlc]; exact hS
  rw [← hlc, ← hH]
  clear hlc hH
  have kp := hp.2
  refine lv_aload hx hb dL_wouldFail_0 (lv_at hl 4 rfl) ?_
  refine lv_iconst (v := iI 0) hx hb dL_wouldFail_2 rfl ?_
  refine lv_aload_n hx hb dL_wouldFail_3 rfl (lv_at hl 0 rfl) ?_
  refine lv_iload_n hx hb dL_wouldFail_4 rfl (lv_at hl 1 rfl) ?_
  refine lv_iload_n hx hb dL_wouldFail_5 rfl (lv_at hl 2 rfl) ?_
  refine lv_iload_n hx hb dL_wouldFail_6 rfl (lv_at hl 3 rfl) ?_
  refine z_ai0 (va_runV (As := [.int (iI 0), .int (iI p2), .int (iI p3)]) (rest := [.int (iI 0), .ref (o1 0)]) ⟨hx, hb, hml, hown, hts⟩ (c_X7_wouldFail_t0 l D k a0 S0 S1 S2  p2 p3 hp hat (by omega) (by omega) (by omega) (by omega) (by omega) _) (cwV 3 hts gL_wouldFail_X7_wouldFail rfl rfl rfl (by decide +kernel) ⟨(Nat.le_of_ble_eq_true rfl), (Nat.le_of_ble_eq_true rfl)⟩) (z_preV hK hG hA hP hD hS (zrg 0 1 ++ (zrg 1 15 ++ zrg 16 15)) (z_mcat (z_hd (n := 1) rfl) (z_mcat (z_sk (n := 1) (off := 0) (m := 15) rfl (z_hd (n := 15) rfl)) (z_sk (n := 1) (off := 15) (m := 15) rfl (z_sk (n := 15) (off := 0) (m := 15) rfl (z_hd (n := 15) rfl))))) (by decide +kernel) 9 rfl rfl) rfl rfl hl.1 rfl (lv_room (Nat.le_of_ble_eq_true rfl)) dL_wouldFail_7 ⟨(Nat.le_of_ble_eq_true rfl), (Nat.le_of_ble_eq_true rfl)⟩) hA hP hD hS (zrg 0 1 ++ (zrg 1 15 ++ zrg 16 15)) (z_mcat (z_hd (n := 1) rfl) (z_mcat (z_sk (n := 1) (off := 0) (m := 15) rfl (z_hd (n := 15) rfl)) (z_sk (n := 1) (off := 15) (m := 15) rfl (z_sk (n := 15) (off := 0) (m := 15) rfl (z_hd (n := 15) rfl))))) (fun H locs hP hS => ?_)
  refine lv_i2l (v := (iI (sp_X7_failBackwards_0 S0 S1 p2)).toInt64) hx hb dL_wouldFail_10 rfl ?_
  refine z_last hx hb hK hP hD hS 31 4 (f := S3 0) rfl rfl (i := 0) (by omega) (by omega) (by decide) 0 rfl dL_wouldFail_11 (fun H locs hP hD hS => ?_)
  have hP : va_P D vwCl (wFac k a0 S0 ++ (wPlant k (subA a0 1) S1 ++ (wPlant k (subA a0 16) S2 ++ wArrJ k o1 (up2 S3 0 0 (sp_X7_failBackwards_0 S0 S1 p2))))) H := hP
  have hD : va_D A (wFac k a0 S0 ++ (wPlant k (subA a0 1) S1 ++ (wPlant k (subA a0 16) S2 ++ wArrJ k o1 (up2 S3 0 0 (sp_X7_failBackwards_0 S0 S1 p2))))) := hD
  refine lv_goto (tgt := 23) hx hb dL_wouldFail_12 (by decide) ?_
  refine lv_iconst (v := iI 0) hx hb dL_wouldFail_23 rfl ?_
  exact vx_ret (z_iret hx hb hr hlocks hP hS dL_wouldFail_24 rfl rfl (Nat.le_of_ble_eq_true rfl) (Nat.le_of_ble_eq_true rfl))
set_option maxHeartbeats 4000000 in
set_option maxRecDepth 100000 in
theorem c_L_wouldFail_f1 (l : Launch) (hst : l.stackTraces = false) (D : va_G) (k : Nat → ClassId) (a0 : Nat → Nat) (o1 : Nat → Nat) (S0 : Nat → Nat → Int) (S1 : Nat → Nat → Int) (S2 : Nat → Nat → Int) (S3 : Nat → Nat → Int) (p2 : Int) (hp : pOK S1) (hat : aOK S2) (h1 : -2147483648 ≤ p2 ∧ p2 < 2147483648) (hc : 0 ≤ p2 ∧ p2 < S1 6 1) (hI : 1 ≤ S1 13 1) : zML l yL_wouldFail wsL_wouldFail ({ frames := 6, cells := 1, slots := 6, locals := 149 } : Room) D k [.ref (a0 0), .int (iI 1), .int (iI p2), .int (iI 0), .ref (o1 0)] (wFac k a0 S0 ++ (wPlant k (subA a0 1) S1 ++ (wPlant k (subA a0 16) S2 ++ wArrJ k o1 S3))) (0) (wFac k a0 S0 ++ (wPlant k (subA a0 1) S1 ++ (wPlant k (subA a0 16) ((wInsp1 (upA (upA ((wCopy S2 S1)) 6 (upZ ((((wCopy S2 S1)) 6)) 1 (wCutK (((((wCopy S2 S1)) 6) 1)) 0 p2))) 7 (wCutN ((((wCopy S2 S1)) 7)) (((((wCopy S2 S1)) 6) 1)) 0 p2)))) ++ wArrJ k o1 (up2 S3 0 0 (sp_X5_inspectFront_1 (upA (upA ((wCopy S2 S1)) 6 (upZ ((((wCopy S2 S1)) 6)) 1 (wCutK (((((wCopy S2 S1)) 6) 1)) 0 p2))) 7 (wCutN ((((wCopy S2 S1)) 7)) (((((wCopy S2 S1)) 6) 1)) 0 p2))))))) 1 6 := by
  refine zML_of (cc := cL_wouldFail) (maxL := 6) (ret := (some .int)) (hh := [(0, 12, 15, 13), (0, 12, 19, 60)]) (by decide) rfl (Nat.le_of_ble_eq_true rfl) ?_
  intro p e s m args below meth c A ls hx hb hr hml hown hts hlocks hK hP hD hG hE hT hA hS hl
  have hown : s.vm.findClass RL = some m.cls := hown
  have hl : lv_has ls 6 [(0, .ref (a0 0)), (1, .int (iI 1)), (2, .int (iI p2)), (3, .int (iI 0)), (4, .ref (o1 0))] := hl
  obtain ⟨H, hH⟩ : ∃ z, z = s.heap := ⟨_, rfl⟩
  obtain ⟨locs, hlc⟩ : ∃ z : List Loc, z = [] := ⟨_, rfl⟩
  rw [← hH] at hP
  have hS : va_S A s.heap H locs := by rw [hH, hlc]; exact hS
  rw [← hlc, ← hH]
  clear hlc hH
  have kp := hp.2
  refine lv_aload hx hb dL_wouldFail_0 (lv_at hl 4 rfl) ?_
  refine lv_iconst (v := iI 0) hx hb dL_wouldFail_2 rfl ?_
  refine lv_aload_n hx hb dL_wouldFail_3 rfl (lv_at hl 0 rfl) ?_
  refine lv_iload_n hx hb dL_wouldFail_4 rfl (lv_at hl 1 rfl) ?_
  refine lv_iload_n hx hb dL_wouldFail_5 rfl (lv_at hl 2 rfl) ?_
  refine lv_iload_n hx hb dL_wouldFail_6 rfl (lv_at hl 3 rfl) ?_
  refine z_ai (va_runV (As := [.int (iI 1), .int (iI p2), .int (iI 0)]) (rest := [.int (iI 0), .ref (o1 0)]) ⟨hx, hb, hml, hown, hts⟩ (c_X7_wouldFail_f1 l D k a0 S0 S1 S2  p2 hp hat (by omega) (by omega) (by omega) _) (cwV 3 hts gL_wouldFail_X7_wouldFail rfl rfl rfl (by decide +kernel) ⟨(Nat.le_of_ble_eq_true rfl), (Nat.le_of_ble_eq_true rfl)⟩) (z_preV hK hG hA hP hD hS (zrg 0 1 ++ (zrg 1 15 ++ zrg 16 15)) (z_mcat (z_hd (n := 1) rfl) (z_mcat (z_sk (n := 1) (off := 0) (m := 15) rfl (z_hd (n := 15) rfl)) (z_sk (n := 1) (off := 15) (m := 15) rfl (z_sk (n := 15) (off := 0) (m := 15) rfl (z_hd (n := 15) rfl))))) (by decide +kernel) 9 rfl rfl) rfl rfl hl.1 rfl (lv_room (Nat.le_of_ble_eq_true rfl)) dL_wouldFail_7 ⟨(Nat.le_of_ble_eq_true rfl), (Nat.le_of_ble_eq_true rfl)⟩) hA hP hD hS (zrg 0 1 ++ (zrg 1 15 ++ zrg 16 15)) (z_mcat (z_hd (n := 1) rfl) (z_mcat (z_sk (n := 1) (off := 0) (m := 15) rfl (z_hd (n := 15) rfl)) (z_sk (n := 1) (off := 15) (m := 15) rfl (z_sk (n := 15) (off := 0) (m := 15) rfl (z_hd (n := 15) rfl))))) (z_mfst rfl (z_mfst rfl rfl)) (fun H locs hP hD hS => ?_)
  have hz_2 : zset (wFac k a0 S0 ++ (wPlant k (subA a0 1) S1 ++ (wPlant k (subA a0 16) S2 ++ wArrJ k o1 S3))) (zrg 0 1) (wFac k a0 S0) = wFac k a0 S0 ++ (wPlant k (subA a0 1) S1 ++ (wPlant k (subA a0 16) S2 ++ wArrJ k o1 S3)) := (z_zhd (n := 1) rfl rfl)
  have hz_3 : zset (wFac k a0 S0 ++ (wPlant k (subA a0 1) S1 ++ (wPlant k (subA a0 16) S2 ++ wArrJ k o1 S3))) (zrg 1 15) (wPlant k (subA a0 1) S1) = wFac k a0 S0 ++ (wPlant k (subA a0 1) S1 ++ (wPlant k (subA a0 16) S2 ++ wArrJ k o1 S3)) := (z_zsk (n := 1) (off := 0) (m := 15) rfl (z_zhd (n := 15) rfl rfl))
  have hz_4 : zset (wFac k a0 S0 ++ (wPlant k (subA a0 1) S1 ++ (wPlant k (subA a0 16) S2 ++ wArrJ k o1 S3))) (zrg 16 15) (wPlant k (subA a0 16) ((wInsp1 (upA (upA ((wCopy S2 S1)) 6 (upZ ((((wCopy S2 S1)) 6)) 1 (wCutK (((((wCopy S2 S1)) 6) 1)) 0 p2))) 7 (wCutN ((((wCopy S2 S1)) 7)) (((((wCopy S2 S1)) 6) 1)) 0 p2))))) = wFac k a0 S0 ++ (wPlant k (subA a0 1) S1 ++ (wPlant k (subA a0 16) ((wInsp1 (upA (upA ((wCopy S2 S1)) 6 (upZ ((((wCopy S2 S1)) 6)) 1 (wCutK (((((wCopy S2 S1)) 6) 1)) 0 p2))) 7 (wCutN ((((wCopy S2 S1)) 7)) (((((wCopy S2 S1)) 6) 1)) 0 p2)))) ++ wArrJ k o1 S3)) := (z_zsk (n := 1) (off := 15) (m := 15) rfl (z_zsk (n := 15) (off := 0) (m := 15) rfl (z_zhd (n := 15) rfl rfl)))
  have hE_1 : zset (wFac k a0 S0 ++ (wPlant k (subA a0 1) S1 ++ (wPlant k (subA a0 16) S2 ++ wArrJ k o1 S3))) (zrg 0 1 ++ (zrg 1 15 ++ zrg 16 15)) (wFac k a0 S0 ++ (wPlant k (subA a0 1) S1 ++ wPlant k (subA a0 16) ((wInsp1 (upA (upA ((wCopy S2 S1)) 6 (upZ ((((wCopy S2 S1)) 6)) 1 (wCutK (((((wCopy S2 S1)) 6) 1)) 0 p2))) 7 (wCutN ((((wCopy S2 S1)) 7)) (((((wCopy S2 S1)) 6) 1)) 0 p2)))))) = wFac k a0 S0 ++ (wPlant k (subA a0 1) S1 ++ (wPlant k (subA a0 16) ((wInsp1 (upA (upA ((wCopy S2 S1)) 6 (upZ ((((wCopy S2 S1)) 6)) 1 (wCutK (((((wCopy S2 S1)) 6) 1)) 0 p2))) 7 (wCutN ((((wCopy S2 S1)) 7)) (((((wCopy S2 S1)) 6) 1)) 0 p2)))) ++ wArrJ k o1 S3)) := (z_zcat rfl hz_2 (z_zcat rfl hz_3 hz_4))
  have hP : va_P D vwCl (wFac k a0 S0 ++ (wPlant k (subA a0 1) S1 ++ (wPlant k (subA a0 16) ((wInsp1 (upA (upA ((wCopy S2 S1)) 6 (upZ ((((wCopy S2 S1)) 6)) 1 (wCutK (((((wCopy S2 S1)) 6) 1)) 0 p2))) 7 (wCutN ((((wCopy S2 S1)) 7)) (((((wCopy S2 S1)) 6) 1)) 0 p2)))) ++ wArrJ k o1 S3))) H := z_to hE_1 hP
  have hD : va_D A (wFac k a0 S0 ++ (wPlant k (subA a0 1) S1 ++ (wPlant k (subA a0 16) ((wInsp1 (upA (upA ((wCopy S2 S1)) 6 (upZ ((((wCopy S2 S1)) 6)) 1 (wCutK (((((wCopy S2 S1)) 6) 1)) 0 p2))) 7 (wCutN ((((wCopy S2 S1)) 7)) (((((wCopy S2 S1)) 6) 1)) 0 p2)))) ++ wArrJ k o1 S3))) := z_to2 hE_1 hD
  refine lv_i2l (v := (iI (sp_X5_inspectFront_1 (upA (upA ((wCopy S2 S1)) 6 (upZ ((((wCopy S2 S1)) 6)) 1 (wCutK (((((wCopy S2 S1)) 6) 1)) 0 p2))) 7 (wCutN ((((wCopy S2 S1)) 7)) (((((wCopy S2 S1)) 6) 1)) 0 p2)))).toInt64) hx hb dL_wouldFail_10 rfl ?_
  refine z_last hx hb hK hP hD hS 31 4 (f := S3 0) rfl rfl (i := 0) (by omega) (by omega) (by decide) 0 rfl dL_wouldFail_11 (fun H locs hP hD hS => ?_)
  have hP : va_P D vwCl (wFac k a0 S0 ++ (wPlant k (subA a0 1) S1 ++ (wPlant k (subA a0 16) ((wInsp1 (upA (upA ((wCopy S2 S1)) 6 (upZ ((((wCopy S2 S1)) 6)) 1 (wCutK (((((wCopy S2 S1)) 6) 1)) 0 p2))) 7 (wCutN ((((wCopy S2 S1)) 7)) (((((wCopy S2 S1)) 6) 1)) 0 p2)))) ++ wArrJ k o1 (up2 S3 0 0 (sp_X5_inspectFront_1 (upA (upA ((wCopy S2 S1)) 6 (upZ ((((wCopy S2 S1)) 6)) 1 (wCutK (((((wCopy S2 S1)) 6) 1)) 0 p2))) 7 (wCutN ((((wCopy S2 S1)) 7)) (((((wCopy S2 S1)) 6) 1)) 0 p2))))))) H := hP
  have hD : va_D A (wFac k a0 S0 ++ (wPlant k (subA a0 1) S1 ++ (wPlant k (subA a0 16) ((wInsp1 (upA (upA ((wCopy S2 S1)) 6 (upZ ((((wCopy S2 S1)) 6)) 1 (wCutK (((((wCopy S2 S1)) 6) 1)) 0 p2))) 7 (wCutN ((((wCopy S2 S1)) 7)) (((((wCopy S2 S1)) 6) 1)) 0 p2)))) ++ wArrJ k o1 (up2 S3 0 0 (sp_X5_inspectFront_1 (upA (upA ((wCopy S2 S1)) 6 (upZ ((((wCopy S2 S1)) 6)) 1 (wCutK (((((wCopy S2 S1)) 6) 1)) 0 p2))) 7 (wCutN ((((wCopy S2 S1)) 7)) (((((wCopy S2 S1)) 6) 1)) 0 p2))))))) := hD
  refine lv_goto (tgt := 23) hx hb dL_wouldFail_12 (by decide) ?_
  refine lv_iconst (v := iI 0) hx hb dL_wouldFail_23 rfl ?_
  exact vx_ret (z_iret hx hb hr hlocks hP hS dL_wouldFail_24 rfl rfl (Nat.le_of_ble_eq_true rfl) (Nat.le_of_ble_eq_true rfl))
set_option maxHeartbeats 4000000 in
set_option maxRecDepth 100000 in
theorem c_L_wouldFail_t1 (l : Launch) (hst : l.stackTraces = false) (D : va_G) (k : Nat → ClassId) (a0 : Nat → Nat) (o1 : Nat → Nat) (S0 : Nat → Nat → Int) (S1 : Nat → Nat → Int) (S2 : Nat → Nat → Int) (S3 : Nat → Nat → Int) (p2 : Int) (p3 : Int) (hp : pOK S1) (hat : aOK S2) (h1 : -2147483648 ≤ p2 ∧ p2 < 2147483648) (hc : 0 ≤ p2 ∧ p2 < S1 6 1) (hI : 1 ≤ S1 13 1) (h2 : -2147483648 ≤ p3 ∧ p3 < 2147483648) (hn : ¬ p3 = 0) : zML l yL_wouldFail wsL_wouldFail ({ frames := 6, cells := 1, slots := 6, locals := 98 } : Room) D k [.ref (a0 0), .int (iI 1), .int (iI p2), .int (iI p3), .ref (o1 0)] (wFac k a0 S0 ++ (wPlant k (subA a0 1) S1 ++ (wPlant k (subA a0 16) S2 ++ wArrJ k o1 S3))) (0) (wFac k a0 S0 ++ (wPlant k (subA a0 1) S1 ++ (wPlant k (subA a0 16) S2 ++ wArrJ k o1 (up2 S3 0 0 (sp_X7_failBackwards_1 S0 S1 p2))))) 1 6 := by
  refine zML_of (cc := cL_wouldFail) (maxL := 6) (ret := (some .int)) (hh := [(0, 12, 15, 13), (0, 12, 19, 60)]) (by decide) rfl (Nat.le_of_ble_eq_true rfl) ?_
  intro p e s m args below meth c A ls hx hb hr hml hown hts hlocks hK hP hD hG hE hT hA hS hl
  have hown : s.vm.findClass RL = some m.cls := hown
  have hl : lv_has ls 6 [(0, .ref (a0 0)), (1, .int (iI 1)), (2, .int (iI p2)), (3, .int (iI p3)), (4, .ref (o1 0))] := hl
  obtain ⟨H, hH⟩ : ∃ z, z = s.heap := ⟨_, rfl⟩
  obtain ⟨locs, hlc⟩ : ∃ z : List Loc, z = [] := ⟨_, rfl⟩
  rw [← hH] at hP
  have hS : va_S A s.heap H locs := by rw [hH, hlc]; exact hS
  rw [← hlc, ← hH]
  clear hlc hH
  have kp := hp.2
  refine lv_aload hx hb dL_wouldFail_0 (lv_at hl 4 rfl) ?_
  refine lv_iconst (v := iI 0) hx hb dL_wouldFail_2 rfl ?_
  refine lv_aload_n hx hb dL_wouldFail_3 rfl (lv_at hl 0 rfl) ?_
  refine lv_iload_n hx hb dL_wouldFail_4 rfl (lv_at hl 1 rfl) ?_
  refine lv_iload_n hx hb dL_wouldFail_5 rfl (lv_at hl 2 rfl) ?_
  refine lv_iload_n hx hb dL_wouldFail_6 rfl (lv_at hl 3 rfl) ?_
  refine z_ai0 (va_runV (As := [.int (iI 1), .int (iI p2), .int (iI p3)]) (rest := [.int (iI 0), .ref (o1 0)]) ⟨hx, hb, hml, hown, hts⟩ (c_X7_wouldFail_t1 l D k a0 S0 S1 S2  p2 p3 hp hat (by omega) (by omega) (by omega) (by omega) (by omega) _) (cwV 3 hts gL_wouldFail_X7_wouldFail rfl rfl rfl (by decide +kernel) ⟨(Nat.le_of_ble_eq_true rfl), (Nat.le_of_ble_eq_true rfl)⟩) (z_preV hK hG hA hP hD hS (zrg 0 1 ++ (zrg 1 15 ++ zrg 16 15)) (z_mcat (z_hd (n := 1) rfl) (z_mcat (z_sk (n := 1) (off := 0) (m := 15) rfl (z_hd (n := 15) rfl)) (z_sk (n := 1) (off := 15) (m := 15) rfl (z_sk (n := 15) (off := 0) (m := 15) rfl (z_hd (n := 15) rfl))))) (by decide +kernel) 9 rfl rfl) rfl rfl hl.1 rfl (lv_room (Nat.le_of_ble_eq_true rfl)) dL_wouldFail_7 ⟨(Nat.le_of_ble_eq_true rfl), (Nat.le_of_ble_eq_true rfl)⟩) hA hP hD hS (zrg 0 1 ++ (zrg 1 15 ++ zrg 16 15)) (z_mcat (z_hd (n := 1) rfl) (z_mcat (z_sk (n := 1) (off := 0) (m := 15) rfl (z_hd (n := 15) rfl)) (z_sk (n := 1) (off := 15) (m := 15) rfl (z_sk (n := 15) (off := 0) (m := 15) rfl (z_hd (n := 15) rfl))))) (fun H locs hP hS => ?_)
  refine lv_i2l (v := (iI (sp_X7_failBackwards_1 S0 S1 p2)).toInt64) hx hb dL_wouldFail_10 rfl ?_
  refine z_last hx hb hK hP hD hS 31 4 (f := S3 0) rfl rfl (i := 0) (by omega) (by omega) (by decide) 0 rfl dL_wouldFail_11 (fun H locs hP hD hS => ?_)
  have hP : va_P D vwCl (wFac k a0 S0 ++ (wPlant k (subA a0 1) S1 ++ (wPlant k (subA a0 16) S2 ++ wArrJ k o1 (up2 S3 0 0 (sp_X7_failBackwards_1 S0 S1 p2))))) H := hP
  have hD : va_D A (wFac k a0 S0 ++ (wPlant k (subA a0 1) S1 ++ (wPlant k (subA a0 16) S2 ++ wArrJ k o1 (up2 S3 0 0 (sp_X7_failBackwards_1 S0 S1 p2))))) := hD
  refine lv_goto (tgt := 23) hx hb dL_wouldFail_12 (by decide) ?_
  refine lv_iconst (v := iI 0) hx hb dL_wouldFail_23 rfl ?_
  exact vx_ret (z_iret hx hb hr hlocks hP hS dL_wouldFail_24 rfl rfl (Nat.le_of_ble_eq_true rfl) (Nat.le_of_ble_eq_true rfl))
set_option maxHeartbeats 4000000 in
set_option maxRecDepth 100000 in
theorem c_L_wouldFail_f2 (l : Launch) (hst : l.stackTraces = false) (D : va_G) (k : Nat → ClassId) (a0 : Nat → Nat) (o1 : Nat → Nat) (S0 : Nat → Nat → Int) (S1 : Nat → Nat → Int) (S2 : Nat → Nat → Int) (S3 : Nat → Nat → Int) (p2 : Int) (hp : pOK S1) (hat : aOK S2) (h1 : -2147483648 ≤ p2 ∧ p2 < 2147483648) (hc : 0 ≤ p2 ∧ p2 < S1 9 1) (hI : 1 ≤ S1 13 1) : zML l yL_wouldFail wsL_wouldFail ({ frames := 6, cells := 1, slots := 6, locals := 149 } : Room) D k [.ref (a0 0), .int (iI 2), .int (iI p2), .int (iI 0), .ref (o1 0)] (wFac k a0 S0 ++ (wPlant k (subA a0 1) S1 ++ (wPlant k (subA a0 16) S2 ++ wArrJ k o1 S3))) (0) (wFac k a0 S0 ++ (wPlant k (subA a0 1) S1 ++ (wPlant k (subA a0 16) ((wInsp2 (upA (upA ((wCopy S2 S1)) 9 (upZ ((((wCopy S2 S1)) 9)) 1 (wCutK (((((wCopy S2 S1)) 9) 1)) 0 p2))) 10 (wCutN ((((wCopy S2 S1)) 10)) (((((wCopy S2 S1)) 9) 1)) 0 p2)))) ++ wArrJ k o1 (up2 S3 0 0 (sp_X5_inspectFront_2 (upA (upA ((wCopy S2 S1)) 9 (upZ ((((wCopy S2 S1)) 9)) 1 (wCutK (((((wCopy S2 S1)) 9) 1)) 0 p2))) 10 (wCutN ((((wCopy S2 S1)) 10)) (((((wCopy S2 S1)) 9) 1)) 0 p2))))))) 1 6 := by
  refine zML_of (cc := cL_wouldFail) (maxL := 6) (ret := (some .int)) (hh := [(0, 12, 15, 13), (0, 12, 19, 60)]) (by decide) rfl (Nat.le_of_ble_eq_true rfl) ?_
  intro p e s m args below meth c A ls hx hb hr hml hown hts hlocks hK hP hD hG hE hT hA hS hl
  have hown : s.vm.findClass RL = some m.cls := hown
  have hl : lv_has ls 6 [(0, .ref (a0 0)), (1, .int (iI 2)), (2, .int (iI p2)), (3, .int (iI 0)), (4, .ref (o1 0))] := hl
  obtain ⟨H, hH⟩ : ∃ z, z = s.heap := ⟨_, rfl⟩
  obtain ⟨locs, hlc⟩ : ∃ z : List Loc, z = [] := ⟨_, rfl⟩
  rw [← hH] at hP
  have hS : va_S A s.heap H locs := by rw [hH, hlc]; exact hS
  rw [← hlc, ← hH]
  clear hlc hH
  have kp := hp.2
  refine lv_aload hx hb dL_wouldFail_0 (lv_at hl 4 rfl) ?_
  refine lv_iconst (v := iI 0) hx hb dL_wouldFail_2 rfl ?_
  refine lv_aload_n hx hb dL_wouldFail_3 rfl (lv_at hl 0 rfl) ?_
  refine lv_iload_n hx hb dL_wouldFail_4 rfl (lv_at hl 1 rfl) ?_
  refine lv_iload_n hx hb dL_wouldFail_5 rfl (lv_at hl 2 rfl) ?_
  refine lv_iload_n hx hb dL_wouldFail_6 rfl (lv_at hl 3 rfl) ?_
  refine z_ai (va_runV (As := [.int (iI 2), .int (iI p2), .int (iI 0)]) (rest := [.int (iI 0), .ref (o1 0)]) ⟨hx, hb, hml, hown, hts⟩ (c_X7_wouldFail_f2 l D k a0 S0 S1 S2  p2 hp hat (by omega) (by omega) (by omega) _) (cwV 3 hts gL_wouldFail_X7_wouldFail rfl rfl rfl (by decide +kernel) ⟨(Nat.le_of_ble_eq_true rfl), (Nat.le_of_ble_eq_true rfl)⟩) (z_preV hK hG hA hP hD hS (zrg 0 1 ++ (zrg 1 15 ++ zrg 16 15)) (z_mcat (z_hd (n := 1) rfl) (z_mcat (z_sk (n := 1) (off := 0) (m := 15) rfl (z_hd (n := 15) rfl)) (z_sk (n := 1) (off := 15) (m := 15) rfl (z_sk (n := 15) (off := 0) (m := 15) rfl (z_hd (n := 15) rfl))))) (by decide +kernel) 9 rfl rfl) rfl rfl hl.1 rfl (lv_room (Nat.le_of_ble_eq_true rfl)) dL_wouldFail_7 ⟨(Nat.le_of_ble_eq_true rfl), (Nat.le_of_ble_eq_true rfl)⟩) hA hP hD hS (zrg 0 1 ++ (zrg 1 15 ++ zrg 16 15)) (z_mcat (z_hd (n := 1) rfl) (z_mcat (z_sk (n := 1) (off := 0) (m := 15) rfl (z_hd (n := 15) rfl)) (z_sk (n := 1) (off := 15) (m := 15) rfl (z_sk (n := 15) (off := 0) (m := 15) rfl (z_hd (n := 15) rfl))))) (z_mfst rfl (z_mfst rfl rfl)) (fun H locs hP hD hS => ?_)
  have hz_2 : zset (wFac k a0 S0 ++ (wPlant k (subA a0 1) S1 ++ (wPlant k (subA a0 16) S2 ++ wArrJ k o1 S3))) (zrg 0 1) (wFac k a0 S0) = wFac k a0 S0 ++ (wPlant k (subA a0 1) S1 ++ (wPlant k (subA a0 16) S2 ++ wArrJ k o1 S3)) := (z_zhd (n := 1) rfl rfl)
  have hz_3 : zset (wFac k a0 S0 ++ (wPlant k (subA a0 1) S1 ++ (wPlant k (subA a0 16) S2 ++ wArrJ k o1 S3))) (zrg 1 15) (wPlant k (subA a0 1) S1) = wFac k a0 S0 ++ (wPlant k (subA a0 1) S1 ++ (wPlant k (subA a0 16) S2 ++ wArrJ k o1 S3)) := (z_zsk (n := 1) (off := 0) (m := 15) rfl (z_zhd (n := 15) rfl rfl))
  have hz_4 : zset (wFac k a0 S0 ++ (wPlant k (subA a0 1) S1 ++ (wPlant k (subA a0 16) S2 ++ wArrJ k o1 S3))) (zrg 16 15) (wPlant k (subA a0 16) ((wInsp2 (upA (upA ((wCopy S2 S1)) 9 (upZ ((((wCopy S2 S1)) 9)) 1 (wCutK (((((wCopy S2 S1)) 9) 1)) 0 p2))) 10 (wCutN ((((wCopy S2 S1)) 10)) (((((wCopy S2 S1)) 9) 1)) 0 p2))))) = wFac k a0 S0 ++ (wPlant k (subA a0 1) S1 ++ (wPlant k (subA a0 16) ((wInsp2 (upA (upA ((wCopy S2 S1)) 9 (upZ ((((wCopy S2 S1)) 9)) 1 (wCutK (((((wCopy S2 S1)) 9) 1)) 0 p2))) 10 (wCutN ((((wCopy S2 S1)) 10)) (((((wCopy S2 S1)) 9) 1)) 0 p2)))) ++ wArrJ k o1 S3)) := (z_zsk (n := 1) (off := 15) (m := 15) rfl (z_zsk (n := 15) (off := 0) (m := 15) rfl (z_zhd (n := 15) rfl rfl)))
  have hE_1 : zset (wFac k a0 S0 ++ (wPlant k (subA a0 1) S1 ++ (wPlant k (subA a0 16) S2 ++ wArrJ k o1 S3))) (zrg 0 1 ++ (zrg 1 15 ++ zrg 16 15)) (wFac k a0 S0 ++ (wPlant k (subA a0 1) S1 ++ wPlant k (subA a0 16) ((wInsp2 (upA (upA ((wCopy S2 S1)) 9 (upZ ((((wCopy S2 S1)) 9)) 1 (wCutK (((((wCopy S2 S1)) 9) 1)) 0 p2))) 10 (wCutN ((((wCopy S2 S1)) 10)) (((((wCopy S2 S1)) 9) 1)) 0 p2)))))) = wFac k a0 S0 ++ (wPlant k (subA a0 1) S1 ++ (wPlant k (subA a0 16) ((wInsp2 (upA (upA ((wCopy S2 S1)) 9 (upZ ((((wCopy S2 S1)) 9)) 1 (wCutK (((((wCopy S2 S1)) 9) 1)) 0 p2))) 10 (wCutN ((((wCopy S2 S1)) 10)) (((((wCopy S2 S1)) 9) 1)) 0 p2)))) ++ wArrJ k o1 S3)) := (z_zcat rfl hz_2 (z_zcat rfl hz_3 hz_4))
  have hP : va_P D vwCl (wFac k a0 S0 ++ (wPlant k (subA a0 1) S1 ++ (wPlant k (subA a0 16) ((wInsp2 (upA (upA ((wCopy S2 S1)) 9 (upZ ((((wCopy S2 S1)) 9)) 1 (wCutK (((((wCopy S2 S1)) 9) 1)) 0 p2))) 10 (wCutN ((((wCopy S2 S1)) 10)) (((((wCopy S2 S1)) 9) 1)) 0 p2)))) ++ wArrJ k o1 S3))) H := z_to hE_1 hP
  have hD : va_D A (wFac k a0 S0 ++ (wPlant k (subA a0 1) S1 ++ (wPlant k (subA a0 16) ((wInsp2 (upA (upA ((wCopy S2 S1)) 9 (upZ ((((wCopy S2 S1)) 9)) 1 (wCutK (((((wCopy S2 S1)) 9) 1)) 0 p2))) 10 (wCutN ((((wCopy S2 S1)) 10)) (((((wCopy S2 S1)) 9) 1)) 0 p2)))) ++ wArrJ k o1 S3))) := z_to2 hE_1 hD
  refine lv_i2l (v := (iI (sp_X5_inspectFront_2 (upA (upA ((wCopy S2 S1)) 9 (upZ ((((wCopy S2 S1)) 9)) 1 (wCutK (((((wCopy S2 S1)) 9) 1)) 0 p2))) 10 (wCutN ((((wCopy S2 S1)) 10)) (((((wCopy S2 S1)) 9) 1)) 0 p2)))).toInt64) hx hb dL_wouldFail_10 rfl ?_
  refine z_last hx hb hK hP hD hS 31 4 (f := S3 0) rfl rfl (i := 0) (by omega) (by omega) (by decide) 0 rfl dL_wouldFail_11 (fun H locs hP hD hS => ?_)
  have hP : va_P D vwCl (wFac k a0 S0 ++ (wPlant k (subA a0 1) S1 ++ (wPlant k (subA a0 16) ((wInsp2 (upA (upA ((wCopy S2 S1)) 9 (upZ ((((wCopy S2 S1)) 9)) 1 (wCutK (((((wCopy S2 S1)) 9) 1)) 0 p2))) 10 (wCutN ((((wCopy S2 S1)) 10)) (((((wCopy S2 S1)) 9) 1)) 0 p2)))) ++ wArrJ k o1 (up2 S3 0 0 (sp_X5_inspectFront_2 (upA (upA ((wCopy S2 S1)) 9 (upZ ((((wCopy S2 S1)) 9)) 1 (wCutK (((((wCopy S2 S1)) 9) 1)) 0 p2))) 10 (wCutN ((((wCopy S2 S1)) 10)) (((((wCopy S2 S1)) 9) 1)) 0 p2))))))) H := hP
  have hD : va_D A (wFac k a0 S0 ++ (wPlant k (subA a0 1) S1 ++ (wPlant k (subA a0 16) ((wInsp2 (upA (upA ((wCopy S2 S1)) 9 (upZ ((((wCopy S2 S1)) 9)) 1 (wCutK (((((wCopy S2 S1)) 9) 1)) 0 p2))) 10 (wCutN ((((wCopy S2 S1)) 10)) (((((wCopy S2 S1)) 9) 1)) 0 p2)))) ++ wArrJ k o1 (up2 S3 0 0 (sp_X5_inspectFront_2 (upA (upA ((wCopy S2 S1)) 9 (upZ ((((wCopy S2 S1)) 9)) 1 (wCutK (((((wCopy S2 S1)) 9) 1)) 0 p2))) 10 (wCutN ((((wCopy S2 S1)) 10)) (((((wCopy S2 S1)) 9) 1)) 0 p2))))))) := hD
  refine lv_goto (tgt := 23) hx hb dL_wouldFail_12 (by decide) ?_
  refine lv_iconst (v := iI 0) hx hb dL_wouldFail_23 rfl ?_
  exact vx_ret (z_iret hx hb hr hlocks hP hS dL_wouldFail_24 rfl rfl (Nat.le_of_ble_eq_true rfl) (Nat.le_of_ble_eq_true rfl))
set_option maxHeartbeats 4000000 in
set_option maxRecDepth 100000 in
theorem c_L_wouldFail_t2 (l : Launch) (hst : l.stackTraces = false) (D : va_G) (k : Nat → ClassId) (a0 : Nat → Nat) (o1 : Nat → Nat) (S0 : Nat → Nat → Int) (S1 : Nat → Nat → Int) (S2 : Nat → Nat → Int) (S3 : Nat → Nat → Int) (p2 : Int) (p3 : Int) (hp : pOK S1) (hat : aOK S2) (h1 : -2147483648 ≤ p2 ∧ p2 < 2147483648) (hc : 0 ≤ p2 ∧ p2 < S1 9 1) (hI : 1 ≤ S1 13 1) (h2 : -2147483648 ≤ p3 ∧ p3 < 2147483648) (hn : ¬ p3 = 0) : zML l yL_wouldFail wsL_wouldFail ({ frames := 6, cells := 1, slots := 6, locals := 98 } : Room) D k [.ref (a0 0), .int (iI 2), .int (iI p2), .int (iI p3), .ref (o1 0)] (wFac k a0 S0 ++ (wPlant k (subA a0 1) S1 ++ (wPlant k (subA a0 16) S2 ++ wArrJ k o1 S3))) (0) (wFac k a0 S0 ++ (wPlant k (subA a0 1) S1 ++ (wPlant k (subA a0 16) S2 ++ wArrJ k o1 (up2 S3 0 0 (sp_X7_failBackwards_2 S0 S1 p2))))) 1 6 := by
  refine zML_of (cc := cL_wouldFail) (maxL := 6) (ret := (some .int)) (hh := [(0, 12, 15, 13), (0, 12, 19, 60)]) (by decide) rfl (Nat.le_of_ble_eq_true rfl) ?_
  intro p e s m args below meth c A ls hx hb hr hml hown hts hlocks hK hP hD hG hE hT hA hS hl
  have hown : s.vm.findClass RL = some m.cls := hown
  have hl : lv_has ls 6 [(0, .ref (a0 0)), (1, .int (iI 2)), (2, .int (iI p2)), (3, .int (iI p3)), (4, .ref (o1 0))] := hl
  obtain ⟨H, hH⟩ : ∃ z, z = s.heap := ⟨_, rfl⟩
  obtain ⟨locs, hlc⟩ : ∃ z : List Loc, z = [] := ⟨_, rfl⟩
  rw [← hH] at hP
  have hS : va_S A s.heap H locs := by rw [hH, hlc]; exact hS
  rw [← hlc, ← hH]
  clear hlc hH
  have kp := hp.2
  refine lv_aload hx hb dL_wouldFail_0 (lv_at hl 4 rfl) ?_
  refine lv_iconst (v := iI 0) hx hb dL_wouldFail_2 rfl ?_
  refine lv_aload_n hx hb dL_wouldFail_3 rfl (lv_at hl 0 rfl) ?_
  refine lv_iload_n hx hb dL_wouldFail_4 rfl (lv_at hl 1 rfl) ?_
  refine lv_iload_n hx hb dL_wouldFail_5 rfl (lv_at hl 2 rfl) ?_
  refine lv_iload_n hx hb dL_wouldFail_6 rfl (lv_at hl 3 rfl) ?_
  refine z_ai0 (va_runV (As := [.int (iI 2), .int (iI p2), .int (iI p3)]) (rest := [.int (iI 0), .ref (o1 0)]) ⟨hx, hb, hml, hown, hts⟩ (c_X7_wouldFail_t2 l D k a0 S0 S1 S2  p2 p3 hp hat (by omega) (by omega) (by omega) (by omega) (by omega) _) (cwV 3 hts gL_wouldFail_X7_wouldFail rfl rfl rfl (by decide +kernel) ⟨(Nat.le_of_ble_eq_true rfl), (Nat.le_of_ble_eq_true rfl)⟩) (z_preV hK hG hA hP hD hS (zrg 0 1 ++ (zrg 1 15 ++ zrg 16 15)) (z_mcat (z_hd (n := 1) rfl) (z_mcat (z_sk (n := 1) (off := 0) (m := 15) rfl (z_hd (n := 15) rfl)) (z_sk (n := 1) (off := 15) (m := 15) rfl (z_sk (n := 15) (off := 0) (m := 15) rfl (z_hd (n := 15) rfl))))) (by decide +kernel) 9 rfl rfl) rfl rfl hl.1 rfl (lv_room (Nat.le_of_ble_eq_true rfl)) dL_wouldFail_7 ⟨(Nat.le_of_ble_eq_true rfl), (Nat.le_of_ble_eq_true rfl)⟩) hA hP hD hS (zrg 0 1 ++ (zrg 1 15 ++ zrg 16 15)) (z_mcat (z_hd (n := 1) rfl) (z_mcat (z_sk (n := 1) (off := 0) (m := 15) rfl (z_hd (n := 15) rfl)) (z_sk (n := 1) (off := 15) (m := 15) rfl (z_sk (n := 15) (off := 0) (m := 15) rfl (z_hd (n := 15) rfl))))) (fun H locs hP hS => ?_)
  refine lv_i2l (v := (iI (sp_X7_failBackwards_2 S0 S1 p2)).toInt64) hx hb dL_wouldFail_10 rfl ?_
  refine z_last hx hb hK hP hD hS 31 4 (f := S3 0) rfl rfl (i := 0) (by omega) (by omega) (by decide) 0 rfl dL_wouldFail_11 (fun H locs hP hD hS => ?_)
  have hP : va_P D vwCl (wFac k a0 S0 ++ (wPlant k (subA a0 1) S1 ++ (wPlant k (subA a0 16) S2 ++ wArrJ k o1 (up2 S3 0 0 (sp_X7_failBackwards_2 S0 S1 p2))))) H := hP
  have hD : va_D A (wFac k a0 S0 ++ (wPlant k (subA a0 1) S1 ++ (wPlant k (subA a0 16) S2 ++ wArrJ k o1 (up2 S3 0 0 (sp_X7_failBackwards_2 S0 S1 p2))))) := hD
  refine lv_goto (tgt := 23) hx hb dL_wouldFail_12 (by decide) ?_
  refine lv_iconst (v := iI 0) hx hb dL_wouldFail_23 rfl ?_
  exact vx_ret (z_iret hx hb hr hlocks hP hS dL_wouldFail_24 rfl rfl (Nat.le_of_ble_eq_true rfl) (Nat.le_of_ble_eq_true rfl))
set_option maxHeartbeats 4000000 in
set_option maxRecDepth 100000 in
theorem c_L_wouldFail_b (l : Launch) (hst : l.stackTraces = false) (D : va_G) (k : Nat → ClassId) (a0 : Nat → Nat) (o1 : Nat → Nat) (S0 : Nat → Nat → Int) (S1 : Nat → Nat → Int) (S2 : Nat → Nat → Int) (p1 : Int) (p2 : Int) (p3 : Int) (hp : pOK S1) (h0 : -2147483648 ≤ p1 ∧ p1 < 2147483648) (h1 : -2147483648 ≤ p2 ∧ p2 < 2147483648) (hc : ¬ (0 ≤ p2 ∧ ((p1 = 0 ∧ p2 < S1 3 1) ∨ (p1 = 1 ∧ p2 < S1 6 1) ∨ (p1 = 2 ∧ p2 < S1 9 1)))) : zML l yL_wouldFail wsL_wouldFail ({ frames := 8, cells := 1, slots := 6, locals := 127 } : Room) D k [.ref (a0 0), .int (iI p1), .int (iI p2), .int (iI p3), .ref (o1 0)] (wFac k a0 S0 ++ (wPlant k (subA a0 1) S1 ++ wArrJ k o1 S2)) (1) (wFac k a0 S0 ++ (wPlant k (subA a0 1) S1 ++ wArrJ k o1 S2)) 1 6 := by
  refine zML_of (cc := cL_wouldFail) (maxL := 6) (ret := (some .int)) (hh := [(0, 12, 15, 13), (0, 12, 19, 60)]) (by decide) rfl (Nat.le_of_ble_eq_true rfl) ?_
  intro p e s m args below meth c A ls hx hb hr hml hown hts hlocks hK hP hD hG hE hT hA hS hl
  have hown : s.vm.findClass RL = some m.cls := hown
  have hl : lv_has ls 6 [(0, .ref (a0 0)), (1, .int (iI p1)), (2, .int (iI p2)), (3, .int (iI p3)), (4, .ref (o1 0))] := hl
  obtain ⟨H, hH⟩ : ∃ z, z = s.heap := ⟨_, rfl⟩
  obtain ⟨locs, hlc⟩ : ∃ z : List Loc, z = [] := ⟨_, rfl⟩
  rw [← hH] at hP
  have hS : va_S A s.heap H locs := by rw [hH, hlc]; exact hS
  rw [← hlc, ← hH]
  clear hlc hH
  have kp := hp.2
  refine lv_aload hx hb dL_wouldFail_0 (lv_at hl 4 rfl) ?_
  refine lv_iconst (v := iI 0) hx hb dL_wouldFail_2 rfl ?_
  refine lv_aload_n hx hb dL_wouldFail_3 rfl (lv_at hl 0 rfl) ?_
  refine lv_iload_n hx hb dL_wouldFail_4 rfl (lv_at hl 1 rfl) ?_
  refine lv_iload_n hx hb dL_wouldFail_5 rfl (lv_at hl 2 rfl) ?_
  refine lv_iload_n hx hb dL_wouldFail_6 rfl (lv_at hl 3 rfl) ?_
  refine z_axc0 (vx_runV (As := [.int (iI p1), .int (iI p2), .int (iI p3)]) (rest := [.int (iI 0), .ref (o1 0)]) ⟨hx, hb, hml, hown, hts⟩ (c_X7_wouldFail_b l hst D k a0 S0 S1  p1 p2 p3 hp (by omega) (by omega) (by omega) _) (cwV 3 hts gL_wouldFail_X7_wouldFail rfl rfl rfl (by decide +kernel) ⟨(Nat.le_of_ble_eq_true rfl), (Nat.le_of_ble_eq_true rfl)⟩) (z_preVx hK hG hE hA hP hD hS (zrg 0 1 ++ zrg 1 15) (z_mcat (z_hd (n := 1) rfl) (z_sk (n := 1) (off := 0) (m := 15) rfl (z_hd (n := 15) rfl))) (by decide +kernel) 9 rfl rfl) rfl rfl hl.1 rfl (lv_room (Nat.le_of_ble_eq_true rfl)) dL_wouldFail_7 ⟨(Nat.le_of_ble_eq_true rfl), (Nat.le_of_ble_eq_true rfl)⟩) hA hP hD hS (zrg 0 1 ++ zrg 1 15) (z_mcat (z_hd (n := 1) rfl) (z_sk (n := 1) (off := 0) (m := 15) rfl (z_hd (n := 15) rfl))) (fun ce q9 H locs hP hS hce hcv hcl => ?_)
  refine vx_catch (name := "java/lang/IndexOutOfBoundsException") (E := "java/lang/IndexOutOfBoundsException") hown [] (⟨0, 12, 15, 13⟩ : ExceptionTableEntry) [(⟨0, 12, 19, 60⟩ : ExceptionTableEntry)] (hT.trans rfl) (fun _ h => absurd h List.not_mem_nil) rfl (by decide) (hts (.classLink RL 13 "java/lang/IndexOutOfBoundsException") (List.mem_of_getElem? (i := 1) rfl)) (va_Nw.use rfl (hE.1 "java/lang/IndexOutOfBoundsException" zXm_ioob)) hce hcv hcl ?_
  refine lv_astore (lv' := [(5, .ref q9), (0, .ref (a0 0)), (1, .int (iI p1)), (2, .int (iI p2)), (3, .int (iI p3)), (4, .ref (o1 0))]) hx hb dL_wouldFail_15 hl (by decide) rfl (fun ls hl => ?_)
  refine lv_iconst (v := iI 1) hx hb dL_wouldFail_17 rfl ?_
  exact vx_ret (z_iret hx hb hr hlocks hP hS dL_wouldFail_18 rfl rfl (Nat.le_of_ble_eq_true rfl) (Nat.le_of_ble_eq_true rfl))
set_option maxHeartbeats 4000000 in
set_option maxRecDepth 100000 in
theorem c_L_wouldFail_i (l : Launch) (hst : l.stackTraces = false) (D : va_G) (k : Nat → ClassId) (a0 : Nat → Nat) (o1 : Nat → Nat) (S0 : Nat → Nat → Int) (S1 : Nat → Nat → Int) (S2 : Nat → Nat → Int) (p1 : Int) (p2 : Int) (p3 : Int) (hp : pOK S1) (h0 : -2147483648 ≤ p1 ∧ p1 < 2147483648) (h1 : -2147483648 ≤ p2 ∧ p2 < 2147483648) (hc : 0 ≤ p2 ∧ ((p1 = 0 ∧ p2 < S1 3 1) ∨ (p1 = 1 ∧ p2 < S1 6 1) ∨ (p1 = 2 ∧ p2 < S1 9 1))) (hI : S1 13 1 = 0) : zML l yL_wouldFail wsL_wouldFail ({ frames := 8, cells := 1, slots := 6, locals := 125 } : Room) D k [.ref (a0 0), .int (iI p1), .int (iI p2), .int (iI p3), .ref (o1 0)] (wFac k a0 S0 ++ (wPlant k (subA a0 1) S1 ++ wArrJ k o1 S2)) (2) (wFac k a0 S0 ++ (wPlant k (subA a0 1) S1 ++ wArrJ k o1 S2)) 1 6 := by
  refine zML_of (cc := cL_wouldFail) (maxL := 6) (ret := (some .int)) (hh := [(0, 12, 15, 13), (0, 12, 19, 60)]) (by decide) rfl (Nat.le_of_ble_eq_true rfl) ?_
  intro p e s m args below meth c A ls hx hb hr hml hown hts hlocks hK hP hD hG hE hT hA hS hl
  have hown : s.vm.findClass RL = some m.cls := hown
  have hl : lv_has ls 6 [(0, .ref (a0 0)), (1, .int (iI p1)), (2, .int (iI p2)), (3, .int (iI p3)), (4, .ref (o1 0))] := hl
  obtain ⟨H, hH⟩ : ∃ z, z = s.heap := ⟨_, rfl⟩
  obtain ⟨locs, hlc⟩ : ∃ z : List Loc, z = [] := ⟨_, rfl⟩
  rw [← hH] at hP
  have hS : va_S A s.heap H locs := by rw [hH, hlc]; exact hS
  rw [← hlc, ← hH]
  clear hlc hH
  have kp := hp.2
  refine lv_aload hx hb dL_wouldFail_0 (lv_at hl 4 rfl) ?_
  refine lv_iconst (v := iI 0) hx hb dL_wouldFail_2 rfl ?_
  refine lv_aload_n hx hb dL_wouldFail_3 rfl (lv_at hl 0 rfl) ?_
  refine lv_iload_n hx hb dL_wouldFail_4 rfl (lv_at hl 1 rfl) ?_
  refine lv_iload_n hx hb dL_wouldFail_5 rfl (lv_at hl 2 rfl) ?_
  refine lv_iload_n hx hb dL_wouldFail_6 rfl (lv_at hl 3 rfl) ?_
  refine z_axc0 (vx_runV (As := [.int (iI p1), .int (iI p2), .int (iI p3)]) (rest := [.int (iI 0), .ref (o1 0)]) ⟨hx, hb, hml, hown, hts⟩ (c_X7_wouldFail_i l hst D k a0 S0 S1  p1 p2 p3 hp (by omega) (by omega) (by omega) (by omega) _) (cwV 3 hts gL_wouldFail_X7_wouldFail rfl rfl rfl (by decide +kernel) ⟨(Nat.le_of_ble_eq_true rfl), (Nat.le_of_ble_eq_true rfl)⟩) (z_preVx hK hG hE hA hP hD hS (zrg 0 1 ++ zrg 1 15) (z_mcat (z_hd (n := 1) rfl) (z_sk (n := 1) (off := 0) (m := 15) rfl (z_hd (n := 15) rfl))) (by decide +kernel) 9 rfl rfl) rfl rfl hl.1 rfl (lv_room (Nat.le_of_ble_eq_true rfl)) dL_wouldFail_7 ⟨(Nat.le_of_ble_eq_true rfl), (Nat.le_of_ble_eq_true rfl)⟩) hA hP hD hS (zrg 0 1 ++ zrg 1 15) (z_mcat (z_hd (n := 1) rfl) (z_sk (n := 1) (off := 0) (m := 15) rfl (z_hd (n := 15) rfl))) (fun ce q9 H locs hP hS hce hcv hcl => ?_)
  refine vx_catch (name := "java/util/NoSuchElementException") (E := "java/util/NoSuchElementException") hown [(⟨0, 12, 15, 13⟩ : ExceptionTableEntry)] (⟨0, 12, 19, 60⟩ : ExceptionTableEntry) [] (hT.trans rfl) (List.forall_mem_cons.mpr ⟨Or.inr ⟨by decide, _, (hts (.classLink RL 13 "java/lang/IndexOutOfBoundsException") (List.mem_of_getElem? (i := 1) rfl)), hE.2.2 ("java/util/NoSuchElementException", "java/lang/IndexOutOfBoundsException") (by decide +kernel)⟩, (fun _ h => absurd h List.not_mem_nil)⟩) rfl (by decide) (hts (.classLink RL 60 "java/util/NoSuchElementException") (List.mem_of_getElem? (i := 2) rfl)) (va_Nw.use rfl (hE.1 "java/util/NoSuchElementException" zXm_nose)) hce hcv hcl ?_
  refine lv_astore (lv' := [(5, .ref q9), (0, .ref (a0 0)), (1, .int (iI p1)), (2, .int (iI p2)), (3, .int (iI p3)), (4, .ref (o1 0))]) hx hb dL_wouldFail_19 hl (by decide) rfl (fun ls hl => ?_)
  refine lv_iconst (v := iI 2) hx hb dL_wouldFail_21 rfl ?_
  exact vx_ret (z_iret hx hb hr hlocks hP hS dL_wouldFail_22 rfl rfl (Nat.le_of_ble_eq_true rfl) (Nat.le_of_ble_eq_true rfl))
set_option maxHeartbeats 4000000 in
set_option maxRecDepth 100000 in
theorem c_L_wouldStamp_0 (l : Launch) (hst : l.stackTraces = false) (D : va_G) (k : Nat → ClassId) (a0 : Nat → Nat) (o1 : Nat → Nat) (S0 : Nat → Nat → Int) (S1 : Nat → Nat → Int) (S2 : Nat → Nat → Int) (S3 : Nat → Nat → Int) (hp : pOK S1) (hat : aOK S2) (hI : 1 ≤ S1 13 1) : zML l yL_wouldStamp wsL_wouldStamp ({ frames := 6, cells := 1, slots := 6, locals := 127 } : Room) D k [.ref (a0 0), .int (iI 0), .ref (o1 0)] (wFac k a0 S0 ++ (wPlant k (subA a0 1) S1 ++ (wPlant k (subA a0 16) S2 ++ wArrJ k o1 S3))) (0) (wFac k a0 S0 ++ (wPlant k (subA a0 1) S1 ++ (wPlant k (subA a0 16) ((wInspN0 (((wCopy S2 S1))) (S1 3 1).toNat)) ++ wArrJ k o1 (up2 S3 0 0 (((((wInspN0 (((wCopy S2 S1))) (S1 3 1).toNat)) 2) 5) - (S1 2 5)))))) 1 6 := by
  refine zML_of (cc := cL_wouldStamp) (maxL := 4) (ret := (some .int)) (hh := [(0, 9, 12, 13), (0, 9, 15, 60)]) (by decide) rfl (Nat.le_of_ble_eq_true rfl) ?_
  intro p e s m args below meth c A ls hx hb hr hml hown hts hlocks hK hP hD hG hE hT hA hS hl
  have hown : s.vm.findClass RL = some m.cls := hown
  have hl : lv_has ls 4 [(0, .ref (a0 0)), (1, .int (iI 0)), (2, .ref (o1 0))] := hl
  obtain ⟨H, hH⟩ : ∃ z, z = s.heap := ⟨_, rfl⟩
  obtain ⟨locs, hlc⟩ : ∃ z : List Loc, z = [] := ⟨_, rfl⟩
  rw [← hH] at hP
  have hS : va_S A s.heap H locs := by rw [hH, hlc]; exact hS
  rw [← hlc, ← hH]
  clear hlc hH
  have kp := hp.2
  refine lv_aload_n hx hb dL_wouldStamp_0 rfl (lv_at hl 2 rfl) ?_
  refine lv_iconst (v := iI 0) hx hb dL_wouldStamp_1 rfl ?_
  refine lv_aload_n hx hb dL_wouldStamp_2 rfl (lv_at hl 0 rfl) ?_
  refine lv_iload_n hx hb dL_wouldStamp_3 rfl (lv_at hl 1 rfl) ?_
  refine z_ai (va_runV (As := [.int (iI 0)]) (rest := [.int (iI 0), .ref (o1 0)]) ⟨hx, hb, hml, hown, hts⟩ (c_X7_wouldStamp_0 l D k a0 S0 S1 S2   hp hat (by omega) _) (cwV 1 hts gL_wouldStamp_X7_wouldStamp rfl rfl rfl (by decide +kernel) ⟨(Nat.le_of_ble_eq_true rfl), (Nat.le_of_ble_eq_true rfl)⟩) (z_preV hK hG hA hP hD hS (zrg 0 1 ++ (zrg 1 15 ++ zrg 16 15)) (z_mcat (z_hd (n := 1) rfl) (z_mcat (z_sk (n := 1) (off := 0) (m := 15) rfl (z_hd (n := 15) rfl)) (z_sk (n := 1) (off := 15) (m := 15) rfl (z_sk (n := 15) (off := 0) (m := 15) rfl (z_hd (n := 15) rfl))))) (by decide +kernel) 9 rfl rfl) rfl rfl hl.1 rfl (lv_room (Nat.le_of_ble_eq_true rfl)) dL_wouldStamp_4 ⟨(Nat.le_of_ble_eq_true rfl), (Nat.le_of_ble_eq_true rfl)⟩) hA hP hD hS (zrg 0 1 ++ (zrg 1 15 ++ zrg 16 15)) (z_mcat (z_hd (n := 1) rfl) (z_mcat (z_sk (n := 1) (off := 0) (m := 15) rfl (z_hd (n := 15) rfl)) (z_sk (n := 1) (off := 15) (m := 15) rfl (z_sk (n := 15) (off := 0) (m := 15) rfl (z_hd (n := 15) rfl))))) (z_mfst rfl (z_mfst rfl rfl)) (fun H locs hP hD hS => ?_)
  have hz_2 : zset (wFac k a0 S0 ++ (wPlant k (subA a0 1) S1 ++ (wPlant k (subA a0 16) S2 ++ wArrJ k o1 S3))) (zrg 0 1) (wFac k a0 S0) = wFac k a0 S0 ++ (wPlant k (subA a0 1) S1 ++ (wPlant k (subA a0 16) S2 ++ wArrJ k o1 S3)) := (z_zhd (n := 1) rfl rfl)
  have hz_3 : zset (wFac k a0 S0 ++ (wPlant k (subA a0 1) S1 ++ (wPlant k (subA a0 16) S2 ++ wArrJ k o1 S3))) (zrg 1 15) (wPlant k (subA a0 1) S1) = wFac k a0 S0 ++ (wPlant k (subA a0 1) S1 ++ (wPlant k (subA a0 16) S2 ++ wArrJ k o1 S3)) := (z_zsk (n := 1) (off := 0) (m := 15) rfl (z_zhd (n := 15) rfl rfl))
  have hz_4 : zset (wFac k a0 S0 ++ (wPlant k (subA a0 1) S1 ++ (wPlant k (subA a0 16) S2 ++ wArrJ k o1 S3))) (zrg 16 15) (wPlant k (subA a0 16) ((wInspN0 (((wCopy S2 S1))) (S1 3 1).toNat))) = wFac k a0 S0 ++ (wPlant k (subA a0 1) S1 ++ (wPlant k (subA a0 16) ((wInspN0 (((wCopy S2 S1))) (S1 3 1).toNat)) ++ wArrJ k o1 S3)) := (z_zsk (n := 1) (off := 15) (m := 15) rfl (z_zsk (n := 15) (off := 0) (m := 15) rfl (z_zhd (n := 15) rfl rfl)))
  have hE_1 : zset (wFac k a0 S0 ++ (wPlant k (subA a0 1) S1 ++ (wPlant k (subA a0 16) S2 ++ wArrJ k o1 S3))) (zrg 0 1 ++ (zrg 1 15 ++ zrg 16 15)) (wFac k a0 S0 ++ (wPlant k (subA a0 1) S1 ++ wPlant k (subA a0 16) ((wInspN0 (((wCopy S2 S1))) (S1 3 1).toNat)))) = wFac k a0 S0 ++ (wPlant k (subA a0 1) S1 ++ (wPlant k (subA a0 16) ((wInspN0 (((wCopy S2 S1))) (S1 3 1).toNat)) ++ wArrJ k o1 S3)) := (z_zcat rfl hz_2 (z_zcat rfl hz_3 hz_4))
  have hP : va_P D vwCl (wFac k a0 S0 ++ (wPlant k (subA a0 1) S1 ++ (wPlant k (subA a0 16) ((wInspN0 (((wCopy S2 S1))) (S1 3 1).toNat)) ++ wArrJ k o1 S3))) H := z_to hE_1 hP
  have hD : va_D A (wFac k a0 S0 ++ (wPlant k (subA a0 1) S1 ++ (wPlant k (subA a0 16) ((wInspN0 (((wCopy S2 S1))) (S1 3 1).toNat)) ++ wArrJ k o1 S3))) := z_to2 hE_1 hD
  have f_5 : -1000000000 ≤ S1 3 1 ∧ S1 3 1 ≤ 1000000000 := (pOK_b hp 3 (by decide)) 1
  have f_6 : -1000000000 ≤ S1 2 5 ∧ S1 2 5 ≤ 1000000000 := (pOK_b hp 2 (by decide)) 5
  refine lv_i2l (v := (iI (((((wInspN0 (((wCopy S2 S1))) (S1 3 1).toNat)) 2) 5) - (S1 2 5))).toInt64) hx hb dL_wouldStamp_7 rfl ?_
  refine z_last hx hb hK hP hD hS 31 4 (f := S3 0) rfl rfl (i := 0) (by omega) (by omega) (by decide) 0 rfl dL_wouldStamp_8 (fun H locs hP hD hS => ?_)
  have hP : va_P D vwCl (wFac k a0 S0 ++ (wPlant k (subA a0 1) S1 ++ (wPlant k (subA a0 16) ((wInspN0 (((wCopy S2 S1))) (S1 3 1).toNat)) ++ wArrJ k o1 (up2 S3 0 0 (((((wInspN0 (((wCopy S2 S1))) (S1 3 1).toNat)) 2) 5) - (S1 2 5)))))) H := hP
  have hD : va_D A (wFac k a0 S0 ++ (wPlant k (subA a0 1) S1 ++ (wPlant k (subA a0 16) ((wInspN0 (((wCopy S2 S1))) (S1 3 1).toNat)) ++ wArrJ k o1 (up2 S3 0 0 (((((wInspN0 (((wCopy S2 S1))) (S1 3 1).toNat)) 2) 5) - (S1 2 5)))))) := hD
  refine lv_goto (tgt := 18) hx hb dL_wouldStamp_9 (by decide) ?_
  refine lv_iconst (v := iI 0) hx hb dL_wouldStamp_18 rfl ?_
  exact vx_ret (z_iret hx hb hr hlocks hP hS dL_wouldStamp_19 rfl rfl (Nat.le_of_ble_eq_true rfl) (Nat.le_of_ble_eq_true rfl))
set_option maxHeartbeats 4000000 in
set_option maxRecDepth 100000 in
theorem c_L_wouldStamp_1 (l : Launch) (hst : l.stackTraces = false) (D : va_G) (k : Nat → ClassId) (a0 : Nat → Nat) (o1 : Nat → Nat) (S0 : Nat → Nat → Int) (S1 : Nat → Nat → Int) (S2 : Nat → Nat → Int) (S3 : Nat → Nat → Int) (hp : pOK S1) (hat : aOK S2) (hI : 1 ≤ S1 13 1) : zML l yL_wouldStamp wsL_wouldStamp ({ frames := 6, cells := 1, slots := 6, locals := 127 } : Room) D k [.ref (a0 0), .int (iI 1), .ref (o1 0)] (wFac k a0 S0 ++ (wPlant k (subA a0 1) S1 ++ (wPlant k (subA a0 16) S2 ++ wArrJ k o1 S3))) (0) (wFac k a0 S0 ++ (wPlant k (subA a0 1) S1 ++ (wPlant k (subA a0 16) ((wInspN1 (((wCopy S2 S1))) (S1 6 1).toNat)) ++ wArrJ k o1 (up2 S3 0 0 (((((wInspN1 (((wCopy S2 S1))) (S1 6 1).toNat)) 5) 5) - (S1 5 5)))))) 1 6 := by
  refine zML_of (cc := cL_wouldStamp) (maxL := 4) (ret := (some .int)) (hh := [(0, 9, 12, 13), (0, 9, 15, 60)]) (by decide) rfl (Nat.le_of_ble_eq_true rfl) ?_
  intro p e s m args below meth c A ls hx hb hr hml hown hts hlocks hK hP hD hG hE hT hA hS hl
  have hown : s.vm.findClass RL = some m.cls := hown
  have hl : lv_has ls 4 [(0, .ref (a0 0)), (1, .int (iI 1)), (2, .ref (o1 0))] := hl
  obtain ⟨H, hH⟩ : ∃ z, z = s.heap := ⟨_, rfl⟩
  obtain ⟨locs, hlc⟩ : ∃ z : List Loc, z = [] := ⟨_, rfl⟩
  rw [← hH] at hP
  have hS : va_S A s.heap H locs := by rw [hH, hlc]; exact hS
  rw [← hlc, ← hH]
  clear hlc hH
  have kp := hp.2
  refine lv_aload_n hx hb dL_wouldStamp_0 rfl (lv_at hl 2 rfl) ?_
  refine lv_iconst (v := iI 0) hx hb dL_wouldStamp_1 rfl ?_
  refine lv_aload_n hx hb dL_wouldStamp_2 rfl (lv_at hl 0 rfl) ?_
  refine lv_iload_n hx hb dL_wouldStamp_3 rfl (lv_at hl 1 rfl) ?_
  refine z_ai (va_runV (As := [.int (iI 1)]) (rest := [.int (iI 0), .ref (o1 0)]) ⟨hx, hb, hml, hown, hts⟩ (c_X7_wouldStamp_1 l D k a0 S0 S1 S2   hp hat (by omega) _) (cwV 1 hts gL_wouldStamp_X7_wouldStamp rfl rfl rfl (by decide +kernel) ⟨(Nat.le_of_ble_eq_true rfl), (Nat.le_of_ble_eq_true rfl)⟩) (z_preV hK hG hA hP hD hS (zrg 0 1 ++ (zrg 1 15 ++ zrg 16 15)) (z_mcat (z_hd (n := 1) rfl) (z_mcat (z_sk (n := 1) (off := 0) (m := 15) rfl (z_hd (n := 15) rfl)) (z_sk (n := 1) (off := 15) (m := 15) rfl (z_sk (n := 15) (off := 0) (m := 15) rfl (z_hd (n := 15) rfl))))) (by decide +kernel) 9 rfl rfl) rfl rfl hl.1 rfl (lv_room (Nat.le_of_ble_eq_true rfl)) dL_wouldStamp_4 ⟨(Nat.le_of_ble_eq_true rfl), (Nat.le_of_ble_eq_true rfl)⟩) hA hP hD hS (zrg 0 1 ++ (zrg 1 15 ++ zrg 16 15)) (z_mcat (z_hd (n := 1) rfl) (z_mcat (z_sk (n := 1) (off := 0) (m := 15) rfl (z_hd (n := 15) rfl)) (z_sk (n := 1) (off := 15) (m := 15) rfl (z_sk (n := 15) (off := 0) (m := 15) rfl (z_hd (n := 15) rfl))))) (z_mfst rfl (z_mfst rfl rfl)) (fun H locs hP hD hS => ?_)
  have hz_2 : zset (wFac k a0 S0 ++ (wPlant k (subA a0 1) S1 ++ (wPlant k (subA a0 16) S2 ++ wArrJ k o1 S3))) (zrg 0 1) (wFac k a0 S0) = wFac k a0 S0 ++ (wPlant k (subA a0 1) S1 ++ (wPlant k (subA a0 16) S2 ++ wArrJ k o1 S3)) := (z_zhd (n := 1) rfl rfl)
  have hz_3 : zset (wFac k a0 S0 ++ (wPlant k (subA a0 1) S1 ++ (wPlant k (subA a0 16) S2 ++ wArrJ k o1 S3))) (zrg 1 15) (wPlant k (subA a0 1) S1) = wFac k a0 S0 ++ (wPlant k (subA a0 1) S1 ++ (wPlant k (subA a0 16) S2 ++ wArrJ k o1 S3)) := (z_zsk (n := 1) (off := 0) (m := 15) rfl (z_zhd (n := 15) rfl rfl))
  have hz_4 : zset (wFac k a0 S0 ++ (wPlant k (subA a0 1) S1 ++ (wPlant k (subA a0 16) S2 ++ wArrJ k o1 S3))) (zrg 16 15) (wPlant k (subA a0 16) ((wInspN1 (((wCopy S2 S1))) (S1 6 1).toNat))) = wFac k a0 S0 ++ (wPlant k (subA a0 1) S1 ++ (wPlant k (subA a0 16) ((wInspN1 (((wCopy S2 S1))) (S1 6 1).toNat)) ++ wArrJ k o1 S3)) := (z_zsk (n := 1) (off := 15) (m := 15) rfl (z_zsk (n := 15) (off := 0) (m := 15) rfl (z_zhd (n := 15) rfl rfl)))
  have hE_1 : zset (wFac k a0 S0 ++ (wPlant k (subA a0 1) S1 ++ (wPlant k (subA a0 16) S2 ++ wArrJ k o1 S3))) (zrg 0 1 ++ (zrg 1 15 ++ zrg 16 15)) (wFac k a0 S0 ++ (wPlant k (subA a0 1) S1 ++ wPlant k (subA a0 16) ((wInspN1 (((wCopy S2 S1))) (S1 6 1).toNat)))) = wFac k a0 S0 ++ (wPlant k (subA a0 1) S1 ++ (wPlant k (subA a0 16) ((wInspN1 (((wCopy S2 S1))) (S1 6 1).toNat)) ++ wArrJ k o1 S3)) := (z_zcat rfl hz_2 (z_zcat rfl hz_3 hz_4))
  have hP : va_P D vwCl (wFac k a0 S0 ++ (wPlant k (subA a0 1) S1 ++ (wPlant k (subA a0 16) ((wInspN1 (((wCopy S2 S1))) (S1 6 1).toNat)) ++ wArrJ k o1 S3))) H := z_to hE_1 hP
  have hD : va_D A (wFac k a0 S0 ++ (wPlant k (subA a0 1) S1 ++ (wPlant k (subA a0 16) ((wInspN1 (((wCopy S2 S1))) (S1 6 1).toNat)) ++ wArrJ k o1 S3))) := z_to2 hE_1 hD
  have f_5 : -1000000000 ≤ S1 6 1 ∧ S1 6 1 ≤ 1000000000 := (pOK_b hp 6 (by decide)) 1
  have f_6 : -1000000000 ≤ S1 5 5 ∧ S1 5 5 ≤ 1000000000 := (pOK_b hp 5 (by decide)) 5
  refine lv_i2l (v := (iI (((((wInspN1 (((wCopy S2 S1))) (S1 6 1).toNat)) 5) 5) - (S1 5 5))).toInt64) hx hb dL_wouldStamp_7 rfl ?_
  refine z_last hx hb hK hP hD hS 31 4 (f := S3 0) rfl rfl (i := 0) (by omega) (by omega) (by decide) 0 rfl dL_wouldStamp_8 (fun H locs hP hD hS => ?_)
  have hP : va_P D vwCl (wFac k a0 S0 ++ (wPlant k (subA a0 1) S1 ++ (wPlant k (subA a0 16) ((wInspN1 (((wCopy S2 S1))) (S1 6 1).toNat)) ++ wArrJ k o1 (up2 S3 0 0 (((((wInspN1 (((wCopy S2 S1))) (S1 6 1).toNat)) 5) 5) - (S1 5 5)))))) H := hP
  have hD : va_D A (wFac k a0 S0 ++ (wPlant k (subA a0 1) S1 ++ (wPlant k (subA a0 16) ((wInspN1 (((wCopy S2 S1))) (S1 6 1).toNat)) ++ wArrJ k o1 (up2 S3 0 0 (((((wInspN1 (((wCopy S2 S1))) (S1 6 1).toNat)) 5) 5) - (S1 5 5)))))) := hD
  refine lv_goto (tgt := 18) hx hb dL_wouldStamp_9 (by decide) ?_
  refine lv_iconst (v := iI 0) hx hb dL_wouldStamp_18 rfl ?_
  exact vx_ret (z_iret hx hb hr hlocks hP hS dL_wouldStamp_19 rfl rfl (Nat.le_of_ble_eq_true rfl) (Nat.le_of_ble_eq_true rfl))
set_option maxHeartbeats 4000000 in
set_option maxRecDepth 100000 in
theorem c_L_wouldStamp_2 (l : Launch) (hst : l.stackTraces = false) (D : va_G) (k : Nat → ClassId) (a0 : Nat → Nat) (o1 : Nat → Nat) (S0 : Nat → Nat → Int) (S1 : Nat → Nat → Int) (S2 : Nat → Nat → Int) (S3 : Nat → Nat → Int) (hp : pOK S1) (hat : aOK S2) (hI : 1 ≤ S1 13 1) : zML l yL_wouldStamp wsL_wouldStamp ({ frames := 6, cells := 1, slots := 6, locals := 127 } : Room) D k [.ref (a0 0), .int (iI 2), .ref (o1 0)] (wFac k a0 S0 ++ (wPlant k (subA a0 1) S1 ++ (wPlant k (subA a0 16) S2 ++ wArrJ k o1 S3))) (0) (wFac k a0 S0 ++ (wPlant k (subA a0 1) S1 ++ (wPlant k (subA a0 16) ((wInspN2 (((wCopy S2 S1))) (S1 9 1).toNat)) ++ wArrJ k o1 (up2 S3 0 0 (((((wInspN2 (((wCopy S2 S1))) (S1 9 1).toNat)) 8) 5) - (S1 8 5)))))) 1 6 := by
  refine zML_of (cc := cL_wouldStamp) (maxL := 4) (ret := (some .int)) (hh := [(0, 9, 12, 13), (0, 9, 15, 60)]) (by decide) rfl (Nat.le_of_ble_eq_true rfl) ?_
  intro p e s m args below meth c A ls hx hb hr hml hown hts hlocks hK hP hD hG hE hT hA hS hl
  have hown : s.vm.findClass RL = some m.cls := hown
  have hl : lv_has ls 4 [(0, .ref (a0 0)), (1, .int (iI 2)), (2, .ref (o1 0))] := hl
  obtain ⟨H, hH⟩ : ∃ z, z = s.heap := ⟨_, rfl⟩
  obtain ⟨locs, hlc⟩ : ∃ z : List Loc, z = [] := ⟨_, rfl⟩
  rw [← hH] at hP
  have hS : va_S A s.heap H locs := by rw [hH, hlc]; exact hS
  rw [← hlc, ← hH]
  clear hlc hH
  have kp := hp.2
  refine lv_aload_n hx hb dL_wouldStamp_0 rfl (lv_at hl 2 rfl) ?_
  refine lv_iconst (v := iI 0) hx hb dL_wouldStamp_1 rfl ?_
  refine lv_aload_n hx hb dL_wouldStamp_2 rfl (lv_at hl 0 rfl) ?_
  refine lv_iload_n hx hb dL_wouldStamp_3 rfl (lv_at hl 1 rfl) ?_
  refine z_ai (va_runV (As := [.int (iI 2)]) (rest := [.int (iI 0), .ref (o1 0)]) ⟨hx, hb, hml, hown, hts⟩ (c_X7_wouldStamp_2 l D k a0 S0 S1 S2   hp hat (by omega) _) (cwV 1 hts gL_wouldStamp_X7_wouldStamp rfl rfl rfl (by decide +kernel) ⟨(Nat.le_of_ble_eq_true rfl), (Nat.le_of_ble_eq_true rfl)⟩) (z_preV hK hG hA hP hD hS (zrg 0 1 ++ (zrg 1 15 ++ zrg 16 15)) (z_mcat (z_hd (n := 1) rfl) (z_mcat (z_sk (n := 1) (off := 0) (m := 15) rfl (z_hd (n := 15) rfl)) (z_sk (n := 1) (off := 15) (m := 15) rfl (z_sk (n := 15) (off := 0) (m := 15) rfl (z_hd (n := 15) rfl))))) (by decide +kernel) 9 rfl rfl) rfl rfl hl.1 rfl (lv_room (Nat.le_of_ble_eq_true rfl)) dL_wouldStamp_4 ⟨(Nat.le_of_ble_eq_true rfl), (Nat.le_of_ble_eq_true rfl)⟩) hA hP hD hS (zrg 0 1 ++ (zrg 1 15 ++ zrg 16 15)) (z_mcat (z_hd (n := 1) rfl) (z_mcat (z_sk (n := 1) (off := 0) (m := 15) rfl (z_hd (n := 15) rfl)) (z_sk (n := 1) (off := 15) (m := 15) rfl (z_sk (n := 15) (off := 0) (m := 15) rfl (z_hd (n := 15) rfl))))) (z_mfst rfl (z_mfst rfl rfl)) (fun H locs hP hD hS => ?_)
  have hz_2 : zset (wFac k a0 S0 ++ (wPlant k (subA a0 1) S1 ++ (wPlant k (subA a0 16) S2 ++ wArrJ k o1 S3))) (zrg 0 1) (wFac k a0 S0) = wFac k a0 S0 ++ (wPlant k (subA a0 1) S1 ++ (wPlant k (subA a0 16) S2 ++ wArrJ k o1 S3)) := (z_zhd (n := 1) rfl rfl)
  have hz_3 : zset (wFac k a0 S0 ++ (wPlant k (subA a0 1) S1 ++ (wPlant k (subA a0 16) S2 ++ wArrJ k o1 S3))) (zrg 1 15) (wPlant k (subA a0 1) S1) = wFac k a0 S0 ++ (wPlant k (subA a0 1) S1 ++ (wPlant k (subA a0 16) S2 ++ wArrJ k o1 S3)) := (z_zsk (n := 1) (off := 0) (m := 15) rfl (z_zhd (n := 15) rfl rfl))
  have hz_4 : zset (wFac k a0 S0 ++ (wPlant k (subA a0 1) S1 ++ (wPlant k (subA a0 16) S2 ++ wArrJ k o1 S3))) (zrg 16 15) (wPlant k (subA a0 16) ((wInspN2 (((wCopy S2 S1))) (S1 9 1).toNat))) = wFac k a0 S0 ++ (wPlant k (subA a0 1) S1 ++ (wPlant k (subA a0 16) ((wInspN2 (((wCopy S2 S1))) (S1 9 1).toNat)) ++ wArrJ k o1 S3)) := (z_zsk (n := 1) (off := 15) (m := 15) rfl (z_zsk (n := 15) (off := 0) (m := 15) rfl (z_zhd (n := 15) rfl rfl)))
  have hE_1 : zset (wFac k a0 S0 ++ (wPlant k (subA a0 1) S1 ++ (wPlant k (subA a0 16) S2 ++ wArrJ k o1 S3))) (zrg 0 1 ++ (zrg 1 15 ++ zrg 16 15)) (wFac k a0 S0 ++ (wPlant k (subA a0 1) S1 ++ wPlant k (subA a0 16) ((wInspN2 (((wCopy S2 S1))) (S1 9 1).toNat)))) = wFac k a0 S0 ++ (wPlant k (subA a0 1) S1 ++ (wPlant k (subA a0 16) ((wInspN2 (((wCopy S2 S1))) (S1 9 1).toNat)) ++ wArrJ k o1 S3)) := (z_zcat rfl hz_2 (z_zcat rfl hz_3 hz_4))
  have hP : va_P D vwCl (wFac k a0 S0 ++ (wPlant k (subA a0 1) S1 ++ (wPlant k (subA a0 16) ((wInspN2 (((wCopy S2 S1))) (S1 9 1).toNat)) ++ wArrJ k o1 S3))) H := z_to hE_1 hP
  have hD : va_D A (wFac k a0 S0 ++ (wPlant k (subA a0 1) S1 ++ (wPlant k (subA a0 16) ((wInspN2 (((wCopy S2 S1))) (S1 9 1).toNat)) ++ wArrJ k o1 S3))) := z_to2 hE_1 hD
  have f_5 : -1000000000 ≤ S1 9 1 ∧ S1 9 1 ≤ 1000000000 := (pOK_b hp 9 (by decide)) 1
  have f_6 : -1000000000 ≤ S1 8 5 ∧ S1 8 5 ≤ 1000000000 := (pOK_b hp 8 (by decide)) 5
  refine lv_i2l (v := (iI (((((wInspN2 (((wCopy S2 S1))) (S1 9 1).toNat)) 8) 5) - (S1 8 5))).toInt64) hx hb dL_wouldStamp_7 rfl ?_
  refine z_last hx hb hK hP hD hS 31 4 (f := S3 0) rfl rfl (i := 0) (by omega) (by omega) (by decide) 0 rfl dL_wouldStamp_8 (fun H locs hP hD hS => ?_)
  have hP : va_P D vwCl (wFac k a0 S0 ++ (wPlant k (subA a0 1) S1 ++ (wPlant k (subA a0 16) ((wInspN2 (((wCopy S2 S1))) (S1 9 1).toNat)) ++ wArrJ k o1 (up2 S3 0 0 (((((wInspN2 (((wCopy S2 S1))) (S1 9 1).toNat)) 8) 5) - (S1 8 5)))))) H := hP
  have hD : va_D A (wFac k a0 S0 ++ (wPlant k (subA a0 1) S1 ++ (wPlant k (subA a0 16) ((wInspN2 (((wCopy S2 S1))) (S1 9 1).toNat)) ++ wArrJ k o1 (up2 S3 0 0 (((((wInspN2 (((wCopy S2 S1))) (S1 9 1).toNat)) 8) 5) - (S1 8 5)))))) := hD
  refine lv_goto (tgt := 18) hx hb dL_wouldStamp_9 (by decide) ?_
  refine lv_iconst (v := iI 0) hx hb dL_wouldStamp_18 rfl ?_
  exact vx_ret (z_iret hx hb hr hlocks hP hS dL_wouldStamp_19 rfl rfl (Nat.le_of_ble_eq_true rfl) (Nat.le_of_ble_eq_true rfl))
set_option maxHeartbeats 4000000 in
set_option maxRecDepth 100000 in
theorem c_L_wouldStamp_b (l : Launch) (hst : l.stackTraces = false) (D : va_G) (k : Nat → ClassId) (a0 : Nat → Nat) (o1 : Nat → Nat) (S0 : Nat → Nat → Int) (S1 : Nat → Nat → Int) (S2 : Nat → Nat → Int) (p1 : Int) (hp : pOK S1) (h0 : -2147483648 ≤ p1 ∧ p1 < 2147483648) (hc : ¬ (0 ≤ p1 ∧ p1 < 3)) : zML l yL_wouldStamp wsL_wouldStamp ({ frames := 8, cells := 1, slots := 6, locals := 126 } : Room) D k [.ref (a0 0), .int (iI p1), .ref (o1 0)] (wFac k a0 S0 ++ (wPlant k (subA a0 1) S1 ++ wArrJ k o1 S2)) (1) (wFac k a0 S0 ++ (wPlant k (subA a0 1) S1 ++ wArrJ k o1 S2)) 1 6 := by
  refine zML_of (cc := cL_wouldStamp) (maxL := 4) (ret := (some .int)) (hh := [(0, 9, 12, 13), (0, 9, 15, 60)]) (by decide) rfl (Nat.le_of_ble_eq_true rfl) ?_
  intro p e s m args below meth c A ls hx hb hr hml hown hts hlocks hK hP hD hG hE hT hA hS hl
  have hown : s.vm.findClass RL = some m.cls := hown
  have hl : lv_has ls 4 [(0, .ref (a0 0)), (1, .int (iI p1)), (2, .ref (o1 0))] := hl
  obtain ⟨H, hH⟩ : ∃ z, z = s.heap := ⟨_, rfl⟩
  obtain ⟨locs, hlc⟩ : ∃ z : List Loc, z = [] := ⟨_, rfl⟩
  rw [← hH] at hP
  have hS : va_S A s.heap H locs := by rw [hH, hlc]; exact hS
  rw [← hlc, ← hH]
  clear hlc hH
  have kp := hp.2
  refine lv_aload_n hx hb dL_wouldStamp_0 rfl (lv_at hl 2 rfl) ?_
  refine lv_iconst (v := iI 0) hx hb dL_wouldStamp_1 rfl ?_
  refine lv_aload_n hx hb dL_wouldStamp_2 rfl (lv_at hl 0 rfl) ?_
  refine lv_iload_n hx hb dL_wouldStamp_3 rfl (lv_at hl 1 rfl) ?_
  refine z_axc0 (vx_runV (As := [.int (iI p1)]) (rest := [.int (iI 0), .ref (o1 0)]) ⟨hx, hb, hml, hown, hts⟩ (c_X7_wouldStamp_b l hst D k a0 S0 S1  p1 hp (by omega) (by omega) _) (cwV 1 hts gL_wouldStamp_X7_wouldStamp rfl rfl rfl (by decide +kernel) ⟨(Nat.le_of_ble_eq_true rfl), (Nat.le_of_ble_eq_true rfl)⟩) (z_preVx hK hG hE hA hP hD hS (zrg 0 1 ++ zrg 1 15) (z_mcat (z_hd (n := 1) rfl) (z_sk (n := 1) (off := 0) (m := 15) rfl (z_hd (n := 15) rfl))) (by decide +kernel) 9 rfl rfl) rfl rfl hl.1 rfl (lv_room (Nat.le_of_ble_eq_true rfl)) dL_wouldStamp_4 ⟨(Nat.le_of_ble_eq_true rfl), (Nat.le_of_ble_eq_true rfl)⟩) hA hP hD hS (zrg 0 1 ++ zrg 1 15) (z_mcat (z_hd (n := 1) rfl) (z_sk (n := 1) (off := 0) (m := 15) rfl (z_hd (n := 15) rfl))) (fun ce q9 H locs hP hS hce hcv hcl => ?_)
  refine vx_catch (name := "java/lang/IndexOutOfBoundsException") (E := "java/lang/IndexOutOfBoundsException") hown [] (⟨0, 9, 12, 13⟩ : ExceptionTableEntry) [(⟨0, 9, 15, 60⟩ : ExceptionTableEntry)] (hT.trans rfl) (fun _ h => absurd h List.not_mem_nil) rfl (by decide) (hts (.classLink RL 13 "java/lang/IndexOutOfBoundsException") (List.mem_of_getElem? (i := 1) rfl)) (va_Nw.use rfl (hE.1 "java/lang/IndexOutOfBoundsException" zXm_ioob)) hce hcv hcl ?_
  refine lv_astore_n (lv' := [(3, .ref q9), (0, .ref (a0 0)), (1, .int (iI p1)), (2, .ref (o1 0))]) hx hb dL_wouldStamp_12 rfl hl (by decide) rfl (fun ls hl => ?_)
  refine lv_iconst (v := iI 1) hx hb dL_wouldStamp_13 rfl ?_
  exact vx_ret (z_iret hx hb hr hlocks hP hS dL_wouldStamp_14 rfl rfl (Nat.le_of_ble_eq_true rfl) (Nat.le_of_ble_eq_true rfl))
set_option maxHeartbeats 4000000 in
set_option maxRecDepth 100000 in
theorem c_L_wouldStamp_i (l : Launch) (hst : l.stackTraces = false) (D : va_G) (k : Nat → ClassId) (a0 : Nat → Nat) (o1 : Nat → Nat) (S0 : Nat → Nat → Int) (S1 : Nat → Nat → Int) (S2 : Nat → Nat → Int) (p1 : Int) (hp : pOK S1) (h0 : -2147483648 ≤ p1 ∧ p1 < 2147483648) (hc : 0 ≤ p1 ∧ p1 < 3) (hI : S1 13 1 = 0) : zML l yL_wouldStamp wsL_wouldStamp ({ frames := 8, cells := 1, slots := 6, locals := 125 } : Room) D k [.ref (a0 0), .int (iI p1), .ref (o1 0)] (wFac k a0 S0 ++ (wPlant k (subA a0 1) S1 ++ wArrJ k o1 S2)) (2) (wFac k a0 S0 ++ (wPlant k (subA a0 1) S1 ++ wArrJ k o1 S2)) 1 6 := by
  refine zML_of (cc := cL_wouldStamp) (maxL := 4) (ret := (some .int)) (hh := [(0, 9, 12, 13), (0, 9, 15, 60)]) (by decide) rfl (Nat.le_of_ble_eq_true rfl) ?_
  intro p e s m args below meth c A ls hx hb hr hml hown hts hlocks hK hP hD hG hE hT hA hS hl
  have hown : s.vm.findClass RL = some m.cls := hown
  have hl : lv_has ls 4 [(0, .ref (a0 0)), (1, .int (iI p1)), (2, .ref (o1 0))] := hl
  obtain ⟨H, hH⟩ : ∃ z, z = s.heap := ⟨_, rfl⟩
  obtain ⟨locs, hlc⟩ : ∃ z : List Loc, z = [] := ⟨_, rfl⟩
  rw [← hH] at hP
  have hS : va_S A s.heap H locs := by rw [hH, hlc]; exact hS
  rw [← hlc, ← hH]
  clear hlc hH
  have kp := hp.2
  refine lv_aload_n hx hb dL_wouldStamp_0 rfl (lv_at hl 2 rfl) ?_
  refine lv_iconst (v := iI 0) hx hb dL_wouldStamp_1 rfl ?_
  refine lv_aload_n hx hb dL_wouldStamp_2 rfl (lv_at hl 0 rfl) ?_
  refine lv_iload_n hx hb dL_wouldStamp_3 rfl (lv_at hl 1 rfl) ?_
  refine z_axc0 (vx_runV (As := [.int (iI p1)]) (rest := [.int (iI 0), .ref (o1 0)]) ⟨hx, hb, hml, hown, hts⟩ (c_X7_wouldStamp_i l hst D k a0 S0 S1  p1 hp (by omega) (by omega) (by omega) _) (cwV 1 hts gL_wouldStamp_X7_wouldStamp rfl rfl rfl (by decide +kernel) ⟨(Nat.le_of_ble_eq_true rfl), (Nat.le_of_ble_eq_true rfl)⟩) (z_preVx hK hG hE hA hP hD hS (zrg 0 1 ++ zrg 1 15) (z_mcat (z_hd (n := 1) rfl) (z_sk (n := 1) (off := 0) (m := 15) rfl (z_hd (n := 15) rfl))) (by decide +kernel) 9 rfl rfl) rfl rfl hl.1 rfl (lv_room (Nat.le_of_ble_eq_true rfl)) dL_wouldStamp_4 ⟨(Nat.le_of_ble_eq_true rfl), (Nat.le_of_ble_eq_true rfl)⟩) hA hP hD hS (zrg 0 1 ++ zrg 1 15) (z_mcat (z_hd (n := 1) rfl) (z_sk (n := 1) (off := 0) (m := 15) rfl (z_hd (n := 15) rfl))) (fun ce q9 H locs hP hS hce hcv hcl => ?_)
  refine vx_catch (name := "java/util/NoSuchElementException") (E := "java/util/NoSuchElementException") hown [(⟨0, 9, 12, 13⟩ : ExceptionTableEntry)] (⟨0, 9, 15, 60⟩ : ExceptionTableEntry) [] (hT.trans rfl) (List.forall_mem_cons.mpr ⟨Or.inr ⟨by decide, _, (hts (.classLink RL 13 "java/lang/IndexOutOfBoundsException") (List.mem_of_getElem? (i := 1) rfl)), hE.2.2 ("java/util/NoSuchElementException", "java/lang/IndexOutOfBoundsException") (by decide +kernel)⟩, (fun _ h => absurd h List.not_mem_nil)⟩) rfl (by decide) (hts (.classLink RL 60 "java/util/NoSuchElementException") (List.mem_of_getElem? (i := 2) rfl)) (va_Nw.use rfl (hE.1 "java/util/NoSuchElementException" zXm_nose)) hce hcv hcl ?_
  refine lv_astore_n (lv' := [(3, .ref q9), (0, .ref (a0 0)), (1, .int (iI p1)), (2, .ref (o1 0))]) hx hb dL_wouldStamp_15 rfl hl (by decide) rfl (fun ls hl => ?_)
  refine lv_iconst (v := iI 2) hx hb dL_wouldStamp_16 rfl ?_
  exact vx_ret (z_iret hx hb hr hlocks hP hS dL_wouldStamp_17 rfl rfl (Nat.le_of_ble_eq_true rfl) (Nat.le_of_ble_eq_true rfl))
