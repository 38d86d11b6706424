set_option maxHeartbeats 4000000 in
set_option maxRecDepth 100000 in
theorem c_L_make_ok (l : Launch) (hst : l.stackTraces = false) (D : va_G) (k : Nat → ClassId) (a0 : Nat → Nat) (o1 : Nat → Nat) (S0 : Nat → Nat → Int) (S1 : Nat → Nat → Int) (S2 : Nat → Nat → Int) (S3 : Nat → Nat → Int) (S4 : Nat → Nat → Int) (i0 : Nat) (p1 : Int) (p2 : Int) (p3 : Int) (hp : pOK S1) (h0 : -2147483648 ≤ p1 ∧ p1 < 2147483648) (h1 : -2147483648 ≤ p2 ∧ p2 < 2147483648) (h2 : -2147483648 ≤ p3 ∧ p3 < 2147483648) (hv : sp_X5_verdictOn S1 109 p1 p2 p3 = 0) (hi : S2 0 1 = (i0 : Int) ∧ i0 < 8) (hcn : 0 ≤ S2 0 2 ∧ S2 0 2 ≤ 8) : zML l yL_make wsL_make ({ frames := 7, cells := 1, slots := 6, locals := 178 } : Room) D k [.ref (a0 0), .int (iI p1), .int (iI p2), .int (iI p3), .ref (o1 0)] (wFac k a0 S0 ++ (wPlant k (subA a0 1) S1 ++ (wHist k (subA a0 61) S2 ++ (wPlant k (subA (subA a0 61) (2 + 15 * i0)) S3 ++ wArrJ k o1 S4)))) (0) (wFac k a0 S0 ++ (wPlant k (subA a0 1) ((wCarry S1 109 p1 p2 p3)) ++ (wHist k (subA a0 61) (up2 (up2 S2 0 1 (((S2 0 1) + 1) % 8)) 0 2 (min ((S2 0 2) + 1) 8)) ++ (wPlant k (subA (subA a0 61) (2 + 15 * i0)) ((wCopy S3 S1)) ++ wArrJ k o1 (up2 S4 0 0 (sp_X5_carryOut S1 109 p1 p2 p3)))))) 1 6 := by
  refine zML_of (cc := cL_make) (maxL := 6) (ret := (some .int)) (hh := [(0, 12, 15, 13), (0, 12, 19, 15), (0, 12, 23, 17)]) (by decide) rfl (Nat.le_of_ble_eq_true rfl) ?_
  intro p e s m args below meth c A ls hx hb hr hml hown hts hlocks hK hP hD hG hE hT hA hS hl
  have hown : s.vm.findClass RL = some m.cls := hown
  have hl : lv_has ls 6 [(0, .ref (a0 0)), (1, .int (iI p1)), (2, .int (iI p2)), (3, .int (iI p3)), (4, .ref (o1 0))] := hl
  obtain ⟨H, hH⟩ : ∃ z, z = s.heap := ⟨_, rfl⟩
  obtain ⟨locs, hlc⟩ : ∃ z : List Loc, z = [] := ⟨_, rfl⟩
  rw [← hH] at hP
  have hS : va_S A s.heap H locs := by rw [hH, hlc]; exact hS
  rw [← hlc, ← hH]
  clear hlc hH
  have kp := hp.2
  refine lv_aload hx hb dL_make_0 (lv_at hl 4 rfl) ?_
  refine lv_iconst (v := iI 0) hx hb dL_make_2 rfl ?_
  refine lv_aload_n hx hb dL_make_3 rfl (lv_at hl 0 rfl) ?_
  refine lv_iload_n hx hb dL_make_4 rfl (lv_at hl 1 rfl) ?_
  refine lv_iload_n hx hb dL_make_5 rfl (lv_at hl 2 rfl) ?_
  refine lv_iload_n hx hb dL_make_6 rfl (lv_at hl 3 rfl) ?_
  refine z_ai (va_runV (As := [.int (iI p1), .int (iI p2), .int (iI p3)]) (rest := [.int (iI 0), .ref (o1 0)]) ⟨hx, hb, hml, hown, hts⟩ (c_X7_make_ok l D k a0 S0 S1 S2 S3 i0 p1 p2 p3 hp (by omega) (by omega) (by omega) hv hi hcn _) (cwV 3 hts gL_make_X7_make rfl rfl rfl (by decide +kernel) ⟨(Nat.le_of_ble_eq_true rfl), (Nat.le_of_ble_eq_true rfl)⟩) (z_preV hK hG hA hP hD hS (zrg 0 1 ++ (zrg 1 15 ++ (zrg 16 2 ++ zrg 18 15))) (z_mcat (z_hd (n := 1) rfl) (z_mcat (z_sk (n := 1) (off := 0) (m := 15) rfl (z_hd (n := 15) rfl)) (z_mcat (z_sk (n := 1) (off := 15) (m := 2) rfl (z_sk (n := 15) (off := 0) (m := 2) rfl (z_hd (n := 2) rfl))) (z_sk (n := 1) (off := 17) (m := 15) rfl (z_sk (n := 15) (off := 2) (m := 15) rfl (z_sk (n := 2) (off := 0) (m := 15) rfl (z_hd (n := 15) rfl))))))) (by decide +kernel) 9 rfl rfl) rfl rfl hl.1 rfl (lv_room (Nat.le_of_ble_eq_true rfl)) dL_make_7 ⟨(Nat.le_of_ble_eq_true rfl), (Nat.le_of_ble_eq_true rfl)⟩) hA hP hD hS (zrg 0 1 ++ (zrg 1 15 ++ (zrg 16 2 ++ zrg 18 15))) (z_mcat (z_hd (n := 1) rfl) (z_mcat (z_sk (n := 1) (off := 0) (m := 15) rfl (z_hd (n := 15) rfl)) (z_mcat (z_sk (n := 1) (off := 15) (m := 2) rfl (z_sk (n := 15) (off := 0) (m := 2) rfl (z_hd (n := 2) rfl))) (z_sk (n := 1) (off := 17) (m := 15) rfl (z_sk (n := 15) (off := 2) (m := 15) rfl (z_sk (n := 2) (off := 0) (m := 15) rfl (z_hd (n := 15) rfl))))))) (z_mfst rfl (z_mfst rfl (z_mfst rfl rfl))) (fun H locs hP hD hS => ?_)
  have hz_2 : zset (wFac k a0 S0 ++ (wPlant k (subA a0 1) S1 ++ (wHist k (subA a0 61) S2 ++ (wPlant k (subA (subA a0 61) (2 + 15 * i0)) S3 ++ wArrJ k o1 S4)))) (zrg 0 1) (wFac k a0 S0) = wFac k a0 S0 ++ (wPlant k (subA a0 1) S1 ++ (wHist k (subA a0 61) S2 ++ (wPlant k (subA (subA a0 61) (2 + 15 * i0)) S3 ++ wArrJ k o1 S4))) := (z_zhd (n := 1) rfl rfl)
  have hz_3 : zset (wFac k a0 S0 ++ (wPlant k (subA a0 1) S1 ++ (wHist k (subA a0 61) S2 ++ (wPlant k (subA (subA a0 61) (2 + 15 * i0)) S3 ++ wArrJ k o1 S4)))) (zrg 1 15) (wPlant k (subA a0 1) ((wCarry S1 109 p1 p2 p3))) = wFac k a0 S0 ++ (wPlant k (subA a0 1) ((wCarry S1 109 p1 p2 p3)) ++ (wHist k (subA a0 61) S2 ++ (wPlant k (subA (subA a0 61) (2 + 15 * i0)) S3 ++ wArrJ k o1 S4))) := (z_zsk (n := 1) (off := 0) (m := 15) rfl (z_zhd (n := 15) rfl rfl))
  have hz_4 : zset (wFac k a0 S0 ++ (wPlant k (subA a0 1) ((wCarry S1 109 p1 p2 p3)) ++ (wHist k (subA a0 61) S2 ++ (wPlant k (subA (subA a0 61) (2 + 15 * i0)) S3 ++ wArrJ k o1 S4)))) (zrg 16 2) (wHist k (subA a0 61) (up2 (up2 S2 0 1 (((S2 0 1) + 1) % 8)) 0 2 (min ((S2 0 2) + 1) 8))) = wFac k a0 S0 ++ (wPlant k (subA a0 1) ((wCarry S1 109 p1 p2 p3)) ++ (wHist k (subA a0 61) (up2 (up2 S2 0 1 (((S2 0 1) + 1) % 8)) 0 2 (min ((S2 0 2) + 1) 8)) ++ (wPlant k (subA (subA a0 61) (2 + 15 * i0)) S3 ++ wArrJ k o1 S4))) := (z_zsk (n := 1) (off := 15) (m := 2) rfl (z_zsk (n := 15) (off := 0) (m := 2) rfl (z_zhd (n := 2) rfl rfl)))
  have hz_5 : zset (wFac k a0 S0 ++ (wPlant k (subA a0 1) ((wCarry S1 109 p1 p2 p3)) ++ (wHist k (subA a0 61) (up2 (up2 S2 0 1 (((S2 0 1) + 1) % 8)) 0 2 (min ((S2 0 2) + 1) 8)) ++ (wPlant k (subA (subA a0 61) (2 + 15 * i0)) S3 ++ wArrJ k o1 S4)))) (zrg 18 15) (wPlant k (subA (subA a0 61) (2 + 15 * i0)) ((wCopy S3 S1))) = wFac k a0 S0 ++ (wPlant k (subA a0 1) ((wCarry S1 109 p1 p2 p3)) ++ (wHist k (subA a0 61) (up2 (up2 S2 0 1 (((S2 0 1) + 1) % 8)) 0 2 (min ((S2 0 2) + 1) 8)) ++ (wPlant k (subA (subA a0 61) (2 + 15 * i0)) ((wCopy S3 S1)) ++ wArrJ k o1 S4))) := (z_zsk (n := 1) (off := 17) (m := 15) rfl (z_zsk (n := 15) (off := 2) (m := 15) rfl (z_zsk (n := 2) (off := 0) (m := 15) rfl (z_zhd (n := 15) rfl rfl))))
  have hE_1 : zset (wFac k a0 S0 ++ (wPlant k (subA a0 1) S1 ++ (wHist k (subA a0 61) S2 ++ (wPlant k (subA (subA a0 61) (2 + 15 * i0)) S3 ++ wArrJ k o1 S4)))) (zrg 0 1 ++ (zrg 1 15 ++ (zrg 16 2 ++ zrg 18 15))) (wFac k a0 S0 ++ (wPlant k (subA a0 1) ((wCarry S1 109 p1 p2 p3)) ++ (wHist k (subA a0 61) (up2 (up2 S2 0 1 (((S2 0 1) + 1) % 8)) 0 2 (min ((S2 0 2) + 1) 8)) ++ wPlant k (subA (subA a0 61) (2 + 15 * i0)) ((wCopy S3 S1))))) = wFac k a0 S0 ++ (wPlant k (subA a0 1) ((wCarry S1 109 p1 p2 p3)) ++ (wHist k (subA a0 61) (up2 (up2 S2 0 1 (((S2 0 1) + 1) % 8)) 0 2 (min ((S2 0 2) + 1) 8)) ++ (wPlant k (subA (subA a0 61) (2 + 15 * i0)) ((wCopy S3 S1)) ++ wArrJ k o1 S4))) := (z_zcat rfl hz_2 (z_zcat rfl hz_3 (z_zcat rfl hz_4 hz_5)))
  have hP : va_P D vwCl (wFac k a0 S0 ++ (wPlant k (subA a0 1) ((wCarry S1 109 p1 p2 p3)) ++ (wHist k (subA a0 61) (up2 (up2 S2 0 1 (((S2 0 1) + 1) % 8)) 0 2 (min ((S2 0 2) + 1) 8)) ++ (wPlant k (subA (subA a0 61) (2 + 15 * i0)) ((wCopy S3 S1)) ++ wArrJ k o1 S4)))) H := z_to hE_1 hP
  have hD : va_D A (wFac k a0 S0 ++ (wPlant k (subA a0 1) ((wCarry S1 109 p1 p2 p3)) ++ (wHist k (subA a0 61) (up2 (up2 S2 0 1 (((S2 0 1) + 1) % 8)) 0 2 (min ((S2 0 2) + 1) 8)) ++ (wPlant k (subA (subA a0 61) (2 + 15 * i0)) ((wCopy S3 S1)) ++ wArrJ k o1 S4)))) := z_to2 hE_1 hD
  refine lv_i2l (v := (iI (sp_X5_carryOut S1 109 p1 p2 p3)).toInt64) hx hb dL_make_10 rfl ?_
  refine z_last hx hb hK hP hD hS 33 4 (f := S4 0) rfl rfl (i := 0) (by omega) (by omega) (by decide) 0 rfl dL_make_11 (fun H locs hP hD hS => ?_)
  have hP : va_P D vwCl (wFac k a0 S0 ++ (wPlant k (subA a0 1) ((wCarry S1 109 p1 p2 p3)) ++ (wHist k (subA a0 61) (up2 (up2 S2 0 1 (((S2 0 1) + 1) % 8)) 0 2 (min ((S2 0 2) + 1) 8)) ++ (wPlant k (subA (subA a0 61) (2 + 15 * i0)) ((wCopy S3 S1)) ++ wArrJ k o1 (up2 S4 0 0 (sp_X5_carryOut S1 109 p1 p2 p3)))))) H := hP
  have hD : va_D A (wFac k a0 S0 ++ (wPlant k (subA a0 1) ((wCarry S1 109 p1 p2 p3)) ++ (wHist k (subA a0 61) (up2 (up2 S2 0 1 (((S2 0 1) + 1) % 8)) 0 2 (min ((S2 0 2) + 1) 8)) ++ (wPlant k (subA (subA a0 61) (2 + 15 * i0)) ((wCopy S3 S1)) ++ wArrJ k o1 (up2 S4 0 0 (sp_X5_carryOut S1 109 p1 p2 p3)))))) := hD
  refine lv_goto (tgt := 27) hx hb dL_make_12 (by decide) ?_
  refine lv_iconst (v := iI 0) hx hb dL_make_27 rfl ?_
  exact vx_ret (z_iret hx hb hr hlocks hP hS dL_make_28 rfl rfl (Nat.le_of_ble_eq_true rfl) (Nat.le_of_ble_eq_true rfl))
set_option maxHeartbeats 4000000 in
set_option maxRecDepth 100000 in
theorem c_L_make_6 (l : Launch) (hst : l.stackTraces = false) (D : va_G) (k : Nat → ClassId) (a0 : Nat → Nat) (o1 : Nat → Nat) (S0 : Nat → Nat → Int) (S1 : Nat → Nat → Int) (S2 : Nat → Nat → Int) (p1 : Int) (p2 : Int) (p3 : Int) (hp : pOK S1) (h0 : -2147483648 ≤ p1 ∧ p1 < 2147483648) (h1 : -2147483648 ≤ p2 ∧ p2 < 2147483648) (h2 : -2147483648 ≤ p3 ∧ p3 < 2147483648) (hv : sp_X5_verdictOn S1 109 p1 p2 p3 = 6) : zML l yL_make wsL_make ({ frames := 8, cells := 1, slots := 6, locals := 137 } : Room) D k [.ref (a0 0), .int (iI p1), .int (iI p2), .int (iI p3), .ref (o1 0)] (wFac k a0 S0 ++ (wPlant k (subA a0 1) S1 ++ wArrJ k o1 S2)) (1) (wFac k a0 S0 ++ (wPlant k (subA a0 1) S1 ++ wArrJ k o1 S2)) 1 6 := by
  refine zML_of (cc := cL_make) (maxL := 6) (ret := (some .int)) (hh := [(0, 12, 15, 13), (0, 12, 19, 15), (0, 12, 23, 17)]) (by decide) rfl (Nat.le_of_ble_eq_true rfl) ?_
  intro p e s m args below meth c A ls hx hb hr hml hown hts hlocks hK hP hD hG hE hT hA hS hl
  have hown : s.vm.findClass RL = some m.cls := hown
  have hl : lv_has ls 6 [(0, .ref (a0 0)), (1, .int (iI p1)), (2, .int (iI p2)), (3, .int (iI p3)), (4, .ref (o1 0))] := hl
  obtain ⟨H, hH⟩ : ∃ z, z = s.heap := ⟨_, rfl⟩
  obtain ⟨locs, hlc⟩ : ∃ z : List Loc, z = [] := ⟨_, rfl⟩
  rw [← hH] at hP
  have hS : va_S A s.heap H locs := by rw [hH, hlc]; exact hS
  rw [← hlc, ← hH]
  clear hlc hH
  have kp := hp.2
  refine lv_aload hx hb dL_make_0 (lv_at hl 4 rfl) ?_
  refine lv_iconst (v := iI 0) hx hb dL_make_2 rfl ?_
  refine lv_aload_n hx hb dL_make_3 rfl (lv_at hl 0 rfl) ?_
  refine lv_iload_n hx hb dL_make_4 rfl (lv_at hl 1 rfl) ?_
  refine lv_iload_n hx hb dL_make_5 rfl (lv_at hl 2 rfl) ?_
  refine lv_iload_n hx hb dL_make_6 rfl (lv_at hl 3 rfl) ?_
  refine z_axc0 (vx_runV (As := [.int (iI p1), .int (iI p2), .int (iI p3)]) (rest := [.int (iI 0), .ref (o1 0)]) ⟨hx, hb, hml, hown, hts⟩ (c_X7_make_6 l hst D k a0 S0 S1  p1 p2 p3 hp (by omega) (by omega) (by omega) hv _) (cwV 3 hts gL_make_X7_make rfl rfl rfl (by decide +kernel) ⟨(Nat.le_of_ble_eq_true rfl), (Nat.le_of_ble_eq_true rfl)⟩) (z_preVx hK hG hE hA hP hD hS (zrg 0 1 ++ zrg 1 15) (z_mcat (z_hd (n := 1) rfl) (z_sk (n := 1) (off := 0) (m := 15) rfl (z_hd (n := 15) rfl))) (by decide +kernel) 9 rfl rfl) rfl rfl hl.1 rfl (lv_room (Nat.le_of_ble_eq_true rfl)) dL_make_7 ⟨(Nat.le_of_ble_eq_true rfl), (Nat.le_of_ble_eq_true rfl)⟩) hA hP hD hS (zrg 0 1 ++ zrg 1 15) (z_mcat (z_hd (n := 1) rfl) (z_sk (n := 1) (off := 0) (m := 15) rfl (z_hd (n := 15) rfl))) (fun ce q9 H locs hP hS hce hcv hcl => ?_)
  refine vx_catch (name := "java/lang/IndexOutOfBoundsException") (E := "java/lang/IndexOutOfBoundsException") hown [] (⟨0, 12, 15, 13⟩ : ExceptionTableEntry) [(⟨0, 12, 19, 15⟩ : ExceptionTableEntry), (⟨0, 12, 23, 17⟩ : ExceptionTableEntry)] (hT.trans rfl) (fun _ h => absurd h List.not_mem_nil) rfl (by decide) (hts (.classLink RL 13 "java/lang/IndexOutOfBoundsException") (List.mem_of_getElem? (i := 1) rfl)) (va_Nw.use rfl (hE.1 "java/lang/IndexOutOfBoundsException" zXm_ioob)) hce hcv hcl ?_
  refine lv_astore (lv' := [(5, .ref q9), (0, .ref (a0 0)), (1, .int (iI p1)), (2, .int (iI p2)), (3, .int (iI p3)), (4, .ref (o1 0))]) hx hb dL_make_15 hl (by decide) rfl (fun ls hl => ?_)
  refine lv_iconst (v := iI 1) hx hb dL_make_17 rfl ?_
  exact vx_ret (z_iret hx hb hr hlocks hP hS dL_make_18 rfl rfl (Nat.le_of_ble_eq_true rfl) (Nat.le_of_ble_eq_true rfl))
set_option maxHeartbeats 4000000 in
set_option maxRecDepth 100000 in
theorem c_L_make_7 (l : Launch) (hst : l.stackTraces = false) (D : va_G) (k : Nat → ClassId) (a0 : Nat → Nat) (o1 : Nat → Nat) (S0 : Nat → Nat → Int) (S1 : Nat → Nat → Int) (S2 : Nat → Nat → Int) (p1 : Int) (p2 : Int) (p3 : Int) (hp : pOK S1) (h0 : -2147483648 ≤ p1 ∧ p1 < 2147483648) (h1 : -2147483648 ≤ p2 ∧ p2 < 2147483648) (h2 : -2147483648 ≤ p3 ∧ p3 < 2147483648) (hv : sp_X5_verdictOn S1 109 p1 p2 p3 = 7) : zML l yL_make wsL_make ({ frames := 8, cells := 1, slots := 6, locals := 137 } : Room) D k [.ref (a0 0), .int (iI p1), .int (iI p2), .int (iI p3), .ref (o1 0)] (wFac k a0 S0 ++ (wPlant k (subA a0 1) S1 ++ wArrJ k o1 S2)) (2) (wFac k a0 S0 ++ (wPlant k (subA a0 1) S1 ++ wArrJ k o1 S2)) 1 6 := by
  refine zML_of (cc := cL_make) (maxL := 6) (ret := (some .int)) (hh := [(0, 12, 15, 13), (0, 12, 19, 15), (0, 12, 23, 17)]) (by decide) rfl (Nat.le_of_ble_eq_true rfl) ?_
  intro p e s m args below meth c A ls hx hb hr hml hown hts hlocks hK hP hD hG hE hT hA hS hl
  have hown : s.vm.findClass RL = some m.cls := hown
  have hl : lv_has ls 6 [(0, .ref (a0 0)), (1, .int (iI p1)), (2, .int (iI p2)), (3, .int (iI p3)), (4, .ref (o1 0))] := hl
  obtain ⟨H, hH⟩ : ∃ z, z = s.heap := ⟨_, rfl⟩
  obtain ⟨locs, hlc⟩ : ∃ z : List Loc, z = [] := ⟨_, rfl⟩
  rw [← hH] at hP
  have hS : va_S A s.heap H locs := by rw [hH, hlc]; exact hS
  rw [← hlc, ← hH]
  clear hlc hH
  have kp := hp.2
  refine lv_aload hx hb dL_make_0 (lv_at hl 4 rfl) ?_
  refine lv_iconst (v := iI 0) hx hb dL_make_2 rfl ?_
  refine lv_aload_n hx hb dL_make_3 rfl (lv_at hl 0 rfl) ?_
  refine lv_iload_n hx hb dL_make_4 rfl (lv_at hl 1 rfl) ?_
  refine lv_iload_n hx hb dL_make_5 rfl (lv_at hl 2 rfl) ?_
  refine lv_iload_n hx hb dL_make_6 rfl (lv_at hl 3 rfl) ?_
  refine z_axc0 (vx_runV (As := [.int (iI p1), .int (iI p2), .int (iI p3)]) (rest := [.int (iI 0), .ref (o1 0)]) ⟨hx, hb, hml, hown, hts⟩ (c_X7_make_7 l hst D k a0 S0 S1  p1 p2 p3 hp (by omega) (by omega) (by omega) hv _) (cwV 3 hts gL_make_X7_make rfl rfl rfl (by decide +kernel) ⟨(Nat.le_of_ble_eq_true rfl), (Nat.le_of_ble_eq_true rfl)⟩) (z_preVx hK hG hE hA hP hD hS (zrg 0 1 ++ zrg 1 15) (z_mcat (z_hd (n := 1) rfl) (z_sk (n := 1) (off := 0) (m := 15) rfl (z_hd (n := 15) rfl))) (by decide +kernel) 9 rfl rfl) rfl rfl hl.1 rfl (lv_room (Nat.le_of_ble_eq_true rfl)) dL_make_7 ⟨(Nat.le_of_ble_eq_true rfl), (Nat.le_of_ble_eq_true rfl)⟩) hA hP hD hS (zrg 0 1 ++ zrg 1 15) (z_mcat (z_hd (n := 1) rfl) (z_sk (n := 1) (off := 0) (m := 15) rfl (z_hd (n := 15) rfl))) (fun ce q9 H locs hP hS hce hcv hcl => ?_)
  refine vx_catch (name := "java/lang/IllegalArgumentException") (E := "java/lang/IllegalArgumentException") hown [(⟨0, 12, 15, 13⟩ : ExceptionTableEntry)] (⟨0, 12, 19, 15⟩ : ExceptionTableEntry) [(⟨0, 12, 23, 17⟩ : ExceptionTableEntry)] (hT.trans rfl) (List.forall_mem_cons.mpr ⟨Or.inr ⟨by decide, _, (hts (.classLink RL 13 "java/lang/IndexOutOfBoundsException") (List.mem_of_getElem? (i := 1) rfl)), hE.2.2 ("java/lang/IllegalArgumentException", "java/lang/IndexOutOfBoundsException") (by decide +kernel)⟩, (fun _ h => absurd h List.not_mem_nil)⟩) rfl (by decide) (hts (.classLink RL 15 "java/lang/IllegalArgumentException") (List.mem_of_getElem? (i := 2) rfl)) (va_Nw.use rfl (hE.1 "java/lang/IllegalArgumentException" zXm_iarg)) hce hcv hcl ?_
  refine lv_astore (lv' := [(5, .ref q9), (0, .ref (a0 0)), (1, .int (iI p1)), (2, .int (iI p2)), (3, .int (iI p3)), (4, .ref (o1 0))]) hx hb dL_make_19 hl (by decide) rfl (fun ls hl => ?_)
  refine lv_iconst (v := iI 2) hx hb dL_make_21 rfl ?_
  exact vx_ret (z_iret hx hb hr hlocks hP hS dL_make_22 rfl rfl (Nat.le_of_ble_eq_true rfl) (Nat.le_of_ble_eq_true rfl))
set_option maxHeartbeats 4000000 in
set_option maxRecDepth 100000 in
theorem c_L_make_r (l : Launch) (hst : l.stackTraces = false) (D : va_G) (k : Nat → ClassId) (a0 : Nat → Nat) (o1 : Nat → Nat) (S0 : Nat → Nat → Int) (S1 : Nat → Nat → Int) (S2 : Nat → Nat → Int) (p1 : Int) (p2 : Int) (p3 : Int) (hp : pOK S1) (h0 : -2147483648 ≤ p1 ∧ p1 < 2147483648) (h1 : -2147483648 ≤ p2 ∧ p2 < 2147483648) (h2 : -2147483648 ≤ p3 ∧ p3 < 2147483648) (hv : 1 ≤ sp_X5_verdictOn S1 109 p1 p2 p3 ∧ sp_X5_verdictOn S1 109 p1 p2 p3 ≤ 5) : zML l yL_make wsL_make ({ frames := 8, cells := 1, slots := 6, locals := 138 } : Room) D k [.ref (a0 0), .int (iI p1), .int (iI p2), .int (iI p3), .ref (o1 0)] (wFac k a0 S0 ++ (wPlant k (subA a0 1) S1 ++ wArrJ k o1 S2)) (3) (wFac k a0 (up2 (up2 S0 0 9 ((sp_X5_verdictOn S1 109 p1 p2 p3))) 0 10 (sp_X5_detailOf S1 (sp_X5_verdictOn S1 109 p1 p2 p3) 109 p1)) ++ (wPlant k (subA a0 1) S1 ++ wArrJ k o1 S2)) 1 6 := by
  refine zML_of (cc := cL_make) (maxL := 6) (ret := (some .int)) (hh := [(0, 12, 15, 13), (0, 12, 19, 15), (0, 12, 23, 17)]) (by decide) rfl (Nat.le_of_ble_eq_true rfl) ?_
  intro p e s m args below meth c A ls hx hb hr hml hown hts hlocks hK hP hD hG hE hT hA hS hl
  have hown : s.vm.findClass RL = some m.cls := hown
  have hl : lv_has ls 6 [(0, .ref (a0 0)), (1, .int (iI p1)), (2, .int (iI p2)), (3, .int (iI p3)), (4, .ref (o1 0))] := hl
  obtain ⟨H, hH⟩ : ∃ z, z = s.heap := ⟨_, rfl⟩
  obtain ⟨locs, hlc⟩ : ∃ z : List Loc, z = [] := ⟨_, rfl⟩
  rw [← hH] at hP
  have hS : va_S A s.heap H locs := by rw [hH, hlc]; exact hS
  rw [← hlc, ← hH]
  clear hlc hH
  have kp := hp.2
  refine lv_aload hx hb dL_make_0 (lv_at hl 4 rfl) ?_
  refine lv_iconst (v := iI 0) hx hb dL_make_2 rfl ?_
  refine lv_aload_n hx hb dL_make_3 rfl (lv_at hl 0 rfl) ?_
  refine lv_iload_n hx hb dL_make_4 rfl (lv_at hl 1 rfl) ?_
  refine lv_iload_n hx hb dL_make_5 rfl (lv_at hl 2 rfl) ?_
  refine lv_iload_n hx hb dL_make_6 rfl (lv_at hl 3 rfl) ?_
  refine z_axc (vx_runV (As := [.int (iI p1), .int (iI p2), .int (iI p3)]) (rest := [.int (iI 0), .ref (o1 0)]) ⟨hx, hb, hml, hown, hts⟩ (c_X7_make_r l hst D k a0 S0 S1  p1 p2 p3 hp (by omega) (by omega) (by omega) hv _) (cwV 3 hts gL_make_X7_make rfl rfl rfl (by decide +kernel) ⟨(Nat.le_of_ble_eq_true rfl), (Nat.le_of_ble_eq_true rfl)⟩) (z_preVx hK hG hE hA hP hD hS (zrg 0 1 ++ zrg 1 15) (z_mcat (z_hd (n := 1) rfl) (z_sk (n := 1) (off := 0) (m := 15) rfl (z_hd (n := 15) rfl))) (by decide +kernel) 9 rfl rfl) rfl rfl hl.1 rfl (lv_room (Nat.le_of_ble_eq_true rfl)) dL_make_7 ⟨(Nat.le_of_ble_eq_true rfl), (Nat.le_of_ble_eq_true rfl)⟩) hA hP hD hS (zrg 0 1 ++ zrg 1 15) (z_mcat (z_hd (n := 1) rfl) (z_sk (n := 1) (off := 0) (m := 15) rfl (z_hd (n := 15) rfl))) (z_mfst rfl rfl) (fun ce q9 H locs hP hD hS hce hcv hcl => ?_)
  have hz_2 : zset (wFac k a0 S0 ++ (wPlant k (subA a0 1) S1 ++ wArrJ k o1 S2)) (zrg 0 1) (wFac k a0 (up2 (up2 S0 0 9 ((sp_X5_verdictOn S1 109 p1 p2 p3))) 0 10 (sp_X5_detailOf S1 (sp_X5_verdictOn S1 109 p1 p2 p3) 109 p1))) = wFac k a0 (up2 (up2 S0 0 9 ((sp_X5_verdictOn S1 109 p1 p2 p3))) 0 10 (sp_X5_detailOf S1 (sp_X5_verdictOn S1 109 p1 p2 p3) 109 p1)) ++ (wPlant k (subA a0 1) S1 ++ wArrJ k o1 S2) := (z_zhd (n := 1) rfl rfl)
  have hz_3 : zset (wFac k a0 (up2 (up2 S0 0 9 ((sp_X5_verdictOn S1 109 p1 p2 p3))) 0 10 (sp_X5_detailOf S1 (sp_X5_verdictOn S1 109 p1 p2 p3) 109 p1)) ++ (wPlant k (subA a0 1) S1 ++ wArrJ k o1 S2)) (zrg 1 15) (wPlant k (subA a0 1) S1) = wFac k a0 (up2 (up2 S0 0 9 ((sp_X5_verdictOn S1 109 p1 p2 p3))) 0 10 (sp_X5_detailOf S1 (sp_X5_verdictOn S1 109 p1 p2 p3) 109 p1)) ++ (wPlant k (subA a0 1) S1 ++ wArrJ k o1 S2) := (z_zsk (n := 1) (off := 0) (m := 15) rfl (z_zhd (n := 15) rfl rfl))
  have hE_1 : zset (wFac k a0 S0 ++ (wPlant k (subA a0 1) S1 ++ wArrJ k o1 S2)) (zrg 0 1 ++ zrg 1 15) (wFac k a0 (up2 (up2 S0 0 9 ((sp_X5_verdictOn S1 109 p1 p2 p3))) 0 10 (sp_X5_detailOf S1 (sp_X5_verdictOn S1 109 p1 p2 p3) 109 p1)) ++ wPlant k (subA a0 1) S1) = wFac k a0 (up2 (up2 S0 0 9 ((sp_X5_verdictOn S1 109 p1 p2 p3))) 0 10 (sp_X5_detailOf S1 (sp_X5_verdictOn S1 109 p1 p2 p3) 109 p1)) ++ (wPlant k (subA a0 1) S1 ++ wArrJ k o1 S2) := (z_zcat rfl hz_2 hz_3)
  have hP : va_P D vwCl (wFac k a0 (up2 (up2 S0 0 9 ((sp_X5_verdictOn S1 109 p1 p2 p3))) 0 10 (sp_X5_detailOf S1 (sp_X5_verdictOn S1 109 p1 p2 p3) 109 p1)) ++ (wPlant k (subA a0 1) S1 ++ wArrJ k o1 S2)) H := z_to hE_1 hP
  have hD : va_D A (wFac k a0 (up2 (up2 S0 0 9 ((sp_X5_verdictOn S1 109 p1 p2 p3))) 0 10 (sp_X5_detailOf S1 (sp_X5_verdictOn S1 109 p1 p2 p3) 109 p1)) ++ (wPlant k (subA a0 1) S1 ++ wArrJ k o1 S2)) := z_to2 hE_1 hD
  refine vx_catch (name := "java/lang/UnsupportedOperationException") (E := "java/lang/UnsupportedOperationException") hown [(⟨0, 12, 15, 13⟩ : ExceptionTableEntry), (⟨0, 12, 19, 15⟩ : ExceptionTableEntry)] (⟨0, 12, 23, 17⟩ : ExceptionTableEntry) [] (hT.trans rfl) (List.forall_mem_cons.mpr ⟨Or.inr ⟨by decide, _, (hts (.classLink RL 13 "java/lang/IndexOutOfBoundsException") (List.mem_of_getElem? (i := 1) rfl)), hE.2.2 ("java/lang/UnsupportedOperationException", "java/lang/IndexOutOfBoundsException") (by decide +kernel)⟩, (List.forall_mem_cons.mpr ⟨Or.inr ⟨by decide, _, (hts (.classLink RL 15 "java/lang/IllegalArgumentException") (List.mem_of_getElem? (i := 2) rfl)), hE.2.2 ("java/lang/UnsupportedOperationException", "java/lang/IllegalArgumentException") (by decide +kernel)⟩, (fun _ h => absurd h List.not_mem_nil)⟩)⟩) rfl (by decide) (hts (.classLink RL 17 "java/lang/UnsupportedOperationException") (List.mem_of_getElem? (i := 3) rfl)) (va_Nw.use rfl (hE.1 "java/lang/UnsupportedOperationException" zXm_unsu)) hce hcv hcl ?_
  refine lv_astore (lv' := [(5, .ref q9), (0, .ref (a0 0)), (1, .int (iI p1)), (2, .int (iI p2)), (3, .int (iI p3)), (4, .ref (o1 0))]) hx hb dL_make_23 hl (by decide) rfl (fun ls hl => ?_)
  refine lv_iconst (v := iI 3) hx hb dL_make_25 rfl ?_
  exact vx_ret (z_iret hx hb hr hlocks hP hS dL_make_26 rfl rfl (Nat.le_of_ble_eq_true rfl) (Nat.le_of_ble_eq_true rfl))
set_option maxHeartbeats 4000000 in
set_option maxRecDepth 100000 in
theorem c_L_blank_ok (l : Launch) (hst : l.stackTraces = false) (D : va_G) (k : Nat → ClassId) (a0 : Nat → Nat) (o1 : Nat → Nat) (S0 : Nat → Nat → Int) (S1 : Nat → Nat → Int) (S2 : Nat → Nat → Int) (S3 : Nat → Nat → Int) (S4 : Nat → Nat → Int) (i0 : Nat) (p1 : Int) (hp : pOK S1) (h0 : -2147483648 ≤ p1 ∧ p1 < 2147483648) (hv : sp_X5_verdictOn S1 98 p1 0 0 = 0) (hi : S2 0 1 = (i0 : Int) ∧ i0 < 8) (hcn : 0 ≤ S2 0 2 ∧ S2 0 2 ≤ 8) : zML l yL_blank wsL_blank ({ frames := 7, cells := 1, slots := 6, locals := 176 } : Room) D k [.ref (a0 0), .int (iI p1), .ref (o1 0)] (wFac k a0 S0 ++ (wPlant k (subA a0 1) S1 ++ (wHist k (subA a0 61) S2 ++ (wPlant k (subA (subA a0 61) (2 + 15 * i0)) S3 ++ wArrJ k o1 S4)))) (0) (wFac k a0 S0 ++ (wPlant k (subA a0 1) ((wCarry S1 98 p1 0 0)) ++ (wHist k (subA a0 61) (up2 (up2 S2 0 1 (((S2 0 1) + 1) % 8)) 0 2 (min ((S2 0 2) + 1) 8)) ++ (wPlant k (subA (subA a0 61) (2 + 15 * i0)) ((wCopy S3 S1)) ++ wArrJ k o1 (up2 S4 0 0 (sp_X5_carryOut S1 98 p1 0 0)))))) 1 6 := by
  refine zML_of (cc := cL_blank) (maxL := 4) (ret := (some .int)) (hh := [(0, 9, 12, 13), (0, 9, 15, 17)]) (by decide) rfl (Nat.le_of_ble_eq_true rfl) ?_
  intro p e s m args below meth c A ls hx hb hr hml hown hts hlocks hK hP hD hG hE hT hA hS hl
  have hown : s.vm.findClass RL = some m.cls := hown
  have hl : lv_has ls 4 [(0, .ref (a0 0)), (1, .int (iI p1)), (2, .ref (o1 0))] := hl
  obtain ⟨H, hH⟩ : ∃ z, z = s.heap := ⟨_, rfl⟩
  obtain ⟨locs, hlc⟩ : ∃ z : List Loc, z = [] := ⟨_, rfl⟩
  rw [← hH] at hP
  have hS : va_S A s.heap H locs := by rw [hH, hlc]; exact hS
  rw [← hlc, ← hH]
  clear hlc hH
  have kp := hp.2
  refine lv_aload_n hx hb dL_blank_0 rfl (lv_at hl 2 rfl) ?_
  refine lv_iconst (v := iI 0) hx hb dL_blank_1 rfl ?_
  refine lv_aload_n hx hb dL_blank_2 rfl (lv_at hl 0 rfl) ?_
  refine lv_iload_n hx hb dL_blank_3 rfl (lv_at hl 1 rfl) ?_
  refine z_ai (va_runV (As := [.int (iI p1)]) (rest := [.int (iI 0), .ref (o1 0)]) ⟨hx, hb, hml, hown, hts⟩ (c_X7_blank_ok l D k a0 S0 S1 S2 S3 i0 p1 hp (by omega) hv hi hcn _) (cwV 1 hts gL_blank_X7_blank rfl rfl rfl (by decide +kernel) ⟨(Nat.le_of_ble_eq_true rfl), (Nat.le_of_ble_eq_true rfl)⟩) (z_preV hK hG hA hP hD hS (zrg 0 1 ++ (zrg 1 15 ++ (zrg 16 2 ++ zrg 18 15))) (z_mcat (z_hd (n := 1) rfl) (z_mcat (z_sk (n := 1) (off := 0) (m := 15) rfl (z_hd (n := 15) rfl)) (z_mcat (z_sk (n := 1) (off := 15) (m := 2) rfl (z_sk (n := 15) (off := 0) (m := 2) rfl (z_hd (n := 2) rfl))) (z_sk (n := 1) (off := 17) (m := 15) rfl (z_sk (n := 15) (off := 2) (m := 15) rfl (z_sk (n := 2) (off := 0) (m := 15) rfl (z_hd (n := 15) rfl))))))) (by decide +kernel) 9 rfl rfl) rfl rfl hl.1 rfl (lv_room (Nat.le_of_ble_eq_true rfl)) dL_blank_4 ⟨(Nat.le_of_ble_eq_true rfl), (Nat.le_of_ble_eq_true rfl)⟩) hA hP hD hS (zrg 0 1 ++ (zrg 1 15 ++ (zrg 16 2 ++ zrg 18 15))) (z_mcat (z_hd (n := 1) rfl) (z_mcat (z_sk (n := 1) (off := 0) (m := 15) rfl (z_hd (n := 15) rfl)) (z_mcat (z_sk (n := 1) (off := 15) (m := 2) rfl (z_sk (n := 15) (off := 0) (m := 2) rfl (z_hd (n := 2) rfl))) (z_sk (n := 1) (off := 17) (m := 15) rfl (z_sk (n := 15) (off := 2) (m := 15) rfl (z_sk (n := 2) (off := 0) (m := 15) rfl (z_hd (n := 15) rfl))))))) (z_mfst rfl (z_mfst rfl (z_mfst rfl rfl))) (fun H locs hP hD hS => ?_)
  have hz_2 : zset (wFac k a0 S0 ++ (wPlant k (subA a0 1) S1 ++ (wHist k (subA a0 61) S2 ++ (wPlant k (subA (subA a0 61) (2 + 15 * i0)) S3 ++ wArrJ k o1 S4)))) (zrg 0 1) (wFac k a0 S0) = wFac k a0 S0 ++ (wPlant k (subA a0 1) S1 ++ (wHist k (subA a0 61) S2 ++ (wPlant k (subA (subA a0 61) (2 + 15 * i0)) S3 ++ wArrJ k o1 S4))) := (z_zhd (n := 1) rfl rfl)
  have hz_3 : zset (wFac k a0 S0 ++ (wPlant k (subA a0 1) S1 ++ (wHist k (subA a0 61) S2 ++ (wPlant k (subA (subA a0 61) (2 + 15 * i0)) S3 ++ wArrJ k o1 S4)))) (zrg 1 15) (wPlant k (subA a0 1) ((wCarry S1 98 p1 0 0))) = wFac k a0 S0 ++ (wPlant k (subA a0 1) ((wCarry S1 98 p1 0 0)) ++ (wHist k (subA a0 61) S2 ++ (wPlant k (subA (subA a0 61) (2 + 15 * i0)) S3 ++ wArrJ k o1 S4))) := (z_zsk (n := 1) (off := 0) (m := 15) rfl (z_zhd (n := 15) rfl rfl))
  have hz_4 : zset (wFac k a0 S0 ++ (wPlant k (subA a0 1) ((wCarry S1 98 p1 0 0)) ++ (wHist k (subA a0 61) S2 ++ (wPlant k (subA (subA a0 61) (2 + 15 * i0)) S3 ++ wArrJ k o1 S4)))) (zrg 16 2) (wHist k (subA a0 61) (up2 (up2 S2 0 1 (((S2 0 1) + 1) % 8)) 0 2 (min ((S2 0 2) + 1) 8))) = wFac k a0 S0 ++ (wPlant k (subA a0 1) ((wCarry S1 98 p1 0 0)) ++ (wHist k (subA a0 61) (up2 (up2 S2 0 1 (((S2 0 1) + 1) % 8)) 0 2 (min ((S2 0 2) + 1) 8)) ++ (wPlant k (subA (subA a0 61) (2 + 15 * i0)) S3 ++ wArrJ k o1 S4))) := (z_zsk (n := 1) (off := 15) (m := 2) rfl (z_zsk (n := 15) (off := 0) (m := 2) rfl (z_zhd (n := 2) rfl rfl)))
  have hz_5 : zset (wFac k a0 S0 ++ (wPlant k (subA a0 1) ((wCarry S1 98 p1 0 0)) ++ (wHist k (subA a0 61) (up2 (up2 S2 0 1 (((S2 0 1) + 1) % 8)) 0 2 (min ((S2 0 2) + 1) 8)) ++ (wPlant k (subA (subA a0 61) (2 + 15 * i0)) S3 ++ wArrJ k o1 S4)))) (zrg 18 15) (wPlant k (subA (subA a0 61) (2 + 15 * i0)) ((wCopy S3 S1))) = wFac k a0 S0 ++ (wPlant k (subA a0 1) ((wCarry S1 98 p1 0 0)) ++ (wHist k (subA a0 61) (up2 (up2 S2 0 1 (((S2 0 1) + 1) % 8)) 0 2 (min ((S2 0 2) + 1) 8)) ++ (wPlant k (subA (subA a0 61) (2 + 15 * i0)) ((wCopy S3 S1)) ++ wArrJ k o1 S4))) := (z_zsk (n := 1) (off := 17) (m := 15) rfl (z_zsk (n := 15) (off := 2) (m := 15) rfl (z_zsk (n := 2) (off := 0) (m := 15) rfl (z_zhd (n := 15) rfl rfl))))
  have hE_1 : zset (wFac k a0 S0 ++ (wPlant k (subA a0 1) S1 ++ (wHist k (subA a0 61) S2 ++ (wPlant k (subA (subA a0 61) (2 + 15 * i0)) S3 ++ wArrJ k o1 S4)))) (zrg 0 1 ++ (zrg 1 15 ++ (zrg 16 2 ++ zrg 18 15))) (wFac k a0 S0 ++ (wPlant k (subA a0 1) ((wCarry S1 98 p1 0 0)) ++ (wHist k (subA a0 61) (up2 (up2 S2 0 1 (((S2 0 1) + 1) % 8)) 0 2 (min ((S2 0 2) + 1) 8)) ++ wPlant k (subA (subA a0 61) (2 + 15 * i0)) ((wCopy S3 S1))))) = wFac k a0 S0 ++ (wPlant k (subA a0 1) ((wCarry S1 98 p1 0 0)) ++ (wHist k (subA a0 61) (up2 (up2 S2 0 1 (((S2 0 1) + 1) % 8)) 0 2 (min ((S2 0 2) + 1) 8)) ++ (wPlant k (subA (subA a0 61) (2 + 15 * i0)) ((wCopy S3 S1)) ++ wArrJ k o1 S4))) := (z_zcat rfl hz_2 (z_zcat rfl hz_3 (z_zcat rfl hz_4 hz_5)))
  have hP : va_P D vwCl (wFac k a0 S0 ++ (wPlant k (subA a0 1) ((wCarry S1 98 p1 0 0)) ++ (wHist k (subA a0 61) (up2 (up2 S2 0 1 (((S2 0 1) + 1) % 8)) 0 2 (min ((S2 0 2) + 1) 8)) ++ (wPlant k (subA (subA a0 61) (2 + 15 * i0)) ((wCopy S3 S1)) ++ wArrJ k o1 S4)))) H := z_to hE_1 hP
  have hD : va_D A (wFac k a0 S0 ++ (wPlant k (subA a0 1) ((wCarry S1 98 p1 0 0)) ++ (wHist k (subA a0 61) (up2 (up2 S2 0 1 (((S2 0 1) + 1) % 8)) 0 2 (min ((S2 0 2) + 1) 8)) ++ (wPlant k (subA (subA a0 61) (2 + 15 * i0)) ((wCopy S3 S1)) ++ wArrJ k o1 S4)))) := z_to2 hE_1 hD
  refine lv_i2l (v := (iI (sp_X5_carryOut S1 98 p1 0 0)).toInt64) hx hb dL_blank_7 rfl ?_
  refine z_last hx hb hK hP hD hS 33 4 (f := S4 0) rfl rfl (i := 0) (by omega) (by omega) (by decide) 0 rfl dL_blank_8 (fun H locs hP hD hS => ?_)
  have hP : va_P D vwCl (wFac k a0 S0 ++ (wPlant k (subA a0 1) ((wCarry S1 98 p1 0 0)) ++ (wHist k (subA a0 61) (up2 (up2 S2 0 1 (((S2 0 1) + 1) % 8)) 0 2 (min ((S2 0 2) + 1) 8)) ++ (wPlant k (subA (subA a0 61) (2 + 15 * i0)) ((wCopy S3 S1)) ++ wArrJ k o1 (up2 S4 0 0 (sp_X5_carryOut S1 98 p1 0 0)))))) H := hP
  have hD : va_D A (wFac k a0 S0 ++ (wPlant k (subA a0 1) ((wCarry S1 98 p1 0 0)) ++ (wHist k (subA a0 61) (up2 (up2 S2 0 1 (((S2 0 1) + 1) % 8)) 0 2 (min ((S2 0 2) + 1) 8)) ++ (wPlant k (subA (subA a0 61) (2 + 15 * i0)) ((wCopy S3 S1)) ++ wArrJ k o1 (up2 S4 0 0 (sp_X5_carryOut S1 98 p1 0 0)))))) := hD
  refine lv_goto (tgt := 18) hx hb dL_blank_9 (by decide) ?_
  refine lv_iconst (v := iI 0) hx hb dL_blank_18 rfl ?_
  exact vx_ret (z_iret hx hb hr hlocks hP hS dL_blank_19 rfl rfl (Nat.le_of_ble_eq_true rfl) (Nat.le_of_ble_eq_true rfl))
set_option maxHeartbeats 4000000 in
set_option maxRecDepth 100000 in
theorem c_L_blank_6 (l : Launch) (hst : l.stackTraces = false) (D : va_G) (k : Nat → ClassId) (a0 : Nat → Nat) (o1 : Nat → Nat) (S0 : Nat → Nat → Int) (S1 : Nat → Nat → Int) (S2 : Nat → Nat → Int) (p1 : Int) (hp : pOK S1) (h0 : -2147483648 ≤ p1 ∧ p1 < 2147483648) (hv : sp_X5_verdictOn S1 98 p1 0 0 = 6) : zML l yL_blank wsL_blank ({ frames := 8, cells := 1, slots := 6, locals := 135 } : Room) D k [.ref (a0 0), .int (iI p1), .ref (o1 0)] (wFac k a0 S0 ++ (wPlant k (subA a0 1) S1 ++ wArrJ k o1 S2)) (1) (wFac k a0 S0 ++ (wPlant k (subA a0 1) S1 ++ wArrJ k o1 S2)) 1 6 := by
  refine zML_of (cc := cL_blank) (maxL := 4) (ret := (some .int)) (hh := [(0, 9, 12, 13), (0, 9, 15, 17)]) (by decide) rfl (Nat.le_of_ble_eq_true rfl) ?_
  intro p e s m args below meth c A ls hx hb hr hml hown hts hlocks hK hP hD hG hE hT hA hS hl
  have hown : s.vm.findClass RL = some m.cls := hown
  have hl : lv_has ls 4 [(0, .ref (a0 0)), (1, .int (iI p1)), (2, .ref (o1 0))] := hl
  obtain ⟨H, hH⟩ : ∃ z, z = s.heap := ⟨_, rfl⟩
  obtain ⟨locs, hlc⟩ : ∃ z : List Loc, z = [] := ⟨_, rfl⟩
  rw [← hH] at hP
  have hS : va_S A s.heap H locs := by rw [hH, hlc]; exact hS
  rw [← hlc, ← hH]
  clear hlc hH
  have kp := hp.2
  refine lv_aload_n hx hb dL_blank_0 rfl (lv_at hl 2 rfl) ?_
  refine lv_iconst (v := iI 0) hx hb dL_blank_1 rfl ?_
  refine lv_aload_n hx hb dL_blank_2 rfl (lv_at hl 0 rfl) ?_
  refine lv_iload_n hx hb dL_blank_3 rfl (lv_at hl 1 rfl) ?_
  refine z_axc0 (vx_runV (As := [.int (iI p1)]) (rest := [.int (iI 0), .ref (o1 0)]) ⟨hx, hb, hml, hown, hts⟩ (c_X7_blank_6 l hst D k a0 S0 S1  p1 hp (by omega) hv _) (cwV 1 hts gL_blank_X7_blank rfl rfl rfl (by decide +kernel) ⟨(Nat.le_of_ble_eq_true rfl), (Nat.le_of_ble_eq_true rfl)⟩) (z_preVx hK hG hE hA hP hD hS (zrg 0 1 ++ zrg 1 15) (z_mcat (z_hd (n := 1) rfl) (z_sk (n := 1) (off := 0) (m := 15) rfl (z_hd (n := 15) rfl))) (by decide +kernel) 9 rfl rfl) rfl rfl hl.1 rfl (lv_room (Nat.le_of_ble_eq_true rfl)) dL_blank_4 ⟨(Nat.le_of_ble_eq_true rfl), (Nat.le_of_ble_eq_true rfl)⟩) hA hP hD hS (zrg 0 1 ++ zrg 1 15) (z_mcat (z_hd (n := 1) rfl) (z_sk (n := 1) (off := 0) (m := 15) rfl (z_hd (n := 15) rfl))) (fun ce q9 H locs hP hS hce hcv hcl => ?_)
  refine vx_catch (name := "java/lang/IndexOutOfBoundsException") (E := "java/lang/IndexOutOfBoundsException") hown [] (⟨0, 9, 12, 13⟩ : ExceptionTableEntry) [(⟨0, 9, 15, 17⟩ : ExceptionTableEntry)] (hT.trans rfl) (fun _ h => absurd h List.not_mem_nil) rfl (by decide) (hts (.classLink RL 13 "java/lang/IndexOutOfBoundsException") (List.mem_of_getElem? (i := 1) rfl)) (va_Nw.use rfl (hE.1 "java/lang/IndexOutOfBoundsException" zXm_ioob)) hce hcv hcl ?_
  refine lv_astore_n (lv' := [(3, .ref q9), (0, .ref (a0 0)), (1, .int (iI p1)), (2, .ref (o1 0))]) hx hb dL_blank_12 rfl hl (by decide) rfl (fun ls hl => ?_)
  refine lv_iconst (v := iI 1) hx hb dL_blank_13 rfl ?_
  exact vx_ret (z_iret hx hb hr hlocks hP hS dL_blank_14 rfl rfl (Nat.le_of_ble_eq_true rfl) (Nat.le_of_ble_eq_true rfl))
set_option maxHeartbeats 4000000 in
set_option maxRecDepth 100000 in
theorem c_L_blank_r (l : Launch) (hst : l.stackTraces = false) (D : va_G) (k : Nat → ClassId) (a0 : Nat → Nat) (o1 : Nat → Nat) (S0 : Nat → Nat → Int) (S1 : Nat → Nat → Int) (S2 : Nat → Nat → Int) (p1 : Int) (hp : pOK S1) (h0 : -2147483648 ≤ p1 ∧ p1 < 2147483648) (hv : 1 ≤ sp_X5_verdictOn S1 98 p1 0 0 ∧ sp_X5_verdictOn S1 98 p1 0 0 ≤ 5) : zML l yL_blank wsL_blank ({ frames := 8, cells := 1, slots := 6, locals := 136 } : Room) D k [.ref (a0 0), .int (iI p1), .ref (o1 0)] (wFac k a0 S0 ++ (wPlant k (subA a0 1) S1 ++ wArrJ k o1 S2)) (2) (wFac k a0 (up2 (up2 S0 0 9 ((sp_X5_verdictOn S1 98 p1 0 0))) 0 10 (sp_X5_detailOf S1 (sp_X5_verdictOn S1 98 p1 0 0) 98 p1)) ++ (wPlant k (subA a0 1) S1 ++ wArrJ k o1 S2)) 1 6 := by
  refine zML_of (cc := cL_blank) (maxL := 4) (ret := (some .int)) (hh := [(0, 9, 12, 13), (0, 9, 15, 17)]) (by decide) rfl (Nat.le_of_ble_eq_true rfl) ?_
  intro p e s m args below meth c A ls hx hb hr hml hown hts hlocks hK hP hD hG hE hT hA hS hl
  have hown : s.vm.findClass RL = some m.cls := hown
  have hl : lv_has ls 4 [(0, .ref (a0 0)), (1, .int (iI p1)), (2, .ref (o1 0))] := hl
  obtain ⟨H, hH⟩ : ∃ z, z = s.heap := ⟨_, rfl⟩
  obtain ⟨locs, hlc⟩ : ∃ z : List Loc, z = [] := ⟨_, rfl⟩
  rw [← hH] at hP
  have hS : va_S A s.heap H locs := by rw [hH, hlc]; exact hS
  rw [← hlc, ← hH]
  clear hlc hH
  have kp := hp.2
  refine lv_aload_n hx hb dL_blank_0 rfl (lv_at hl 2 rfl) ?_
  refine lv_iconst (v := iI 0) hx hb dL_blank_1 rfl ?_
  refine lv_aload_n hx hb dL_blank_2 rfl (lv_at hl 0 rfl) ?_
  refine lv_iload_n hx hb dL_blank_3 rfl (lv_at hl 1 rfl) ?_
  refine z_axc (vx_runV (As := [.int (iI p1)]) (rest := [.int (iI 0), .ref (o1 0)]) ⟨hx, hb, hml, hown, hts⟩ (c_X7_blank_r l hst D k a0 S0 S1  p1 hp (by omega) hv _) (cwV 1 hts gL_blank_X7_blank rfl rfl rfl (by decide +kernel) ⟨(Nat.le_of_ble_eq_true rfl), (Nat.le_of_ble_eq_true rfl)⟩) (z_preVx hK hG hE hA hP hD hS (zrg 0 1 ++ zrg 1 15) (z_mcat (z_hd (n := 1) rfl) (z_sk (n := 1) (off := 0) (m := 15) rfl (z_hd (n := 15) rfl))) (by decide +kernel) 9 rfl rfl) rfl rfl hl.1 rfl (lv_room (Nat.le_of_ble_eq_true rfl)) dL_blank_4 ⟨(Nat.le_of_ble_eq_true rfl), (Nat.le_of_ble_eq_true rfl)⟩) hA hP hD hS (zrg 0 1 ++ zrg 1 15) (z_mcat (z_hd (n := 1) rfl) (z_sk (n := 1) (off := 0) (m := 15) rfl (z_hd (n := 15) rfl))) (z_mfst rfl rfl) (fun ce q9 H locs hP hD hS hce hcv hcl => ?_)
  have hz_2 : zset (wFac k a0 S0 ++ (wPlant k (subA a0 1) S1 ++ wArrJ k o1 S2)) (zrg 0 1) (wFac k a0 (up2 (up2 S0 0 9 ((sp_X5_verdictOn S1 98 p1 0 0))) 0 10 (sp_X5_detailOf S1 (sp_X5_verdictOn S1 98 p1 0 0) 98 p1))) = wFac k a0 (up2 (up2 S0 0 9 ((sp_X5_verdictOn S1 98 p1 0 0))) 0 10 (sp_X5_detailOf S1 (sp_X5_verdictOn S1 98 p1 0 0) 98 p1)) ++ (wPlant k (subA a0 1) S1 ++ wArrJ k o1 S2) := (z_zhd (n := 1) rfl rfl)
  have hz_3 : zset (wFac k a0 (up2 (up2 S0 0 9 ((sp_X5_verdictOn S1 98 p1 0 0))) 0 10 (sp_X5_detailOf S1 (sp_X5_verdictOn S1 98 p1 0 0) 98 p1)) ++ (wPlant k (subA a0 1) S1 ++ wArrJ k o1 S2)) (zrg 1 15) (wPlant k (subA a0 1) S1) = wFac k a0 (up2 (up2 S0 0 9 ((sp_X5_verdictOn S1 98 p1 0 0))) 0 10 (sp_X5_detailOf S1 (sp_X5_verdictOn S1 98 p1 0 0) 98 p1)) ++ (wPlant k (subA a0 1) S1 ++ wArrJ k o1 S2) := (z_zsk (n := 1) (off := 0) (m := 15) rfl (z_zhd (n := 15) rfl rfl))
  have hE_1 : zset (wFac k a0 S0 ++ (wPlant k (subA a0 1) S1 ++ wArrJ k o1 S2)) (zrg 0 1 ++ zrg 1 15) (wFac k a0 (up2 (up2 S0 0 9 ((sp_X5_verdictOn S1 98 p1 0 0))) 0 10 (sp_X5_detailOf S1 (sp_X5_verdictOn S1 98 p1 0 0) 98 p1)) ++ wPlant k (subA a0 1) S1) = wFac k a0 (up2 (up2 S0 0 9 ((sp_X5_verdictOn S1 98 p1 0 0))) 0 10 (sp_X5_detailOf S1 (sp_X5_verdictOn S1 98 p1 0 0) 98 p1)) ++ (wPlant k (subA a0 1) S1 ++ wArrJ k o1 S2) := (z_zcat rfl hz_2 hz_3)
  have hP : va_P D vwCl (wFac k a0 (up2 (up2 S0 0 9 ((sp_X5_verdictOn S1 98 p1 0 0))) 0 10 (sp_X5_detailOf S1 (sp_X5_verdictOn S1 98 p1 0 0) 98 p1)) ++ (wPlant k (subA a0 1) S1 ++ wArrJ k o1 S2)) H := z_to hE_1 hP
  have hD : va_D A (wFac k a0 (up2 (up2 S0 0 9 ((sp_X5_verdictOn S1 98 p1 0 0))) 0 10 (sp_X5_detailOf S1 (sp_X5_verdictOn S1 98 p1 0 0) 98 p1)) ++ (wPlant k (subA a0 1) S1 ++ wArrJ k o1 S2)) := z_to2 hE_1 hD
  refine vx_catch (name := "java/lang/UnsupportedOperationException") (E := "java/lang/UnsupportedOperationException") hown [(⟨0, 9, 12, 13⟩ : ExceptionTableEntry)] (⟨0, 9, 15, 17⟩ : ExceptionTableEntry) [] (hT.trans rfl) (List.forall_mem_cons.mpr ⟨Or.inr ⟨by decide, _, (hts (.classLink RL 13 "java/lang/IndexOutOfBoundsException") (List.mem_of_getElem? (i := 1) rfl)), hE.2.2 ("java/lang/UnsupportedOperationException", "java/lang/IndexOutOfBoundsException") (by decide +kernel)⟩, (fun _ h => absurd h List.not_mem_nil)⟩) rfl (by decide) (hts (.classLink RL 17 "java/lang/UnsupportedOperationException") (List.mem_of_getElem? (i := 2) rfl)) (va_Nw.use rfl (hE.1 "java/lang/UnsupportedOperationException" zXm_unsu)) hce hcv hcl ?_
  refine lv_astore_n (lv' := [(3, .ref q9), (0, .ref (a0 0)), (1, .int (iI p1)), (2, .ref (o1 0))]) hx hb dL_blank_15 rfl hl (by decide) rfl (fun ls hl => ?_)
  refine lv_iconst (v := iI 2) hx hb dL_blank_16 rfl ?_
  exact vx_ret (z_iret hx hb hr hlocks hP hS dL_blank_17 rfl rfl (Nat.le_of_ble_eq_true rfl) (Nat.le_of_ble_eq_true rfl))
set_option maxHeartbeats 4000000 in
set_option maxRecDepth 100000 in
theorem c_L_tell_ok (l : Launch) (hst : l.stackTraces = false) (D : va_G) (k : Nat → ClassId) (a0 : Nat → Nat) (o1 : Nat → Nat) (S0 : Nat → Nat → Int) (S1 : Nat → Nat → Int) (S2 : Nat → Nat → Int) (S3 : Nat → Nat → Int) (S4 : Nat → Nat → Int) (i0 : Nat) (p1 : Int) (p2 : Int) (p3 : Int) (hp : pOK S1) (h0 : -2147483648 ≤ p1 ∧ p1 < 2147483648) (h1 : -2147483648 ≤ p2 ∧ p2 < 2147483648) (h2 : -2147483648 ≤ p3 ∧ p3 < 2147483648) (hv : sp_X5_verdictOn S1 116 p1 p2 p3 = 0) (hi : S2 0 1 = (i0 : Int) ∧ i0 < 8) (hcn : 0 ≤ S2 0 2 ∧ S2 0 2 ≤ 8) : zML l yL_tell wsL_tell ({ frames := 7, cells := 1, slots := 6, locals := 178 } : Room) D k [.ref (a0 0), .int (iI p1), .int (iI p2), .int (iI p3), .ref (o1 0)] (wFac k a0 S0 ++ (wPlant k (subA a0 1) S1 ++ (wHist k (subA a0 61) S2 ++ (wPlant k (subA (subA a0 61) (2 + 15 * i0)) S3 ++ wArrJ k o1 S4)))) (0) (wFac k a0 S0 ++ (wPlant k (subA a0 1) ((wCarry S1 116 p1 p2 p3)) ++ (wHist k (subA a0 61) (up2 (up2 S2 0 1 (((S2 0 1) + 1) % 8)) 0 2 (min ((S2 0 2) + 1) 8)) ++ (wPlant k (subA (subA a0 61) (2 + 15 * i0)) ((wCopy S3 S1)) ++ wArrJ k o1 (up2 S4 0 0 (sp_X5_carryOut S1 116 p1 p2 p3)))))) 1 6 := by
  refine zML_of (cc := cL_tell) (maxL := 6) (ret := (some .int)) (hh := [(0, 12, 15, 13), (0, 12, 19, 15), (0, 12, 23, 17)]) (by decide) rfl (Nat.le_of_ble_eq_true rfl) ?_
  intro p e s m args below meth c A ls hx hb hr hml hown hts hlocks hK hP hD hG hE hT hA hS hl
  have hown : s.vm.findClass RL = some m.cls := hown
  have hl : lv_has ls 6 [(0, .ref (a0 0)), (1, .int (iI p1)), (2, .int (iI p2)), (3, .int (iI p3)), (4, .ref (o1 0))] := hl
  obtain ⟨H, hH⟩ : ∃ z, z = s.heap := ⟨_, rfl⟩
  obtain ⟨locs, hlc⟩ : ∃ z : List Loc, z = [] := ⟨_, rfl⟩
  rw [← hH] at hP
  have hS : va_S A s.heap H locs := by rw [hH, hlc]; exact hS
  rw [← hlc, ← hH]
  clear hlc hH
  have kp := hp.2
  refine lv_aload hx hb dL_tell_0 (lv_at hl 4 rfl) ?_
  refine lv_iconst (v := iI 0) hx hb dL_tell_2 rfl ?_
  refine lv_aload_n hx hb dL_tell_3 rfl (lv_at hl 0 rfl) ?_
  refine lv_iload_n hx hb dL_tell_4 rfl (lv_at hl 1 rfl) ?_
  refine lv_iload_n hx hb dL_tell_5 rfl (lv_at hl 2 rfl) ?_
  refine lv_iload_n hx hb dL_tell_6 rfl (lv_at hl 3 rfl) ?_
  refine z_ai (va_runV (As := [.int (iI p1), .int (iI p2), .int (iI p3)]) (rest := [.int (iI 0), .ref (o1 0)]) ⟨hx, hb, hml, hown, hts⟩ (c_X7_tell_ok l D k a0 S0 S1 S2 S3 i0 p1 p2 p3 hp (by omega) (by omega) (by omega) hv hi hcn _) (cwV 3 hts gL_tell_X7_tell rfl rfl rfl (by decide +kernel) ⟨(Nat.le_of_ble_eq_true rfl), (Nat.le_of_ble_eq_true rfl)⟩) (z_preV hK hG hA hP hD hS (zrg 0 1 ++ (zrg 1 15 ++ (zrg 16 2 ++ zrg 18 15))) (z_mcat (z_hd (n := 1) rfl) (z_mcat (z_sk (n := 1) (off := 0) (m := 15) rfl (z_hd (n := 15) rfl)) (z_mcat (z_sk (n := 1) (off := 15) (m := 2) rfl (z_sk (n := 15) (off := 0) (m := 2) rfl (z_hd (n := 2) rfl))) (z_sk (n := 1) (off := 17) (m := 15) rfl (z_sk (n := 15) (off := 2) (m := 15) rfl (z_sk (n := 2) (off := 0) (m := 15) rfl (z_hd (n := 15) rfl))))))) (by decide +kernel) 9 rfl rfl) rfl rfl hl.1 rfl (lv_room (Nat.le_of_ble_eq_true rfl)) dL_tell_7 ⟨(Nat.le_of_ble_eq_true rfl), (Nat.le_of_ble_eq_true rfl)⟩) hA hP hD hS (zrg 0 1 ++ (zrg 1 15 ++ (zrg 16 2 ++ zrg 18 15))) (z_mcat (z_hd (n := 1) rfl) (z_mcat (z_sk (n := 1) (off := 0) (m := 15) rfl (z_hd (n := 15) rfl)) (z_mcat (z_sk (n := 1) (off := 15) (m := 2) rfl (z_sk (n := 15) (off := 0) (m := 2) rfl (z_hd (n := 2) rfl))) (z_sk (n := 1) (off := 17) (m := 15) rfl (z_sk (n := 15) (off := 2) (m := 15) rfl (z_sk (n := 2) (off := 0) (m := 15) rfl (z_hd (n := 15) rfl))))))) (z_mfst rfl (z_mfst rfl (z_mfst rfl rfl))) (fun H locs hP hD hS => ?_)
  have hz_2 : zset (wFac k a0 S0 ++ (wPlant k (subA a0 1) S1 ++ (wHist k (subA a0 61) S2 ++ (wPlant k (subA (subA a0 61) (2 + 15 * i0)) S3 ++ wArrJ k o1 S4)))) (zrg 0 1) (wFac k a0 S0) = wFac k a0 S0 ++ (wPlant k (subA a0 1) S1 ++ (wHist k (subA a0 61) S2 ++ (wPlant k (subA (subA a0 61) (2 + 15 * i0)) S3 ++ wArrJ k o1 S4))) := (z_zhd (n := 1) rfl rfl)
  have hz_3 : zset (wFac k a0 S0 ++ (wPlant k (subA a0 1) S1 ++ (wHist k (subA a0 61) S2 ++ (wPlant k (subA (subA a0 61) (2 + 15 * i0)) S3 ++ wArrJ k o1 S4)))) (zrg 1 15) (wPlant k (subA a0 1) ((wCarry S1 116 p1 p2 p3))) = wFac k a0 S0 ++ (wPlant k (subA a0 1) ((wCarry S1 116 p1 p2 p3)) ++ (wHist k (subA a0 61) S2 ++ (wPlant k (subA (subA a0 61) (2 + 15 * i0)) S3 ++ wArrJ k o1 S4))) := (z_zsk (n := 1) (off := 0) (m := 15) rfl (z_zhd (n := 15) rfl rfl))
  have hz_4 : zset (wFac k a0 S0 ++ (wPlant k (subA a0 1) ((wCarry S1 116 p1 p2 p3)) ++ (wHist k (subA a0 61) S2 ++ (wPlant k (subA (subA a0 61) (2 + 15 * i0)) S3 ++ wArrJ k o1 S4)))) (zrg 16 2) (wHist k (subA a0 61) (up2 (up2 S2 0 1 (((S2 0 1) + 1) % 8)) 0 2 (min ((S2 0 2) + 1) 8))) = wFac k a0 S0 ++ (wPlant k (subA a0 1) ((wCarry S1 116 p1 p2 p3)) ++ (wHist k (subA a0 61) (up2 (up2 S2 0 1 (((S2 0 1) + 1) % 8)) 0 2 (min ((S2 0 2) + 1) 8)) ++ (wPlant k (subA (subA a0 61) (2 + 15 * i0)) S3 ++ wArrJ k o1 S4))) := (z_zsk (n := 1) (off := 15) (m := 2) rfl (z_zsk (n := 15) (off := 0) (m := 2) rfl (z_zhd (n := 2) rfl rfl)))
  have hz_5 : zset (wFac k a0 S0 ++ (wPlant k (subA a0 1) ((wCarry S1 116 p1 p2 p3)) ++ (wHist k (subA a0 61) (up2 (up2 S2 0 1 (((S2 0 1) + 1) % 8)) 0 2 (min ((S2 0 2) + 1) 8)) ++ (wPlant k (subA (subA a0 61) (2 + 15 * i0)) S3 ++ wArrJ k o1 S4)))) (zrg 18 15) (wPlant k (subA (subA a0 61) (2 + 15 * i0)) ((wCopy S3 S1))) = wFac k a0 S0 ++ (wPlant k (subA a0 1) ((wCarry S1 116 p1 p2 p3)) ++ (wHist k (subA a0 61) (up2 (up2 S2 0 1 (((S2 0 1) + 1) % 8)) 0 2 (min ((S2 0 2) + 1) 8)) ++ (wPlant k (subA (subA a0 61) (2 + 15 * i0)) ((wCopy S3 S1)) ++ wArrJ k o1 S4))) := (z_zsk (n := 1) (off := 17) (m := 15) rfl (z_zsk (n := 15) (off := 2) (m := 15) rfl (z_zsk (n := 2) (off := 0) (m := 15) rfl (z_zhd (n := 15) rfl rfl))))
  have hE_1 : zset (wFac k a0 S0 ++ (wPlant k (subA a0 1) S1 ++ (wHist k (subA a0 61) S2 ++ (wPlant k (subA (subA a0 61) (2 + 15 * i0)) S3 ++ wArrJ k o1 S4)))) (zrg 0 1 ++ (zrg 1 15 ++ (zrg 16 2 ++ zrg 18 15))) (wFac k a0 S0 ++ (wPlant k (subA a0 1) ((wCarry S1 116 p1 p2 p3)) ++ (wHist k (subA a0 61) (up2 (up2 S2 0 1 (((S2 0 1) + 1) % 8)) 0 2 (min ((S2 0 2) + 1) 8)) ++ wPlant k (subA (subA a0 61) (2 + 15 * i0)) ((wCopy S3 S1))))) = wFac k a0 S0 ++ (wPlant k (subA a0 1) ((wCarry S1 116 p1 p2 p3)) ++ (wHist k (subA a0 61) (up2 (up2 S2 0 1 (((S2 0 1) + 1) % 8)) 0 2 (min ((S2 0 2) + 1) 8)) ++ (wPlant k (subA (subA a0 61) (2 + 15 * i0)) ((wCopy S3 S1)) ++ wArrJ k o1 S4))) := (z_zcat rfl hz_2 (z_zcat rfl hz_3 (z_zcat rfl hz_4 hz_5)))
  have hP : va_P D vwCl (wFac k a0 S0 ++ (wPlant k (subA a0 1) ((wCarry S1 116 p1 p2 p3)) ++ (wHist k (subA a0 61) (up2 (up2 S2 0 1 (((S2 0 1) + 1) % 8)) 0 2 (min ((S2 0 2) + 1) 8)) ++ (wPlant k (subA (subA a0 61) (2 + 15 * i0)) ((wCopy S3 S1)) ++ wArrJ k o1 S4)))) H := z_to hE_1 hP
  have hD : va_D A (wFac k a0 S0 ++ (wPlant k (subA a0 1) ((wCarry S1 116 p1 p2 p3)) ++ (wHist k (subA a0 61) (up2 (up2 S2 0 1 (((S2 0 1) + 1) % 8)) 0 2 (min ((S2 0 2) + 1) 8)) ++ (wPlant k (subA (subA a0 61) (2 + 15 * i0)) ((wCopy S3 S1)) ++ wArrJ k o1 S4)))) := z_to2 hE_1 hD
  refine lv_i2l (v := (iI (sp_X5_carryOut S1 116 p1 p2 p3)).toInt64) hx hb dL_tell_10 rfl ?_
  refine z_last hx hb hK hP hD hS 33 4 (f := S4 0) rfl rfl (i := 0) (by omega) (by omega) (by decide) 0 rfl dL_tell_11 (fun H locs hP hD hS => ?_)
  have hP : va_P D vwCl (wFac k a0 S0 ++ (wPlant k (subA a0 1) ((wCarry S1 116 p1 p2 p3)) ++ (wHist k (subA a0 61) (up2 (up2 S2 0 1 (((S2 0 1) + 1) % 8)) 0 2 (min ((S2 0 2) + 1) 8)) ++ (wPlant k (subA (subA a0 61) (2 + 15 * i0)) ((wCopy S3 S1)) ++ wArrJ k o1 (up2 S4 0 0 (sp_X5_carryOut S1 116 p1 p2 p3)))))) H := hP
  have hD : va_D A (wFac k a0 S0 ++ (wPlant k (subA a0 1) ((wCarry S1 116 p1 p2 p3)) ++ (wHist k (subA a0 61) (up2 (up2 S2 0 1 (((S2 0 1) + 1) % 8)) 0 2 (min ((S2 0 2) + 1) 8)) ++ (wPlant k (subA (subA a0 61) (2 + 15 * i0)) ((wCopy S3 S1)) ++ wArrJ k o1 (up2 S4 0 0 (sp_X5_carryOut S1 116 p1 p2 p3)))))) := hD
  refine lv_goto (tgt := 27) hx hb dL_tell_12 (by decide) ?_
  refine lv_iconst (v := iI 0) hx hb dL_tell_27 rfl ?_
  exact vx_ret (z_iret hx hb hr hlocks hP hS dL_tell_28 rfl rfl (Nat.le_of_ble_eq_true rfl) (Nat.le_of_ble_eq_true rfl))
set_option maxHeartbeats 4000000 in
set_option maxRecDepth 100000 in
theorem c_L_tell_6 (l : Launch) (hst : l.stackTraces = false) (D : va_G) (k : Nat → ClassId) (a0 : Nat → Nat) (o1 : Nat → Nat) (S0 : Nat → Nat → Int) (S1 : Nat → Nat → Int) (S2 : Nat → Nat → Int) (p1 : Int) (p2 : Int) (p3 : Int) (hp : pOK S1) (h0 : -2147483648 ≤ p1 ∧ p1 < 2147483648) (h1 : -2147483648 ≤ p2 ∧ p2 < 2147483648) (h2 : -2147483648 ≤ p3 ∧ p3 < 2147483648) (hv : sp_X5_verdictOn S1 116 p1 p2 p3 = 6) : zML l yL_tell wsL_tell ({ frames := 8, cells := 1, slots := 6, locals := 137 } : Room) D k [.ref (a0 0), .int (iI p1), .int (iI p2), .int (iI p3), .ref (o1 0)] (wFac k a0 S0 ++ (wPlant k (subA a0 1) S1 ++ wArrJ k o1 S2)) (1) (wFac k a0 S0 ++ (wPlant k (subA a0 1) S1 ++ wArrJ k o1 S2)) 1 6 := by
  refine zML_of (cc := cL_tell) (maxL := 6) (ret := (some .int)) (hh := [(0, 12, 15, 13), (0, 12, 19, 15), (0, 12, 23, 17)]) (by decide) rfl (Nat.le_of_ble_eq_true rfl) ?_
  intro p e s m args below meth c A ls hx hb hr hml hown hts hlocks hK hP hD hG hE hT hA hS hl
  have hown : s.vm.findClass RL = some m.cls := hown
  have hl : lv_has ls 6 [(0, .ref (a0 0)), (1, .int (iI p1)), (2, .int (iI p2)), (3, .int (iI p3)), (4, .ref (o1 0))] := hl
  obtain ⟨H, hH⟩ : ∃ z, z = s.heap := ⟨_, rfl⟩
  obtain ⟨locs, hlc⟩ : ∃ z : List Loc, z = [] := ⟨_, rfl⟩
  rw [← hH] at hP
  have hS : va_S A s.heap H locs := by rw [hH, hlc]; exact hS
  rw [← hlc, ← hH]
  clear hlc hH
  have kp := hp.2
  refine lv_aload hx hb dL_tell_0 (lv_at hl 4 rfl) ?_
  refine lv_iconst (v := iI 0) hx hb dL_tell_2 rfl ?_
  refine lv_aload_n hx hb dL_tell_3 rfl (lv_at hl 0 rfl) ?_
  refine lv_iload_n hx hb dL_tell_4 rfl (lv_at hl 1 rfl) ?_
  refine lv_iload_n hx hb dL_tell_5 rfl (lv_at hl 2 rfl) ?_
  refine lv_iload_n hx hb dL_tell_6 rfl (lv_at hl 3 rfl) ?_
  refine z_axc0 (vx_runV (As := [.int (iI p1), .int (iI p2), .int (iI p3)]) (rest := [.int (iI 0), .ref (o1 0)]) ⟨hx, hb, hml, hown, hts⟩ (c_X7_tell_6 l hst D k a0 S0 S1  p1 p2 p3 hp (by omega) (by omega) (by omega) hv _) (cwV 3 hts gL_tell_X7_tell rfl rfl rfl (by decide +kernel) ⟨(Nat.le_of_ble_eq_true rfl), (Nat.le_of_ble_eq_true rfl)⟩) (z_preVx hK hG hE hA hP hD hS (zrg 0 1 ++ zrg 1 15) (z_mcat (z_hd (n := 1) rfl) (z_sk (n := 1) (off := 0) (m := 15) rfl (z_hd (n := 15) rfl))) (by decide +kernel) 9 rfl rfl) rfl rfl hl.1 rfl (lv_room (Nat.le_of_ble_eq_true rfl)) dL_tell_7 ⟨(Nat.le_of_ble_eq_true rfl), (Nat.le_of_ble_eq_true rfl)⟩) hA hP hD hS (zrg 0 1 ++ zrg 1 15) (z_mcat (z_hd (n := 1) rfl) (z_sk (n := 1) (off := 0) (m := 15) rfl (z_hd (n := 15) rfl))) (fun ce q9 H locs hP hS hce hcv hcl => ?_)
  refine vx_catch (name := "java/lang/IndexOutOfBoundsException") (E := "java/lang/IndexOutOfBoundsException") hown [] (⟨0, 12, 15, 13⟩ : ExceptionTableEntry) [(⟨0, 12, 19, 15⟩ : ExceptionTableEntry), (⟨0, 12, 23, 17⟩ : ExceptionTableEntry)] (hT.trans rfl) (fun _ h => absurd h List.not_mem_nil) rfl (by decide) (hts (.classLink RL 13 "java/lang/IndexOutOfBoundsException") (List.mem_of_getElem? (i := 1) rfl)) (va_Nw.use rfl (hE.1 "java/lang/IndexOutOfBoundsException" zXm_ioob)) hce hcv hcl ?_
  refine lv_astore (lv' := [(5, .ref q9), (0, .ref (a0 0)), (1, .int (iI p1)), (2, .int (iI p2)), (3, .int (iI p3)), (4, .ref (o1 0))]) hx hb dL_tell_15 hl (by decide) rfl (fun ls hl => ?_)
  refine lv_iconst (v := iI 1) hx hb dL_tell_17 rfl ?_
  exact vx_ret (z_iret hx hb hr hlocks hP hS dL_tell_18 rfl rfl (Nat.le_of_ble_eq_true rfl) (Nat.le_of_ble_eq_true rfl))
set_option maxHeartbeats 4000000 in
set_option maxRecDepth 100000 in
theorem c_L_tell_7 (l : Launch) (hst : l.stackTraces = false) (D : va_G) (k : Nat → ClassId) (a0 : Nat → Nat) (o1 : Nat → Nat) (S0 : Nat → Nat → Int) (S1 : Nat → Nat → Int) (S2 : Nat → Nat → Int) (p1 : Int) (p2 : Int) (p3 : Int) (hp : pOK S1) (h0 : -2147483648 ≤ p1 ∧ p1 < 2147483648) (h1 : -2147483648 ≤ p2 ∧ p2 < 2147483648) (h2 : -2147483648 ≤ p3 ∧ p3 < 2147483648) (hv : sp_X5_verdictOn S1 116 p1 p2 p3 = 7) : zML l yL_tell wsL_tell ({ frames := 8, cells := 1, slots := 6, locals := 137 } : Room) D k [.ref (a0 0), .int (iI p1), .int (iI p2), .int (iI p3), .ref (o1 0)] (wFac k a0 S0 ++ (wPlant k (subA a0 1) S1 ++ wArrJ k o1 S2)) (2) (wFac k a0 S0 ++ (wPlant k (subA a0 1) S1 ++ wArrJ k o1 S2)) 1 6 := by
  refine zML_of (cc := cL_tell) (maxL := 6) (ret := (some .int)) (hh := [(0, 12, 15, 13), (0, 12, 19, 15), (0, 12, 23, 17)]) (by decide) rfl (Nat.le_of_ble_eq_true rfl) ?_
  intro p e s m args below meth c A ls hx hb hr hml hown hts hlocks hK hP hD hG hE hT hA hS hl
  have hown : s.vm.findClass RL = some m.cls := hown
  have hl : lv_has ls 6 [(0, .ref (a0 0)), (1, .int (iI p1)), (2, .int (iI p2)), (3, .int (iI p3)), (4, .ref (o1 0))] := hl
  obtain ⟨H, hH⟩ : ∃ z, z = s.heap := ⟨_, rfl⟩
  obtain ⟨locs, hlc⟩ : ∃ z : List Loc, z = [] := ⟨_, rfl⟩
  rw [← hH] at hP
  have hS : va_S A s.heap H locs := by rw [hH, hlc]; exact hS
  rw [← hlc, ← hH]
  clear hlc hH
  have kp := hp.2
  refine lv_aload hx hb dL_tell_0 (lv_at hl 4 rfl) ?_
  refine lv_iconst (v := iI 0) hx hb dL_tell_2 rfl ?_
  refine lv_aload_n hx hb dL_tell_3 rfl (lv_at hl 0 rfl) ?_
  refine lv_iload_n hx hb dL_tell_4 rfl (lv_at hl 1 rfl) ?_
  refine lv_iload_n hx hb dL_tell_5 rfl (lv_at hl 2 rfl) ?_
  refine lv_iload_n hx hb dL_tell_6 rfl (lv_at hl 3 rfl) ?_
  refine z_axc0 (vx_runV (As := [.int (iI p1), .int (iI p2), .int (iI p3)]) (rest := [.int (iI 0), .ref (o1 0)]) ⟨hx, hb, hml, hown, hts⟩ (c_X7_tell_7 l hst D k a0 S0 S1  p1 p2 p3 hp (by omega) (by omega) (by omega) hv _) (cwV 3 hts gL_tell_X7_tell rfl rfl rfl (by decide +kernel) ⟨(Nat.le_of_ble_eq_true rfl), (Nat.le_of_ble_eq_true rfl)⟩) (z_preVx hK hG hE hA hP hD hS (zrg 0 1 ++ zrg 1 15) (z_mcat (z_hd (n := 1) rfl) (z_sk (n := 1) (off := 0) (m := 15) rfl (z_hd (n := 15) rfl))) (by decide +kernel) 9 rfl rfl) rfl rfl hl.1 rfl (lv_room (Nat.le_of_ble_eq_true rfl)) dL_tell_7 ⟨(Nat.le_of_ble_eq_true rfl), (Nat.le_of_ble_eq_true rfl)⟩) hA hP hD hS (zrg 0 1 ++ zrg 1 15) (z_mcat (z_hd (n := 1) rfl) (z_sk (n := 1) (off := 0) (m := 15) rfl (z_hd (n := 15) rfl))) (fun ce q9 H locs hP hS hce hcv hcl => ?_)
  refine vx_catch (name := "java/lang/IllegalArgumentException") (E := "java/lang/IllegalArgumentException") hown [(⟨0, 12, 15, 13⟩ : ExceptionTableEntry)] (⟨0, 12, 19, 15⟩ : ExceptionTableEntry) [(⟨0, 12, 23, 17⟩ : ExceptionTableEntry)] (hT.trans rfl) (List.forall_mem_cons.mpr ⟨Or.inr ⟨by decide, _, (hts (.classLink RL 13 "java/lang/IndexOutOfBoundsException") (List.mem_of_getElem? (i := 1) rfl)), hE.2.2 ("java/lang/IllegalArgumentException", "java/lang/IndexOutOfBoundsException") (by decide +kernel)⟩, (fun _ h => absurd h List.not_mem_nil)⟩) rfl (by decide) (hts (.classLink RL 15 "java/lang/IllegalArgumentException") (List.mem_of_getElem? (i := 2) rfl)) (va_Nw.use rfl (hE.1 "java/lang/IllegalArgumentException" zXm_iarg)) hce hcv hcl ?_
  refine lv_astore (lv' := [(5, .ref q9), (0, .ref (a0 0)), (1, .int (iI p1)), (2, .int (iI p2)), (3, .int (iI p3)), (4, .ref (o1 0))]) hx hb dL_tell_19 hl (by decide) rfl (fun ls hl => ?_)
  refine lv_iconst (v := iI 2) hx hb dL_tell_21 rfl ?_
  exact vx_ret (z_iret hx hb hr hlocks hP hS dL_tell_22 rfl rfl (Nat.le_of_ble_eq_true rfl) (Nat.le_of_ble_eq_true rfl))
set_option maxHeartbeats 4000000 in
set_option maxRecDepth 100000 in
theorem c_L_tell_r (l : Launch) (hst : l.stackTraces = false) (D : va_G) (k : Nat → ClassId) (a0 : Nat → Nat) (o1 : Nat → Nat) (S0 : Nat → Nat → Int) (S1 : Nat → Nat → Int) (S2 : Nat → Nat → Int) (p1 : Int) (p2 : Int) (p3 : Int) (hp : pOK S1) (h0 : -2147483648 ≤ p1 ∧ p1 < 2147483648) (h1 : -2147483648 ≤ p2 ∧ p2 < 2147483648) (h2 : -2147483648 ≤ p3 ∧ p3 < 2147483648) (hv : 1 ≤ sp_X5_verdictOn S1 116 p1 p2 p3 ∧ sp_X5_verdictOn S1 116 p1 p2 p3 ≤ 5) : zML l yL_tell wsL_tell ({ frames := 8, cells := 1, slots := 6, locals := 138 } : Room) D k [.ref (a0 0), .int (iI p1), .int (iI p2), .int (iI p3), .ref (o1 0)] (wFac k a0 S0 ++ (wPlant k (subA a0 1) S1 ++ wArrJ k o1 S2)) (3) (wFac k a0 (up2 (up2 S0 0 9 ((sp_X5_verdictOn S1 116 p1 p2 p3))) 0 10 (sp_X5_detailOf S1 (sp_X5_verdictOn S1 116 p1 p2 p3) 116 p1)) ++ (wPlant k (subA a0 1) S1 ++ wArrJ k o1 S2)) 1 6 := by
  refine zML_of (cc := cL_tell) (maxL := 6) (ret := (some .int)) (hh := [(0, 12, 15, 13), (0, 12, 19, 15), (0, 12, 23, 17)]) (by decide) rfl (Nat.le_of_ble_eq_true rfl) ?_
  intro p e s m args below meth c A ls hx hb hr hml hown hts hlocks hK hP hD hG hE hT hA hS hl
  have hown : s.vm.findClass RL = some m.cls := hown
  have hl : lv_has ls 6 [(0, .ref (a0 0)), (1, .int (iI p1)), (2, .int (iI p2)), (3, .int (iI p3)), (4, .ref (o1 0))] := hl
  obtain ⟨H, hH⟩ : ∃ z, z = s.heap := ⟨_, rfl⟩
  obtain ⟨locs, hlc⟩ : ∃ z : List Loc, z = [] := ⟨_, rfl⟩
  rw [← hH] at hP
  have hS : va_S A s.heap H locs := by rw [hH, hlc]; exact hS
  rw [← hlc, ← hH]
  clear hlc hH
  have kp := hp.2
  refine lv_aload hx hb dL_tell_0 (lv_at hl 4 rfl) ?_
  refine lv_iconst (v := iI 0) hx hb dL_tell_2 rfl ?_
  refine lv_aload_n hx hb dL_tell_3 rfl (lv_at hl 0 rfl) ?_
  refine lv_iload_n hx hb dL_tell_4 rfl (lv_at hl 1 rfl) ?_
  refine lv_iload_n hx hb dL_tell_5 rfl (lv_at hl 2 rfl) ?_
  refine lv_iload_n hx hb dL_tell_6 rfl (lv_at hl 3 rfl) ?_
  refine z_axc (vx_runV (As := [.int (iI p1), .int (iI p2), .int (iI p3)]) (rest := [.int (iI 0), .ref (o1 0)]) ⟨hx, hb, hml, hown, hts⟩ (c_X7_tell_r l hst D k a0 S0 S1  p1 p2 p3 hp (by omega) (by omega) (by omega) hv _) (cwV 3 hts gL_tell_X7_tell rfl rfl rfl (by decide +kernel) ⟨(Nat.le_of_ble_eq_true rfl), (Nat.le_of_ble_eq_true rfl)⟩) (z_preVx hK hG hE hA hP hD hS (zrg 0 1 ++ zrg 1 15) (z_mcat (z_hd (n := 1) rfl) (z_sk (n := 1) (off := 0) (m := 15) rfl (z_hd (n := 15) rfl))) (by decide +kernel) 9 rfl rfl) rfl rfl hl.1 rfl (lv_room (Nat.le_of_ble_eq_true rfl)) dL_tell_7 ⟨(Nat.le_of_ble_eq_true rfl), (Nat.le_of_ble_eq_true rfl)⟩) hA hP hD hS (zrg 0 1 ++ zrg 1 15) (z_mcat (z_hd (n := 1) rfl) (z_sk (n := 1) (off := 0) (m := 15) rfl (z_hd (n := 15) rfl))) (z_mfst rfl rfl) (fun ce q9 H locs hP hD hS hce hcv hcl => ?_)
  have hz_2 : zset (wFac k a0 S0 ++ (wPlant k (subA a0 1) S1 ++ wArrJ k o1 S2)) (zrg 0 1) (wFac k a0 (up2 (up2 S0 0 9 ((sp_X5_verdictOn S1 116 p1 p2 p3))) 0 10 (sp_X5_detailOf S1 (sp_X5_verdictOn S1 116 p1 p2 p3) 116 p1))) = wFac k a0 (up2 (up2 S0 0 9 ((sp_X5_verdictOn S1 116 p1 p2 p3))) 0 10 (sp_X5_detailOf S1 (sp_X5_verdictOn S1 116 p1 p2 p3) 116 p1)) ++ (wPlant k (subA a0 1) S1 ++ wArrJ k o1 S2) := (z_zhd (n := 1) rfl rfl)
  have hz_3 : zset (wFac k a0 (up2 (up2 S0 0 9 ((sp_X5_verdictOn S1 116 p1 p2 p3))) 0 10 (sp_X5_detailOf S1 (sp_X5_verdictOn S1 116 p1 p2 p3) 116 p1)) ++ (wPlant k (subA a0 1) S1 ++ wArrJ k o1 S2)) (zrg 1 15) (wPlant k (subA a0 1) S1) = wFac k a0 (up2 (up2 S0 0 9 ((sp_X5_verdictOn S1 116 p1 p2 p3))) 0 10 (sp_X5_detailOf S1 (sp_X5_verdictOn S1 116 p1 p2 p3) 116 p1)) ++ (wPlant k (subA a0 1) S1 ++ wArrJ k o1 S2) := (z_zsk (n := 1) (off := 0) (m := 15) rfl (z_zhd (n := 15) rfl rfl))
  have hE_1 : zset (wFac k a0 S0 ++ (wPlant k (subA a0 1) S1 ++ wArrJ k o1 S2)) (zrg 0 1 ++ zrg 1 15) (wFac k a0 (up2 (up2 S0 0 9 ((sp_X5_verdictOn S1 116 p1 p2 p3))) 0 10 (sp_X5_detailOf S1 (sp_X5_verdictOn S1 116 p1 p2 p3) 116 p1)) ++ wPlant k (subA a0 1) S1) = wFac k a0 (up2 (up2 S0 0 9 ((sp_X5_verdictOn S1 116 p1 p2 p3))) 0 10 (sp_X5_detailOf S1 (sp_X5_verdictOn S1 116 p1 p2 p3) 116 p1)) ++ (wPlant k (subA a0 1) S1 ++ wArrJ k o1 S2) := (z_zcat rfl hz_2 hz_3)
  have hP : va_P D vwCl (wFac k a0 (up2 (up2 S0 0 9 ((sp_X5_verdictOn S1 116 p1 p2 p3))) 0 10 (sp_X5_detailOf S1 (sp_X5_verdictOn S1 116 p1 p2 p3) 116 p1)) ++ (wPlant k (subA a0 1) S1 ++ wArrJ k o1 S2)) H := z_to hE_1 hP
  have hD : va_D A (wFac k a0 (up2 (up2 S0 0 9 ((sp_X5_verdictOn S1 116 p1 p2 p3))) 0 10 (sp_X5_detailOf S1 (sp_X5_verdictOn S1 116 p1 p2 p3) 116 p1)) ++ (wPlant k (subA a0 1) S1 ++ wArrJ k o1 S2)) := z_to2 hE_1 hD
  refine vx_catch (name := "java/lang/UnsupportedOperationException") (E := "java/lang/UnsupportedOperationException") hown [(⟨0, 12, 15, 13⟩ : ExceptionTableEntry), (⟨0, 12, 19, 15⟩ : ExceptionTableEntry)] (⟨0, 12, 23, 17⟩ : ExceptionTableEntry) [] (hT.trans rfl) (List.forall_mem_cons.mpr ⟨Or.inr ⟨by decide, _, (hts (.classLink RL 13 "java/lang/IndexOutOfBoundsException") (List.mem_of_getElem? (i := 1) rfl)), hE.2.2 ("java/lang/UnsupportedOperationException", "java/lang/IndexOutOfBoundsException") (by decide +kernel)⟩, (List.forall_mem_cons.mpr ⟨Or.inr ⟨by decide, _, (hts (.classLink RL 15 "java/lang/IllegalArgumentException") (List.mem_of_getElem? (i := 2) rfl)), hE.2.2 ("java/lang/UnsupportedOperationException", "java/lang/IllegalArgumentException") (by decide +kernel)⟩, (fun _ h => absurd h List.not_mem_nil)⟩)⟩) rfl (by decide) (hts (.classLink RL 17 "java/lang/UnsupportedOperationException") (List.mem_of_getElem? (i := 3) rfl)) (va_Nw.use rfl (hE.1 "java/lang/UnsupportedOperationException" zXm_unsu)) hce hcv hcl ?_
  refine lv_astore (lv' := [(5, .ref q9), (0, .ref (a0 0)), (1, .int (iI p1)), (2, .int (iI p2)), (3, .int (iI p3)), (4, .ref (o1 0))]) hx hb dL_tell_23 hl (by decide) rfl (fun ls hl => ?_)
  refine lv_iconst (v := iI 3) hx hb dL_tell_25 rfl ?_
  exact vx_ret (z_iret hx hb hr hlocks hP hS dL_tell_26 rfl rfl (Nat.le_of_ble_eq_true rfl) (Nat.le_of_ble_eq_true rfl))
set_option maxHeartbeats 4000000 in
set_option maxRecDepth 100000 in
theorem c_L_inspect_ok (l : Launch) (hst : l.stackTraces = false) (D : va_G) (k : Nat → ClassId) (a0 : Nat → Nat) (o1 : Nat → Nat) (S0 : Nat → Nat → Int) (S1 : Nat → Nat → Int) (S2 : Nat → Nat → Int) (S3 : Nat → Nat → Int) (S4 : Nat → Nat → Int) (i0 : Nat) (p1 : Int) (hp : pOK S1) (h0 : -2147483648 ≤ p1 ∧ p1 < 2147483648) (hv : sp_X5_verdictOn S1 105 p1 0 0 = 0) (hi : S2 0 1 = (i0 : Int) ∧ i0 < 8) (hcn : 0 ≤ S2 0 2 ∧ S2 0 2 ≤ 8) : zML l yL_inspect wsL_inspect ({ frames := 7, cells := 1, slots := 6, locals := 176 } : Room) D k [.ref (a0 0), .int (iI p1), .ref (o1 0)] (wFac k a0 S0 ++ (wPlant k (subA a0 1) S1 ++ (wHist k (subA a0 61) S2 ++ (wPlant k (subA (subA a0 61) (2 + 15 * i0)) S3 ++ wArrJ k o1 S4)))) (0) (wFac k a0 S0 ++ (wPlant k (subA a0 1) ((wCarry S1 105 p1 0 0)) ++ (wHist k (subA a0 61) (up2 (up2 S2 0 1 (((S2 0 1) + 1) % 8)) 0 2 (min ((S2 0 2) + 1) 8)) ++ (wPlant k (subA (subA a0 61) (2 + 15 * i0)) ((wCopy S3 S1)) ++ wArrJ k o1 (up2 S4 0 0 (sp_X5_carryOut S1 105 p1 0 0)))))) 1 6 := by
  refine zML_of (cc := cL_inspect) (maxL := 4) (ret := (some .int)) (hh := [(0, 9, 12, 13), (0, 9, 15, 17)]) (by decide) rfl (Nat.le_of_ble_eq_true rfl) ?_
  intro p e s m args below meth c A ls hx hb hr hml hown hts hlocks hK hP hD hG hE hT hA hS hl
  have hown : s.vm.findClass RL = some m.cls := hown
  have hl : lv_has ls 4 [(0, .ref (a0 0)), (1, .int (iI p1)), (2, .ref (o1 0))] := hl
  obtain ⟨H, hH⟩ : ∃ z, z = s.heap := ⟨_, rfl⟩
  obtain ⟨locs, hlc⟩ : ∃ z : List Loc, z = [] := ⟨_, rfl⟩
  rw [← hH] at hP
  have hS : va_S A s.heap H locs := by rw [hH, hlc]; exact hS
  rw [← hlc, ← hH]
  clear hlc hH
  have kp := hp.2
  refine lv_aload_n hx hb dL_inspect_0 rfl (lv_at hl 2 rfl) ?_
  refine lv_iconst (v := iI 0) hx hb dL_inspect_1 rfl ?_
  refine lv_aload_n hx hb dL_inspect_2 rfl (lv_at hl 0 rfl) ?_
  refine lv_iload_n hx hb dL_inspect_3 rfl (lv_at hl 1 rfl) ?_
  refine z_ai (va_runV (As := [.int (iI p1)]) (rest := [.int (iI 0), .ref (o1 0)]) ⟨hx, hb, hml, hown, hts⟩ (c_X7_inspect_ok l D k a0 S0 S1 S2 S3 i0 p1 hp (by omega) hv hi hcn _) (cwV 1 hts gL_inspect_X7_inspect rfl rfl rfl (by decide +kernel) ⟨(Nat.le_of_ble_eq_true rfl), (Nat.le_of_ble_eq_true rfl)⟩) (z_preV hK hG hA hP hD hS (zrg 0 1 ++ (zrg 1 15 ++ (zrg 16 2 ++ zrg 18 15))) (z_mcat (z_hd (n := 1) rfl) (z_mcat (z_sk (n := 1) (off := 0) (m := 15) rfl (z_hd (n := 15) rfl)) (z_mcat (z_sk (n := 1) (off := 15) (m := 2) rfl (z_sk (n := 15) (off := 0) (m := 2) rfl (z_hd (n := 2) rfl))) (z_sk (n := 1) (off := 17) (m := 15) rfl (z_sk (n := 15) (off := 2) (m := 15) rfl (z_sk (n := 2) (off := 0) (m := 15) rfl (z_hd (n := 15) rfl))))))) (by decide +kernel) 9 rfl rfl) rfl rfl hl.1 rfl (lv_room (Nat.le_of_ble_eq_true rfl)) dL_inspect_4 ⟨(Nat.le_of_ble_eq_true rfl), (Nat.le_of_ble_eq_true rfl)⟩) hA hP hD hS (zrg 0 1 ++ (zrg 1 15 ++ (zrg 16 2 ++ zrg 18 15))) (z_mcat (z_hd (n := 1) rfl) (z_mcat (z_sk (n := 1) (off := 0) (m := 15) rfl (z_hd (n := 15) rfl)) (z_mcat (z_sk (n := 1) (off := 15) (m := 2) rfl (z_sk (n := 15) (off := 0) (m := 2) rfl (z_hd (n := 2) rfl))) (z_sk (n := 1) (off := 17) (m := 15) rfl (z_sk (n := 15) (off := 2) (m := 15) rfl (z_sk (n := 2) (off := 0) (m := 15) rfl (z_hd (n := 15) rfl))))))) (z_mfst rfl (z_mfst rfl (z_mfst rfl rfl))) (fun H locs hP hD hS => ?_)
  have hz_2 : zset (wFac k a0 S0 ++ (wPlant k (subA a0 1) S1 ++ (wHist k (subA a0 61) S2 ++ (wPlant k (subA (subA a0 61) (2 + 15 * i0)) S3 ++ wArrJ k o1 S4)))) (zrg 0 1) (wFac k a0 S0) = wFac k a0 S0 ++ (wPlant k (subA a0 1) S1 ++ (wHist k (subA a0 61) S2 ++ (wPlant k (subA (subA a0 61) (2 + 15 * i0)) S3 ++ wArrJ k o1 S4))) := (z_zhd (n := 1) rfl rfl)
  have hz_3 : zset (wFac k a0 S0 ++ (wPlant k (subA a0 1) S1 ++ (wHist k (subA a0 61) S2 ++ (wPlant k (subA (subA a0 61) (2 + 15 * i0)) S3 ++ wArrJ k o1 S4)))) (zrg 1 15) (wPlant k (subA a0 1) ((wCarry S1 105 p1 0 0))) = wFac k a0 S0 ++ (wPlant k (subA a0 1) ((wCarry S1 105 p1 0 0)) ++ (wHist k (subA a0 61) S2 ++ (wPlant k (subA (subA a0 61) (2 + 15 * i0)) S3 ++ wArrJ k o1 S4))) := (z_zsk (n := 1) (off := 0) (m := 15) rfl (z_zhd (n := 15) rfl rfl))
  have hz_4 : zset (wFac k a0 S0 ++ (wPlant k (subA a0 1) ((wCarry S1 105 p1 0 0)) ++ (wHist k (subA a0 61) S2 ++ (wPlant k (subA (subA a0 61) (2 + 15 * i0)) S3 ++ wArrJ k o1 S4)))) (zrg 16 2) (wHist k (subA a0 61) (up2 (up2 S2 0 1 (((S2 0 1) + 1) % 8)) 0 2 (min ((S2 0 2) + 1) 8))) = wFac k a0 S0 ++ (wPlant k (subA a0 1) ((wCarry S1 105 p1 0 0)) ++ (wHist k (subA a0 61) (up2 (up2 S2 0 1 (((S2 0 1) + 1) % 8)) 0 2 (min ((S2 0 2) + 1) 8)) ++ (wPlant k (subA (subA a0 61) (2 + 15 * i0)) S3 ++ wArrJ k o1 S4))) := (z_zsk (n := 1) (off := 15) (m := 2) rfl (z_zsk (n := 15) (off := 0) (m := 2) rfl (z_zhd (n := 2) rfl rfl)))
  have hz_5 : zset (wFac k a0 S0 ++ (wPlant k (subA a0 1) ((wCarry S1 105 p1 0 0)) ++ (wHist k (subA a0 61) (up2 (up2 S2 0 1 (((S2 0 1) + 1) % 8)) 0 2 (min ((S2 0 2) + 1) 8)) ++ (wPlant k (subA (subA a0 61) (2 + 15 * i0)) S3 ++ wArrJ k o1 S4)))) (zrg 18 15) (wPlant k (subA (subA a0 61) (2 + 15 * i0)) ((wCopy S3 S1))) = wFac k a0 S0 ++ (wPlant k (subA a0 1) ((wCarry S1 105 p1 0 0)) ++ (wHist k (subA a0 61) (up2 (up2 S2 0 1 (((S2 0 1) + 1) % 8)) 0 2 (min ((S2 0 2) + 1) 8)) ++ (wPlant k (subA (subA a0 61) (2 + 15 * i0)) ((wCopy S3 S1)) ++ wArrJ k o1 S4))) := (z_zsk (n := 1) (off := 17) (m := 15) rfl (z_zsk (n := 15) (off := 2) (m := 15) rfl (z_zsk (n := 2) (off := 0) (m := 15) rfl (z_zhd (n := 15) rfl rfl))))
  have hE_1 : zset (wFac k a0 S0 ++ (wPlant k (subA a0 1) S1 ++ (wHist k (subA a0 61) S2 ++ (wPlant k (subA (subA a0 61) (2 + 15 * i0)) S3 ++ wArrJ k o1 S4)))) (zrg 0 1 ++ (zrg 1 15 ++ (zrg 16 2 ++ zrg 18 15))) (wFac k a0 S0 ++ (wPlant k (subA a0 1) ((wCarry S1 105 p1 0 0)) ++ (wHist k (subA a0 61) (up2 (up2 S2 0 1 (((S2 0 1) + 1) % 8)) 0 2 (min ((S2 0 2) + 1) 8)) ++ wPlant k (subA (subA a0 61) (2 + 15 * i0)) ((wCopy S3 S1))))) = wFac k a0 S0 ++ (wPlant k (subA a0 1) ((wCarry S1 105 p1 0 0)) ++ (wHist k (subA a0 61) (up2 (up2 S2 0 1 (((S2 0 1) + 1) % 8)) 0 2 (min ((S2 0 2) + 1) 8)) ++ (wPlant k (subA (subA a0 61) (2 + 15 * i0)) ((wCopy S3 S1)) ++ wArrJ k o1 S4))) := (z_zcat rfl hz_2 (z_zcat rfl hz_3 (z_zcat rfl hz_4 hz_5)))
  have hP : va_P D vwCl (wFac k a0 S0 ++ (wPlant k (subA a0 1) ((wCarry S1 105 p1 0 0)) ++ (wHist k (subA a0 61) (up2 (up2 S2 0 1 (((S2 0 1) + 1) % 8)) 0 2 (min ((S2 0 2) + 1) 8)) ++ (wPlant k (subA (subA a0 61) (2 + 15 * i0)) ((wCopy S3 S1)) ++ wArrJ k o1 S4)))) H := z_to hE_1 hP
  have hD : va_D A (wFac k a0 S0 ++ (wPlant k (subA a0 1) ((wCarry S1 105 p1 0 0)) ++ (wHist k (subA a0 61) (up2 (up2 S2 0 1 (((S2 0 1) + 1) % 8)) 0 2 (min ((S2 0 2) + 1) 8)) ++ (wPlant k (subA (subA a0 61) (2 + 15 * i0)) ((wCopy S3 S1)) ++ wArrJ k o1 S4)))) := z_to2 hE_1 hD
  refine lv_i2l (v := (iI (sp_X5_carryOut S1 105 p1 0 0)).toInt64) hx hb dL_inspect_7 rfl ?_
  refine z_last hx hb hK hP hD hS 33 4 (f := S4 0) rfl rfl (i := 0) (by omega) (by omega) (by decide) 0 rfl dL_inspect_8 (fun H locs hP hD hS => ?_)
  have hP : va_P D vwCl (wFac k a0 S0 ++ (wPlant k (subA a0 1) ((wCarry S1 105 p1 0 0)) ++ (wHist k (subA a0 61) (up2 (up2 S2 0 1 (((S2 0 1) + 1) % 8)) 0 2 (min ((S2 0 2) + 1) 8)) ++ (wPlant k (subA (subA a0 61) (2 + 15 * i0)) ((wCopy S3 S1)) ++ wArrJ k o1 (up2 S4 0 0 (sp_X5_carryOut S1 105 p1 0 0)))))) H := hP
  have hD : va_D A (wFac k a0 S0 ++ (wPlant k (subA a0 1) ((wCarry S1 105 p1 0 0)) ++ (wHist k (subA a0 61) (up2 (up2 S2 0 1 (((S2 0 1) + 1) % 8)) 0 2 (min ((S2 0 2) + 1) 8)) ++ (wPlant k (subA (subA a0 61) (2 + 15 * i0)) ((wCopy S3 S1)) ++ wArrJ k o1 (up2 S4 0 0 (sp_X5_carryOut S1 105 p1 0 0)))))) := hD
  refine lv_goto (tgt := 18) hx hb dL_inspect_9 (by decide) ?_
  refine lv_iconst (v := iI 0) hx hb dL_inspect_18 rfl ?_
  exact vx_ret (z_iret hx hb hr hlocks hP hS dL_inspect_19 rfl rfl (Nat.le_of_ble_eq_true rfl) (Nat.le_of_ble_eq_true rfl))
set_option maxHeartbeats 4000000 in
set_option maxRecDepth 100000 in
theorem c_L_inspect_6 (l : Launch) (hst : l.stackTraces = false) (D : va_G) (k : Nat → ClassId) (a0 : Nat → Nat) (o1 : Nat → Nat) (S0 : Nat → Nat → Int) (S1 : Nat → Nat → Int) (S2 : Nat → Nat → Int) (p1 : Int) (hp : pOK S1) (h0 : -2147483648 ≤ p1 ∧ p1 < 2147483648) (hv : sp_X5_verdictOn S1 105 p1 0 0 = 6) : zML l yL_inspect wsL_inspect ({ frames := 8, cells := 1, slots := 6, locals := 135 } : Room) D k [.ref (a0 0), .int (iI p1), .ref (o1 0)] (wFac k a0 S0 ++ (wPlant k (subA a0 1) S1 ++ wArrJ k o1 S2)) (1) (wFac k a0 S0 ++ (wPlant k (subA a0 1) S1 ++ wArrJ k o1 S2)) 1 6 := by
  refine zML_of (cc := cL_inspect) (maxL := 4) (ret := (some .int)) (hh := [(0, 9, 12, 13), (0, 9, 15, 17)]) (by decide) rfl (Nat.le_of_ble_eq_true rfl) ?_
  intro p e s m args below meth c A ls hx hb hr hml hown hts hlocks hK hP hD hG hE hT hA hS hl
  have hown : s.vm.findClass RL = some m.cls := hown
  have hl : lv_has ls 4 [(0, .ref (a0 0)), (1, .int (iI p1)), (2, .ref (o1 0))] := hl
  obtain ⟨H, hH⟩ : ∃ z, z = s.heap := ⟨_, rfl⟩
  obtain ⟨locs, hlc⟩ : ∃ z : List Loc, z = [] := ⟨_, rfl⟩
  rw [← hH] at hP
  have hS : va_S A s.heap H locs := by rw [hH, hlc]; exact hS
  rw [← hlc, ← hH]
  clear hlc hH
  have kp := hp.2
  refine lv_aload_n hx hb dL_inspect_0 rfl (lv_at hl 2 rfl) ?_
  refine lv_iconst (v := iI 0) hx hb dL_inspect_1 rfl ?_
  refine lv_aload_n hx hb dL_inspect_2 rfl (lv_at hl 0 rfl) ?_
  refine lv_iload_n hx hb dL_inspect_3 rfl (lv_at hl 1 rfl) ?_
  refine z_axc0 (vx_runV (As := [.int (iI p1)]) (rest := [.int (iI 0), .ref (o1 0)]) ⟨hx, hb, hml, hown, hts⟩ (c_X7_inspect_6 l hst D k a0 S0 S1  p1 hp (by omega) hv _) (cwV 1 hts gL_inspect_X7_inspect rfl rfl rfl (by decide +kernel) ⟨(Nat.le_of_ble_eq_true rfl), (Nat.le_of_ble_eq_true rfl)⟩) (z_preVx hK hG hE hA hP hD hS (zrg 0 1 ++ zrg 1 15) (z_mcat (z_hd (n := 1) rfl) (z_sk (n := 1) (off := 0) (m := 15) rfl (z_hd (n := 15) rfl))) (by decide +kernel) 9 rfl rfl) rfl rfl hl.1 rfl (lv_room (Nat.le_of_ble_eq_true rfl)) dL_inspect_4 ⟨(Nat.le_of_ble_eq_true rfl), (Nat.le_of_ble_eq_true rfl)⟩) hA hP hD hS (zrg 0 1 ++ zrg 1 15) (z_mcat (z_hd (n := 1) rfl) (z_sk (n := 1) (off := 0) (m := 15) rfl (z_hd (n := 15) rfl))) (fun ce q9 H locs hP hS hce hcv hcl => ?_)
  refine vx_catch (name := "java/lang/IndexOutOfBoundsException") (E := "java/lang/IndexOutOfBoundsException") hown [] (⟨0, 9, 12, 13⟩ : ExceptionTableEntry) [(⟨0, 9, 15, 17⟩ : ExceptionTableEntry)] (hT.trans rfl) (fun _ h => absurd h List.not_mem_nil) rfl (by decide) (hts (.classLink RL 13 "java/lang/IndexOutOfBoundsException") (List.mem_of_getElem? (i := 1) rfl)) (va_Nw.use rfl (hE.1 "java/lang/IndexOutOfBoundsException" zXm_ioob)) hce hcv hcl ?_
  refine lv_astore_n (lv' := [(3, .ref q9), (0, .ref (a0 0)), (1, .int (iI p1)), (2, .ref (o1 0))]) hx hb dL_inspect_12 rfl hl (by decide) rfl (fun ls hl => ?_)
  refine lv_iconst (v := iI 1) hx hb dL_inspect_13 rfl ?_
  exact vx_ret (z_iret hx hb hr hlocks hP hS dL_inspect_14 rfl rfl (Nat.le_of_ble_eq_true rfl) (Nat.le_of_ble_eq_true rfl))
set_option maxHeartbeats 4000000 in
set_option maxRecDepth 100000 in
theorem c_L_inspect_r (l : Launch) (hst : l.stackTraces = false) (D : va_G) (k : Nat → ClassId) (a0 : Nat → Nat) (o1 : Nat → Nat) (S0 : Nat → Nat → Int) (S1 : Nat → Nat → Int) (S2 : Nat → Nat → Int) (p1 : Int) (hp : pOK S1) (h0 : -2147483648 ≤ p1 ∧ p1 < 2147483648) (hv : 1 ≤ sp_X5_verdictOn S1 105 p1 0 0 ∧ sp_X5_verdictOn S1 105 p1 0 0 ≤ 5) : zML l yL_inspect wsL_inspect ({ frames := 8, cells := 1, slots := 6, locals := 136 } : Room) D k [.ref (a0 0), .int (iI p1), .ref (o1 0)] (wFac k a0 S0 ++ (wPlant k (subA a0 1) S1 ++ wArrJ k o1 S2)) (2) (wFac k a0 (up2 (up2 S0 0 9 ((sp_X5_verdictOn S1 105 p1 0 0))) 0 10 (sp_X5_detailOf S1 (sp_X5_verdictOn S1 105 p1 0 0) 105 p1)) ++ (wPlant k (subA a0 1) S1 ++ wArrJ k o1 S2)) 1 6 := by
  refine zML_of (cc := cL_inspect) (maxL := 4) (ret := (some .int)) (hh := [(0, 9, 12, 13), (0, 9, 15, 17)]) (by decide) rfl (Nat.le_of_ble_eq_true rfl) ?_
  intro p e s m args below meth c A ls hx hb hr hml hown hts hlocks hK hP hD hG hE hT hA hS hl
  have hown : s.vm.findClass RL = some m.cls := hown
  have hl : lv_has ls 4 [(0, .ref (a0 0)), (1, .int (iI p1)), (2, .ref (o1 0))] := hl
  obtain ⟨H, hH⟩ : ∃ z, z = s.heap := ⟨_, rfl⟩
  obtain ⟨locs, hlc⟩ : ∃ z : List Loc, z = [] := ⟨_, rfl⟩
  rw [← hH] at hP
  have hS : va_S A s.heap H locs := by rw [hH, hlc]; exact hS
  rw [← hlc, ← hH]
  clear hlc hH
  have kp := hp.2
  refine lv_aload_n hx hb dL_inspect_0 rfl (lv_at hl 2 rfl) ?_
  refine lv_iconst (v := iI 0) hx hb dL_inspect_1 rfl ?_
  refine lv_aload_n hx hb dL_inspect_2 rfl (lv_at hl 0 rfl) ?_
  refine lv_iload_n hx hb dL_inspect_3 rfl (lv_at hl 1 rfl) ?_
  refine z_axc (vx_runV (As := [.int (iI p1)]) (rest := [.int (iI 0), .ref (o1 0)]) ⟨hx, hb, hml, hown, hts⟩ (c_X7_inspect_r l hst D k a0 S0 S1  p1 hp (by omega) hv _) (cwV 1 hts gL_inspect_X7_inspect rfl rfl rfl (by decide +kernel) ⟨(Nat.le_of_ble_eq_true rfl), (Nat.le_of_ble_eq_true rfl)⟩) (z_preVx hK hG hE hA hP hD hS (zrg 0 1 ++ zrg 1 15) (z_mcat (z_hd (n := 1) rfl) (z_sk (n := 1) (off := 0) (m := 15) rfl (z_hd (n := 15) rfl))) (by decide +kernel) 9 rfl rfl) rfl rfl hl.1 rfl (lv_room (Nat.le_of_ble_eq_true rfl)) dL_inspect_4 ⟨(Nat.le_of_ble_eq_true rfl), (Nat.le_of_ble_eq_true rfl)⟩) hA hP hD hS (zrg 0 1 ++ zrg 1 15) (z_mcat (z_hd (n := 1) rfl) (z_sk (n := 1) (off := 0) (m := 15) rfl (z_hd (n := 15) rfl))) (z_mfst rfl rfl) (fun ce q9 H locs hP hD hS hce hcv hcl => ?_)
  have hz_2 : zset (wFac k a0 S0 ++ (wPlant k (subA a0 1) S1 ++ wArrJ k o1 S2)) (zrg 0 1) (wFac k a0 (up2 (up2 S0 0 9 ((sp_X5_verdictOn S1 105 p1 0 0))) 0 10 (sp_X5_detailOf S1 (sp_X5_verdictOn S1 105 p1 0 0) 105 p1))) = wFac k a0 (up2 (up2 S0 0 9 ((sp_X5_verdictOn S1 105 p1 0 0))) 0 10 (sp_X5_detailOf S1 (sp_X5_verdictOn S1 105 p1 0 0) 105 p1)) ++ (wPlant k (subA a0 1) S1 ++ wArrJ k o1 S2) := (z_zhd (n := 1) rfl rfl)
  have hz_3 : zset (wFac k a0 (up2 (up2 S0 0 9 ((sp_X5_verdictOn S1 105 p1 0 0))) 0 10 (sp_X5_detailOf S1 (sp_X5_verdictOn S1 105 p1 0 0) 105 p1)) ++ (wPlant k (subA a0 1) S1 ++ wArrJ k o1 S2)) (zrg 1 15) (wPlant k (subA a0 1) S1) = wFac k a0 (up2 (up2 S0 0 9 ((sp_X5_verdictOn S1 105 p1 0 0))) 0 10 (sp_X5_detailOf S1 (sp_X5_verdictOn S1 105 p1 0 0) 105 p1)) ++ (wPlant k (subA a0 1) S1 ++ wArrJ k o1 S2) := (z_zsk (n := 1) (off := 0) (m := 15) rfl (z_zhd (n := 15) rfl rfl))
  have hE_1 : zset (wFac k a0 S0 ++ (wPlant k (subA a0 1) S1 ++ wArrJ k o1 S2)) (zrg 0 1 ++ zrg 1 15) (wFac k a0 (up2 (up2 S0 0 9 ((sp_X5_verdictOn S1 105 p1 0 0))) 0 10 (sp_X5_detailOf S1 (sp_X5_verdictOn S1 105 p1 0 0) 105 p1)) ++ wPlant k (subA a0 1) S1) = wFac k a0 (up2 (up2 S0 0 9 ((sp_X5_verdictOn S1 105 p1 0 0))) 0 10 (sp_X5_detailOf S1 (sp_X5_verdictOn S1 105 p1 0 0) 105 p1)) ++ (wPlant k (subA a0 1) S1 ++ wArrJ k o1 S2) := (z_zcat rfl hz_2 hz_3)
  have hP : va_P D vwCl (wFac k a0 (up2 (up2 S0 0 9 ((sp_X5_verdictOn S1 105 p1 0 0))) 0 10 (sp_X5_detailOf S1 (sp_X5_verdictOn S1 105 p1 0 0) 105 p1)) ++ (wPlant k (subA a0 1) S1 ++ wArrJ k o1 S2)) H := z_to hE_1 hP
  have hD : va_D A (wFac k a0 (up2 (up2 S0 0 9 ((sp_X5_verdictOn S1 105 p1 0 0))) 0 10 (sp_X5_detailOf S1 (sp_X5_verdictOn S1 105 p1 0 0) 105 p1)) ++ (wPlant k (subA a0 1) S1 ++ wArrJ k o1 S2)) := z_to2 hE_1 hD
  refine vx_catch (name := "java/lang/UnsupportedOperationException") (E := "java/lang/UnsupportedOperationException") hown [(⟨0, 9, 12, 13⟩ : ExceptionTableEntry)] (⟨0, 9, 15, 17⟩ : ExceptionTableEntry) [] (hT.trans rfl) (List.forall_mem_cons.mpr ⟨Or.inr ⟨by decide, _, (hts (.classLink RL 13 "java/lang/IndexOutOfBoundsException") (List.mem_of_getElem? (i := 1) rfl)), hE.2.2 ("java/lang/UnsupportedOperationException", "java/lang/IndexOutOfBoundsException") (by decide +kernel)⟩, (fun _ h => absurd h List.not_mem_nil)⟩) rfl (by decide) (hts (.classLink RL 17 "java/lang/UnsupportedOperationException") (List.mem_of_getElem? (i := 2) rfl)) (va_Nw.use rfl (hE.1 "java/lang/UnsupportedOperationException" zXm_unsu)) hce hcv hcl ?_
  refine lv_astore_n (lv' := [(3, .ref q9), (0, .ref (a0 0)), (1, .int (iI p1)), (2, .ref (o1 0))]) hx hb dL_inspect_15 rfl hl (by decide) rfl (fun ls hl => ?_)
  refine lv_iconst (v := iI 2) hx hb dL_inspect_16 rfl ?_
  exact vx_ret (z_iret hx hb hr hlocks hP hS dL_inspect_17 rfl rfl (Nat.le_of_ble_eq_true rfl) (Nat.le_of_ble_eq_true rfl))
set_option maxHeartbeats 4000000 in
set_option maxRecDepth 100000 in
theorem c_L_hire_ok (l : Launch) (hst : l.stackTraces = false) (D : va_G) (k : Nat → ClassId) (a0 : Nat → Nat) (o1 : Nat → Nat) (S0 : Nat → Nat → Int) (S1 : Nat → Nat → Int) (S2 : Nat → Nat → Int) (S3 : Nat → Nat → Int) (S4 : Nat → Nat → Int) (i0 : Nat) (hp : pOK S1) (hv : sp_X5_verdictOn S1 104 0 0 0 = 0) (hi : S2 0 1 = (i0 : Int) ∧ i0 < 8) (hcn : 0 ≤ S2 0 2 ∧ S2 0 2 ≤ 8) : zML l yL_hire wsL_hire ({ frames := 7, cells := 1, slots := 6, locals := 175 } : Room) D k [.ref (a0 0), .ref (o1 0)] (wFac k a0 S0 ++ (wPlant k (subA a0 1) S1 ++ (wHist k (subA a0 61) S2 ++ (wPlant k (subA (subA a0 61) (2 + 15 * i0)) S3 ++ wArrJ k o1 S4)))) (0) (wFac k a0 S0 ++ (wPlant k (subA a0 1) ((wCarry S1 104 0 0 0)) ++ (wHist k (subA a0 61) (up2 (up2 S2 0 1 (((S2 0 1) + 1) % 8)) 0 2 (min ((S2 0 2) + 1) 8)) ++ (wPlant k (subA (subA a0 61) (2 + 15 * i0)) ((wCopy S3 S1)) ++ wArrJ k o1 (up2 S4 0 0 (sp_X5_carryOut S1 104 0 0 0)))))) 1 6 := by
  refine zML_of (cc := cL_hire) (maxL := 3) (ret := (some .int)) (hh := [(0, 8, 11, 17)]) (by decide) rfl (Nat.le_of_ble_eq_true rfl) ?_
  intro p e s m args below meth c A ls hx hb hr hml hown hts hlocks hK hP hD hG hE hT hA hS hl
  have hown : s.vm.findClass RL = some m.cls := hown
  have hl : lv_has ls 3 [(0, .ref (a0 0)), (1, .ref (o1 0))] := hl
  obtain ⟨H, hH⟩ : ∃ z, z = s.heap := ⟨_, rfl⟩
  obtain ⟨locs, hlc⟩ : ∃ z : List Loc, z = [] := ⟨_, rfl⟩
  rw [← hH] at hP
  have hS : va_S A s.heap H locs := by rw [hH, hlc]; exact hS
  rw [← hlc, ← hH]
  clear hlc hH
  have kp := hp.2
  refine lv_aload_n hx hb dL_hire_0 rfl (lv_at hl 1 rfl) ?_
  refine lv_iconst (v := iI 0) hx hb dL_hire_1 rfl ?_
  refine lv_aload_n hx hb dL_hire_2 rfl (lv_at hl 0 rfl) ?_
  refine z_ai (va_runV (As := []) (rest := [.int (iI 0), .ref (o1 0)]) ⟨hx, hb, hml, hown, hts⟩ (c_X7_hire_ok l D k a0 S0 S1 S2 S3 i0  hp hv hi hcn _) (cwV 0 hts gL_hire_X7_hire rfl rfl rfl (by decide +kernel) ⟨(Nat.le_of_ble_eq_true rfl), (Nat.le_of_ble_eq_true rfl)⟩) (z_preV hK hG hA hP hD hS (zrg 0 1 ++ (zrg 1 15 ++ (zrg 16 2 ++ zrg 18 15))) (z_mcat (z_hd (n := 1) rfl) (z_mcat (z_sk (n := 1) (off := 0) (m := 15) rfl (z_hd (n := 15) rfl)) (z_mcat (z_sk (n := 1) (off := 15) (m := 2) rfl (z_sk (n := 15) (off := 0) (m := 2) rfl (z_hd (n := 2) rfl))) (z_sk (n := 1) (off := 17) (m := 15) rfl (z_sk (n := 15) (off := 2) (m := 15) rfl (z_sk (n := 2) (off := 0) (m := 15) rfl (z_hd (n := 15) rfl))))))) (by decide +kernel) 9 rfl rfl) rfl rfl hl.1 rfl (lv_room (Nat.le_of_ble_eq_true rfl)) dL_hire_3 ⟨(Nat.le_of_ble_eq_true rfl), (Nat.le_of_ble_eq_true rfl)⟩) hA hP hD hS (zrg 0 1 ++ (zrg 1 15 ++ (zrg 16 2 ++ zrg 18 15))) (z_mcat (z_hd (n := 1) rfl) (z_mcat (z_sk (n := 1) (off := 0) (m := 15) rfl (z_hd (n := 15) rfl)) (z_mcat (z_sk (n := 1) (off := 15) (m := 2) rfl (z_sk (n := 15) (off := 0) (m := 2) rfl (z_hd (n := 2) rfl))) (z_sk (n := 1) (off := 17) (m := 15) rfl (z_sk (n := 15) (off := 2) (m := 15) rfl (z_sk (n := 2) (off := 0) (m := 15) rfl (z_hd (n := 15) rfl))))))) (z_mfst rfl (z_mfst rfl (z_mfst rfl rfl))) (fun H locs hP hD hS => ?_)
  have hz_2 : zset (wFac k a0 S0 ++ (wPlant k (subA a0 1) S1 ++ (wHist k (subA a0 61) S2 ++ (wPlant k (subA (subA a0 61) (2 + 15 * i0)) S3 ++ wArrJ k o1 S4)))) (zrg 0 1) (wFac k a0 S0) = wFac k a0 S0 ++ (wPlant k (subA a0 1) S1 ++ (wHist k (subA a0 61) S2 ++ (wPlant k (subA (subA a0 61) (2 + 15 * i0)) S3 ++ wArrJ k o1 S4))) := (z_zhd (n := 1) rfl rfl)
  have hz_3 : zset (wFac k a0 S0 ++ (wPlant k (subA a0 1) S1 ++ (wHist k (subA a0 61) S2 ++ (wPlant k (subA (subA a0 61) (2 + 15 * i0)) S3 ++ wArrJ k o1 S4)))) (zrg 1 15) (wPlant k (subA a0 1) ((wCarry S1 104 0 0 0))) = wFac k a0 S0 ++ (wPlant k (subA a0 1) ((wCarry S1 104 0 0 0)) ++ (wHist k (subA a0 61) S2 ++ (wPlant k (subA (subA a0 61) (2 + 15 * i0)) S3 ++ wArrJ k o1 S4))) := (z_zsk (n := 1) (off := 0) (m := 15) rfl (z_zhd (n := 15) rfl rfl))
  have hz_4 : zset (wFac k a0 S0 ++ (wPlant k (subA a0 1) ((wCarry S1 104 0 0 0)) ++ (wHist k (subA a0 61) S2 ++ (wPlant k (subA (subA a0 61) (2 + 15 * i0)) S3 ++ wArrJ k o1 S4)))) (zrg 16 2) (wHist k (subA a0 61) (up2 (up2 S2 0 1 (((S2 0 1) + 1) % 8)) 0 2 (min ((S2 0 2) + 1) 8))) = wFac k a0 S0 ++ (wPlant k (subA a0 1) ((wCarry S1 104 0 0 0)) ++ (wHist k (subA a0 61) (up2 (up2 S2 0 1 (((S2 0 1) + 1) % 8)) 0 2 (min ((S2 0 2) + 1) 8)) ++ (wPlant k (subA (subA a0 61) (2 + 15 * i0)) S3 ++ wArrJ k o1 S4))) := (z_zsk (n := 1) (off := 15) (m := 2) rfl (z_zsk (n := 15) (off := 0) (m := 2) rfl (z_zhd (n := 2) rfl rfl)))
  have hz_5 : zset (wFac k a0 S0 ++ (wPlant k (subA a0 1) ((wCarry S1 104 0 0 0)) ++ (wHist k (subA a0 61) (up2 (up2 S2 0 1 (((S2 0 1) + 1) % 8)) 0 2 (min ((S2 0 2) + 1) 8)) ++ (wPlant k (subA (subA a0 61) (2 + 15 * i0)) S3 ++ wArrJ k o1 S4)))) (zrg 18 15) (wPlant k (subA (subA a0 61) (2 + 15 * i0)) ((wCopy S3 S1))) = wFac k a0 S0 ++ (wPlant k (subA a0 1) ((wCarry S1 104 0 0 0)) ++ (wHist k (subA a0 61) (up2 (up2 S2 0 1 (((S2 0 1) + 1) % 8)) 0 2 (min ((S2 0 2) + 1) 8)) ++ (wPlant k (subA (subA a0 61) (2 + 15 * i0)) ((wCopy S3 S1)) ++ wArrJ k o1 S4))) := (z_zsk (n := 1) (off := 17) (m := 15) rfl (z_zsk (n := 15) (off := 2) (m := 15) rfl (z_zsk (n := 2) (off := 0) (m := 15) rfl (z_zhd (n := 15) rfl rfl))))
  have hE_1 : zset (wFac k a0 S0 ++ (wPlant k (subA a0 1) S1 ++ (wHist k (subA a0 61) S2 ++ (wPlant k (subA (subA a0 61) (2 + 15 * i0)) S3 ++ wArrJ k o1 S4)))) (zrg 0 1 ++ (zrg 1 15 ++ (zrg 16 2 ++ zrg 18 15))) (wFac k a0 S0 ++ (wPlant k (subA a0 1) ((wCarry S1 104 0 0 0)) ++ (wHist k (subA a0 61) (up2 (up2 S2 0 1 (((S2 0 1) + 1) % 8)) 0 2 (min ((S2 0 2) + 1) 8)) ++ wPlant k (subA (subA a0 61) (2 + 15 * i0)) ((wCopy S3 S1))))) = wFac k a0 S0 ++ (wPlant k (subA a0 1) ((wCarry S1 104 0 0 0)) ++ (wHist k (subA a0 61) (up2 (up2 S2 0 1 (((S2 0 1) + 1) % 8)) 0 2 (min ((S2 0 2) + 1) 8)) ++ (wPlant k (subA (subA a0 61) (2 + 15 * i0)) ((wCopy S3 S1)) ++ wArrJ k o1 S4))) := (z_zcat rfl hz_2 (z_zcat rfl hz_3 (z_zcat rfl hz_4 hz_5)))
  have hP : va_P D vwCl (wFac k a0 S0 ++ (wPlant k (subA a0 1) ((wCarry S1 104 0 0 0)) ++ (wHist k (subA a0 61) (up2 (up2 S2 0 1 (((S2 0 1) + 1) % 8)) 0 2 (min ((S2 0 2) + 1) 8)) ++ (wPlant k (subA (subA a0 61) (2 + 15 * i0)) ((wCopy S3 S1)) ++ wArrJ k o1 S4)))) H := z_to hE_1 hP
  have hD : va_D A (wFac k a0 S0 ++ (wPlant k (subA a0 1) ((wCarry S1 104 0 0 0)) ++ (wHist k (subA a0 61) (up2 (up2 S2 0 1 (((S2 0 1) + 1) % 8)) 0 2 (min ((S2 0 2) + 1) 8)) ++ (wPlant k (subA (subA a0 61) (2 + 15 * i0)) ((wCopy S3 S1)) ++ wArrJ k o1 S4)))) := z_to2 hE_1 hD
  refine lv_i2l (v := (iI (sp_X5_carryOut S1 104 0 0 0)).toInt64) hx hb dL_hire_6 rfl ?_
  refine z_last hx hb hK hP hD hS 33 4 (f := S4 0) rfl rfl (i := 0) (by omega) (by omega) (by decide) 0 rfl dL_hire_7 (fun H locs hP hD hS => ?_)
  have hP : va_P D vwCl (wFac k a0 S0 ++ (wPlant k (subA a0 1) ((wCarry S1 104 0 0 0)) ++ (wHist k (subA a0 61) (up2 (up2 S2 0 1 (((S2 0 1) + 1) % 8)) 0 2 (min ((S2 0 2) + 1) 8)) ++ (wPlant k (subA (subA a0 61) (2 + 15 * i0)) ((wCopy S3 S1)) ++ wArrJ k o1 (up2 S4 0 0 (sp_X5_carryOut S1 104 0 0 0)))))) H := hP
  have hD : va_D A (wFac k a0 S0 ++ (wPlant k (subA a0 1) ((wCarry S1 104 0 0 0)) ++ (wHist k (subA a0 61) (up2 (up2 S2 0 1 (((S2 0 1) + 1) % 8)) 0 2 (min ((S2 0 2) + 1) 8)) ++ (wPlant k (subA (subA a0 61) (2 + 15 * i0)) ((wCopy S3 S1)) ++ wArrJ k o1 (up2 S4 0 0 (sp_X5_carryOut S1 104 0 0 0)))))) := hD
  refine lv_goto (tgt := 14) hx hb dL_hire_8 (by decide) ?_
  refine lv_iconst (v := iI 0) hx hb dL_hire_14 rfl ?_
  exact vx_ret (z_iret hx hb hr hlocks hP hS dL_hire_15 rfl rfl (Nat.le_of_ble_eq_true rfl) (Nat.le_of_ble_eq_true rfl))
set_option maxHeartbeats 4000000 in
set_option maxRecDepth 100000 in
theorem c_L_hire_r (l : Launch) (hst : l.stackTraces = false) (D : va_G) (k : Nat → ClassId) (a0 : Nat → Nat) (o1 : Nat → Nat) (S0 : Nat → Nat → Int) (S1 : Nat → Nat → Int) (S2 : Nat → Nat → Int) (hp : pOK S1) (hv : 1 ≤ sp_X5_verdictOn S1 104 0 0 0 ∧ sp_X5_verdictOn S1 104 0 0 0 ≤ 5) : zML l yL_hire wsL_hire ({ frames := 8, cells := 1, slots := 6, locals := 135 } : Room) D k [.ref (a0 0), .ref (o1 0)] (wFac k a0 S0 ++ (wPlant k (subA a0 1) S1 ++ wArrJ k o1 S2)) (1) (wFac k a0 (up2 (up2 S0 0 9 ((sp_X5_verdictOn S1 104 0 0 0))) 0 10 (sp_X5_detailOf S1 (sp_X5_verdictOn S1 104 0 0 0) 104 0)) ++ (wPlant k (subA a0 1) S1 ++ wArrJ k o1 S2)) 1 6 := by
  refine zML_of (cc := cL_hire) (maxL := 3) (ret := (some .int)) (hh := [(0, 8, 11, 17)]) (by decide) rfl (Nat.le_of_ble_eq_true rfl) ?_
  intro p e s m args below meth c A ls hx hb hr hml hown hts hlocks hK hP hD hG hE hT hA hS hl
  have hown : s.vm.findClass RL = some m.cls := hown
  have hl : lv_has ls 3 [(0, .ref (a0 0)), (1, .ref (o1 0))] := hl
  obtain ⟨H, hH⟩ : ∃ z, z = s.heap := ⟨_, rfl⟩
  obtain ⟨locs, hlc⟩ : ∃ z : List Loc, z = [] := ⟨_, rfl⟩
  rw [← hH] at hP
  have hS : va_S A s.heap H locs := by rw [hH, hlc]; exact hS
  rw [← hlc, ← hH]
  clear hlc hH
  have kp := hp.2
  refine lv_aload_n hx hb dL_hire_0 rfl (lv_at hl 1 rfl) ?_
  refine lv_iconst (v := iI 0) hx hb dL_hire_1 rfl ?_
  refine lv_aload_n hx hb dL_hire_2 rfl (lv_at hl 0 rfl) ?_
  refine z_axc (vx_runV (As := []) (rest := [.int (iI 0), .ref (o1 0)]) ⟨hx, hb, hml, hown, hts⟩ (c_X7_hire_r l hst D k a0 S0 S1   hp hv _) (cwV 0 hts gL_hire_X7_hire rfl rfl rfl (by decide +kernel) ⟨(Nat.le_of_ble_eq_true rfl), (Nat.le_of_ble_eq_true rfl)⟩) (z_preVx hK hG hE hA hP hD hS (zrg 0 1 ++ zrg 1 15) (z_mcat (z_hd (n := 1) rfl) (z_sk (n := 1) (off := 0) (m := 15) rfl (z_hd (n := 15) rfl))) (by decide +kernel) 9 rfl rfl) rfl rfl hl.1 rfl (lv_room (Nat.le_of_ble_eq_true rfl)) dL_hire_3 ⟨(Nat.le_of_ble_eq_true rfl), (Nat.le_of_ble_eq_true rfl)⟩) hA hP hD hS (zrg 0 1 ++ zrg 1 15) (z_mcat (z_hd (n := 1) rfl) (z_sk (n := 1) (off := 0) (m := 15) rfl (z_hd (n := 15) rfl))) (z_mfst rfl rfl) (fun ce q9 H locs hP hD hS hce hcv hcl => ?_)
  have hz_2 : zset (wFac k a0 S0 ++ (wPlant k (subA a0 1) S1 ++ wArrJ k o1 S2)) (zrg 0 1) (wFac k a0 (up2 (up2 S0 0 9 ((sp_X5_verdictOn S1 104 0 0 0))) 0 10 (sp_X5_detailOf S1 (sp_X5_verdictOn S1 104 0 0 0) 104 0))) = wFac k a0 (up2 (up2 S0 0 9 ((sp_X5_verdictOn S1 104 0 0 0))) 0 10 (sp_X5_detailOf S1 (sp_X5_verdictOn S1 104 0 0 0) 104 0)) ++ (wPlant k (subA a0 1) S1 ++ wArrJ k o1 S2) := (z_zhd (n := 1) rfl rfl)
  have hz_3 : zset (wFac k a0 (up2 (up2 S0 0 9 ((sp_X5_verdictOn S1 104 0 0 0))) 0 10 (sp_X5_detailOf S1 (sp_X5_verdictOn S1 104 0 0 0) 104 0)) ++ (wPlant k (subA a0 1) S1 ++ wArrJ k o1 S2)) (zrg 1 15) (wPlant k (subA a0 1) S1) = wFac k a0 (up2 (up2 S0 0 9 ((sp_X5_verdictOn S1 104 0 0 0))) 0 10 (sp_X5_detailOf S1 (sp_X5_verdictOn S1 104 0 0 0) 104 0)) ++ (wPlant k (subA a0 1) S1 ++ wArrJ k o1 S2) := (z_zsk (n := 1) (off := 0) (m := 15) rfl (z_zhd (n := 15) rfl rfl))
  have hE_1 : zset (wFac k a0 S0 ++ (wPlant k (subA a0 1) S1 ++ wArrJ k o1 S2)) (zrg 0 1 ++ zrg 1 15) (wFac k a0 (up2 (up2 S0 0 9 ((sp_X5_verdictOn S1 104 0 0 0))) 0 10 (sp_X5_detailOf S1 (sp_X5_verdictOn S1 104 0 0 0) 104 0)) ++ wPlant k (subA a0 1) S1) = wFac k a0 (up2 (up2 S0 0 9 ((sp_X5_verdictOn S1 104 0 0 0))) 0 10 (sp_X5_detailOf S1 (sp_X5_verdictOn S1 104 0 0 0) 104 0)) ++ (wPlant k (subA a0 1) S1 ++ wArrJ k o1 S2) := (z_zcat rfl hz_2 hz_3)
  have hP : va_P D vwCl (wFac k a0 (up2 (up2 S0 0 9 ((sp_X5_verdictOn S1 104 0 0 0))) 0 10 (sp_X5_detailOf S1 (sp_X5_verdictOn S1 104 0 0 0) 104 0)) ++ (wPlant k (subA a0 1) S1 ++ wArrJ k o1 S2)) H := z_to hE_1 hP
  have hD : va_D A (wFac k a0 (up2 (up2 S0 0 9 ((sp_X5_verdictOn S1 104 0 0 0))) 0 10 (sp_X5_detailOf S1 (sp_X5_verdictOn S1 104 0 0 0) 104 0)) ++ (wPlant k (subA a0 1) S1 ++ wArrJ k o1 S2)) := z_to2 hE_1 hD
  refine vx_catch (name := "java/lang/UnsupportedOperationException") (E := "java/lang/UnsupportedOperationException") hown [] (⟨0, 8, 11, 17⟩ : ExceptionTableEntry) [] (hT.trans rfl) (fun _ h => absurd h List.not_mem_nil) rfl (by decide) (hts (.classLink RL 17 "java/lang/UnsupportedOperationException") (List.mem_of_getElem? (i := 1) rfl)) (va_Nw.use rfl (hE.1 "java/lang/UnsupportedOperationException" zXm_unsu)) hce hcv hcl ?_
  refine lv_astore_n (lv' := [(2, .ref q9), (0, .ref (a0 0)), (1, .ref (o1 0))]) hx hb dL_hire_11 rfl hl (by decide) rfl (fun ls hl => ?_)
  refine lv_iconst (v := iI 1) hx hb dL_hire_12 rfl ?_
  exact vx_ret (z_iret hx hb hr hlocks hP hS dL_hire_13 rfl rfl (Nat.le_of_ble_eq_true rfl) (Nat.le_of_ble_eq_true rfl))
set_option maxHeartbeats 4000000 in
set_option maxRecDepth 100000 in
theorem c_L_leave_ok (l : Launch) (hst : l.stackTraces = false) (D : va_G) (k : Nat → ClassId) (a0 : Nat → Nat) (o1 : Nat → Nat) (S0 : Nat → Nat → Int) (S1 : Nat → Nat → Int) (S2 : Nat → Nat → Int) (S3 : Nat → Nat → Int) (S4 : Nat → Nat → Int) (i0 : Nat) (p1 : Int) (hp : pOK S1) (h0 : -2147483648 ≤ p1 ∧ p1 < 2147483648) (hv : sp_X5_verdictOn S1 111 p1 0 0 = 0) (hi : S2 0 1 = (i0 : Int) ∧ i0 < 8) (hcn : 0 ≤ S2 0 2 ∧ S2 0 2 ≤ 8) : zML l yL_leave wsL_leave ({ frames := 7, cells := 1, slots := 6, locals := 176 } : Room) D k [.ref (a0 0), .int (iI p1), .ref (o1 0)] (wFac k a0 S0 ++ (wPlant k (subA a0 1) S1 ++ (wHist k (subA a0 61) S2 ++ (wPlant k (subA (subA a0 61) (2 + 15 * i0)) S3 ++ wArrJ k o1 S4)))) (0) (wFac k a0 S0 ++ (wPlant k (subA a0 1) ((wCarry S1 111 p1 0 0)) ++ (wHist k (subA a0 61) (up2 (up2 S2 0 1 (((S2 0 1) + 1) % 8)) 0 2 (min ((S2 0 2) + 1) 8)) ++ (wPlant k (subA (subA a0 61) (2 + 15 * i0)) ((wCopy S3 S1)) ++ wArrJ k o1 (up2 S4 0 0 (sp_X5_carryOut S1 111 p1 0 0)))))) 1 6 := by
  refine zML_of (cc := cL_leave) (maxL := 4) (ret := (some .int)) (hh := [(0, 9, 12, 13)]) (by decide) rfl (Nat.le_of_ble_eq_true rfl) ?_
  intro p e s m args below meth c A ls hx hb hr hml hown hts hlocks hK hP hD hG hE hT hA hS hl
  have hown : s.vm.findClass RL = some m.cls := hown
  have hl : lv_has ls 4 [(0, .ref (a0 0)), (1, .int (iI p1)), (2, .ref (o1 0))] := hl
  obtain ⟨H, hH⟩ : ∃ z, z = s.heap := ⟨_, rfl⟩
  obtain ⟨locs, hlc⟩ : ∃ z : List Loc, z = [] := ⟨_, rfl⟩
  rw [← hH] at hP
  have hS : va_S A s.heap H locs := by rw [hH, hlc]; exact hS
  rw [← hlc, ← hH]
  clear hlc hH
  have kp := hp.2
  refine lv_aload_n hx hb dL_leave_0 rfl (lv_at hl 2 rfl) ?_
  refine lv_iconst (v := iI 0) hx hb dL_leave_1 rfl ?_
  refine lv_aload_n hx hb dL_leave_2 rfl (lv_at hl 0 rfl) ?_
  refine lv_iload_n hx hb dL_leave_3 rfl (lv_at hl 1 rfl) ?_
  refine z_ai (va_runV (As := [.int (iI p1)]) (rest := [.int (iI 0), .ref (o1 0)]) ⟨hx, hb, hml, hown, hts⟩ (c_X7_leave_ok l D k a0 S0 S1 S2 S3 i0 p1 hp (by omega) hv hi hcn _) (cwV 1 hts gL_leave_X7_leave rfl rfl rfl (by decide +kernel) ⟨(Nat.le_of_ble_eq_true rfl), (Nat.le_of_ble_eq_true rfl)⟩) (z_preV hK hG hA hP hD hS (zrg 0 1 ++ (zrg 1 15 ++ (zrg 16 2 ++ zrg 18 15))) (z_mcat (z_hd (n := 1) rfl) (z_mcat (z_sk (n := 1) (off := 0) (m := 15) rfl (z_hd (n := 15) rfl)) (z_mcat (z_sk (n := 1) (off := 15) (m := 2) rfl (z_sk (n := 15) (off := 0) (m := 2) rfl (z_hd (n := 2) rfl))) (z_sk (n := 1) (off := 17) (m := 15) rfl (z_sk (n := 15) (off := 2) (m := 15) rfl (z_sk (n := 2) (off := 0) (m := 15) rfl (z_hd (n := 15) rfl))))))) (by decide +kernel) 9 rfl rfl) rfl rfl hl.1 rfl (lv_room (Nat.le_of_ble_eq_true rfl)) dL_leave_4 ⟨(Nat.le_of_ble_eq_true rfl), (Nat.le_of_ble_eq_true rfl)⟩) hA hP hD hS (zrg 0 1 ++ (zrg 1 15 ++ (zrg 16 2 ++ zrg 18 15))) (z_mcat (z_hd (n := 1) rfl) (z_mcat (z_sk (n := 1) (off := 0) (m := 15) rfl (z_hd (n := 15) rfl)) (z_mcat (z_sk (n := 1) (off := 15) (m := 2) rfl (z_sk (n := 15) (off := 0) (m := 2) rfl (z_hd (n := 2) rfl))) (z_sk (n := 1) (off := 17) (m := 15) rfl (z_sk (n := 15) (off := 2) (m := 15) rfl (z_sk (n := 2) (off := 0) (m := 15) rfl (z_hd (n := 15) rfl))))))) (z_mfst rfl (z_mfst rfl (z_mfst rfl rfl))) (fun H locs hP hD hS => ?_)
  have hz_2 : zset (wFac k a0 S0 ++ (wPlant k (subA a0 1) S1 ++ (wHist k (subA a0 61) S2 ++ (wPlant k (subA (subA a0 61) (2 + 15 * i0)) S3 ++ wArrJ k o1 S4)))) (zrg 0 1) (wFac k a0 S0) = wFac k a0 S0 ++ (wPlant k (subA a0 1) S1 ++ (wHist k (subA a0 61) S2 ++ (wPlant k (subA (subA a0 61) (2 + 15 * i0)) S3 ++ wArrJ k o1 S4))) := (z_zhd (n := 1) rfl rfl)
  have hz_3 : zset (wFac k a0 S0 ++ (wPlant k (subA a0 1) S1 ++ (wHist k (subA a0 61) S2 ++ (wPlant k (subA (subA a0 61) (2 + 15 * i0)) S3 ++ wArrJ k o1 S4)))) (zrg 1 15) (wPlant k (subA a0 1) ((wCarry S1 111 p1 0 0))) = wFac k a0 S0 ++ (wPlant k (subA a0 1) ((wCarry S1 111 p1 0 0)) ++ (wHist k (subA a0 61) S2 ++ (wPlant k (subA (subA a0 61) (2 + 15 * i0)) S3 ++ wArrJ k o1 S4))) := (z_zsk (n := 1) (off := 0) (m := 15) rfl (z_zhd (n := 15) rfl rfl))
  have hz_4 : zset (wFac k a0 S0 ++ (wPlant k (subA a0 1) ((wCarry S1 111 p1 0 0)) ++ (wHist k (subA a0 61) S2 ++ (wPlant k (subA (subA a0 61) (2 + 15 * i0)) S3 ++ wArrJ k o1 S4)))) (zrg 16 2) (wHist k (subA a0 61) (up2 (up2 S2 0 1 (((S2 0 1) + 1) % 8)) 0 2 (min ((S2 0 2) + 1) 8))) = wFac k a0 S0 ++ (wPlant k (subA a0 1) ((wCarry S1 111 p1 0 0)) ++ (wHist k (subA a0 61) (up2 (up2 S2 0 1 (((S2 0 1) + 1) % 8)) 0 2 (min ((S2 0 2) + 1) 8)) ++ (wPlant k (subA (subA a0 61) (2 + 15 * i0)) S3 ++ wArrJ k o1 S4))) := (z_zsk (n := 1) (off := 15) (m := 2) rfl (z_zsk (n := 15) (off := 0) (m := 2) rfl (z_zhd (n := 2) rfl rfl)))
  have hz_5 : zset (wFac k a0 S0 ++ (wPlant k (subA a0 1) ((wCarry S1 111 p1 0 0)) ++ (wHist k (subA a0 61) (up2 (up2 S2 0 1 (((S2 0 1) + 1) % 8)) 0 2 (min ((S2 0 2) + 1) 8)) ++ (wPlant k (subA (subA a0 61) (2 + 15 * i0)) S3 ++ wArrJ k o1 S4)))) (zrg 18 15) (wPlant k (subA (subA a0 61) (2 + 15 * i0)) ((wCopy S3 S1))) = wFac k a0 S0 ++ (wPlant k (subA a0 1) ((wCarry S1 111 p1 0 0)) ++ (wHist k (subA a0 61) (up2 (up2 S2 0 1 (((S2 0 1) + 1) % 8)) 0 2 (min ((S2 0 2) + 1) 8)) ++ (wPlant k (subA (subA a0 61) (2 + 15 * i0)) ((wCopy S3 S1)) ++ wArrJ k o1 S4))) := (z_zsk (n := 1) (off := 17) (m := 15) rfl (z_zsk (n := 15) (off := 2) (m := 15) rfl (z_zsk (n := 2) (off := 0) (m := 15) rfl (z_zhd (n := 15) rfl rfl))))
  have hE_1 : zset (wFac k a0 S0 ++ (wPlant k (subA a0 1) S1 ++ (wHist k (subA a0 61) S2 ++ (wPlant k (subA (subA a0 61) (2 + 15 * i0)) S3 ++ wArrJ k o1 S4)))) (zrg 0 1 ++ (zrg 1 15 ++ (zrg 16 2 ++ zrg 18 15))) (wFac k a0 S0 ++ (wPlant k (subA a0 1) ((wCarry S1 111 p1 0 0)) ++ (wHist k (subA a0 61) (up2 (up2 S2 0 1 (((S2 0 1) + 1) % 8)) 0 2 (min ((S2 0 2) + 1) 8)) ++ wPlant k (subA (subA a0 61) (2 + 15 * i0)) ((wCopy S3 S1))))) = wFac k a0 S0 ++ (wPlant k (subA a0 1) ((wCarry S1 111 p1 0 0)) ++ (wHist k (subA a0 61) (up2 (up2 S2 0 1 (((S2 0 1) + 1) % 8)) 0 2 (min ((S2 0 2) + 1) 8)) ++ (wPlant k (subA (subA a0 61) (2 + 15 * i0)) ((wCopy S3 S1)) ++ wArrJ k o1 S4))) := (z_zcat rfl hz_2 (z_zcat rfl hz_3 (z_zcat rfl hz_4 hz_5)))
  have hP : va_P D vwCl (wFac k a0 S0 ++ (wPlant k (subA a0 1) ((wCarry S1 111 p1 0 0)) ++ (wHist k (subA a0 61) (up2 (up2 S2 0 1 (((S2 0 1) + 1) % 8)) 0 2 (min ((S2 0 2) + 1) 8)) ++ (wPlant k (subA (subA a0 61) (2 + 15 * i0)) ((wCopy S3 S1)) ++ wArrJ k o1 S4)))) H := z_to hE_1 hP
  have hD : va_D A (wFac k a0 S0 ++ (wPlant k (subA a0 1) ((wCarry S1 111 p1 0 0)) ++ (wHist k (subA a0 61) (up2 (up2 S2 0 1 (((S2 0 1) + 1) % 8)) 0 2 (min ((S2 0 2) + 1) 8)) ++ (wPlant k (subA (subA a0 61) (2 + 15 * i0)) ((wCopy S3 S1)) ++ wArrJ k o1 S4)))) := z_to2 hE_1 hD
  refine lv_i2l (v := (iI (sp_X5_carryOut S1 111 p1 0 0)).toInt64) hx hb dL_leave_7 rfl ?_
  refine z_last hx hb hK hP hD hS 33 4 (f := S4 0) rfl rfl (i := 0) (by omega) (by omega) (by decide) 0 rfl dL_leave_8 (fun H locs hP hD hS => ?_)
  have hP : va_P D vwCl (wFac k a0 S0 ++ (wPlant k (subA a0 1) ((wCarry S1 111 p1 0 0)) ++ (wHist k (subA a0 61) (up2 (up2 S2 0 1 (((S2 0 1) + 1) % 8)) 0 2 (min ((S2 0 2) + 1) 8)) ++ (wPlant k (subA (subA a0 61) (2 + 15 * i0)) ((wCopy S3 S1)) ++ wArrJ k o1 (up2 S4 0 0 (sp_X5_carryOut S1 111 p1 0 0)))))) H := hP
  have hD : va_D A (wFac k a0 S0 ++ (wPlant k (subA a0 1) ((wCarry S1 111 p1 0 0)) ++ (wHist k (subA a0 61) (up2 (up2 S2 0 1 (((S2 0 1) + 1) % 8)) 0 2 (min ((S2 0 2) + 1) 8)) ++ (wPlant k (subA (subA a0 61) (2 + 15 * i0)) ((wCopy S3 S1)) ++ wArrJ k o1 (up2 S4 0 0 (sp_X5_carryOut S1 111 p1 0 0)))))) := hD
  refine lv_goto (tgt := 15) hx hb dL_leave_9 (by decide) ?_
  refine lv_iconst (v := iI 0) hx hb dL_leave_15 rfl ?_
  exact vx_ret (z_iret hx hb hr hlocks hP hS dL_leave_16 rfl rfl (Nat.le_of_ble_eq_true rfl) (Nat.le_of_ble_eq_true rfl))
set_option maxHeartbeats 4000000 in
set_option maxRecDepth 100000 in
theorem c_L_leave_6 (l : Launch) (hst : l.stackTraces = false) (D : va_G) (k : Nat → ClassId) (a0 : Nat → Nat) (o1 : Nat → Nat) (S0 : Nat → Nat → Int) (S1 : Nat → Nat → Int) (S2 : Nat → Nat → Int) (p1 : Int) (hp : pOK S1) (h0 : -2147483648 ≤ p1 ∧ p1 < 2147483648) (hv : sp_X5_verdictOn S1 111 p1 0 0 = 6) : zML l yL_leave wsL_leave ({ frames := 8, cells := 1, slots := 6, locals := 135 } : Room) D k [.ref (a0 0), .int (iI p1), .ref (o1 0)] (wFac k a0 S0 ++ (wPlant k (subA a0 1) S1 ++ wArrJ k o1 S2)) (1) (wFac k a0 S0 ++ (wPlant k (subA a0 1) S1 ++ wArrJ k o1 S2)) 1 6 := by
  refine zML_of (cc := cL_leave) (maxL := 4) (ret := (some .int)) (hh := [(0, 9, 12, 13)]) (by decide) rfl (Nat.le_of_ble_eq_true rfl) ?_
  intro p e s m args below meth c A ls hx hb hr hml hown hts hlocks hK hP hD hG hE hT hA hS hl
  have hown : s.vm.findClass RL = some m.cls := hown
  have hl : lv_has ls 4 [(0, .ref (a0 0)), (1, .int (iI p1)), (2, .ref (o1 0))] := hl
  obtain ⟨H, hH⟩ : ∃ z, z = s.heap := ⟨_, rfl⟩
  obtain ⟨locs, hlc⟩ : ∃ z : List Loc, z = [] := ⟨_, rfl⟩
  rw [← hH] at hP
  have hS : va_S A s.heap H locs := by rw [hH, hlc]; exact hS
  rw [← hlc, ← hH]
  clear hlc hH
  have kp := hp.2
  refine lv_aload_n hx hb dL_leave_0 rfl (lv_at hl 2 rfl) ?_
  refine lv_iconst (v := iI 0) hx hb dL_leave_1 rfl ?_
  refine lv_aload_n hx hb dL_leave_2 rfl (lv_at hl 0 rfl) ?_
  refine lv_iload_n hx hb dL_leave_3 rfl (lv_at hl 1 rfl) ?_
  refine z_axc0 (vx_runV (As := [.int (iI p1)]) (rest := [.int (iI 0), .ref (o1 0)]) ⟨hx, hb, hml, hown, hts⟩ (c_X7_leave_6 l hst D k a0 S0 S1  p1 hp (by omega) hv _) (cwV 1 hts gL_leave_X7_leave rfl rfl rfl (by decide +kernel) ⟨(Nat.le_of_ble_eq_true rfl), (Nat.le_of_ble_eq_true rfl)⟩) (z_preVx hK hG hE hA hP hD hS (zrg 0 1 ++ zrg 1 15) (z_mcat (z_hd (n := 1) rfl) (z_sk (n := 1) (off := 0) (m := 15) rfl (z_hd (n := 15) rfl))) (by decide +kernel) 9 rfl rfl) rfl rfl hl.1 rfl (lv_room (Nat.le_of_ble_eq_true rfl)) dL_leave_4 ⟨(Nat.le_of_ble_eq_true rfl), (Nat.le_of_ble_eq_true rfl)⟩) hA hP hD hS (zrg 0 1 ++ zrg 1 15) (z_mcat (z_hd (n := 1) rfl) (z_sk (n := 1) (off := 0) (m := 15) rfl (z_hd (n := 15) rfl))) (fun ce q9 H locs hP hS hce hcv hcl => ?_)
  refine vx_catch (name := "java/lang/IndexOutOfBoundsException") (E := "java/lang/IndexOutOfBoundsException") hown [] (⟨0, 9, 12, 13⟩ : ExceptionTableEntry) [] (hT.trans rfl) (fun _ h => absurd h List.not_mem_nil) rfl (by decide) (hts (.classLink RL 13 "java/lang/IndexOutOfBoundsException") (List.mem_of_getElem? (i := 1) rfl)) (va_Nw.use rfl (hE.1 "java/lang/IndexOutOfBoundsException" zXm_ioob)) hce hcv hcl ?_
  refine lv_astore_n (lv' := [(3, .ref q9), (0, .ref (a0 0)), (1, .int (iI p1)), (2, .ref (o1 0))]) hx hb dL_leave_12 rfl hl (by decide) rfl (fun ls hl => ?_)
  refine lv_iconst (v := iI 1) hx hb dL_leave_13 rfl ?_
  exact vx_ret (z_iret hx hb hr hlocks hP hS dL_leave_14 rfl rfl (Nat.le_of_ble_eq_true rfl) (Nat.le_of_ble_eq_true rfl))
set_option maxHeartbeats 4000000 in
set_option maxRecDepth 100000 in
theorem c_L_sell_ok (l : Launch) (hst : l.stackTraces = false) (D : va_G) (k : Nat → ClassId) (a0 : Nat → Nat) (o1 : Nat → Nat) (S0 : Nat → Nat → Int) (S1 : Nat → Nat → Int) (S2 : Nat → Nat → Int) (S3 : Nat → Nat → Int) (S4 : Nat → Nat → Int) (i0 : Nat) (p1 : Int) (hp : pOK S1) (h0 : -2147483648 ≤ p1 ∧ p1 < 2147483648) (hv : sp_X5_verdictOn S1 115 p1 0 0 = 0) (hi : S2 0 1 = (i0 : Int) ∧ i0 < 8) (hcn : 0 ≤ S2 0 2 ∧ S2 0 2 ≤ 8) : zML l yL_sell wsL_sell ({ frames := 7, cells := 1, slots := 6, locals := 176 } : Room) D k [.ref (a0 0), .int (iI p1), .ref (o1 0)] (wFac k a0 S0 ++ (wPlant k (subA a0 1) S1 ++ (wHist k (subA a0 61) S2 ++ (wPlant k (subA (subA a0 61) (2 + 15 * i0)) S3 ++ wArrJ k o1 S4)))) (0) (wFac k a0 S0 ++ (wPlant k (subA a0 1) ((wCarry S1 115 p1 0 0)) ++ (wHist k (subA a0 61) (up2 (up2 S2 0 1 (((S2 0 1) + 1) % 8)) 0 2 (min ((S2 0 2) + 1) 8)) ++ (wPlant k (subA (subA a0 61) (2 + 15 * i0)) ((wCopy S3 S1)) ++ wArrJ k o1 (up2 S4 0 0 (sp_X5_carryOut S1 115 p1 0 0)))))) 1 6 := by
  refine zML_of (cc := cL_sell) (maxL := 4) (ret := (some .int)) (hh := [(0, 9, 12, 13)]) (by decide) rfl (Nat.le_of_ble_eq_true rfl) ?_
  intro p e s m args below meth c A ls hx hb hr hml hown hts hlocks hK hP hD hG hE hT hA hS hl
  have hown : s.vm.findClass RL = some m.cls := hown
  have hl : lv_has ls 4 [(0, .ref (a0 0)), (1, .int (iI p1)), (2, .ref (o1 0))] := hl
  obtain ⟨H, hH⟩ : ∃ z, z = s.heap := ⟨_, rfl⟩
  obtain ⟨locs, hlc⟩ : ∃ z : List Loc, z = [] := ⟨_, rfl⟩
  rw [← hH] at hP
  have hS : va_S A s.heap H locs := by rw [hH, hlc]; exact hS
  rw [← hlc, ← hH]
  clear hlc hH
  have kp := hp.2
  refine lv_aload_n hx hb dL_sell_0 rfl (lv_at hl 2 rfl) ?_
  refine lv_iconst (v := iI 0) hx hb dL_sell_1 rfl ?_
  refine lv_aload_n hx hb dL_sell_2 rfl (lv_at hl 0 rfl) ?_
  refine lv_iload_n hx hb dL_sell_3 rfl (lv_at hl 1 rfl) ?_
  refine z_ai (va_runV (As := [.int (iI p1)]) (rest := [.int (iI 0), .ref (o1 0)]) ⟨hx, hb, hml, hown, hts⟩ (c_X7_sell_ok l D k a0 S0 S1 S2 S3 i0 p1 hp (by omega) hv hi hcn _) (cwV 1 hts gL_sell_X7_sell rfl rfl rfl (by decide +kernel) ⟨(Nat.le_of_ble_eq_true rfl), (Nat.le_of_ble_eq_true rfl)⟩) (z_preV hK hG hA hP hD hS (zrg 0 1 ++ (zrg 1 15 ++ (zrg 16 2 ++ zrg 18 15))) (z_mcat (z_hd (n := 1) rfl) (z_mcat (z_sk (n := 1) (off := 0) (m := 15) rfl (z_hd (n := 15) rfl)) (z_mcat (z_sk (n := 1) (off := 15) (m := 2) rfl (z_sk (n := 15) (off := 0) (m := 2) rfl (z_hd (n := 2) rfl))) (z_sk (n := 1) (off := 17) (m := 15) rfl (z_sk (n := 15) (off := 2) (m := 15) rfl (z_sk (n := 2) (off := 0) (m := 15) rfl (z_hd (n := 15) rfl))))))) (by decide +kernel) 9 rfl rfl) rfl rfl hl.1 rfl (lv_room (Nat.le_of_ble_eq_true rfl)) dL_sell_4 ⟨(Nat.le_of_ble_eq_true rfl), (Nat.le_of_ble_eq_true rfl)⟩) hA hP hD hS (zrg 0 1 ++ (zrg 1 15 ++ (zrg 16 2 ++ zrg 18 15))) (z_mcat (z_hd (n := 1) rfl) (z_mcat (z_sk (n := 1) (off := 0) (m := 15) rfl (z_hd (n := 15) rfl)) (z_mcat (z_sk (n := 1) (off := 15) (m := 2) rfl (z_sk (n := 15) (off := 0) (m := 2) rfl (z_hd (n := 2) rfl))) (z_sk (n := 1) (off := 17) (m := 15) rfl (z_sk (n := 15) (off := 2) (m := 15) rfl (z_sk (n := 2) (off := 0) (m := 15) rfl (z_hd (n := 15) rfl))))))) (z_mfst rfl (z_mfst rfl (z_mfst rfl rfl))) (fun H locs hP hD hS => ?_)
  have hz_2 : zset (wFac k a0 S0 ++ (wPlant k (subA a0 1) S1 ++ (wHist k (subA a0 61) S2 ++ (wPlant k (subA (subA a0 61) (2 + 15 * i0)) S3 ++ wArrJ k o1 S4)))) (zrg 0 1) (wFac k a0 S0) = wFac k a0 S0 ++ (wPlant k (subA a0 1) S1 ++ (wHist k (subA a0 61) S2 ++ (wPlant k (subA (subA a0 61) (2 + 15 * i0)) S3 ++ wArrJ k o1 S4))) := (z_zhd (n := 1) rfl rfl)
  have hz_3 : zset (wFac k a0 S0 ++ (wPlant k (subA a0 1) S1 ++ (wHist k (subA a0 61) S2 ++ (wPlant k (subA (subA a0 61) (2 + 15 * i0)) S3 ++ wArrJ k o1 S4)))) (zrg 1 15) (wPlant k (subA a0 1) ((wCarry S1 115 p1 0 0))) = wFac k a0 S0 ++ (wPlant k (subA a0 1) ((wCarry S1 115 p1 0 0)) ++ (wHist k (subA a0 61) S2 ++ (wPlant k (subA (subA a0 61) (2 + 15 * i0)) S3 ++ wArrJ k o1 S4))) := (z_zsk (n := 1) (off := 0) (m := 15) rfl (z_zhd (n := 15) rfl rfl))
  have hz_4 : zset (wFac k a0 S0 ++ (wPlant k (subA a0 1) ((wCarry S1 115 p1 0 0)) ++ (wHist k (subA a0 61) S2 ++ (wPlant k (subA (subA a0 61) (2 + 15 * i0)) S3 ++ wArrJ k o1 S4)))) (zrg 16 2) (wHist k (subA a0 61) (up2 (up2 S2 0 1 (((S2 0 1) + 1) % 8)) 0 2 (min ((S2 0 2) + 1) 8))) = wFac k a0 S0 ++ (wPlant k (subA a0 1) ((wCarry S1 115 p1 0 0)) ++ (wHist k (subA a0 61) (up2 (up2 S2 0 1 (((S2 0 1) + 1) % 8)) 0 2 (min ((S2 0 2) + 1) 8)) ++ (wPlant k (subA (subA a0 61) (2 + 15 * i0)) S3 ++ wArrJ k o1 S4))) := (z_zsk (n := 1) (off := 15) (m := 2) rfl (z_zsk (n := 15) (off := 0) (m := 2) rfl (z_zhd (n := 2) rfl rfl)))
  have hz_5 : zset (wFac k a0 S0 ++ (wPlant k (subA a0 1) ((wCarry S1 115 p1 0 0)) ++ (wHist k (subA a0 61) (up2 (up2 S2 0 1 (((S2 0 1) + 1) % 8)) 0 2 (min ((S2 0 2) + 1) 8)) ++ (wPlant k (subA (subA a0 61) (2 + 15 * i0)) S3 ++ wArrJ k o1 S4)))) (zrg 18 15) (wPlant k (subA (subA a0 61) (2 + 15 * i0)) ((wCopy S3 S1))) = wFac k a0 S0 ++ (wPlant k (subA a0 1) ((wCarry S1 115 p1 0 0)) ++ (wHist k (subA a0 61) (up2 (up2 S2 0 1 (((S2 0 1) + 1) % 8)) 0 2 (min ((S2 0 2) + 1) 8)) ++ (wPlant k (subA (subA a0 61) (2 + 15 * i0)) ((wCopy S3 S1)) ++ wArrJ k o1 S4))) := (z_zsk (n := 1) (off := 17) (m := 15) rfl (z_zsk (n := 15) (off := 2) (m := 15) rfl (z_zsk (n := 2) (off := 0) (m := 15) rfl (z_zhd (n := 15) rfl rfl))))
  have hE_1 : zset (wFac k a0 S0 ++ (wPlant k (subA a0 1) S1 ++ (wHist k (subA a0 61) S2 ++ (wPlant k (subA (subA a0 61) (2 + 15 * i0)) S3 ++ wArrJ k o1 S4)))) (zrg 0 1 ++ (zrg 1 15 ++ (zrg 16 2 ++ zrg 18 15))) (wFac k a0 S0 ++ (wPlant k (subA a0 1) ((wCarry S1 115 p1 0 0)) ++ (wHist k (subA a0 61) (up2 (up2 S2 0 1 (((S2 0 1) + 1) % 8)) 0 2 (min ((S2 0 2) + 1) 8)) ++ wPlant k (subA (subA a0 61) (2 + 15 * i0)) ((wCopy S3 S1))))) = wFac k a0 S0 ++ (wPlant k (subA a0 1) ((wCarry S1 115 p1 0 0)) ++ (wHist k (subA a0 61) (up2 (up2 S2 0 1 (((S2 0 1) + 1) % 8)) 0 2 (min ((S2 0 2) + 1) 8)) ++ (wPlant k (subA (subA a0 61) (2 + 15 * i0)) ((wCopy S3 S1)) ++ wArrJ k o1 S4))) := (z_zcat rfl hz_2 (z_zcat rfl hz_3 (z_zcat rfl hz_4 hz_5)))
  have hP : va_P D vwCl (wFac k a0 S0 ++ (wPlant k (subA a0 1) ((wCarry S1 115 p1 0 0)) ++ (wHist k (subA a0 61) (up2 (up2 S2 0 1 (((S2 0 1) + 1) % 8)) 0 2 (min ((S2 0 2) + 1) 8)) ++ (wPlant k (subA (subA a0 61) (2 + 15 * i0)) ((wCopy S3 S1)) ++ wArrJ k o1 S4)))) H := z_to hE_1 hP
  have hD : va_D A (wFac k a0 S0 ++ (wPlant k (subA a0 1) ((wCarry S1 115 p1 0 0)) ++ (wHist k (subA a0 61) (up2 (up2 S2 0 1 (((S2 0 1) + 1) % 8)) 0 2 (min ((S2 0 2) + 1) 8)) ++ (wPlant k (subA (subA a0 61) (2 + 15 * i0)) ((wCopy S3 S1)) ++ wArrJ k o1 S4)))) := z_to2 hE_1 hD
  refine lv_i2l (v := (iI (sp_X5_carryOut S1 115 p1 0 0)).toInt64) hx hb dL_sell_7 rfl ?_
  refine z_last hx hb hK hP hD hS 33 4 (f := S4 0) rfl rfl (i := 0) (by omega) (by omega) (by decide) 0 rfl dL_sell_8 (fun H locs hP hD hS => ?_)
  have hP : va_P D vwCl (wFac k a0 S0 ++ (wPlant k (subA a0 1) ((wCarry S1 115 p1 0 0)) ++ (wHist k (subA a0 61) (up2 (up2 S2 0 1 (((S2 0 1) + 1) % 8)) 0 2 (min ((S2 0 2) + 1) 8)) ++ (wPlant k (subA (subA a0 61) (2 + 15 * i0)) ((wCopy S3 S1)) ++ wArrJ k o1 (up2 S4 0 0 (sp_X5_carryOut S1 115 p1 0 0)))))) H := hP
  have hD : va_D A (wFac k a0 S0 ++ (wPlant k (subA a0 1) ((wCarry S1 115 p1 0 0)) ++ (wHist k (subA a0 61) (up2 (up2 S2 0 1 (((S2 0 1) + 1) % 8)) 0 2 (min ((S2 0 2) + 1) 8)) ++ (wPlant k (subA (subA a0 61) (2 + 15 * i0)) ((wCopy S3 S1)) ++ wArrJ k o1 (up2 S4 0 0 (sp_X5_carryOut S1 115 p1 0 0)))))) := hD
  refine lv_goto (tgt := 15) hx hb dL_sell_9 (by decide) ?_
  refine lv_iconst (v := iI 0) hx hb dL_sell_15 rfl ?_
  exact vx_ret (z_iret hx hb hr hlocks hP hS dL_sell_16 rfl rfl (Nat.le_of_ble_eq_true rfl) (Nat.le_of_ble_eq_true rfl))
set_option maxHeartbeats 4000000 in
set_option maxRecDepth 100000 in
theorem c_L_sell_6 (l : Launch) (hst : l.stackTraces = false) (D : va_G) (k : Nat → ClassId) (a0 : Nat → Nat) (o1 : Nat → Nat) (S0 : Nat → Nat → Int) (S1 : Nat → Nat → Int) (S2 : Nat → Nat → Int) (p1 : Int) (hp : pOK S1) (h0 : -2147483648 ≤ p1 ∧ p1 < 2147483648) (hv : sp_X5_verdictOn S1 115 p1 0 0 = 6) : zML l yL_sell wsL_sell ({ frames := 8, cells := 1, slots := 6, locals := 135 } : Room) D k [.ref (a0 0), .int (iI p1), .ref (o1 0)] (wFac k a0 S0 ++ (wPlant k (subA a0 1) S1 ++ wArrJ k o1 S2)) (1) (wFac k a0 S0 ++ (wPlant k (subA a0 1) S1 ++ wArrJ k o1 S2)) 1 6 := by
  refine zML_of (cc := cL_sell) (maxL := 4) (ret := (some .int)) (hh := [(0, 9, 12, 13)]) (by decide) rfl (Nat.le_of_ble_eq_true rfl) ?_
  intro p e s m args below meth c A ls hx hb hr hml hown hts hlocks hK hP hD hG hE hT hA hS hl
  have hown : s.vm.findClass RL = some m.cls := hown
  have hl : lv_has ls 4 [(0, .ref (a0 0)), (1, .int (iI p1)), (2, .ref (o1 0))] := hl
  obtain ⟨H, hH⟩ : ∃ z, z = s.heap := ⟨_, rfl⟩
  obtain ⟨locs, hlc⟩ : ∃ z : List Loc, z = [] := ⟨_, rfl⟩
  rw [← hH] at hP
  have hS : va_S A s.heap H locs := by rw [hH, hlc]; exact hS
  rw [← hlc, ← hH]
  clear hlc hH
  have kp := hp.2
  refine lv_aload_n hx hb dL_sell_0 rfl (lv_at hl 2 rfl) ?_
  refine lv_iconst (v := iI 0) hx hb dL_sell_1 rfl ?_
  refine lv_aload_n hx hb dL_sell_2 rfl (lv_at hl 0 rfl) ?_
  refine lv_iload_n hx hb dL_sell_3 rfl (lv_at hl 1 rfl) ?_
  refine z_axc0 (vx_runV (As := [.int (iI p1)]) (rest := [.int (iI 0), .ref (o1 0)]) ⟨hx, hb, hml, hown, hts⟩ (c_X7_sell_6 l hst D k a0 S0 S1  p1 hp (by omega) hv _) (cwV 1 hts gL_sell_X7_sell rfl rfl rfl (by decide +kernel) ⟨(Nat.le_of_ble_eq_true rfl), (Nat.le_of_ble_eq_true rfl)⟩) (z_preVx hK hG hE hA hP hD hS (zrg 0 1 ++ zrg 1 15) (z_mcat (z_hd (n := 1) rfl) (z_sk (n := 1) (off := 0) (m := 15) rfl (z_hd (n := 15) rfl))) (by decide +kernel) 9 rfl rfl) rfl rfl hl.1 rfl (lv_room (Nat.le_of_ble_eq_true rfl)) dL_sell_4 ⟨(Nat.le_of_ble_eq_true rfl), (Nat.le_of_ble_eq_true rfl)⟩) hA hP hD hS (zrg 0 1 ++ zrg 1 15) (z_mcat (z_hd (n := 1) rfl) (z_sk (n := 1) (off := 0) (m := 15) rfl (z_hd (n := 15) rfl))) (fun ce q9 H locs hP hS hce hcv hcl => ?_)
  refine vx_catch (name := "java/lang/IndexOutOfBoundsException") (E := "java/lang/IndexOutOfBoundsException") hown [] (⟨0, 9, 12, 13⟩ : ExceptionTableEntry) [] (hT.trans rfl) (fun _ h => absurd h List.not_mem_nil) rfl (by decide) (hts (.classLink RL 13 "java/lang/IndexOutOfBoundsException") (List.mem_of_getElem? (i := 1) rfl)) (va_Nw.use rfl (hE.1 "java/lang/IndexOutOfBoundsException" zXm_ioob)) hce hcv hcl ?_
  refine lv_astore_n (lv' := [(3, .ref q9), (0, .ref (a0 0)), (1, .int (iI p1)), (2, .ref (o1 0))]) hx hb dL_sell_12 rfl hl (by decide) rfl (fun ls hl => ?_)
  refine lv_iconst (v := iI 1) hx hb dL_sell_13 rfl ?_
  exact vx_ret (z_iret hx hb hr hlocks hP hS dL_sell_14 rfl rfl (Nat.le_of_ble_eq_true rfl) (Nat.le_of_ble_eq_true rfl))
set_option maxHeartbeats 4000000 in
set_option maxRecDepth 100000 in
theorem c_L_repair_ok (l : Launch) (hst : l.stackTraces = false) (D : va_G) (k : Nat → ClassId) (a0 : Nat → Nat) (o1 : Nat → Nat) (S0 : Nat → Nat → Int) (S1 : Nat → Nat → Int) (S2 : Nat → Nat → Int) (S3 : Nat → Nat → Int) (S4 : Nat → Nat → Int) (i0 : Nat) (p1 : Int) (hp : pOK S1) (h0 : -2147483648 ≤ p1 ∧ p1 < 2147483648) (hv : sp_X5_verdictOn S1 114 p1 0 0 = 0) (hi : S2 0 1 = (i0 : Int) ∧ i0 < 8) (hcn : 0 ≤ S2 0 2 ∧ S2 0 2 ≤ 8) : zML l yL_repair wsL_repair ({ frames := 7, cells := 1, slots := 6, locals := 176 } : Room) D k [.ref (a0 0), .int (iI p1), .ref (o1 0)] (wFac k a0 S0 ++ (wPlant k (subA a0 1) S1 ++ (wHist k (subA a0 61) S2 ++ (wPlant k (subA (subA a0 61) (2 + 15 * i0)) S3 ++ wArrJ k o1 S4)))) (0) (wFac k a0 S0 ++ (wPlant k (subA a0 1) ((wCarry S1 114 p1 0 0)) ++ (wHist k (subA a0 61) (up2 (up2 S2 0 1 (((S2 0 1) + 1) % 8)) 0 2 (min ((S2 0 2) + 1) 8)) ++ (wPlant k (subA (subA a0 61) (2 + 15 * i0)) ((wCopy S3 S1)) ++ wArrJ k o1 (up2 S4 0 0 (sp_X5_carryOut S1 114 p1 0 0)))))) 1 6 := by
  refine zML_of (cc := cL_repair) (maxL := 4) (ret := (some .int)) (hh := [(0, 9, 12, 13), (0, 9, 15, 17)]) (by decide) rfl (Nat.le_of_ble_eq_true rfl) ?_
  intro p e s m args below meth c A ls hx hb hr hml hown hts hlocks hK hP hD hG hE hT hA hS hl
  have hown : s.vm.findClass RL = some m.cls := hown
  have hl : lv_has ls 4 [(0, .ref (a0 0)), (1, .int (iI p1)), (2, .ref (o1 0))] := hl
  obtain ⟨H, hH⟩ : ∃ z, z = s.heap := ⟨_, rfl⟩
  obtain ⟨locs, hlc⟩ : ∃ z : List Loc, z = [] := ⟨_, rfl⟩
  rw [← hH] at hP
  have hS : va_S A s.heap H locs := by rw [hH, hlc]; exact hS
  rw [← hlc, ← hH]
  clear hlc hH
  have kp := hp.2
  refine lv_aload_n hx hb dL_repair_0 rfl (lv_at hl 2 rfl) ?_
  refine lv_iconst (v := iI 0) hx hb dL_repair_1 rfl ?_
  refine lv_aload_n hx hb dL_repair_2 rfl (lv_at hl 0 rfl) ?_
  refine lv_iload_n hx hb dL_repair_3 rfl (lv_at hl 1 rfl) ?_
  refine z_ai (va_runV (As := [.int (iI p1)]) (rest := [.int (iI 0), .ref (o1 0)]) ⟨hx, hb, hml, hown, hts⟩ (c_X7_repair_ok l D k a0 S0 S1 S2 S3 i0 p1 hp (by omega) hv hi hcn _) (cwV 1 hts gL_repair_X7_repair rfl rfl rfl (by decide +kernel) ⟨(Nat.le_of_ble_eq_true rfl), (Nat.le_of_ble_eq_true rfl)⟩) (z_preV hK hG hA hP hD hS (zrg 0 1 ++ (zrg 1 15 ++ (zrg 16 2 ++ zrg 18 15))) (z_mcat (z_hd (n := 1) rfl) (z_mcat (z_sk (n := 1) (off := 0) (m := 15) rfl (z_hd (n := 15) rfl)) (z_mcat (z_sk (n := 1) (off := 15) (m := 2) rfl (z_sk (n := 15) (off := 0) (m := 2) rfl (z_hd (n := 2) rfl))) (z_sk (n := 1) (off := 17) (m := 15) rfl (z_sk (n := 15) (off := 2) (m := 15) rfl (z_sk (n := 2) (off := 0) (m := 15) rfl (z_hd (n := 15) rfl))))))) (by decide +kernel) 9 rfl rfl) rfl rfl hl.1 rfl (lv_room (Nat.le_of_ble_eq_true rfl)) dL_repair_4 ⟨(Nat.le_of_ble_eq_true rfl), (Nat.le_of_ble_eq_true rfl)⟩) hA hP hD hS (zrg 0 1 ++ (zrg 1 15 ++ (zrg 16 2 ++ zrg 18 15))) (z_mcat (z_hd (n := 1) rfl) (z_mcat (z_sk (n := 1) (off := 0) (m := 15) rfl (z_hd (n := 15) rfl)) (z_mcat (z_sk (n := 1) (off := 15) (m := 2) rfl (z_sk (n := 15) (off := 0) (m := 2) rfl (z_hd (n := 2) rfl))) (z_sk (n := 1) (off := 17) (m := 15) rfl (z_sk (n := 15) (off := 2) (m := 15) rfl (z_sk (n := 2) (off := 0) (m := 15) rfl (z_hd (n := 15) rfl))))))) (z_mfst rfl (z_mfst rfl (z_mfst rfl rfl))) (fun H locs hP hD hS => ?_)
  have hz_2 : zset (wFac k a0 S0 ++ (wPlant k (subA a0 1) S1 ++ (wHist k (subA a0 61) S2 ++ (wPlant k (subA (subA a0 61) (2 + 15 * i0)) S3 ++ wArrJ k o1 S4)))) (zrg 0 1) (wFac k a0 S0) = wFac k a0 S0 ++ (wPlant k (subA a0 1) S1 ++ (wHist k (subA a0 61) S2 ++ (wPlant k (subA (subA a0 61) (2 + 15 * i0)) S3 ++ wArrJ k o1 S4))) := (z_zhd (n := 1) rfl rfl)
  have hz_3 : zset (wFac k a0 S0 ++ (wPlant k (subA a0 1) S1 ++ (wHist k (subA a0 61) S2 ++ (wPlant k (subA (subA a0 61) (2 + 15 * i0)) S3 ++ wArrJ k o1 S4)))) (zrg 1 15) (wPlant k (subA a0 1) ((wCarry S1 114 p1 0 0))) = wFac k a0 S0 ++ (wPlant k (subA a0 1) ((wCarry S1 114 p1 0 0)) ++ (wHist k (subA a0 61) S2 ++ (wPlant k (subA (subA a0 61) (2 + 15 * i0)) S3 ++ wArrJ k o1 S4))) := (z_zsk (n := 1) (off := 0) (m := 15) rfl (z_zhd (n := 15) rfl rfl))
  have hz_4 : zset (wFac k a0 S0 ++ (wPlant k (subA a0 1) ((wCarry S1 114 p1 0 0)) ++ (wHist k (subA a0 61) S2 ++ (wPlant k (subA (subA a0 61) (2 + 15 * i0)) S3 ++ wArrJ k o1 S4)))) (zrg 16 2) (wHist k (subA a0 61) (up2 (up2 S2 0 1 (((S2 0 1) + 1) % 8)) 0 2 (min ((S2 0 2) + 1) 8))) = wFac k a0 S0 ++ (wPlant k (subA a0 1) ((wCarry S1 114 p1 0 0)) ++ (wHist k (subA a0 61) (up2 (up2 S2 0 1 (((S2 0 1) + 1) % 8)) 0 2 (min ((S2 0 2) + 1) 8)) ++ (wPlant k (subA (subA a0 61) (2 + 15 * i0)) S3 ++ wArrJ k o1 S4))) := (z_zsk (n := 1) (off := 15) (m := 2) rfl (z_zsk (n := 15) (off := 0) (m := 2) rfl (z_zhd (n := 2) rfl rfl)))
  have hz_5 : zset (wFac k a0 S0 ++ (wPlant k (subA a0 1) ((wCarry S1 114 p1 0 0)) ++ (wHist k (subA a0 61) (up2 (up2 S2 0 1 (((S2 0 1) + 1) % 8)) 0 2 (min ((S2 0 2) + 1) 8)) ++ (wPlant k (subA (subA a0 61) (2 + 15 * i0)) S3 ++ wArrJ k o1 S4)))) (zrg 18 15) (wPlant k (subA (subA a0 61) (2 + 15 * i0)) ((wCopy S3 S1))) = wFac k a0 S0 ++ (wPlant k (subA a0 1) ((wCarry S1 114 p1 0 0)) ++ (wHist k (subA a0 61) (up2 (up2 S2 0 1 (((S2 0 1) + 1) % 8)) 0 2 (min ((S2 0 2) + 1) 8)) ++ (wPlant k (subA (subA a0 61) (2 + 15 * i0)) ((wCopy S3 S1)) ++ wArrJ k o1 S4))) := (z_zsk (n := 1) (off := 17) (m := 15) rfl (z_zsk (n := 15) (off := 2) (m := 15) rfl (z_zsk (n := 2) (off := 0) (m := 15) rfl (z_zhd (n := 15) rfl rfl))))
  have hE_1 : zset (wFac k a0 S0 ++ (wPlant k (subA a0 1) S1 ++ (wHist k (subA a0 61) S2 ++ (wPlant k (subA (subA a0 61) (2 + 15 * i0)) S3 ++ wArrJ k o1 S4)))) (zrg 0 1 ++ (zrg 1 15 ++ (zrg 16 2 ++ zrg 18 15))) (wFac k a0 S0 ++ (wPlant k (subA a0 1) ((wCarry S1 114 p1 0 0)) ++ (wHist k (subA a0 61) (up2 (up2 S2 0 1 (((S2 0 1) + 1) % 8)) 0 2 (min ((S2 0 2) + 1) 8)) ++ wPlant k (subA (subA a0 61) (2 + 15 * i0)) ((wCopy S3 S1))))) = wFac k a0 S0 ++ (wPlant k (subA a0 1) ((wCarry S1 114 p1 0 0)) ++ (wHist k (subA a0 61) (up2 (up2 S2 0 1 (((S2 0 1) + 1) % 8)) 0 2 (min ((S2 0 2) + 1) 8)) ++ (wPlant k (subA (subA a0 61) (2 + 15 * i0)) ((wCopy S3 S1)) ++ wArrJ k o1 S4))) := (z_zcat rfl hz_2 (z_zcat rfl hz_3 (z_zcat rfl hz_4 hz_5)))
  have hP : va_P D vwCl (wFac k a0 S0 ++ (wPlant k (subA a0 1) ((wCarry S1 114 p1 0 0)) ++ (wHist k (subA a0 61) (up2 (up2 S2 0 1 (((S2 0 1) + 1) % 8)) 0 2 (min ((S2 0 2) + 1) 8)) ++ (wPlant k (subA (subA a0 61) (2 + 15 * i0)) ((wCopy S3 S1)) ++ wArrJ k o1 S4)))) H := z_to hE_1 hP
  have hD : va_D A (wFac k a0 S0 ++ (wPlant k (subA a0 1) ((wCarry S1 114 p1 0 0)) ++ (wHist k (subA a0 61) (up2 (up2 S2 0 1 (((S2 0 1) + 1) % 8)) 0 2 (min ((S2 0 2) + 1) 8)) ++ (wPlant k (subA (subA a0 61) (2 + 15 * i0)) ((wCopy S3 S1)) ++ wArrJ k o1 S4)))) := z_to2 hE_1 hD
  refine lv_i2l (v := (iI (sp_X5_carryOut S1 114 p1 0 0)).toInt64) hx hb dL_repair_7 rfl ?_
  refine z_last hx hb hK hP hD hS 33 4 (f := S4 0) rfl rfl (i := 0) (by omega) (by omega) (by decide) 0 rfl dL_repair_8 (fun H locs hP hD hS => ?_)
  have hP : va_P D vwCl (wFac k a0 S0 ++ (wPlant k (subA a0 1) ((wCarry S1 114 p1 0 0)) ++ (wHist k (subA a0 61) (up2 (up2 S2 0 1 (((S2 0 1) + 1) % 8)) 0 2 (min ((S2 0 2) + 1) 8)) ++ (wPlant k (subA (subA a0 61) (2 + 15 * i0)) ((wCopy S3 S1)) ++ wArrJ k o1 (up2 S4 0 0 (sp_X5_carryOut S1 114 p1 0 0)))))) H := hP
  have hD : va_D A (wFac k a0 S0 ++ (wPlant k (subA a0 1) ((wCarry S1 114 p1 0 0)) ++ (wHist k (subA a0 61) (up2 (up2 S2 0 1 (((S2 0 1) + 1) % 8)) 0 2 (min ((S2 0 2) + 1) 8)) ++ (wPlant k (subA (subA a0 61) (2 + 15 * i0)) ((wCopy S3 S1)) ++ wArrJ k o1 (up2 S4 0 0 (sp_X5_carryOut S1 114 p1 0 0)))))) := hD
  refine lv_goto (tgt := 18) hx hb dL_repair_9 (by decide) ?_
  refine lv_iconst (v := iI 0) hx hb dL_repair_18 rfl ?_
  exact vx_ret (z_iret hx hb hr hlocks hP hS dL_repair_19 rfl rfl (Nat.le_of_ble_eq_true rfl) (Nat.le_of_ble_eq_true rfl))
set_option maxHeartbeats 4000000 in
set_option maxRecDepth 100000 in
theorem c_L_repair_6 (l : Launch) (hst : l.stackTraces = false) (D : va_G) (k : Nat → ClassId) (a0 : Nat → Nat) (o1 : Nat → Nat) (S0 : Nat → Nat → Int) (S1 : Nat → Nat → Int) (S2 : Nat → Nat → Int) (p1 : Int) (hp : pOK S1) (h0 : -2147483648 ≤ p1 ∧ p1 < 2147483648) (hv : sp_X5_verdictOn S1 114 p1 0 0 = 6) : zML l yL_repair wsL_repair ({ frames := 8, cells := 1, slots := 6, locals := 135 } : Room) D k [.ref (a0 0), .int (iI p1), .ref (o1 0)] (wFac k a0 S0 ++ (wPlant k (subA a0 1) S1 ++ wArrJ k o1 S2)) (1) (wFac k a0 S0 ++ (wPlant k (subA a0 1) S1 ++ wArrJ k o1 S2)) 1 6 := by
  refine zML_of (cc := cL_repair) (maxL := 4) (ret := (some .int)) (hh := [(0, 9, 12, 13), (0, 9, 15, 17)]) (by decide) rfl (Nat.le_of_ble_eq_true rfl) ?_
  intro p e s m args below meth c A ls hx hb hr hml hown hts hlocks hK hP hD hG hE hT hA hS hl
  have hown : s.vm.findClass RL = some m.cls := hown
  have hl : lv_has ls 4 [(0, .ref (a0 0)), (1, .int (iI p1)), (2, .ref (o1 0))] := hl
  obtain ⟨H, hH⟩ : ∃ z, z = s.heap := ⟨_, rfl⟩
  obtain ⟨locs, hlc⟩ : ∃ z : List Loc, z = [] := ⟨_, rfl⟩
  rw [← hH] at hP
  have hS : va_S A s.heap H locs := by rw [hH, hlc]; exact hS
  rw [← hlc, ← hH]
  clear hlc hH
  have kp := hp.2
  refine lv_aload_n hx hb dL_repair_0 rfl (lv_at hl 2 rfl) ?_
  refine lv_iconst (v := iI 0) hx hb dL_repair_1 rfl ?_
  refine lv_aload_n hx hb dL_repair_2 rfl (lv_at hl 0 rfl) ?_
  refine lv_iload_n hx hb dL_repair_3 rfl (lv_at hl 1 rfl) ?_
  refine z_axc0 (vx_runV (As := [.int (iI p1)]) (rest := [.int (iI 0), .ref (o1 0)]) ⟨hx, hb, hml, hown, hts⟩ (c_X7_repair_6 l hst D k a0 S0 S1  p1 hp (by omega) hv _) (cwV 1 hts gL_repair_X7_repair rfl rfl rfl (by decide +kernel) ⟨(Nat.le_of_ble_eq_true rfl), (Nat.le_of_ble_eq_true rfl)⟩) (z_preVx hK hG hE hA hP hD hS (zrg 0 1 ++ zrg 1 15) (z_mcat (z_hd (n := 1) rfl) (z_sk (n := 1) (off := 0) (m := 15) rfl (z_hd (n := 15) rfl))) (by decide +kernel) 9 rfl rfl) rfl rfl hl.1 rfl (lv_room (Nat.le_of_ble_eq_true rfl)) dL_repair_4 ⟨(Nat.le_of_ble_eq_true rfl), (Nat.le_of_ble_eq_true rfl)⟩) hA hP hD hS (zrg 0 1 ++ zrg 1 15) (z_mcat (z_hd (n := 1) rfl) (z_sk (n := 1) (off := 0) (m := 15) rfl (z_hd (n := 15) rfl))) (fun ce q9 H locs hP hS hce hcv hcl => ?_)
  refine vx_catch (name := "java/lang/IndexOutOfBoundsException") (E := "java/lang/IndexOutOfBoundsException") hown [] (⟨0, 9, 12, 13⟩ : ExceptionTableEntry) [(⟨0, 9, 15, 17⟩ : ExceptionTableEntry)] (hT.trans rfl) (fun _ h => absurd h List.not_mem_nil) rfl (by decide) (hts (.classLink RL 13 "java/lang/IndexOutOfBoundsException") (List.mem_of_getElem? (i := 1) rfl)) (va_Nw.use rfl (hE.1 "java/lang/IndexOutOfBoundsException" zXm_ioob)) hce hcv hcl ?_
  refine lv_astore_n (lv' := [(3, .ref q9), (0, .ref (a0 0)), (1, .int (iI p1)), (2, .ref (o1 0))]) hx hb dL_repair_12 rfl hl (by decide) rfl (fun ls hl => ?_)
  refine lv_iconst (v := iI 1) hx hb dL_repair_13 rfl ?_
  exact vx_ret (z_iret hx hb hr hlocks hP hS dL_repair_14 rfl rfl (Nat.le_of_ble_eq_true rfl) (Nat.le_of_ble_eq_true rfl))
set_option maxHeartbeats 4000000 in
set_option maxRecDepth 100000 in
theorem c_L_repair_r (l : Launch) (hst : l.stackTraces = false) (D : va_G) (k : Nat → ClassId) (a0 : Nat → Nat) (o1 : Nat → Nat) (S0 : Nat → Nat → Int) (S1 : Nat → Nat → Int) (S2 : Nat → Nat → Int) (p1 : Int) (hp : pOK S1) (h0 : -2147483648 ≤ p1 ∧ p1 < 2147483648) (hv : 1 ≤ sp_X5_verdictOn S1 114 p1 0 0 ∧ sp_X5_verdictOn S1 114 p1 0 0 ≤ 5) : zML l yL_repair wsL_repair ({ frames := 8, cells := 1, slots := 6, locals := 136 } : Room) D k [.ref (a0 0), .int (iI p1), .ref (o1 0)] (wFac k a0 S0 ++ (wPlant k (subA a0 1) S1 ++ wArrJ k o1 S2)) (2) (wFac k a0 (up2 (up2 S0 0 9 ((sp_X5_verdictOn S1 114 p1 0 0))) 0 10 (sp_X5_detailOf S1 (sp_X5_verdictOn S1 114 p1 0 0) 114 p1)) ++ (wPlant k (subA a0 1) S1 ++ wArrJ k o1 S2)) 1 6 := by
  refine zML_of (cc := cL_repair) (maxL := 4) (ret := (some .int)) (hh := [(0, 9, 12, 13), (0, 9, 15, 17)]) (by decide) rfl (Nat.le_of_ble_eq_true rfl) ?_
  intro p e s m args below meth c A ls hx hb hr hml hown hts hlocks hK hP hD hG hE hT hA hS hl
  have hown : s.vm.findClass RL = some m.cls := hown
  have hl : lv_has ls 4 [(0, .ref (a0 0)), (1, .int (iI p1)), (2, .ref (o1 0))] := hl
  obtain ⟨H, hH⟩ : ∃ z, z = s.heap := ⟨_, rfl⟩
  obtain ⟨locs, hlc⟩ : ∃ z : List Loc, z = [] := ⟨_, rfl⟩
  rw [← hH] at hP
  have hS : va_S A s.heap H locs := by rw [hH, hlc]; exact hS
  rw [← hlc, ← hH]
  clear hlc hH
  have kp := hp.2
  refine lv_aload_n hx hb dL_repair_0 rfl (lv_at hl 2 rfl) ?_
  refine lv_iconst (v := iI 0) hx hb dL_repair_1 rfl ?_
  refine lv_aload_n hx hb dL_repair_2 rfl (lv_at hl 0 rfl) ?_
  refine lv_iload_n hx hb dL_repair_3 rfl (lv_at hl 1 rfl) ?_
  refine z_axc (vx_runV (As := [.int (iI p1)]) (rest := [.int (iI 0), .ref (o1 0)]) ⟨hx, hb, hml, hown, hts⟩ (c_X7_repair_r l hst D k a0 S0 S1  p1 hp (by omega) hv _) (cwV 1 hts gL_repair_X7_repair rfl rfl rfl (by decide +kernel) ⟨(Nat.le_of_ble_eq_true rfl), (Nat.le_of_ble_eq_true rfl)⟩) (z_preVx hK hG hE hA hP hD hS (zrg 0 1 ++ zrg 1 15) (z_mcat (z_hd (n := 1) rfl) (z_sk (n := 1) (off := 0) (m := 15) rfl (z_hd (n := 15) rfl))) (by decide +kernel) 9 rfl rfl) rfl rfl hl.1 rfl (lv_room (Nat.le_of_ble_eq_true rfl)) dL_repair_4 ⟨(Nat.le_of_ble_eq_true rfl), (Nat.le_of_ble_eq_true rfl)⟩) hA hP hD hS (zrg 0 1 ++ zrg 1 15) (z_mcat (z_hd (n := 1) rfl) (z_sk (n := 1) (off := 0) (m := 15) rfl (z_hd (n := 15) rfl))) (z_mfst rfl rfl) (fun ce q9 H locs hP hD hS hce hcv hcl => ?_)
  have hz_2 : zset (wFac k a0 S0 ++ (wPlant k (subA a0 1) S1 ++ wArrJ k o1 S2)) (zrg 0 1) (wFac k a0 (up2 (up2 S0 0 9 ((sp_X5_verdictOn S1 114 p1 0 0))) 0 10 (sp_X5_detailOf S1 (sp_X5_verdictOn S1 114 p1 0 0) 114 p1))) = wFac k a0 (up2 (up2 S0 0 9 ((sp_X5_verdictOn S1 114 p1 0 0))) 0 10 (sp_X5_detailOf S1 (sp_X5_verdictOn S1 114 p1 0 0) 114 p1)) ++ (wPlant k (subA a0 1) S1 ++ wArrJ k o1 S2) := (z_zhd (n := 1) rfl rfl)
  have hz_3 : zset (wFac k a0 (up2 (up2 S0 0 9 ((sp_X5_verdictOn S1 114 p1 0 0))) 0 10 (sp_X5_detailOf S1 (sp_X5_verdictOn S1 114 p1 0 0) 114 p1)) ++ (wPlant k (subA a0 1) S1 ++ wArrJ k o1 S2)) (zrg 1 15) (wPlant k (subA a0 1) S1) = wFac k a0 (up2 (up2 S0 0 9 ((sp_X5_verdictOn S1 114 p1 0 0))) 0 10 (sp_X5_detailOf S1 (sp_X5_verdictOn S1 114 p1 0 0) 114 p1)) ++ (wPlant k (subA a0 1) S1 ++ wArrJ k o1 S2) := (z_zsk (n := 1) (off := 0) (m := 15) rfl (z_zhd (n := 15) rfl rfl))
  have hE_1 : zset (wFac k a0 S0 ++ (wPlant k (subA a0 1) S1 ++ wArrJ k o1 S2)) (zrg 0 1 ++ zrg 1 15) (wFac k a0 (up2 (up2 S0 0 9 ((sp_X5_verdictOn S1 114 p1 0 0))) 0 10 (sp_X5_detailOf S1 (sp_X5_verdictOn S1 114 p1 0 0) 114 p1)) ++ wPlant k (subA a0 1) S1) = wFac k a0 (up2 (up2 S0 0 9 ((sp_X5_verdictOn S1 114 p1 0 0))) 0 10 (sp_X5_detailOf S1 (sp_X5_verdictOn S1 114 p1 0 0) 114 p1)) ++ (wPlant k (subA a0 1) S1 ++ wArrJ k o1 S2) := (z_zcat rfl hz_2 hz_3)
  have hP : va_P D vwCl (wFac k a0 (up2 (up2 S0 0 9 ((sp_X5_verdictOn S1 114 p1 0 0))) 0 10 (sp_X5_detailOf S1 (sp_X5_verdictOn S1 114 p1 0 0) 114 p1)) ++ (wPlant k (subA a0 1) S1 ++ wArrJ k o1 S2)) H := z_to hE_1 hP
  have hD : va_D A (wFac k a0 (up2 (up2 S0 0 9 ((sp_X5_verdictOn S1 114 p1 0 0))) 0 10 (sp_X5_detailOf S1 (sp_X5_verdictOn S1 114 p1 0 0) 114 p1)) ++ (wPlant k (subA a0 1) S1 ++ wArrJ k o1 S2)) := z_to2 hE_1 hD
  refine vx_catch (name := "java/lang/UnsupportedOperationException") (E := "java/lang/UnsupportedOperationException") hown [(⟨0, 9, 12, 13⟩ : ExceptionTableEntry)] (⟨0, 9, 15, 17⟩ : ExceptionTableEntry) [] (hT.trans rfl) (List.forall_mem_cons.mpr ⟨Or.inr ⟨by decide, _, (hts (.classLink RL 13 "java/lang/IndexOutOfBoundsException") (List.mem_of_getElem? (i := 1) rfl)), hE.2.2 ("java/lang/UnsupportedOperationException", "java/lang/IndexOutOfBoundsException") (by decide +kernel)⟩, (fun _ h => absurd h List.not_mem_nil)⟩) rfl (by decide) (hts (.classLink RL 17 "java/lang/UnsupportedOperationException") (List.mem_of_getElem? (i := 2) rfl)) (va_Nw.use rfl (hE.1 "java/lang/UnsupportedOperationException" zXm_unsu)) hce hcv hcl ?_
  refine lv_astore_n (lv' := [(3, .ref q9), (0, .ref (a0 0)), (1, .int (iI p1)), (2, .ref (o1 0))]) hx hb dL_repair_15 rfl hl (by decide) rfl (fun ls hl => ?_)
  refine lv_iconst (v := iI 2) hx hb dL_repair_16 rfl ?_
  exact vx_ret (z_iret hx hb hr hlocks hP hS dL_repair_17 rfl rfl (Nat.le_of_ble_eq_true rfl) (Nat.le_of_ble_eq_true rfl))
set_option maxHeartbeats 4000000 in
set_option maxRecDepth 100000 in
theorem c_L_undo_ok (l : Launch) (hst : l.stackTraces = false) (D : va_G) (k : Nat → ClassId) (a0 : Nat → Nat) (o1 : Nat → Nat) (S0 : Nat → Nat → Int) (S1 : Nat → Nat → Int) (S2 : Nat → Nat → Int) (S3 : Nat → Nat → Int) (S4 : Nat → Nat → Int) (i0 : Nat) (hi : (S2 0 1 + 8 - 1) % 8 = (i0 : Int) ∧ i0 < 8) (hcn : 1 ≤ S2 0 2 ∧ S2 0 2 ≤ 8) (hat : 0 ≤ S2 0 1 ∧ S2 0 1 < 8) (hk33 : 0 ≤ S3 3 1 ∧ S3 3 1 ≤ 8) (hk36 : 0 ≤ S3 6 1 ∧ S3 6 1 ≤ 8) (hk39 : 0 ≤ S3 9 1 ∧ S3 9 1 ≤ 8) (hk311 : 0 ≤ S3 11 1 ∧ S3 11 1 ≤ 8) : zML l yL_undo wsL_undo ({ frames := 6, cells := 1, slots := 6, locals := 145 } : Room) D k [.ref (a0 0), .ref (o1 0)] (wFac k a0 S0 ++ (wPlant k (subA a0 1) S1 ++ (wHist k (subA a0 61) S2 ++ (wPlant k (subA (subA a0 61) (2 + 15 * i0)) S3 ++ wArrJ k o1 S4)))) (0) (wFac k a0 S0 ++ (wPlant k (subA a0 1) ((wCopy S1 S3)) ++ (wHist k (subA a0 61) (up2 (up2 S2 0 1 ((((S2 0 1) + 8) - 1) % 8)) 0 2 ((S2 0 2) - 1)) ++ (wPlant k (subA (subA a0 61) (2 + 15 * i0)) S3 ++ wArrJ k o1 (up2 S4 0 0 ((S2 0 2) - 1)))))) 1 6 := by
  refine zML_of (cc := cL_undo) (maxL := 3) (ret := (some .int)) (hh := [(0, 8, 11, 98)]) (by decide) rfl (Nat.le_of_ble_eq_true rfl) ?_
  intro p e s m args below meth c A ls hx hb hr hml hown hts hlocks hK hP hD hG hE hT hA hS hl
  have hown : s.vm.findClass RL = some m.cls := hown
  have hl : lv_has ls 3 [(0, .ref (a0 0)), (1, .ref (o1 0))] := hl
  obtain ⟨H, hH⟩ : ∃ z, z = s.heap := ⟨_, rfl⟩
  obtain ⟨locs, hlc⟩ : ∃ z : List Loc, z = [] := ⟨_, rfl⟩
  rw [← hH] at hP
  have hS : va_S A s.heap H locs := by rw [hH, hlc]; exact hS
  rw [← hlc, ← hH]
  clear hlc hH
  refine lv_aload_n hx hb dL_undo_0 rfl (lv_at hl 1 rfl) ?_
  refine lv_iconst (v := iI 0) hx hb dL_undo_1 rfl ?_
  refine lv_aload_n hx hb dL_undo_2 rfl (lv_at hl 0 rfl) ?_
  refine z_ai (va_runV (As := []) (rest := [.int (iI 0), .ref (o1 0)]) ⟨hx, hb, hml, hown, hts⟩ (c_X7_undo_ok l D k a0 S0 S1 S2 S3 i0  hi (by omega) (by omega) (by omega) (by omega) (by omega) (by omega) _) (cwV 0 hts gL_undo_X7_undo rfl rfl rfl (by decide +kernel) ⟨(Nat.le_of_ble_eq_true rfl), (Nat.le_of_ble_eq_true rfl)⟩) (z_preV hK hG hA hP hD hS (zrg 0 1 ++ (zrg 1 15 ++ (zrg 16 2 ++ zrg 18 15))) (z_mcat (z_hd (n := 1) rfl) (z_mcat (z_sk (n := 1) (off := 0) (m := 15) rfl (z_hd (n := 15) rfl)) (z_mcat (z_sk (n := 1) (off := 15) (m := 2) rfl (z_sk (n := 15) (off := 0) (m := 2) rfl (z_hd (n := 2) rfl))) (z_sk (n := 1) (off := 17) (m := 15) rfl (z_sk (n := 15) (off := 2) (m := 15) rfl (z_sk (n := 2) (off := 0) (m := 15) rfl (z_hd (n := 15) rfl))))))) (by decide +kernel) 9 rfl rfl) rfl rfl hl.1 rfl (lv_room (Nat.le_of_ble_eq_true rfl)) dL_undo_3 ⟨(Nat.le_of_ble_eq_true rfl), (Nat.le_of_ble_eq_true rfl)⟩) hA hP hD hS (zrg 0 1 ++ (zrg 1 15 ++ (zrg 16 2 ++ zrg 18 15))) (z_mcat (z_hd (n := 1) rfl) (z_mcat (z_sk (n := 1) (off := 0) (m := 15) rfl (z_hd (n := 15) rfl)) (z_mcat (z_sk (n := 1) (off := 15) (m := 2) rfl (z_sk (n := 15) (off := 0) (m := 2) rfl (z_hd (n := 2) rfl))) (z_sk (n := 1) (off := 17) (m := 15) rfl (z_sk (n := 15) (off := 2) (m := 15) rfl (z_sk (n := 2) (off := 0) (m := 15) rfl (z_hd (n := 15) rfl))))))) (z_mfst rfl (z_mfst rfl (z_mfst rfl rfl))) (fun H locs hP hD hS => ?_)
  have hz_2 : zset (wFac k a0 S0 ++ (wPlant k (subA a0 1) S1 ++ (wHist k (subA a0 61) S2 ++ (wPlant k (subA (subA a0 61) (2 + 15 * i0)) S3 ++ wArrJ k o1 S4)))) (zrg 0 1) (wFac k a0 S0) = wFac k a0 S0 ++ (wPlant k (subA a0 1) S1 ++ (wHist k (subA a0 61) S2 ++ (wPlant k (subA (subA a0 61) (2 + 15 * i0)) S3 ++ wArrJ k o1 S4))) := (z_zhd (n := 1) rfl rfl)
  have hz_3 : zset (wFac k a0 S0 ++ (wPlant k (subA a0 1) S1 ++ (wHist k (subA a0 61) S2 ++ (wPlant k (subA (subA a0 61) (2 + 15 * i0)) S3 ++ wArrJ k o1 S4)))) (zrg 1 15) (wPlant k (subA a0 1) ((wCopy S1 S3))) = wFac k a0 S0 ++ (wPlant k (subA a0 1) ((wCopy S1 S3)) ++ (wHist k (subA a0 61) S2 ++ (wPlant k (subA (subA a0 61) (2 + 15 * i0)) S3 ++ wArrJ k o1 S4))) := (z_zsk (n := 1) (off := 0) (m := 15) rfl (z_zhd (n := 15) rfl rfl))
  have hz_4 : zset (wFac k a0 S0 ++ (wPlant k (subA a0 1) ((wCopy S1 S3)) ++ (wHist k (subA a0 61) S2 ++ (wPlant k (subA (subA a0 61) (2 + 15 * i0)) S3 ++ wArrJ k o1 S4)))) (zrg 16 2) (wHist k (subA a0 61) (up2 (up2 S2 0 1 ((((S2 0 1) + 8) - 1) % 8)) 0 2 ((S2 0 2) - 1))) = wFac k a0 S0 ++ (wPlant k (subA a0 1) ((wCopy S1 S3)) ++ (wHist k (subA a0 61) (up2 (up2 S2 0 1 ((((S2 0 1) + 8) - 1) % 8)) 0 2 ((S2 0 2) - 1)) ++ (wPlant k (subA (subA a0 61) (2 + 15 * i0)) S3 ++ wArrJ k o1 S4))) := (z_zsk (n := 1) (off := 15) (m := 2) rfl (z_zsk (n := 15) (off := 0) (m := 2) rfl (z_zhd (n := 2) rfl rfl)))
  have hz_5 : zset (wFac k a0 S0 ++ (wPlant k (subA a0 1) ((wCopy S1 S3)) ++ (wHist k (subA a0 61) (up2 (up2 S2 0 1 ((((S2 0 1) + 8) - 1) % 8)) 0 2 ((S2 0 2) - 1)) ++ (wPlant k (subA (subA a0 61) (2 + 15 * i0)) S3 ++ wArrJ k o1 S4)))) (zrg 18 15) (wPlant k (subA (subA a0 61) (2 + 15 * i0)) S3) = wFac k a0 S0 ++ (wPlant k (subA a0 1) ((wCopy S1 S3)) ++ (wHist k (subA a0 61) (up2 (up2 S2 0 1 ((((S2 0 1) + 8) - 1) % 8)) 0 2 ((S2 0 2) - 1)) ++ (wPlant k (subA (subA a0 61) (2 + 15 * i0)) S3 ++ wArrJ k o1 S4))) := (z_zsk (n := 1) (off := 17) (m := 15) rfl (z_zsk (n := 15) (off := 2) (m := 15) rfl (z_zsk (n := 2) (off := 0) (m := 15) rfl (z_zhd (n := 15) rfl rfl))))
  have hE_1 : zset (wFac k a0 S0 ++ (wPlant k (subA a0 1) S1 ++ (wHist k (subA a0 61) S2 ++ (wPlant k (subA (subA a0 61) (2 + 15 * i0)) S3 ++ wArrJ k o1 S4)))) (zrg 0 1 ++ (zrg 1 15 ++ (zrg 16 2 ++ zrg 18 15))) (wFac k a0 S0 ++ (wPlant k (subA a0 1) ((wCopy S1 S3)) ++ (wHist k (subA a0 61) (up2 (up2 S2 0 1 ((((S2 0 1) + 8) - 1) % 8)) 0 2 ((S2 0 2) - 1)) ++ wPlant k (subA (subA a0 61) (2 + 15 * i0)) S3))) = wFac k a0 S0 ++ (wPlant k (subA a0 1) ((wCopy S1 S3)) ++ (wHist k (subA a0 61) (up2 (up2 S2 0 1 ((((S2 0 1) + 8) - 1) % 8)) 0 2 ((S2 0 2) - 1)) ++ (wPlant k (subA (subA a0 61) (2 + 15 * i0)) S3 ++ wArrJ k o1 S4))) := (z_zcat rfl hz_2 (z_zcat rfl hz_3 (z_zcat rfl hz_4 hz_5)))
  have hP : va_P D vwCl (wFac k a0 S0 ++ (wPlant k (subA a0 1) ((wCopy S1 S3)) ++ (wHist k (subA a0 61) (up2 (up2 S2 0 1 ((((S2 0 1) + 8) - 1) % 8)) 0 2 ((S2 0 2) - 1)) ++ (wPlant k (subA (subA a0 61) (2 + 15 * i0)) S3 ++ wArrJ k o1 S4)))) H := z_to hE_1 hP
  have hD : va_D A (wFac k a0 S0 ++ (wPlant k (subA a0 1) ((wCopy S1 S3)) ++ (wHist k (subA a0 61) (up2 (up2 S2 0 1 ((((S2 0 1) + 8) - 1) % 8)) 0 2 ((S2 0 2) - 1)) ++ (wPlant k (subA (subA a0 61) (2 + 15 * i0)) S3 ++ wArrJ k o1 S4)))) := z_to2 hE_1 hD
  refine lv_i2l (v := (iI ((S2 0 2) - 1)).toInt64) hx hb dL_undo_6 rfl ?_
  refine z_last hx hb hK hP hD hS 33 4 (f := S4 0) rfl rfl (i := 0) (by omega) (by omega) (by decide) 0 rfl dL_undo_7 (fun H locs hP hD hS => ?_)
  have hP : va_P D vwCl (wFac k a0 S0 ++ (wPlant k (subA a0 1) ((wCopy S1 S3)) ++ (wHist k (subA a0 61) (up2 (up2 S2 0 1 ((((S2 0 1) + 8) - 1) % 8)) 0 2 ((S2 0 2) - 1)) ++ (wPlant k (subA (subA a0 61) (2 + 15 * i0)) S3 ++ wArrJ k o1 (up2 S4 0 0 ((S2 0 2) - 1)))))) H := hP
  have hD : va_D A (wFac k a0 S0 ++ (wPlant k (subA a0 1) ((wCopy S1 S3)) ++ (wHist k (subA a0 61) (up2 (up2 S2 0 1 ((((S2 0 1) + 8) - 1) % 8)) 0 2 ((S2 0 2) - 1)) ++ (wPlant k (subA (subA a0 61) (2 + 15 * i0)) S3 ++ wArrJ k o1 (up2 S4 0 0 ((S2 0 2) - 1)))))) := hD
  refine lv_goto (tgt := 14) hx hb dL_undo_8 (by decide) ?_
  refine lv_iconst (v := iI 0) hx hb dL_undo_14 rfl ?_
  exact vx_ret (z_iret hx hb hr hlocks hP hS dL_undo_15 rfl rfl (Nat.le_of_ble_eq_true rfl) (Nat.le_of_ble_eq_true rfl))
set_option maxHeartbeats 4000000 in
set_option maxRecDepth 100000 in
theorem c_L_undo_x (l : Launch) (hst : l.stackTraces = false) (D : va_G) (k : Nat → ClassId) (a0 : Nat → Nat) (o1 : Nat → Nat) (S0 : Nat → Nat → Int) (S1 : Nat → Nat → Int) (S2 : Nat → Nat → Int) (hc : S1 0 2 = 0) : zML l yL_undo wsL_undo ({ frames := 7, cells := 1, slots := 6, locals := 102 } : Room) D k [.ref (a0 0), .ref (o1 0)] (wFac k a0 S0 ++ (wHist k (subA a0 61) S1 ++ wArrJ k o1 S2)) (1) (wFac k a0 S0 ++ (wHist k (subA a0 61) S1 ++ wArrJ k o1 S2)) 1 6 := by
  refine zML_of (cc := cL_undo) (maxL := 3) (ret := (some .int)) (hh := [(0, 8, 11, 98)]) (by decide) rfl (Nat.le_of_ble_eq_true rfl) ?_
  intro p e s m args below meth c A ls hx hb hr hml hown hts hlocks hK hP hD hG hE hT hA hS hl
  have hown : s.vm.findClass RL = some m.cls := hown
  have hl : lv_has ls 3 [(0, .ref (a0 0)), (1, .ref (o1 0))] := hl
  obtain ⟨H, hH⟩ : ∃ z, z = s.heap := ⟨_, rfl⟩
  obtain ⟨locs, hlc⟩ : ∃ z : List Loc, z = [] := ⟨_, rfl⟩
  rw [← hH] at hP
  have hS : va_S A s.heap H locs := by rw [hH, hlc]; exact hS
  rw [← hlc, ← hH]
  clear hlc hH
  refine lv_aload_n hx hb dL_undo_0 rfl (lv_at hl 1 rfl) ?_
  refine lv_iconst (v := iI 0) hx hb dL_undo_1 rfl ?_
  refine lv_aload_n hx hb dL_undo_2 rfl (lv_at hl 0 rfl) ?_
  refine z_axc0 (vx_runV (As := []) (rest := [.int (iI 0), .ref (o1 0)]) ⟨hx, hb, hml, hown, hts⟩ (c_X7_undo_x l hst D k a0 S0 S1   (by omega) _) (cwV 0 hts gL_undo_X7_undo rfl rfl rfl (by decide +kernel) ⟨(Nat.le_of_ble_eq_true rfl), (Nat.le_of_ble_eq_true rfl)⟩) (z_preVx hK hG hE hA hP hD hS [0, 1, 2] rfl (by decide) 9 rfl rfl) rfl rfl hl.1 rfl (lv_room (Nat.le_of_ble_eq_true rfl)) dL_undo_3 ⟨(Nat.le_of_ble_eq_true rfl), (Nat.le_of_ble_eq_true rfl)⟩) hA hP hD hS [0, 1, 2] rfl (fun ce q9 H locs hP hS hce hcv hcl => ?_)
  refine vx_catch (name := "java/lang/IllegalStateException") (E := "java/lang/IllegalStateException") hown [] (⟨0, 8, 11, 98⟩ : ExceptionTableEntry) [] (hT.trans rfl) (fun _ h => absurd h List.not_mem_nil) rfl (by decide) (hts (.classLink RL 98 "java/lang/IllegalStateException") (List.mem_of_getElem? (i := 1) rfl)) (va_Nw.use rfl (hE.1 "java/lang/IllegalStateException" zXm_ista)) hce hcv hcl ?_
  refine lv_astore_n (lv' := [(2, .ref q9), (0, .ref (a0 0)), (1, .ref (o1 0))]) hx hb dL_undo_11 rfl hl (by decide) rfl (fun ls hl => ?_)
  refine lv_iconst (v := iI 1) hx hb dL_undo_12 rfl ?_
  exact vx_ret (z_iret hx hb hr hlocks hP hS dL_undo_13 rfl rfl (Nat.le_of_ble_eq_true rfl) (Nat.le_of_ble_eq_true rfl))
set_option maxHeartbeats 4000000 in
set_option maxRecDepth 100000 in
theorem c_L_restore_ok (l : Launch) (hst : l.stackTraces = false) (D : va_G) (k : Nat → ClassId) (a0 : Nat → Nat) (o1 : Nat → Nat) (S0 : Nat → Nat → Int) (S1 : Nat → Nat → Int) (S2 : Nat → Nat → Int) (S3 : Nat → Nat → Int) (S4 : Nat → Nat → Int) (h7 : S0 0 7 = 1) (hk3 : 0 ≤ S2 3 1 ∧ S2 3 1 ≤ 5) (hk6 : 0 ≤ S2 6 1 ∧ S2 6 1 ≤ 5) (hk9 : 0 ≤ S2 9 1 ∧ S2 9 1 ≤ 5) (hk11 : 0 ≤ S2 11 1 ∧ S2 11 1 ≤ 8) : zML l yL_restore wsL_restore ({ frames := 6, cells := 1, slots := 6, locals := 124 } : Room) D k [.ref (a0 0), .ref (o1 0)] (wFac k a0 S0 ++ (wPlant k (subA a0 1) S1 ++ (wPlant k (subA a0 46) S2 ++ (wHist k (subA a0 61) S3 ++ wArrJ k o1 S4)))) (0) (wFac k a0 S0 ++ (wPlant k (subA a0 1) ((wCopy S1 S2)) ++ (wPlant k (subA a0 46) S2 ++ (wHist k (subA a0 61) (up2 S3 0 2 0) ++ wArrJ k o1 (up2 S4 0 0 ((((wCopy S1 S2)) 3) 1 + (((wCopy S1 S2)) 6) 1 + (((wCopy S1 S2)) 9) 1)))))) 1 6 := by
  refine zML_of (cc := cL_restore) (maxL := 3) (ret := (some .int)) (hh := [(0, 8, 11, 98)]) (by decide) rfl (Nat.le_of_ble_eq_true rfl) ?_
  intro p e s m args below meth c A ls hx hb hr hml hown hts hlocks hK hP hD hG hE hT hA hS hl
  have hown : s.vm.findClass RL = some m.cls := hown
  have hl : lv_has ls 3 [(0, .ref (a0 0)), (1, .ref (o1 0))] := hl
  obtain ⟨H, hH⟩ : ∃ z, z = s.heap := ⟨_, rfl⟩
  obtain ⟨locs, hlc⟩ : ∃ z : List Loc, z = [] := ⟨_, rfl⟩
  rw [← hH] at hP
  have hS : va_S A s.heap H locs := by rw [hH, hlc]; exact hS
  rw [← hlc, ← hH]
  clear hlc hH
  refine lv_aload_n hx hb dL_restore_0 rfl (lv_at hl 1 rfl) ?_
  refine lv_iconst (v := iI 0) hx hb dL_restore_1 rfl ?_
  refine lv_aload_n hx hb dL_restore_2 rfl (lv_at hl 0 rfl) ?_
  refine z_ai (va_runV (As := []) (rest := [.int (iI 0), .ref (o1 0)]) ⟨hx, hb, hml, hown, hts⟩ (c_X7_restore_ok l D k a0 S0 S1 S2 S3   (by omega) (by omega) (by omega) (by omega) (by omega) _) (cwV 0 hts gL_restore_X7_restore rfl rfl rfl (by decide +kernel) ⟨(Nat.le_of_ble_eq_true rfl), (Nat.le_of_ble_eq_true rfl)⟩) (z_preV hK hG hA hP hD hS (zrg 0 1 ++ (zrg 1 15 ++ (zrg 16 15 ++ zrg 31 2))) (z_mcat (z_hd (n := 1) rfl) (z_mcat (z_sk (n := 1) (off := 0) (m := 15) rfl (z_hd (n := 15) rfl)) (z_mcat (z_sk (n := 1) (off := 15) (m := 15) rfl (z_sk (n := 15) (off := 0) (m := 15) rfl (z_hd (n := 15) rfl))) (z_sk (n := 1) (off := 30) (m := 2) rfl (z_sk (n := 15) (off := 15) (m := 2) rfl (z_sk (n := 15) (off := 0) (m := 2) rfl (z_hd (n := 2) rfl))))))) (by decide +kernel) 9 rfl rfl) rfl rfl hl.1 rfl (lv_room (Nat.le_of_ble_eq_true rfl)) dL_restore_3 ⟨(Nat.le_of_ble_eq_true rfl), (Nat.le_of_ble_eq_true rfl)⟩) hA hP hD hS (zrg 0 1 ++ (zrg 1 15 ++ (zrg 16 15 ++ zrg 31 2))) (z_mcat (z_hd (n := 1) rfl) (z_mcat (z_sk (n := 1) (off := 0) (m := 15) rfl (z_hd (n := 15) rfl)) (z_mcat (z_sk (n := 1) (off := 15) (m := 15) rfl (z_sk (n := 15) (off := 0) (m := 15) rfl (z_hd (n := 15) rfl))) (z_sk (n := 1) (off := 30) (m := 2) rfl (z_sk (n := 15) (off := 15) (m := 2) rfl (z_sk (n := 15) (off := 0) (m := 2) rfl (z_hd (n := 2) rfl))))))) (z_mfst rfl (z_mfst rfl (z_mfst rfl rfl))) (fun H locs hP hD hS => ?_)
  have hz_2 : zset (wFac k a0 S0 ++ (wPlant k (subA a0 1) S1 ++ (wPlant k (subA a0 46) S2 ++ (wHist k (subA a0 61) S3 ++ wArrJ k o1 S4)))) (zrg 0 1) (wFac k a0 S0) = wFac k a0 S0 ++ (wPlant k (subA a0 1) S1 ++ (wPlant k (subA a0 46) S2 ++ (wHist k (subA a0 61) S3 ++ wArrJ k o1 S4))) := (z_zhd (n := 1) rfl rfl)
  have hz_3 : zset (wFac k a0 S0 ++ (wPlant k (subA a0 1) S1 ++ (wPlant k (subA a0 46) S2 ++ (wHist k (subA a0 61) S3 ++ wArrJ k o1 S4)))) (zrg 1 15) (wPlant k (subA a0 1) ((wCopy S1 S2))) = wFac k a0 S0 ++ (wPlant k (subA a0 1) ((wCopy S1 S2)) ++ (wPlant k (subA a0 46) S2 ++ (wHist k (subA a0 61) S3 ++ wArrJ k o1 S4))) := (z_zsk (n := 1) (off := 0) (m := 15) rfl (z_zhd (n := 15) rfl rfl))
  have hz_4 : zset (wFac k a0 S0 ++ (wPlant k (subA a0 1) ((wCopy S1 S2)) ++ (wPlant k (subA a0 46) S2 ++ (wHist k (subA a0 61) S3 ++ wArrJ k o1 S4)))) (zrg 16 15) (wPlant k (subA a0 46) S2) = wFac k a0 S0 ++ (wPlant k (subA a0 1) ((wCopy S1 S2)) ++ (wPlant k (subA a0 46) S2 ++ (wHist k (subA a0 61) S3 ++ wArrJ k o1 S4))) := (z_zsk (n := 1) (off := 15) (m := 15) rfl (z_zsk (n := 15) (off := 0) (m := 15) rfl (z_zhd (n := 15) rfl rfl)))
  have hz_5 : zset (wFac k a0 S0 ++ (wPlant k (subA a0 1) ((wCopy S1 S2)) ++ (wPlant k (subA a0 46) S2 ++ (wHist k (subA a0 61) S3 ++ wArrJ k o1 S4)))) (zrg 31 2) (wHist k (subA a0 61) (up2 S3 0 2 0)) = wFac k a0 S0 ++ (wPlant k (subA a0 1) ((wCopy S1 S2)) ++ (wPlant k (subA a0 46) S2 ++ (wHist k (subA a0 61) (up2 S3 0 2 0) ++ wArrJ k o1 S4))) := (z_zsk (n := 1) (off := 30) (m := 2) rfl (z_zsk (n := 15) (off := 15) (m := 2) rfl (z_zsk (n := 15) (off := 0) (m := 2) rfl (z_zhd (n := 2) rfl rfl))))
  have hE_1 : zset (wFac k a0 S0 ++ (wPlant k (subA a0 1) S1 ++ (wPlant k (subA a0 46) S2 ++ (wHist k (subA a0 61) S3 ++ wArrJ k o1 S4)))) (zrg 0 1 ++ (zrg 1 15 ++ (zrg 16 15 ++ zrg 31 2))) (wFac k a0 S0 ++ (wPlant k (subA a0 1) ((wCopy S1 S2)) ++ (wPlant k (subA a0 46) S2 ++ wHist k (subA a0 61) (up2 S3 0 2 0)))) = wFac k a0 S0 ++ (wPlant k (subA a0 1) ((wCopy S1 S2)) ++ (wPlant k (subA a0 46) S2 ++ (wHist k (subA a0 61) (up2 S3 0 2 0) ++ wArrJ k o1 S4))) := (z_zcat rfl hz_2 (z_zcat rfl hz_3 (z_zcat rfl hz_4 hz_5)))
  have hP : va_P D vwCl (wFac k a0 S0 ++ (wPlant k (subA a0 1) ((wCopy S1 S2)) ++ (wPlant k (subA a0 46) S2 ++ (wHist k (subA a0 61) (up2 S3 0 2 0) ++ wArrJ k o1 S4)))) H := z_to hE_1 hP
  have hD : va_D A (wFac k a0 S0 ++ (wPlant k (subA a0 1) ((wCopy S1 S2)) ++ (wPlant k (subA a0 46) S2 ++ (wHist k (subA a0 61) (up2 S3 0 2 0) ++ wArrJ k o1 S4)))) := z_to2 hE_1 hD
  refine lv_i2l (v := (iI ((((wCopy S1 S2)) 3) 1 + (((wCopy S1 S2)) 6) 1 + (((wCopy S1 S2)) 9) 1)).toInt64) hx hb dL_restore_6 rfl ?_
  refine z_last hx hb hK hP hD hS 33 4 (f := S4 0) rfl rfl (i := 0) (by omega) (by omega) (by decide) 0 rfl dL_restore_7 (fun H locs hP hD hS => ?_)
  have hP : va_P D vwCl (wFac k a0 S0 ++ (wPlant k (subA a0 1) ((wCopy S1 S2)) ++ (wPlant k (subA a0 46) S2 ++ (wHist k (subA a0 61) (up2 S3 0 2 0) ++ wArrJ k o1 (up2 S4 0 0 ((((wCopy S1 S2)) 3) 1 + (((wCopy S1 S2)) 6) 1 + (((wCopy S1 S2)) 9) 1)))))) H := hP
  have hD : va_D A (wFac k a0 S0 ++ (wPlant k (subA a0 1) ((wCopy S1 S2)) ++ (wPlant k (subA a0 46) S2 ++ (wHist k (subA a0 61) (up2 S3 0 2 0) ++ wArrJ k o1 (up2 S4 0 0 ((((wCopy S1 S2)) 3) 1 + (((wCopy S1 S2)) 6) 1 + (((wCopy S1 S2)) 9) 1)))))) := hD
  refine lv_goto (tgt := 14) hx hb dL_restore_8 (by decide) ?_
  refine lv_iconst (v := iI 0) hx hb dL_restore_14 rfl ?_
  exact vx_ret (z_iret hx hb hr hlocks hP hS dL_restore_15 rfl rfl (Nat.le_of_ble_eq_true rfl) (Nat.le_of_ble_eq_true rfl))
set_option maxHeartbeats 4000000 in
set_option maxRecDepth 100000 in
theorem c_L_restore_x (l : Launch) (hst : l.stackTraces = false) (D : va_G) (k : Nat → ClassId) (a0 : Nat → Nat) (o1 : Nat → Nat) (S0 : Nat → Nat → Int) (S1 : Nat → Nat → Int) (h7 : S0 0 7 = 0) : zML l yL_restore wsL_restore ({ frames := 7, cells := 1, slots := 6, locals := 102 } : Room) D k [.ref (a0 0), .ref (o1 0)] (wFac k a0 S0 ++ wArrJ k o1 S1) (1) (wFac k a0 S0 ++ wArrJ k o1 S1) 1 6 := by
  refine zML_of (cc := cL_restore) (maxL := 3) (ret := (some .int)) (hh := [(0, 8, 11, 98)]) (by decide) rfl (Nat.le_of_ble_eq_true rfl) ?_
  intro p e s m args below meth c A ls hx hb hr hml hown hts hlocks hK hP hD hG hE hT hA hS hl
  have hown : s.vm.findClass RL = some m.cls := hown
  have hl : lv_has ls 3 [(0, .ref (a0 0)), (1, .ref (o1 0))] := hl
  obtain ⟨H, hH⟩ : ∃ z, z = s.heap := ⟨_, rfl⟩
  obtain ⟨locs, hlc⟩ : ∃ z : List Loc, z = [] := ⟨_, rfl⟩
  rw [← hH] at hP
  have hS : va_S A s.heap H locs := by rw [hH, hlc]; exact hS
  rw [← hlc, ← hH]
  clear hlc hH
  refine lv_aload_n hx hb dL_restore_0 rfl (lv_at hl 1 rfl) ?_
  refine lv_iconst (v := iI 0) hx hb dL_restore_1 rfl ?_
  refine lv_aload_n hx hb dL_restore_2 rfl (lv_at hl 0 rfl) ?_
  refine z_axc0 (vx_runV (As := []) (rest := [.int (iI 0), .ref (o1 0)]) ⟨hx, hb, hml, hown, hts⟩ (c_X7_restore_x l hst D k a0 S0   (by omega) _) (cwV 0 hts gL_restore_X7_restore rfl rfl rfl (by decide +kernel) ⟨(Nat.le_of_ble_eq_true rfl), (Nat.le_of_ble_eq_true rfl)⟩) (z_preVx hK hG hE hA hP hD hS [0] rfl (by decide) 9 rfl rfl) rfl rfl hl.1 rfl (lv_room (Nat.le_of_ble_eq_true rfl)) dL_restore_3 ⟨(Nat.le_of_ble_eq_true rfl), (Nat.le_of_ble_eq_true rfl)⟩) hA hP hD hS [0] rfl (fun ce q9 H locs hP hS hce hcv hcl => ?_)
  refine vx_catch (name := "java/lang/IllegalStateException") (E := "java/lang/IllegalStateException") hown [] (⟨0, 8, 11, 98⟩ : ExceptionTableEntry) [] (hT.trans rfl) (fun _ h => absurd h List.not_mem_nil) rfl (by decide) (hts (.classLink RL 98 "java/lang/IllegalStateException") (List.mem_of_getElem? (i := 1) rfl)) (va_Nw.use rfl (hE.1 "java/lang/IllegalStateException" zXm_ista)) hce hcv hcl ?_
  refine lv_astore_n (lv' := [(2, .ref q9), (0, .ref (a0 0)), (1, .ref (o1 0))]) hx hb dL_restore_11 rfl hl (by decide) rfl (fun ls hl => ?_)
  refine lv_iconst (v := iI 1) hx hb dL_restore_12 rfl ?_
  exact vx_ret (z_iret hx hb hr hlocks hP hS dL_restore_13 rfl rfl (Nat.le_of_ble_eq_true rfl) (Nat.le_of_ble_eq_true rfl))
