/-! the two cases of doubles -/
section LCD
variable {p : Program} {l : Launch} {e : Env} {R : Room} {s : State} {m : MethodId} {args : Array Value} {below : List Frame} {meth : Method} {c : Code} {H : Heap} {locs : List Loc} {cells slots : Nat} {Q : State → Prop}
variable {ls : Array Slot} {D : va_G} {A : Nat → Prop} {k : Nat → ClassId} {a r o d : Nat → Nat} {K : Int} {F P T B N Hs : Nat → Nat → Int} {Gs : Nat → Nat → Nat → Int} {I L RR J : Nat → Nat → Int} {X : Nat → UInt64} {b Ln : Nat} {xs : Nat → Int32} {x5 : Int}
set_option maxHeartbeats 4000000 in
set_option maxRecDepth 100000 in
theorem lc_33 (hF : lwF p s m args c R D k A) (hst : l.stackTraces = false) (hX : va_X b Ln xs s s.heap) (hbl : b < s.heap.size) (hbA : ¬ A b) (hLn : Ln ≤ 2048) (x0 : 0 ≤ x5) (hx5 : x5 + 4 ≤ Ln) (h : Iv K F P T B N Hs Gs I L RR) (hK : K + 620 ≤ 320000) (hP : va_P D vwCl (wLaw k a r o d F P T B N Hs Gs I L RR J X) H) (hD : va_D A (wLaw k a r o d F P T B N Hs Gs I L RR J X)) (hS : va_S A s.heap H locs) (hl : lv_has ls 9 (lvB a r o d b x5)) (hcl : cells + 1 ≤ R.cells ∧ slots + 6 ≤ R.slots) (kk : lwK p l e R s m args below meth c D k A a r o d b x5 K cells slots Q) : W p l e R s m args below meth c H locs cells slots Q (F0 m 1974 ls []) := by
  obtain ⟨hx, hb, hml, hown, hts, hK0, hG, hE, hA, hR1, hR2⟩ := id hF
  refine lv_aload_n hx hb dL_law_1974 rfl (lv_at hl 4 rfl) ?_
  refine lv_aload hx hb dL_law_1975 (lv_at hl 1 rfl) ?_
  obtain ⟨R1, X1, kx, v, hL, hC, e8, hk, hv, hI⟩ := st_meanGrey (D := D) (k := k) (a := a) (r := r) (o := o) (d := d) (J := J) (X := X) hst h hK
  refine la_L (As := [.ref (a 0), .ref (d 0)]) (rest := []) (idx := 248) (n := 2) hF hP hD hS hl.1 hL gL_law_L_meanGrey rfl (by decide +kernel) rfl (Nat.le_of_ble_eq_true rfl) (Nat.le_of_ble_eq_true rfl) dL_law_1977 hcl (fun H locs hP hD hS => ?_)
  refine lv_istore (lv' := (6, .int (iI kx)) :: lvB a r o d b x5) hx hb dL_law_1980 hl (by decide) rfl (fun ls hl => ?_)
  refine lv_aload_n hx hb dL_law_1982 rfl (lv_at hl 4 rfl) ?_
  refine la_VD (As := []) (rest := []) (idx := 251) (n := 0) (ci := 10) hF hP hD hS hl.1 hC rfl gL_law_X8_meanGrey rfl (by decide +kernel) rfl (Nat.le_of_ble_eq_true rfl) (Nat.le_of_ble_eq_true rfl) dL_law_1983 ⟨hcl.1, hcl.2⟩ (fun H locs hP hD hS => ?_)
  refine lv_dstore (lv' := (7, .double v) :: (6, .int (iI kx)) :: lvB a r o d b x5) hx hb dL_law_1986 hl (by decide) rfl (fun ls hl => ?_)
  have hT : zXc l yX8_thrown wsX8_thrown D k (r 0) 10 [] (wLaw k a r o d F P T B N Hs Gs I L R1 J X1) kx (wLaw k a r o d F P T B N Hs Gs I L R1 J X1) := by
    rw [← e8]
    exact xc_of (c_X8_thrown l D k r R1) (rm_i rfl rfl rfl rfl) sel_r rfl
  refine lv_aload_n hx hb dL_law_1988 rfl (lv_at hl 5 rfl) ?_
  refine la_V (As := []) (rest := []) (idx := 136) (n := 0) (ci := 10) hF hP hD hS hl.1 hT rfl gL_law_X8_thrown rfl (by decide +kernel) rfl (Nat.le_of_ble_eq_true rfl) (Nat.le_of_ble_eq_true rfl) dL_law_1989 ⟨hcl.1, hcl.2⟩ (fun H locs hP hD hS => ?_)
  refine lv_iload hx hb dL_law_1992 (lv_at hl 1 rfl) ?_
  have zk : zR kx := ⟨by omega, by omega⟩
  refine zi_icmp_eq (tgt := 1999) hx hb dL_law_1994 (by decide) zk zk (fun _ => ?_) (fun w => absurd rfl w)
  refine lv_iload hx hb dL_law_1999 (lv_at hl 1 rfl) ?_
  refine zi_if_ne (tgt := 2036) hx hb dL_law_2001 (by decide) zk (fun _ => ?_) (fun h0 => ?_)
  · refine lv_goto (tgt := 2206) hx hb dL_law_2036 (by decide) ?_
    exact kk _ _ _ _ _ _ _ _ _ _ _ _ _ _ _ _ _ hI hP hD hS (lv_drop (lv_drop hl)) (Nat.le_refl _) (Nat.le_refl _)
  · obtain ⟨n, n1, n2, n3⟩ := hv h0
    refine lv_aload hx hb dL_law_2004 (lv_at hl 3 rfl) ?_
    refine lv_iconst (v := iI 0) hx hb dL_law_2006 rfl ?_
    refine va_dald hx hb hK0 hP 196 5 wLaw_D rfl (i := iI 0) (z_in (by decide) (by decide) (by decide)) dL_law_2007 ?_
    refine lv_dload hx hb dL_law_2008 (lv_at hl 0 rfl) ?_
    refine lv_dcmp hx hb dL_law_2010 ?_
    have ez : Op.cmpValue (FP.dcmp (X1 (iI 0).toNatClampNeg) v) CmpOp.l = iI 0 := by
      show Op.cmpValue (FP.dcmp (X1 0) v) CmpOp.l = 0
      rw [n3, n2]
      exact dcmp_eq n1
    rw [ez]
    refine zi_if_eq (tgt := 2036) hx hb dL_law_2011 (by decide) ⟨by decide, by decide⟩ (fun _ => ?_) (fun w => absurd rfl w)
    refine lv_goto (tgt := 2206) hx hb dL_law_2036 (by decide) ?_
    exact kk _ _ _ _ _ _ _ _ _ _ _ _ _ _ _ _ _ hI hP hD hS (lv_drop (lv_drop hl)) (Nat.le_refl _) (Nat.le_refl _)
set_option maxHeartbeats 4000000 in
set_option maxRecDepth 100000 in
theorem lc_34 (hF : lwF p s m args c R D k A) (hst : l.stackTraces = false) (hX : va_X b Ln xs s s.heap) (hbl : b < s.heap.size) (hbA : ¬ A b) (hLn : Ln ≤ 2048) (x0 : 0 ≤ x5) (hx5 : x5 + 4 ≤ Ln) (h : Iv K F P T B N Hs Gs I L RR) (hK : K + 620 ≤ 320000) (hP : va_P D vwCl (wLaw k a r o d F P T B N Hs Gs I L RR J X) H) (hD : va_D A (wLaw k a r o d F P T B N Hs Gs I L RR J X)) (hS : va_S A s.heap H locs) (hl : lv_has ls 9 (lvB a r o d b x5)) (hcl : cells + 1 ≤ R.cells ∧ slots + 6 ≤ R.slots) (kk : lwK p l e R s m args below meth c D k A a r o d b x5 K cells slots Q) : W p l e R s m args below meth c H locs cells slots Q (F0 m 2039 ls []) := by
  obtain ⟨hx, hb, hml, hown, hts, hK0, hG, hE, hA, hR1, hR2⟩ := id hF
  refine lv_aload_n hx hb dL_law_2039 rfl (lv_at hl 4 rfl) ?_
  refine lv_aload hx hb dL_law_2040 (lv_at hl 1 rfl) ?_
  obtain ⟨R1, X1, kx, v, hL, hC, e8, hk, hv, hI⟩ := st_stampShare (D := D) (k := k) (a := a) (r := r) (o := o) (d := d) (J := J) (X := X) hst h hK
  refine la_L (As := [.ref (a 0), .ref (d 0)]) (rest := []) (idx := 252) (n := 2) hF hP hD hS hl.1 hL gL_law_L_stampShare rfl (by decide +kernel) rfl (Nat.le_of_ble_eq_true rfl) (Nat.le_of_ble_eq_true rfl) dL_law_2042 hcl (fun H locs hP hD hS => ?_)
  refine lv_istore (lv' := (6, .int (iI kx)) :: lvB a r o d b x5) hx hb dL_law_2045 hl (by decide) rfl (fun ls hl => ?_)
  refine lv_aload_n hx hb dL_law_2047 rfl (lv_at hl 4 rfl) ?_
  refine la_VF (As := []) (rest := []) (idx := 254) (n := 0) (ci := 10) hF hP hD hS hl.1 hC rfl gL_law_X8_stampShare rfl (by decide +kernel) rfl (Nat.le_of_ble_eq_true rfl) (Nat.le_of_ble_eq_true rfl) dL_law_2048 ⟨hcl.1, hcl.2⟩ (fun H locs hP hD hS => ?_)
  refine lv_fstore (lv' := (7, .float v) :: (6, .int (iI kx)) :: lvB a r o d b x5) hx hb dL_law_2051 hl (by decide) rfl (fun ls hl => ?_)
  have hT : zXc l yX8_thrown wsX8_thrown D k (r 0) 10 [] (wLaw k a r o d F P T B N Hs Gs I L R1 J X1) kx (wLaw k a r o d F P T B N Hs Gs I L R1 J X1) := by
    rw [← e8]
    exact xc_of (c_X8_thrown l D k r R1) (rm_i rfl rfl rfl rfl) sel_r rfl
  refine lv_aload_n hx hb dL_law_2053 rfl (lv_at hl 5 rfl) ?_
  refine la_V (As := []) (rest := []) (idx := 136) (n := 0) (ci := 10) hF hP hD hS hl.1 hT rfl gL_law_X8_thrown rfl (by decide +kernel) rfl (Nat.le_of_ble_eq_true rfl) (Nat.le_of_ble_eq_true rfl) dL_law_2054 ⟨hcl.1, hcl.2⟩ (fun H locs hP hD hS => ?_)
  refine lv_iload hx hb dL_law_2057 (lv_at hl 1 rfl) ?_
  have zk : zR kx := ⟨by omega, by omega⟩
  refine zi_icmp_eq (tgt := 2064) hx hb dL_law_2059 (by decide) zk zk (fun _ => ?_) (fun w => absurd rfl w)
  refine lv_iload hx hb dL_law_2064 (lv_at hl 1 rfl) ?_
  refine zi_if_ne (tgt := 2102) hx hb dL_law_2066 (by decide) zk (fun _ => ?_) (fun h0 => ?_)
  · refine lv_goto (tgt := 2206) hx hb dL_law_2102 (by decide) ?_
    exact kk _ _ _ _ _ _ _ _ _ _ _ _ _ _ _ _ _ hI hP hD hS (lv_drop (lv_drop hl)) (Nat.le_refl _) (Nat.le_refl _)
  · obtain ⟨n, n1, n2, n3⟩ := hv h0
    refine lv_aload hx hb dL_law_2069 (lv_at hl 3 rfl) ?_
    refine lv_iconst (v := iI 0) hx hb dL_law_2071 rfl ?_
    refine va_dald hx hb hK0 hP 196 5 wLaw_D rfl (i := iI 0) (z_in (by decide) (by decide) (by decide)) dL_law_2072 ?_
    refine lv_fload hx hb dL_law_2073 (lv_at hl 0 rfl) ?_
    refine lv_f2d hx hb dL_law_2075 (by rw [n2]; exact vf_64 n1) ?_
    refine lv_dcmp hx hb dL_law_2076 ?_
    have ez : Op.cmpValue (FP.dcmp (X1 (iI 0).toNatClampNeg) (FP.f2d v)) CmpOp.l = iI 0 := by
      show Op.cmpValue (FP.dcmp (X1 0) (FP.f2d v)) CmpOp.l = 0
      rw [n3, n2]
      exact dcmp_eq n1
    rw [ez]
    refine zi_if_eq (tgt := 2102) hx hb dL_law_2077 (by decide) ⟨by decide, by decide⟩ (fun _ => ?_) (fun w => absurd rfl w)
    refine lv_goto (tgt := 2206) hx hb dL_law_2102 (by decide) ?_
    exact kk _ _ _ _ _ _ _ _ _ _ _ _ _ _ _ _ _ hI hP hD hS (lv_drop (lv_drop hl)) (Nat.le_refl _) (Nat.le_refl _)
end LCD
