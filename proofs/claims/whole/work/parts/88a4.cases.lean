/-! more cases of the law -/
section LCA
variable {p : Program} {l : Launch} {e : Env} {R : Room} {s : State} {m : MethodId} {args : Array Value} {below : List Frame} {meth : Method} {c : Code} {H : Heap} {locs : List Loc} {cells slots : Nat} {Q : State → Prop}
variable {ls : Array Slot} {D : va_G} {A : Nat → Prop} {k : Nat → ClassId} {a r o d : Nat → Nat} {K : Int} {F P T B N Hs : Nat → Nat → Int} {Gs : Nat → Nat → Nat → Int} {I L RR J : Nat → Nat → Int} {X : Nat → UInt64} {b Ln : Nat} {xs : Nat → Int32} {x5 : Int}
set_option maxHeartbeats 4000000 in
set_option maxRecDepth 100000 in
theorem lc_22 (hF : lwF p s m args c R D k A) (hst : l.stackTraces = false) (hX : va_X b Ln xs s s.heap) (hbl : b < s.heap.size) (hbA : ¬ A b) (hLn : Ln ≤ 2048) (x0 : 0 ≤ x5) (hx5 : x5 + 4 ≤ Ln) (h : Iv K F P T B N Hs Gs I L RR) (hK : K + 620 ≤ 320000) (hP : va_P D vwCl (wLaw k a r o d F P T B N Hs Gs I L RR J X) H) (hD : va_D A (wLaw k a r o d F P T B N Hs Gs I L RR J X)) (hS : va_S A s.heap H locs) (hl : lv_has ls 9 (lvB a r o d b x5)) (hcl : cells + 1 ≤ R.cells ∧ slots + 6 ≤ R.slots) (kk : lwK p l e R s m args below meth c D k A a r o d b x5 K cells slots Q) : W p l e R s m args below meth c H locs cells slots Q (F0 m 1481 ls []) := by
  obtain ⟨hx, hb, hml, hown, hts, hK0, hG, hE, hA, hR1, hR2⟩ := id hF
  refine lv_aload_n hx hb dL_law_1481 rfl (lv_at hl 4 rfl) ?_
  refine la_arg (xs := xs) (j := 1) (q := 1) hF hX hbl hbA hS (lv_at hl 5 rfl) (lv_at hl 0 rfl) hLn x0 (by decide) (by omega) dL_law_1482 dL_law_1483 dL_law_1485 rfl dL_law_1486 dL_law_1487 ?_
  refine lv_aload_n hx hb dL_law_1488 rfl (lv_at hl 2 rfl) ?_
  obtain ⟨F1, P1, T1, B1, N1, H1, G1, I1, L1, R1, J1, kx, bx, hL, hC, e8, hk, hJ, hZ, hI⟩ := st_fresh (D := D) (k := k) (a := a) (r := r) (o := o) (d := d) (J := J) (X := X) hst h hK (p1 := (pJ xs (x5 + 1))) (pJ_r xs _)
  refine la_L (As := [.ref (a 0), .int (iI (pJ xs (x5 + 1))), .ref (o 0)]) (rest := []) (idx := 209) (n := 3) hF hP hD hS hl.1 hL gL_law_L_fresh rfl (by decide +kernel) rfl (Nat.le_of_ble_eq_true rfl) (Nat.le_of_ble_eq_true rfl) dL_law_1489 hcl (fun H locs hP hD hS => ?_)
  refine lv_istore (lv' := (6, .int (iI kx)) :: lvB a r o d b x5) hx hb dL_law_1492 hl (by decide) rfl (fun ls hl => ?_)
  refine lv_aload_n hx hb dL_law_1494 rfl (lv_at hl 4 rfl) ?_
  refine la_arg (xs := xs) (j := 1) (q := 1) hF hX hbl hbA hS (lv_at hl 6 rfl) (lv_at hl 1 rfl) hLn x0 (by decide) (by omega) dL_law_1495 dL_law_1496 dL_law_1498 rfl dL_law_1499 dL_law_1500 ?_
  refine la_V (As := [.int (iI (pJ xs (x5 + 1)))]) (rest := []) (idx := 211) (n := 1) (ci := 10) hF hP hD hS hl.1 hC rfl gL_law_X8_fresh rfl (by decide +kernel) rfl (Nat.le_of_ble_eq_true rfl) (Nat.le_of_ble_eq_true rfl) dL_law_1501 ⟨hcl.1, hcl.2⟩ (fun H locs hP hD hS => ?_)
  refine lv_istore (lv' := (7, .int (iI bx)) :: (6, .int (iI kx)) :: lvB a r o d b x5) hx hb dL_law_1504 hl (by decide) rfl (fun ls hl => ?_)
  have hT : zXc l yX8_thrown wsX8_thrown D k (r 0) 10 [] (wLaw k a r o d F1 P1 T1 B1 N1 H1 G1 I1 L1 R1 J1 X) kx (wLaw k a r o d F1 P1 T1 B1 N1 H1 G1 I1 L1 R1 J1 X) := by
    rw [← e8]
    exact xc_of (c_X8_thrown l D k r R1) (rm_i rfl rfl rfl rfl) sel_r rfl
  exact la_tail (q := 1506) (off := 672) (fJ := J1 0) (kk0 := 195) (kx := kx) (bx := bx) hF hP hD hS hl.1 hT wLaw_J hk hJ (lv_at hl 5 rfl) (lv_at hl 4 rfl) (lv_at hl 1 rfl) (lv_at hl 0 rfl) hcl dL_law_1506 dL_law_1507 dL_law_1510 dL_law_1512 dL_law_1517 dL_law_1519 dL_law_1522 dL_law_1523 dL_law_1524 dL_law_1525 dL_law_1527 dL_law_1528 dL_law_1529 dL_law_1534 (by decide) (fun H1 locs1 hP hD hS => kk _ _ _ _ _ _ _ _ _ _ _ _ _ _ _ _ _ hI hP hD hS (lv_drop (lv_drop hl)) (Nat.le_refl _) (Nat.le_refl _))
set_option maxHeartbeats 4000000 in
set_option maxRecDepth 100000 in
theorem lc_23 (hF : lwF p s m args c R D k A) (hst : l.stackTraces = false) (hX : va_X b Ln xs s s.heap) (hbl : b < s.heap.size) (hbA : ¬ A b) (hLn : Ln ≤ 2048) (x0 : 0 ≤ x5) (hx5 : x5 + 4 ≤ Ln) (h : Iv K F P T B N Hs Gs I L RR) (hK : K + 620 ≤ 320000) (hP : va_P D vwCl (wLaw k a r o d F P T B N Hs Gs I L RR J X) H) (hD : va_D A (wLaw k a r o d F P T B N Hs Gs I L RR J X)) (hS : va_S A s.heap H locs) (hl : lv_has ls 9 (lvB a r o d b x5)) (hcl : cells + 1 ≤ R.cells ∧ slots + 6 ≤ R.slots) (kk : lwK p l e R s m args below meth c D k A a r o d b x5 K cells slots Q) : W p l e R s m args below meth c H locs cells slots Q (F0 m 1537 ls []) := by
  obtain ⟨hx, hb, hml, hown, hts, hK0, hG, hE, hA, hR1, hR2⟩ := id hF
  refine lv_aload_n hx hb dL_law_1537 rfl (lv_at hl 4 rfl) ?_
  refine la_arg (xs := xs) (j := 1) (q := 1) hF hX hbl hbA hS (lv_at hl 5 rfl) (lv_at hl 0 rfl) hLn x0 (by decide) (by omega) dL_law_1538 dL_law_1539 dL_law_1541 rfl dL_law_1542 dL_law_1543 ?_
  refine lv_aload_n hx hb dL_law_1544 rfl (lv_at hl 2 rfl) ?_
  obtain ⟨F1, P1, T1, B1, N1, H1, G1, I1, L1, R1, J1, kx, bx, hL, hC, e8, hk, hJ, hZ, hI⟩ := st_greyest (D := D) (k := k) (a := a) (r := r) (o := o) (d := d) (J := J) (X := X) hst h hK (p1 := (pJ xs (x5 + 1))) (pJ_r xs _)
  refine la_L (As := [.ref (a 0), .int (iI (pJ xs (x5 + 1))), .ref (o 0)]) (rest := []) (idx := 212) (n := 3) hF hP hD hS hl.1 hL gL_law_L_greyest rfl (by decide +kernel) rfl (Nat.le_of_ble_eq_true rfl) (Nat.le_of_ble_eq_true rfl) dL_law_1545 hcl (fun H locs hP hD hS => ?_)
  refine lv_istore (lv' := (6, .int (iI kx)) :: lvB a r o d b x5) hx hb dL_law_1548 hl (by decide) rfl (fun ls hl => ?_)
  refine lv_aload_n hx hb dL_law_1550 rfl (lv_at hl 4 rfl) ?_
  refine la_arg (xs := xs) (j := 1) (q := 1) hF hX hbl hbA hS (lv_at hl 6 rfl) (lv_at hl 1 rfl) hLn x0 (by decide) (by omega) dL_law_1551 dL_law_1552 dL_law_1554 rfl dL_law_1555 dL_law_1556 ?_
  refine la_V (As := [.int (iI (pJ xs (x5 + 1)))]) (rest := []) (idx := 214) (n := 1) (ci := 10) hF hP hD hS hl.1 hC rfl gL_law_X8_greyest rfl (by decide +kernel) rfl (Nat.le_of_ble_eq_true rfl) (Nat.le_of_ble_eq_true rfl) dL_law_1557 ⟨hcl.1, hcl.2⟩ (fun H locs hP hD hS => ?_)
  refine lv_istore (lv' := (7, .int (iI bx)) :: (6, .int (iI kx)) :: lvB a r o d b x5) hx hb dL_law_1560 hl (by decide) rfl (fun ls hl => ?_)
  have hT : zXc l yX8_thrown wsX8_thrown D k (r 0) 10 [] (wLaw k a r o d F1 P1 T1 B1 N1 H1 G1 I1 L1 R1 J1 X) kx (wLaw k a r o d F1 P1 T1 B1 N1 H1 G1 I1 L1 R1 J1 X) := by
    rw [← e8]
    exact xc_of (c_X8_thrown l D k r R1) (rm_i rfl rfl rfl rfl) sel_r rfl
  exact la_tail (q := 1562) (off := 616) (fJ := J1 0) (kk0 := 195) (kx := kx) (bx := bx) hF hP hD hS hl.1 hT wLaw_J hk hJ (lv_at hl 5 rfl) (lv_at hl 4 rfl) (lv_at hl 1 rfl) (lv_at hl 0 rfl) hcl dL_law_1562 dL_law_1563 dL_law_1566 dL_law_1568 dL_law_1573 dL_law_1575 dL_law_1578 dL_law_1579 dL_law_1580 dL_law_1581 dL_law_1583 dL_law_1584 dL_law_1585 dL_law_1590 (by decide) (fun H1 locs1 hP hD hS => kk _ _ _ _ _ _ _ _ _ _ _ _ _ _ _ _ _ hI hP hD hS (lv_drop (lv_drop hl)) (Nat.le_refl _) (Nat.le_refl _))
set_option maxHeartbeats 4000000 in
set_option maxRecDepth 100000 in
theorem lc_24 (hF : lwF p s m args c R D k A) (hst : l.stackTraces = false) (hX : va_X b Ln xs s s.heap) (hbl : b < s.heap.size) (hbA : ¬ A b) (hLn : Ln ≤ 2048) (x0 : 0 ≤ x5) (hx5 : x5 + 4 ≤ Ln) (h : Iv K F P T B N Hs Gs I L RR) (hK : K + 620 ≤ 320000) (hP : va_P D vwCl (wLaw k a r o d F P T B N Hs Gs I L RR J X) H) (hD : va_D A (wLaw k a r o d F P T B N Hs Gs I L RR J X)) (hS : va_S A s.heap H locs) (hl : lv_has ls 9 (lvB a r o d b x5)) (hcl : cells + 1 ≤ R.cells ∧ slots + 6 ≤ R.slots) (kk : lwK p l e R s m args below meth c D k A a r o d b x5 K cells slots Q) : W p l e R s m args below meth c H locs cells slots Q (F0 m 1593 ls []) := by
  obtain ⟨hx, hb, hml, hown, hts, hK0, hG, hE, hA, hR1, hR2⟩ := id hF
  refine lv_aload_n hx hb dL_law_1593 rfl (lv_at hl 4 rfl) ?_
  refine la_arg (xs := xs) (j := 1) (q := 1) hF hX hbl hbA hS (lv_at hl 5 rfl) (lv_at hl 0 rfl) hLn x0 (by decide) (by omega) dL_law_1594 dL_law_1595 dL_law_1597 rfl dL_law_1598 dL_law_1599 ?_
  refine lv_aload_n hx hb dL_law_1600 rfl (lv_at hl 2 rfl) ?_
  obtain ⟨F1, P1, T1, B1, N1, H1, G1, I1, L1, R1, J1, kx, bx, hL, hC, e8, hk, hJ, hZ, hI⟩ := st_line (D := D) (k := k) (a := a) (r := r) (o := o) (d := d) (J := J) (X := X) hst h hK (p1 := (pJ xs (x5 + 1))) (pJ_r xs _)
  refine la_L (As := [.ref (a 0), .int (iI (pJ xs (x5 + 1))), .ref (o 0)]) (rest := []) (idx := 215) (n := 3) hF hP hD hS hl.1 hL gL_law_L_line rfl (by decide +kernel) rfl (Nat.le_of_ble_eq_true rfl) (Nat.le_of_ble_eq_true rfl) dL_law_1601 hcl (fun H locs hP hD hS => ?_)
  refine lv_istore (lv' := (6, .int (iI kx)) :: lvB a r o d b x5) hx hb dL_law_1604 hl (by decide) rfl (fun ls hl => ?_)
  refine lv_aload_n hx hb dL_law_1606 rfl (lv_at hl 4 rfl) ?_
  refine la_arg (xs := xs) (j := 1) (q := 1) hF hX hbl hbA hS (lv_at hl 6 rfl) (lv_at hl 1 rfl) hLn x0 (by decide) (by omega) dL_law_1607 dL_law_1608 dL_law_1610 rfl dL_law_1611 dL_law_1612 ?_
  refine la_V (As := [.int (iI (pJ xs (x5 + 1)))]) (rest := []) (idx := 217) (n := 1) (ci := 10) hF hP hD hS hl.1 hC rfl gL_law_X8_line rfl (by decide +kernel) rfl (Nat.le_of_ble_eq_true rfl) (Nat.le_of_ble_eq_true rfl) dL_law_1613 ⟨hcl.1, hcl.2⟩ (fun H locs hP hD hS => ?_)
  refine lv_istore (lv' := (7, .int (iI bx)) :: (6, .int (iI kx)) :: lvB a r o d b x5) hx hb dL_law_1616 hl (by decide) rfl (fun ls hl => ?_)
  have hT : zXc l yX8_thrown wsX8_thrown D k (r 0) 10 [] (wLaw k a r o d F1 P1 T1 B1 N1 H1 G1 I1 L1 R1 J1 X) kx (wLaw k a r o d F1 P1 T1 B1 N1 H1 G1 I1 L1 R1 J1 X) := by
    rw [← e8]
    exact xc_of (c_X8_thrown l D k r R1) (rm_i rfl rfl rfl rfl) sel_r rfl
  exact la_tail (q := 1618) (off := 560) (fJ := J1 0) (kk0 := 195) (kx := kx) (bx := bx) hF hP hD hS hl.1 hT wLaw_J hk hJ (lv_at hl 5 rfl) (lv_at hl 4 rfl) (lv_at hl 1 rfl) (lv_at hl 0 rfl) hcl dL_law_1618 dL_law_1619 dL_law_1622 dL_law_1624 dL_law_1629 dL_law_1631 dL_law_1634 dL_law_1635 dL_law_1636 dL_law_1637 dL_law_1639 dL_law_1640 dL_law_1641 dL_law_1646 (by decide) (fun H1 locs1 hP hD hS => kk _ _ _ _ _ _ _ _ _ _ _ _ _ _ _ _ _ hI hP hD hS (lv_drop (lv_drop hl)) (Nat.le_refl _) (Nat.le_refl _))
set_option maxHeartbeats 4000000 in
set_option maxRecDepth 100000 in
theorem lc_25 (hF : lwF p s m args c R D k A) (hst : l.stackTraces = false) (hX : va_X b Ln xs s s.heap) (hbl : b < s.heap.size) (hbA : ¬ A b) (hLn : Ln ≤ 2048) (x0 : 0 ≤ x5) (hx5 : x5 + 4 ≤ Ln) (h : Iv K F P T B N Hs Gs I L RR) (hK : K + 620 ≤ 320000) (hP : va_P D vwCl (wLaw k a r o d F P T B N Hs Gs I L RR J X) H) (hD : va_D A (wLaw k a r o d F P T B N Hs Gs I L RR J X)) (hS : va_S A s.heap H locs) (hl : lv_has ls 9 (lvB a r o d b x5)) (hcl : cells + 1 ≤ R.cells ∧ slots + 6 ≤ R.slots) (kk : lwK p l e R s m args below meth c D k A a r o d b x5 K cells slots Q) : W p l e R s m args below meth c H locs cells slots Q (F0 m 1649 ls []) := by
  obtain ⟨hx, hb, hml, hown, hts, hK0, hG, hE, hA, hR1, hR2⟩ := id hF
  refine lv_aload_n hx hb dL_law_1649 rfl (lv_at hl 4 rfl) ?_
  obtain ⟨F1, P1, T1, B1, N1, H1, G1, I1, L1, R1, v, hL, hC, hI⟩ := st_shelfLine (D := D) (k := k) (a := a) (r := r) (o := o) (d := d) (J := J) (X := X) hst h hK  
  refine la_V (As := []) (rest := []) (idx := 218) (n := 0) (ci := 9) hF hP hD hS hl.1 hL rfl gL_law_X7_shelfLine rfl (by decide +kernel) rfl (Nat.le_of_ble_eq_true rfl) (Nat.le_of_ble_eq_true rfl) dL_law_1650 ⟨by omega, by omega⟩ (fun H locs hP hD hS => ?_)
  refine lv_aload_n hx hb dL_law_1653 rfl (lv_at hl 3 rfl) ?_
  refine la_V (As := []) (rest := [.int (iI v)]) (idx := 221) (n := 0) (ci := 10) hF hP hD hS hl.1 hC rfl gL_law_X8_shelfLine rfl (by decide +kernel) rfl (Nat.le_of_ble_eq_true rfl) (Nat.le_of_ble_eq_true rfl) dL_law_1654 ⟨by omega, by omega⟩ (fun H locs hP hD hS => ?_)
  refine lv_icmp_eq (tgt := 2206) hx hb dL_law_1657 (by decide) (fun _ => ?_) (fun w => absurd rfl w)
  exact kk _ _ _ _ _ _ _ _ _ _ _ _ _ _ _ _ _ hI hP hD hS hl (by omega) (by omega)
set_option maxHeartbeats 4000000 in
set_option maxRecDepth 100000 in
theorem lc_26 (hF : lwF p s m args c R D k A) (hst : l.stackTraces = false) (hX : va_X b Ln xs s s.heap) (hbl : b < s.heap.size) (hbA : ¬ A b) (hLn : Ln ≤ 2048) (x0 : 0 ≤ x5) (hx5 : x5 + 4 ≤ Ln) (h : Iv K F P T B N Hs Gs I L RR) (hK : K + 620 ≤ 320000) (hP : va_P D vwCl (wLaw k a r o d F P T B N Hs Gs I L RR J X) H) (hD : va_D A (wLaw k a r o d F P T B N Hs Gs I L RR J X)) (hS : va_S A s.heap H locs) (hl : lv_has ls 9 (lvB a r o d b x5)) (hcl : cells + 1 ≤ R.cells ∧ slots + 6 ≤ R.slots) (kk : lwK p l e R s m args below meth c D k A a r o d b x5 K cells slots Q) : W p l e R s m args below meth c H locs cells slots Q (F0 m 1662 ls []) := by
  obtain ⟨hx, hb, hml, hown, hts, hK0, hG, hE, hA, hR1, hR2⟩ := id hF
  refine lv_aload_n hx hb dL_law_1662 rfl (lv_at hl 4 rfl) ?_
  refine la_arg (xs := xs) (j := 1) (q := 1) hF hX hbl hbA hS (lv_at hl 5 rfl) (lv_at hl 0 rfl) hLn x0 (by decide) (by omega) dL_law_1663 dL_law_1664 dL_law_1666 rfl dL_law_1667 dL_law_1668 ?_
  refine lv_aload_n hx hb dL_law_1669 rfl (lv_at hl 2 rfl) ?_
  obtain ⟨F1, P1, T1, B1, N1, H1, G1, I1, L1, R1, J1, kx, bx, hL, hC, e8, hk, hJ, hZ, hI⟩ := st_character (D := D) (k := k) (a := a) (r := r) (o := o) (d := d) (J := J) (X := X) hst h hK (p1 := (pJ xs (x5 + 1))) (pJ_r xs _)
  refine la_L (As := [.ref (a 0), .int (iI (pJ xs (x5 + 1))), .ref (o 0)]) (rest := []) (idx := 222) (n := 3) hF hP hD hS hl.1 hL gL_law_L_character rfl (by decide +kernel) rfl (Nat.le_of_ble_eq_true rfl) (Nat.le_of_ble_eq_true rfl) dL_law_1670 hcl (fun H locs hP hD hS => ?_)
  refine lv_istore (lv' := (6, .int (iI kx)) :: lvB a r o d b x5) hx hb dL_law_1673 hl (by decide) rfl (fun ls hl => ?_)
  refine lv_aload_n hx hb dL_law_1675 rfl (lv_at hl 4 rfl) ?_
  refine la_arg (xs := xs) (j := 1) (q := 1) hF hX hbl hbA hS (lv_at hl 6 rfl) (lv_at hl 1 rfl) hLn x0 (by decide) (by omega) dL_law_1676 dL_law_1677 dL_law_1679 rfl dL_law_1680 dL_law_1681 ?_
  refine la_V (As := [.int (iI (pJ xs (x5 + 1)))]) (rest := []) (idx := 224) (n := 1) (ci := 10) hF hP hD hS hl.1 hC rfl gL_law_X8_character rfl (by decide +kernel) rfl (Nat.le_of_ble_eq_true rfl) (Nat.le_of_ble_eq_true rfl) dL_law_1682 ⟨hcl.1, hcl.2⟩ (fun H locs hP hD hS => ?_)
  refine lv_istore (lv' := (7, .int (iI bx)) :: (6, .int (iI kx)) :: lvB a r o d b x5) hx hb dL_law_1685 hl (by decide) rfl (fun ls hl => ?_)
  have hT : zXc l yX8_thrown wsX8_thrown D k (r 0) 10 [] (wLaw k a r o d F1 P1 T1 B1 N1 H1 G1 I1 L1 R1 J1 X) kx (wLaw k a r o d F1 P1 T1 B1 N1 H1 G1 I1 L1 R1 J1 X) := by
    rw [← e8]
    exact xc_of (c_X8_thrown l D k r R1) (rm_i rfl rfl rfl rfl) sel_r rfl
  exact la_tail (q := 1687) (off := 491) (fJ := J1 0) (kk0 := 195) (kx := kx) (bx := bx) hF hP hD hS hl.1 hT wLaw_J hk hJ (lv_at hl 5 rfl) (lv_at hl 4 rfl) (lv_at hl 1 rfl) (lv_at hl 0 rfl) hcl dL_law_1687 dL_law_1688 dL_law_1691 dL_law_1693 dL_law_1698 dL_law_1700 dL_law_1703 dL_law_1704 dL_law_1705 dL_law_1706 dL_law_1708 dL_law_1709 dL_law_1710 dL_law_1715 (by decide) (fun H1 locs1 hP hD hS => kk _ _ _ _ _ _ _ _ _ _ _ _ _ _ _ _ _ hI hP hD hS (lv_drop (lv_drop hl)) (Nat.le_refl _) (Nat.le_refl _))
set_option maxHeartbeats 4000000 in
set_option maxRecDepth 100000 in
theorem lc_28 (hF : lwF p s m args c R D k A) (hst : l.stackTraces = false) (hX : va_X b Ln xs s s.heap) (hbl : b < s.heap.size) (hbA : ¬ A b) (hLn : Ln ≤ 2048) (x0 : 0 ≤ x5) (hx5 : x5 + 4 ≤ Ln) (h : Iv K F P T B N Hs Gs I L RR) (hK : K + 620 ≤ 320000) (hP : va_P D vwCl (wLaw k a r o d F P T B N Hs Gs I L RR J X) H) (hD : va_D A (wLaw k a r o d F P T B N Hs Gs I L RR J X)) (hS : va_S A s.heap H locs) (hl : lv_has ls 9 (lvB a r o d b x5)) (hcl : cells + 1 ≤ R.cells ∧ slots + 6 ≤ R.slots) (kk : lwK p l e R s m args below meth c D k A a r o d b x5 K cells slots Q) : W p l e R s m args below meth c H locs cells slots Q (F0 m 1776 ls []) := by
  obtain ⟨hx, hb, hml, hown, hts, hK0, hG, hE, hA, hR1, hR2⟩ := id hF
  refine lv_aload_n hx hb dL_law_1776 rfl (lv_at hl 4 rfl) ?_
  refine lv_aload_n hx hb dL_law_1777 rfl (lv_at hl 2 rfl) ?_
  obtain ⟨F1, P1, T1, B1, N1, H1, G1, I1, L1, R1, J1, kx, bx, hL, hC, e8, hk, hJ, hZ, hI⟩ := st_run (D := D) (k := k) (a := a) (r := r) (o := o) (d := d) (J := J) (X := X) hst h hK  
  refine la_L (As := [.ref (a 0), .ref (o 0)]) (rest := []) (idx := 229) (n := 2) hF hP hD hS hl.1 hL gL_law_L_run rfl (by decide +kernel) rfl (Nat.le_of_ble_eq_true rfl) (Nat.le_of_ble_eq_true rfl) dL_law_1778 hcl (fun H locs hP hD hS => ?_)
  refine lv_istore (lv' := (6, .int (iI kx)) :: lvB a r o d b x5) hx hb dL_law_1781 hl (by decide) rfl (fun ls hl => ?_)
  refine lv_aload_n hx hb dL_law_1783 rfl (lv_at hl 4 rfl) ?_
  refine la_V (As := []) (rest := []) (idx := 231) (n := 0) (ci := 10) hF hP hD hS hl.1 hC rfl gL_law_X8_run rfl (by decide +kernel) rfl (Nat.le_of_ble_eq_true rfl) (Nat.le_of_ble_eq_true rfl) dL_law_1784 ⟨hcl.1, hcl.2⟩ (fun H locs hP hD hS => ?_)
  refine lv_istore (lv' := (7, .int (iI bx)) :: (6, .int (iI kx)) :: lvB a r o d b x5) hx hb dL_law_1787 hl (by decide) rfl (fun ls hl => ?_)
  have hT : zXc l yX8_thrown wsX8_thrown D k (r 0) 10 [] (wLaw k a r o d F1 P1 T1 B1 N1 H1 G1 I1 L1 R1 J1 X) kx (wLaw k a r o d F1 P1 T1 B1 N1 H1 G1 I1 L1 R1 J1 X) := by
    rw [← e8]
    exact xc_of (c_X8_thrown l D k r R1) (rm_i rfl rfl rfl rfl) sel_r rfl
  exact la_tail (q := 1789) (off := 389) (fJ := J1 0) (kk0 := 195) (kx := kx) (bx := bx) hF hP hD hS hl.1 hT wLaw_J hk hJ (lv_at hl 5 rfl) (lv_at hl 4 rfl) (lv_at hl 1 rfl) (lv_at hl 0 rfl) hcl dL_law_1789 dL_law_1790 dL_law_1793 dL_law_1795 dL_law_1800 dL_law_1802 dL_law_1805 dL_law_1806 dL_law_1807 dL_law_1808 dL_law_1810 dL_law_1811 dL_law_1812 dL_law_1817 (by decide) (fun H1 locs1 hP hD hS => kk _ _ _ _ _ _ _ _ _ _ _ _ _ _ _ _ _ hI hP hD hS (lv_drop (lv_drop hl)) (Nat.le_refl _) (Nat.le_refl _))
end LCA
