/-! more cases of the law -/
section LCA
variable {p : Program} {l : Launch} {e : Env} {R : Room} {s : State} {m : MethodId} {args : Array Value} {below : List Frame} {meth : Method} {c : Code} {H : Heap} {locs : List Loc} {cells slots : Nat} {Q : State → Prop}
variable {ls : Array Slot} {D : va_G} {A : Nat → Prop} {k : Nat → ClassId} {a r o d : Nat → Nat} {K : Int} {F P T B N Hs : Nat → Nat → Int} {Gs : Nat → Nat → Nat → Int} {I L RR J : Nat → Nat → Int} {X : Nat → UInt64} {b Ln : Nat} {xs : Nat → Int32} {x5 : Int}
set_option maxHeartbeats 4000000 in
set_option maxRecDepth 100000 in
theorem lc_7 (hF : lwF p s m args c R D k A) (hst : l.stackTraces = false) (hX : va_X b Ln xs s s.heap) (hbl : b < s.heap.size) (hbA : ¬ A b) (hLn : Ln ≤ 2048) (x0 : 0 ≤ x5) (hx5 : x5 + 4 ≤ Ln) (h : Iv K F P T B N Hs Gs I L RR) (hK : K + 620 ≤ 320000) (hP : va_P D vwCl (wLaw k a r o d F P T B N Hs Gs I L RR J X) H) (hD : va_D A (wLaw k a r o d F P T B N Hs Gs I L RR J X)) (hS : va_S A s.heap H locs) (hl : lv_has ls 9 (lvB a r o d b x5)) (hcl : cells + 1 ≤ R.cells ∧ slots + 6 ≤ R.slots) (kk : lwK p l e R s m args below meth c D k A a r o d b x5 K cells slots Q) : W p l e R s m args below meth c H locs cells slots Q (F0 m 640 ls []) := by
  obtain ⟨hx, hb, hml, hown, hts, hK0, hG, hE, hA, hR1, hR2⟩ := id hF
  refine lv_aload_n hx hb dL_law_640 rfl (lv_at hl 4 rfl) ?_
  refine la_arg (xs := xs) (j := 1) (q := 1) hF hX hbl hbA hS (lv_at hl 5 rfl) (lv_at hl 0 rfl) hLn x0 (by decide) (by omega) dL_law_641 dL_law_642 dL_law_644 rfl dL_law_645 dL_law_646 ?_
  refine lv_aload_n hx hb dL_law_647 rfl (lv_at hl 2 rfl) ?_
  obtain ⟨F1, P1, T1, B1, N1, H1, G1, I1, L1, R1, J1, kx, bx, hL, hC, e8, hk, hJ, hZ, hI⟩ := st_repair (D := D) (k := k) (a := a) (r := r) (o := o) (d := d) (J := J) (X := X) hst h hK (p1 := (pJ xs (x5 + 1))) (pJ_r xs _)
  refine la_L (As := [.ref (a 0), .int (iI (pJ xs (x5 + 1))), .ref (o 0)]) (rest := []) (idx := 159) (n := 3) hF hP hD hS hl.1 hL gL_law_L_repair rfl (by decide +kernel) rfl (Nat.le_of_ble_eq_true rfl) (Nat.le_of_ble_eq_true rfl) dL_law_648 hcl (fun H locs hP hD hS => ?_)
  refine lv_istore (lv' := (6, .int (iI kx)) :: lvB a r o d b x5) hx hb dL_law_651 hl (by decide) rfl (fun ls hl => ?_)
  refine lv_aload_n hx hb dL_law_653 rfl (lv_at hl 4 rfl) ?_
  refine la_arg (xs := xs) (j := 1) (q := 1) hF hX hbl hbA hS (lv_at hl 6 rfl) (lv_at hl 1 rfl) hLn x0 (by decide) (by omega) dL_law_654 dL_law_655 dL_law_657 rfl dL_law_658 dL_law_659 ?_
  refine la_V (As := [.int (iI (pJ xs (x5 + 1)))]) (rest := []) (idx := 161) (n := 1) (ci := 10) hF hP hD hS hl.1 hC rfl gL_law_X8_repair rfl (by decide +kernel) rfl (Nat.le_of_ble_eq_true rfl) (Nat.le_of_ble_eq_true rfl) dL_law_660 ⟨hcl.1, hcl.2⟩ (fun H locs hP hD hS => ?_)
  refine lv_istore (lv' := (7, .int (iI bx)) :: (6, .int (iI kx)) :: lvB a r o d b x5) hx hb dL_law_663 hl (by decide) rfl (fun ls hl => ?_)
  have hT : zXc l yX8_thrown wsX8_thrown D k (r 0) 10 [] (wLaw k a r o d F1 P1 T1 B1 N1 H1 G1 I1 L1 R1 J1 X) kx (wLaw k a r o d F1 P1 T1 B1 N1 H1 G1 I1 L1 R1 J1 X) := by
    rw [← e8]
    exact xc_of (c_X8_thrown l D k r R1) (rm_i rfl rfl rfl rfl) sel_r rfl
  exact la_tail (q := 665) (off := 1513) (fJ := J1 0) (kk0 := 195) (kx := kx) (bx := bx) hF hP hD hS hl.1 hT wLaw_J hk hJ (lv_at hl 5 rfl) (lv_at hl 4 rfl) (lv_at hl 1 rfl) (lv_at hl 0 rfl) hcl dL_law_665 dL_law_666 dL_law_669 dL_law_671 dL_law_676 dL_law_678 dL_law_681 dL_law_682 dL_law_683 dL_law_684 dL_law_686 dL_law_687 dL_law_688 dL_law_693 (by decide) (fun H1 locs1 hP hD hS => kk _ _ _ _ _ _ _ _ _ _ _ _ _ _ _ _ _ hI hP hD hS (lv_drop (lv_drop hl)) (Nat.le_refl _) (Nat.le_refl _))
set_option maxHeartbeats 4000000 in
set_option maxRecDepth 100000 in
theorem lc_9 (hF : lwF p s m args c R D k A) (hst : l.stackTraces = false) (hX : va_X b Ln xs s s.heap) (hbl : b < s.heap.size) (hbA : ¬ A b) (hLn : Ln ≤ 2048) (x0 : 0 ≤ x5) (hx5 : x5 + 4 ≤ Ln) (h : Iv K F P T B N Hs Gs I L RR) (hK : K + 620 ≤ 320000) (hP : va_P D vwCl (wLaw k a r o d F P T B N Hs Gs I L RR J X) H) (hD : va_D A (wLaw k a r o d F P T B N Hs Gs I L RR J X)) (hS : va_S A s.heap H locs) (hl : lv_has ls 9 (lvB a r o d b x5)) (hcl : cells + 1 ≤ R.cells ∧ slots + 6 ≤ R.slots) (kk : lwK p l e R s m args below meth c D k A a r o d b x5 K cells slots Q) : W p l e R s m args below meth c H locs cells slots Q (F0 m 709 ls []) := by
  obtain ⟨hx, hb, hml, hown, hts, hK0, hG, hE, hA, hR1, hR2⟩ := id hF
  refine lv_aload_n hx hb dL_law_709 rfl (lv_at hl 4 rfl) ?_
  refine la_arg (xs := xs) (j := 1) (q := 1) hF hX hbl hbA hS (lv_at hl 5 rfl) (lv_at hl 0 rfl) hLn x0 (by decide) (by omega) dL_law_710 dL_law_711 dL_law_713 rfl dL_law_714 dL_law_715 ?_
  refine la_arg (xs := xs) (j := 2) (q := 2) hF hX hbl hbA hS (lv_at hl 5 rfl) (lv_at hl 0 rfl) hLn x0 (by decide) (by omega) dL_law_716 dL_law_717 dL_law_719 rfl dL_law_720 dL_law_721 ?_
  refine lv_aload_n hx hb dL_law_722 rfl (lv_at hl 2 rfl) ?_
  obtain ⟨F1, P1, T1, B1, N1, H1, G1, I1, L1, R1, J1, kx, bx, hL, hC, e8, hk, hJ, hZ, hI⟩ := st_beltOf (D := D) (k := k) (a := a) (r := r) (o := o) (d := d) (J := J) (X := X) hst h hK (p1 := (pJ xs (x5 + 1))) (p2 := (pJ xs (x5 + 2))) (pJ_r xs _) (pJ_r xs _)
  refine la_L (As := [.ref (a 0), .int (iI (pJ xs (x5 + 1))), .int (iI (pJ xs (x5 + 2))), .ref (o 0)]) (rest := []) (idx := 166) (n := 4) hF hP hD hS hl.1 hL gL_law_L_beltOf rfl (by decide +kernel) rfl (Nat.le_of_ble_eq_true rfl) (Nat.le_of_ble_eq_true rfl) dL_law_723 hcl (fun H locs hP hD hS => ?_)
  refine lv_istore (lv' := (6, .int (iI kx)) :: lvB a r o d b x5) hx hb dL_law_726 hl (by decide) rfl (fun ls hl => ?_)
  refine lv_aload_n hx hb dL_law_728 rfl (lv_at hl 4 rfl) ?_
  refine la_arg (xs := xs) (j := 1) (q := 1) hF hX hbl hbA hS (lv_at hl 6 rfl) (lv_at hl 1 rfl) hLn x0 (by decide) (by omega) dL_law_729 dL_law_730 dL_law_732 rfl dL_law_733 dL_law_734 ?_
  refine la_arg (xs := xs) (j := 2) (q := 2) hF hX hbl hbA hS (lv_at hl 6 rfl) (lv_at hl 1 rfl) hLn x0 (by decide) (by omega) dL_law_735 dL_law_736 dL_law_738 rfl dL_law_739 dL_law_740 ?_
  refine la_V (As := [.int (iI (pJ xs (x5 + 1))), .int (iI (pJ xs (x5 + 2)))]) (rest := []) (idx := 169) (n := 2) (ci := 10) hF hP hD hS hl.1 hC rfl gL_law_X8_beltOf rfl (by decide +kernel) rfl (Nat.le_of_ble_eq_true rfl) (Nat.le_of_ble_eq_true rfl) dL_law_741 ⟨hcl.1, hcl.2⟩ (fun H locs hP hD hS => ?_)
  refine lv_istore (lv' := (7, .int (iI bx)) :: (6, .int (iI kx)) :: lvB a r o d b x5) hx hb dL_law_744 hl (by decide) rfl (fun ls hl => ?_)
  have hT : zXc l yX8_thrown wsX8_thrown D k (r 0) 10 [] (wLaw k a r o d F1 P1 T1 B1 N1 H1 G1 I1 L1 R1 J1 X) kx (wLaw k a r o d F1 P1 T1 B1 N1 H1 G1 I1 L1 R1 J1 X) := by
    rw [← e8]
    exact xc_of (c_X8_thrown l D k r R1) (rm_i rfl rfl rfl rfl) sel_r rfl
  exact la_tail (q := 746) (off := 1432) (fJ := J1 0) (kk0 := 195) (kx := kx) (bx := bx) hF hP hD hS hl.1 hT wLaw_J hk hJ (lv_at hl 5 rfl) (lv_at hl 4 rfl) (lv_at hl 1 rfl) (lv_at hl 0 rfl) hcl dL_law_746 dL_law_747 dL_law_750 dL_law_752 dL_law_757 dL_law_759 dL_law_762 dL_law_763 dL_law_764 dL_law_765 dL_law_767 dL_law_768 dL_law_769 dL_law_774 (by decide) (fun H1 locs1 hP hD hS => kk _ _ _ _ _ _ _ _ _ _ _ _ _ _ _ _ _ hI hP hD hS (lv_drop (lv_drop hl)) (Nat.le_refl _) (Nat.le_refl _))
set_option maxHeartbeats 4000000 in
set_option maxRecDepth 100000 in
theorem lc_10 (hF : lwF p s m args c R D k A) (hst : l.stackTraces = false) (hX : va_X b Ln xs s s.heap) (hbl : b < s.heap.size) (hbA : ¬ A b) (hLn : Ln ≤ 2048) (x0 : 0 ≤ x5) (hx5 : x5 + 4 ≤ Ln) (h : Iv K F P T B N Hs Gs I L RR) (hK : K + 620 ≤ 320000) (hP : va_P D vwCl (wLaw k a r o d F P T B N Hs Gs I L RR J X) H) (hD : va_D A (wLaw k a r o d F P T B N Hs Gs I L RR J X)) (hS : va_S A s.heap H locs) (hl : lv_has ls 9 (lvB a r o d b x5)) (hcl : cells + 1 ≤ R.cells ∧ slots + 6 ≤ R.slots) (kk : lwK p l e R s m args below meth c D k A a r o d b x5 K cells slots Q) : W p l e R s m args below meth c H locs cells slots Q (F0 m 777 ls []) := by
  obtain ⟨hx, hb, hml, hown, hts, hK0, hG, hE, hA, hR1, hR2⟩ := id hF
  refine lv_aload_n hx hb dL_law_777 rfl (lv_at hl 4 rfl) ?_
  refine la_arg (xs := xs) (j := 1) (q := 1) hF hX hbl hbA hS (lv_at hl 5 rfl) (lv_at hl 0 rfl) hLn x0 (by decide) (by omega) dL_law_778 dL_law_779 dL_law_781 rfl dL_law_782 dL_law_783 ?_
  refine la_arg (xs := xs) (j := 2) (q := 2) hF hX hbl hbA hS (lv_at hl 5 rfl) (lv_at hl 0 rfl) hLn x0 (by decide) (by omega) dL_law_784 dL_law_785 dL_law_787 rfl dL_law_788 dL_law_789 ?_
  refine la_arg (xs := xs) (j := 3) (q := 3) hF hX hbl hbA hS (lv_at hl 5 rfl) (lv_at hl 0 rfl) hLn x0 (by decide) (by omega) dL_law_790 dL_law_791 dL_law_793 rfl dL_law_794 dL_law_795 ?_
  refine lv_aload_n hx hb dL_law_796 rfl (lv_at hl 2 rfl) ?_
  obtain ⟨F1, P1, T1, B1, N1, H1, G1, I1, L1, R1, J1, kx, bx, hL, hC, e8, hk, hJ, hZ, hI⟩ := st_carrier (D := D) (k := k) (a := a) (r := r) (o := o) (d := d) (J := J) (X := X) hst h hK (p1 := (pJ xs (x5 + 1))) (p2 := (pJ xs (x5 + 2))) (p3 := (pJ xs (x5 + 3))) (pJ_r xs _) (pJ_r xs _) (pJ_r xs _)
  refine la_L (As := [.ref (a 0), .int (iI (pJ xs (x5 + 1))), .int (iI (pJ xs (x5 + 2))), .int (iI (pJ xs (x5 + 3))), .ref (o 0)]) (rest := []) (idx := 170) (n := 5) hF hP hD hS hl.1 hL gL_law_L_carrier rfl (by decide +kernel) rfl (Nat.le_of_ble_eq_true rfl) (Nat.le_of_ble_eq_true rfl) dL_law_797 hcl (fun H locs hP hD hS => ?_)
  refine lv_istore (lv' := (6, .int (iI kx)) :: lvB a r o d b x5) hx hb dL_law_800 hl (by decide) rfl (fun ls hl => ?_)
  refine lv_aload_n hx hb dL_law_802 rfl (lv_at hl 4 rfl) ?_
  refine la_arg (xs := xs) (j := 1) (q := 1) hF hX hbl hbA hS (lv_at hl 6 rfl) (lv_at hl 1 rfl) hLn x0 (by decide) (by omega) dL_law_803 dL_law_804 dL_law_806 rfl dL_law_807 dL_law_808 ?_
  refine la_arg (xs := xs) (j := 2) (q := 2) hF hX hbl hbA hS (lv_at hl 6 rfl) (lv_at hl 1 rfl) hLn x0 (by decide) (by omega) dL_law_809 dL_law_810 dL_law_812 rfl dL_law_813 dL_law_814 ?_
  refine la_arg (xs := xs) (j := 3) (q := 3) hF hX hbl hbA hS (lv_at hl 6 rfl) (lv_at hl 1 rfl) hLn x0 (by decide) (by omega) dL_law_815 dL_law_816 dL_law_818 rfl dL_law_819 dL_law_820 ?_
  refine la_V (As := [.int (iI (pJ xs (x5 + 1))), .int (iI (pJ xs (x5 + 2))), .int (iI (pJ xs (x5 + 3)))]) (rest := []) (idx := 172) (n := 3) (ci := 10) hF hP hD hS hl.1 hC rfl gL_law_X8_carrier rfl (by decide +kernel) rfl (Nat.le_of_ble_eq_true rfl) (Nat.le_of_ble_eq_true rfl) dL_law_821 ⟨hcl.1, hcl.2⟩ (fun H locs hP hD hS => ?_)
  refine lv_istore (lv' := (7, .int (iI bx)) :: (6, .int (iI kx)) :: lvB a r o d b x5) hx hb dL_law_824 hl (by decide) rfl (fun ls hl => ?_)
  have hT : zXc l yX8_thrown wsX8_thrown D k (r 0) 10 [] (wLaw k a r o d F1 P1 T1 B1 N1 H1 G1 I1 L1 R1 J1 X) kx (wLaw k a r o d F1 P1 T1 B1 N1 H1 G1 I1 L1 R1 J1 X) := by
    rw [← e8]
    exact xc_of (c_X8_thrown l D k r R1) (rm_i rfl rfl rfl rfl) sel_r rfl
  exact la_tail (q := 826) (off := 1352) (fJ := J1 0) (kk0 := 195) (kx := kx) (bx := bx) hF hP hD hS hl.1 hT wLaw_J hk hJ (lv_at hl 5 rfl) (lv_at hl 4 rfl) (lv_at hl 1 rfl) (lv_at hl 0 rfl) hcl dL_law_826 dL_law_827 dL_law_830 dL_law_832 dL_law_837 dL_law_839 dL_law_842 dL_law_843 dL_law_844 dL_law_845 dL_law_847 dL_law_848 dL_law_849 dL_law_854 (by decide) (fun H1 locs1 hP hD hS => kk _ _ _ _ _ _ _ _ _ _ _ _ _ _ _ _ _ hI hP hD hS (lv_drop (lv_drop hl)) (Nat.le_refl _) (Nat.le_refl _))
set_option maxHeartbeats 4000000 in
set_option maxRecDepth 100000 in
theorem lc_11 (hF : lwF p s m args c R D k A) (hst : l.stackTraces = false) (hX : va_X b Ln xs s s.heap) (hbl : b < s.heap.size) (hbA : ¬ A b) (hLn : Ln ≤ 2048) (x0 : 0 ≤ x5) (hx5 : x5 + 4 ≤ Ln) (h : Iv K F P T B N Hs Gs I L RR) (hK : K + 620 ≤ 320000) (hP : va_P D vwCl (wLaw k a r o d F P T B N Hs Gs I L RR J X) H) (hD : va_D A (wLaw k a r o d F P T B N Hs Gs I L RR J X)) (hS : va_S A s.heap H locs) (hl : lv_has ls 9 (lvB a r o d b x5)) (hcl : cells + 1 ≤ R.cells ∧ slots + 6 ≤ R.slots) (kk : lwK p l e R s m args below meth c D k A a r o d b x5 K cells slots Q) : W p l e R s m args below meth c H locs cells slots Q (F0 m 857 ls []) := by
  obtain ⟨hx, hb, hml, hown, hts, hK0, hG, hE, hA, hR1, hR2⟩ := id hF
  refine lv_aload_n hx hb dL_law_857 rfl (lv_at hl 4 rfl) ?_
  refine la_arg (xs := xs) (j := 1) (q := 1) hF hX hbl hbA hS (lv_at hl 5 rfl) (lv_at hl 0 rfl) hLn x0 (by decide) (by omega) dL_law_858 dL_law_859 dL_law_861 rfl dL_law_862 dL_law_863 ?_
  refine lv_aload_n hx hb dL_law_864 rfl (lv_at hl 2 rfl) ?_
  obtain ⟨F1, P1, T1, B1, N1, H1, G1, I1, L1, R1, J1, kx, bx, hL, hC, e8, hk, hJ, hZ, hI⟩ := st_yawns (D := D) (k := k) (a := a) (r := r) (o := o) (d := d) (J := J) (X := X) hst h hK (p1 := (pJ xs (x5 + 1))) (pJ_r xs _)
  refine la_L (As := [.ref (a 0), .int (iI (pJ xs (x5 + 1))), .ref (o 0)]) (rest := []) (idx := 173) (n := 3) hF hP hD hS hl.1 hL gL_law_L_yawns rfl (by decide +kernel) rfl (Nat.le_of_ble_eq_true rfl) (Nat.le_of_ble_eq_true rfl) dL_law_865 hcl (fun H locs hP hD hS => ?_)
  refine lv_istore (lv' := (6, .int (iI kx)) :: lvB a r o d b x5) hx hb dL_law_868 hl (by decide) rfl (fun ls hl => ?_)
  refine lv_aload_n hx hb dL_law_870 rfl (lv_at hl 4 rfl) ?_
  refine la_arg (xs := xs) (j := 1) (q := 1) hF hX hbl hbA hS (lv_at hl 6 rfl) (lv_at hl 1 rfl) hLn x0 (by decide) (by omega) dL_law_871 dL_law_872 dL_law_874 rfl dL_law_875 dL_law_876 ?_
  refine la_V (As := [.int (iI (pJ xs (x5 + 1)))]) (rest := []) (idx := 175) (n := 1) (ci := 10) hF hP hD hS hl.1 hC rfl gL_law_X8_yawns rfl (by decide +kernel) rfl (Nat.le_of_ble_eq_true rfl) (Nat.le_of_ble_eq_true rfl) dL_law_877 ⟨hcl.1, hcl.2⟩ (fun H locs hP hD hS => ?_)
  refine lv_istore (lv' := (7, .int (iI bx)) :: (6, .int (iI kx)) :: lvB a r o d b x5) hx hb dL_law_880 hl (by decide) rfl (fun ls hl => ?_)
  have hT : zXc l yX8_thrown wsX8_thrown D k (r 0) 10 [] (wLaw k a r o d F1 P1 T1 B1 N1 H1 G1 I1 L1 R1 J1 X) kx (wLaw k a r o d F1 P1 T1 B1 N1 H1 G1 I1 L1 R1 J1 X) := by
    rw [← e8]
    exact xc_of (c_X8_thrown l D k r R1) (rm_i rfl rfl rfl rfl) sel_r rfl
  exact la_tail (q := 882) (off := 1296) (fJ := J1 0) (kk0 := 195) (kx := kx) (bx := bx) hF hP hD hS hl.1 hT wLaw_J hk hJ (lv_at hl 5 rfl) (lv_at hl 4 rfl) (lv_at hl 1 rfl) (lv_at hl 0 rfl) hcl dL_law_882 dL_law_883 dL_law_886 dL_law_888 dL_law_893 dL_law_895 dL_law_898 dL_law_899 dL_law_900 dL_law_901 dL_law_903 dL_law_904 dL_law_905 dL_law_910 (by decide) (fun H1 locs1 hP hD hS => kk _ _ _ _ _ _ _ _ _ _ _ _ _ _ _ _ _ hI hP hD hS (lv_drop (lv_drop hl)) (Nat.le_refl _) (Nat.le_refl _))
set_option maxHeartbeats 4000000 in
set_option maxRecDepth 100000 in
theorem lc_14 (hF : lwF p s m args c R D k A) (hst : l.stackTraces = false) (hX : va_X b Ln xs s s.heap) (hbl : b < s.heap.size) (hbA : ¬ A b) (hLn : Ln ≤ 2048) (x0 : 0 ≤ x5) (hx5 : x5 + 4 ≤ Ln) (h : Iv K F P T B N Hs Gs I L RR) (hK : K + 620 ≤ 320000) (hP : va_P D vwCl (wLaw k a r o d F P T B N Hs Gs I L RR J X) H) (hD : va_D A (wLaw k a r o d F P T B N Hs Gs I L RR J X)) (hS : va_S A s.heap H locs) (hl : lv_has ls 9 (lvB a r o d b x5)) (hcl : cells + 1 ≤ R.cells ∧ slots + 6 ≤ R.slots) (kk : lwK p l e R s m args below meth c D k A a r o d b x5 K cells slots Q) : W p l e R s m args below meth c H locs cells slots Q (F0 m 1096 ls []) := by
  obtain ⟨hx, hb, hml, hown, hts, hK0, hG, hE, hA, hR1, hR2⟩ := id hF
  refine lv_aload_n hx hb dL_law_1096 rfl (lv_at hl 4 rfl) ?_
  refine la_arg (xs := xs) (j := 1) (q := 1) hF hX hbl hbA hS (lv_at hl 5 rfl) (lv_at hl 0 rfl) hLn x0 (by decide) (by omega) dL_law_1097 dL_law_1098 dL_law_1100 rfl dL_law_1101 dL_law_1102 ?_
  refine lv_aload_n hx hb dL_law_1103 rfl (lv_at hl 2 rfl) ?_
  obtain ⟨F1, P1, T1, B1, N1, H1, G1, I1, L1, R1, J1, kx, bx, hL, hC, e8, hk, hJ, hZ, hI⟩ := st_wouldStamp (D := D) (k := k) (a := a) (r := r) (o := o) (d := d) (J := J) (X := X) hst h hK (p1 := (pJ xs (x5 + 1))) (pJ_r xs _)
  refine la_L (As := [.ref (a 0), .int (iI (pJ xs (x5 + 1))), .ref (o 0)]) (rest := []) (idx := 183) (n := 3) hF hP hD hS hl.1 hL gL_law_L_wouldStamp rfl (by decide +kernel) rfl (Nat.le_of_ble_eq_true rfl) (Nat.le_of_ble_eq_true rfl) dL_law_1104 hcl (fun H locs hP hD hS => ?_)
  refine lv_istore (lv' := (6, .int (iI kx)) :: lvB a r o d b x5) hx hb dL_law_1107 hl (by decide) rfl (fun ls hl => ?_)
  refine lv_aload_n hx hb dL_law_1109 rfl (lv_at hl 4 rfl) ?_
  refine la_arg (xs := xs) (j := 1) (q := 1) hF hX hbl hbA hS (lv_at hl 6 rfl) (lv_at hl 1 rfl) hLn x0 (by decide) (by omega) dL_law_1110 dL_law_1111 dL_law_1113 rfl dL_law_1114 dL_law_1115 ?_
  refine la_V (As := [.int (iI (pJ xs (x5 + 1)))]) (rest := []) (idx := 185) (n := 1) (ci := 10) hF hP hD hS hl.1 hC rfl gL_law_X8_wouldStamp rfl (by decide +kernel) rfl (Nat.le_of_ble_eq_true rfl) (Nat.le_of_ble_eq_true rfl) dL_law_1116 ⟨hcl.1, hcl.2⟩ (fun H locs hP hD hS => ?_)
  refine lv_istore (lv' := (7, .int (iI bx)) :: (6, .int (iI kx)) :: lvB a r o d b x5) hx hb dL_law_1119 hl (by decide) rfl (fun ls hl => ?_)
  have hT : zXc l yX8_thrown wsX8_thrown D k (r 0) 10 [] (wLaw k a r o d F1 P1 T1 B1 N1 H1 G1 I1 L1 R1 J1 X) kx (wLaw k a r o d F1 P1 T1 B1 N1 H1 G1 I1 L1 R1 J1 X) := by
    rw [← e8]
    exact xc_of (c_X8_thrown l D k r R1) (rm_i rfl rfl rfl rfl) sel_r rfl
  exact la_tail (q := 1121) (off := 1057) (fJ := J1 0) (kk0 := 195) (kx := kx) (bx := bx) hF hP hD hS hl.1 hT wLaw_J hk hJ (lv_at hl 5 rfl) (lv_at hl 4 rfl) (lv_at hl 1 rfl) (lv_at hl 0 rfl) hcl dL_law_1121 dL_law_1122 dL_law_1125 dL_law_1127 dL_law_1132 dL_law_1134 dL_law_1137 dL_law_1138 dL_law_1139 dL_law_1140 dL_law_1142 dL_law_1143 dL_law_1144 dL_law_1149 (by decide) (fun H1 locs1 hP hD hS => kk _ _ _ _ _ _ _ _ _ _ _ _ _ _ _ _ _ hI hP hD hS (lv_drop (lv_drop hl)) (Nat.le_refl _) (Nat.le_refl _))
set_option maxHeartbeats 4000000 in
set_option maxRecDepth 100000 in
theorem lc_15 (hF : lwF p s m args c R D k A) (hst : l.stackTraces = false) (hX : va_X b Ln xs s s.heap) (hbl : b < s.heap.size) (hbA : ¬ A b) (hLn : Ln ≤ 2048) (x0 : 0 ≤ x5) (hx5 : x5 + 4 ≤ Ln) (h : Iv K F P T B N Hs Gs I L RR) (hK : K + 620 ≤ 320000) (hP : va_P D vwCl (wLaw k a r o d F P T B N Hs Gs I L RR J X) H) (hD : va_D A (wLaw k a r o d F P T B N Hs Gs I L RR J X)) (hS : va_S A s.heap H locs) (hl : lv_has ls 9 (lvB a r o d b x5)) (hcl : cells + 1 ≤ R.cells ∧ slots + 6 ≤ R.slots) (kk : lwK p l e R s m args below meth c D k A a r o d b x5 K cells slots Q) : W p l e R s m args below meth c H locs cells slots Q (F0 m 1152 ls []) := by
  obtain ⟨hx, hb, hml, hown, hts, hK0, hG, hE, hA, hR1, hR2⟩ := id hF
  refine lv_aload_n hx hb dL_law_1152 rfl (lv_at hl 4 rfl) ?_
  refine lv_aload_n hx hb dL_law_1153 rfl (lv_at hl 2 rfl) ?_
  obtain ⟨F1, P1, T1, B1, N1, H1, G1, I1, L1, R1, J1, kx, bx, hL, hC, e8, hk, hJ, hZ, hI⟩ := st_next (D := D) (k := k) (a := a) (r := r) (o := o) (d := d) (J := J) (X := X) hst h hK  
  refine la_L (As := [.ref (a 0), .ref (o 0)]) (rest := []) (idx := 186) (n := 2) hF hP hD hS hl.1 hL gL_law_L_next rfl (by decide +kernel) rfl (Nat.le_of_ble_eq_true rfl) (Nat.le_of_ble_eq_true rfl) dL_law_1154 hcl (fun H locs hP hD hS => ?_)
  refine lv_istore (lv' := (6, .int (iI kx)) :: lvB a r o d b x5) hx hb dL_law_1157 hl (by decide) rfl (fun ls hl => ?_)
  refine lv_aload_n hx hb dL_law_1159 rfl (lv_at hl 4 rfl) ?_
  refine la_V (As := []) (rest := []) (idx := 188) (n := 0) (ci := 10) hF hP hD hS hl.1 hC rfl gL_law_X8_next rfl (by decide +kernel) rfl (Nat.le_of_ble_eq_true rfl) (Nat.le_of_ble_eq_true rfl) dL_law_1160 ⟨hcl.1, hcl.2⟩ (fun H locs hP hD hS => ?_)
  refine lv_istore (lv' := (7, .int (iI bx)) :: (6, .int (iI kx)) :: lvB a r o d b x5) hx hb dL_law_1163 hl (by decide) rfl (fun ls hl => ?_)
  have hT : zXc l yX8_thrown wsX8_thrown D k (r 0) 10 [] (wLaw k a r o d F1 P1 T1 B1 N1 H1 G1 I1 L1 R1 J1 X) kx (wLaw k a r o d F1 P1 T1 B1 N1 H1 G1 I1 L1 R1 J1 X) := by
    rw [← e8]
    exact xc_of (c_X8_thrown l D k r R1) (rm_i rfl rfl rfl rfl) sel_r rfl
  exact la_tail (q := 1165) (off := 1013) (fJ := J1 0) (kk0 := 195) (kx := kx) (bx := bx) hF hP hD hS hl.1 hT wLaw_J hk hJ (lv_at hl 5 rfl) (lv_at hl 4 rfl) (lv_at hl 1 rfl) (lv_at hl 0 rfl) hcl dL_law_1165 dL_law_1166 dL_law_1169 dL_law_1171 dL_law_1176 dL_law_1178 dL_law_1181 dL_law_1182 dL_law_1183 dL_law_1184 dL_law_1186 dL_law_1187 dL_law_1188 dL_law_1193 (by decide) (fun H1 locs1 hP hD hS => kk _ _ _ _ _ _ _ _ _ _ _ _ _ _ _ _ _ hI hP hD hS (lv_drop (lv_drop hl)) (Nat.le_refl _) (Nat.le_refl _))
end LCA
