/-! the loop of the law -/
theorem Iv_mono {K : Int} {F P T B N Hs : Nat → Nat → Int} {Gs : Nat → Nat → Nat → Int} {I L R : Nat → Nat → Int} (h : Iv K F P T B N Hs Gs I L R) (hK : K + 620 ≤ 320000) : Iv (K + 620) F P T B N Hs Gs I L R := by
  obtain ⟨bK, bp, bt, bb, bn, bg, b0, b1, b2, b3, b4, b5, b6, b7, bl, bf, bc, bq⟩ := id h.2
  exact ⟨h.1, bA_i ⟨by omega, hK⟩ (bp.mono (by omega)) bt (bb.mono (by omega)) (bn.mono (by omega)) (fun i hi => (bg i hi).mono (by omega)) (b0.mono (by omega)) (b1.mono (by omega)) (b2.mono (by omega)) (b3.mono (by omega)) (b4.mono (by omega)) b5 b6 b7 bl bf bc bq⟩
section LLO
variable {p : Program} {l : Launch} {e : Env} {R : Room} {s : State} {m : MethodId} {args : Array Value} {below : List Frame} {meth : Method} {c : Code} {Q : State → Prop}
set_option maxHeartbeats 4000000 in
set_option maxRecDepth 100000 in
theorem lw_loop {D : va_G} {A : Nat → Prop} {k : Nat → ClassId} {a r o d : Nat → Nat} {b Ln : Nat} {xs : Nat → Int32} (hF : lwF p s m args c R D k A) (hst : l.stackTraces = false) (hX : va_X b Ln xs s s.heap) (hbl : b < s.heap.size) (hbA : ¬ A b) (hLn : Ln ≤ 2048)
    (hend : ∀ (H : Heap) (locs : List Loc) (ls : Array Slot) (c1 s1 : Nat), va_S A s.heap H locs → c1 ≤ R.cells → s1 ≤ R.slots → W p l e R s m args below meth c H locs c1 s1 Q (F0 m 2212 ls [])) :
    ∀ (n : Nat) (x5 K : Int) (F P T B N Hs : Nat → Nat → Int) (Gs : Nat → Nat → Nat → Int) (I L RR J : Nat → Nat → Int) (X : Nat → UInt64) (H : Heap) (locs : List Loc) (ls : Array Slot) (cells slots : Nat), 0 ≤ x5 → x5 ≤ 3000 → (Ln : Int) - x5 < 4 * (n : Int) → K + 620 * (n : Int) ≤ 320000 → cells + n ≤ R.cells → slots + 6 * n ≤ R.slots → Iv K F P T B N Hs Gs I L RR → va_P D vwCl (wLaw k a r o d F P T B N Hs Gs I L RR J X) H → va_D A (wLaw k a r o d F P T B N Hs Gs I L RR J X) → va_S A s.heap H locs → lv_has ls 9 (lvB a r o d b x5) → W p l e R s m args below meth c H locs cells slots Q (F0 m 28 ls []) := by
  obtain ⟨hx, hb, hml, hown, hts, hK0, hG, hE, hA, hR1, hR2⟩ := id hF
  intro n
  induction n with
  | zero =>
    intro x5 K F P T B N Hs Gs I L RR J X H locs ls cells slots x0 x1 hm hK hc hs h hP hD hS hl
    refine lv_iload hx hb dL_law_28 (lv_at hl 0 rfl) ?_
    refine lv_aload_n hx hb dL_law_30 rfl (lv_at hl 5 rfl) ?_
    refine va_slen hx hb hX hbl hbA hS dL_law_31 ?_
    rw [show Int32.ofNat Ln = iI (Ln : Int) from (iI_nI Ln).symm]
    refine lv_iconst (v := iI 4) hx hb dL_law_32 rfl ?_
    refine zi_sub hx hb dL_law_33 ?_
    refine zi_icmp_gt (tgt := 2212) hx hb dL_law_34 (by decide) ⟨by omega, by omega⟩ ⟨by omega, by omega⟩ (fun _ => ?_) (fun w => absurd w (by omega))
    exact hend H locs ls cells slots hS (by omega) (by omega)
  | succ n ih =>
    intro x5 K F P T B N Hs Gs I L RR J X H locs ls cells slots x0 x1 hm hK hc hs h hP hD hS hl
    refine lv_iload hx hb dL_law_28 (lv_at hl 0 rfl) ?_
    refine lv_aload_n hx hb dL_law_30 rfl (lv_at hl 5 rfl) ?_
    refine va_slen hx hb hX hbl hbA hS dL_law_31 ?_
    rw [show Int32.ofNat Ln = iI (Ln : Int) from (iI_nI Ln).symm]
    refine lv_iconst (v := iI 4) hx hb dL_law_32 rfl ?_
    refine zi_sub hx hb dL_law_33 ?_
    refine zi_icmp_gt (tgt := 2212) hx hb dL_law_34 (by decide) ⟨by omega, by omega⟩ ⟨by omega, by omega⟩ (fun _ => ?_) (fun w => ?_)
    · exact hend H locs ls cells slots hS (by omega) (by omega)
    have hx5 : x5 + 4 ≤ Ln := by omega
    have hK6 : K + 620 ≤ 320000 := by omega
    have hcl : cells + 1 ≤ R.cells ∧ slots + 6 ≤ R.slots := ⟨by omega, by omega⟩
    have kk : lwK p l e R s m args below meth c D k A a r o d b x5 K cells slots Q := by
      intro F1 P1 T1 B1 N1 H1 G1 I1 L1 R1 J1 X1 HH locs1 ls1 c1 s1 h1 hP1 hD1 hS1 hl1 hc1 hs1
      refine lv_iinc (k := 0) (lv' := lvB a r o d b (x5 + 4)) hx hb dL_law_2206 hl1 rfl (iI_add x5 4) (by decide) rfl (fun ls2 hl2 => ?_)
      refine lv_goto (tgt := 28) hx hb dL_law_2209 (by decide) ?_
      exact ih (x5 + 4) (K + 620) F1 P1 T1 B1 N1 H1 G1 I1 L1 R1 J1 X1 HH locs1 ls2 c1 s1 (by omega) (by omega) (by omega) (by omega) (by omega) (by omega) h1 hP1 hD1 hS1 hl2
    refine lv_aload_n hx hb dL_law_37 rfl (lv_at hl 5 rfl) ?_
    refine lv_iload hx hb dL_law_38 (lv_at hl 0 rfl) ?_
    refine va_sld hx hb hX hbl hbA hS (z_in x0 (by omega) (by omega)) dL_law_40 ?_
    refine lv_bipush (v := iI 63) hx hb dL_law_41 (by decide) ?_
    refine lv_iand hx hb dL_law_43 ?_
    obtain ⟨j, hj, ej⟩ := pk_andE (xs (iI x5).toNatClampNeg) 6 (m := iI 63) (by decide)
    rw [ej, ← iI_nI]
    have hj : j < 64 := hj
    rcases (show j = 0 ∨ j = 1 ∨ j = 2 ∨ j = 3 ∨ j = 4 ∨ j = 5 ∨ j = 6 ∨ j = 7 ∨ j = 8 ∨ j = 9 ∨ j = 10 ∨ j = 11 ∨ j = 12 ∨ j = 13 ∨ j = 14 ∨ j = 15 ∨ j = 16 ∨ j = 17 ∨ j = 18 ∨ j = 19 ∨ j = 20 ∨ j = 21 ∨ j = 22 ∨ j = 23 ∨ j = 24 ∨ j = 25 ∨ j = 26 ∨ j = 27 ∨ j = 28 ∨ j = 29 ∨ j = 30 ∨ j = 31 ∨ j = 32 ∨ j = 33 ∨ j = 34 ∨ j = 35 ∨ j = 36 ∨ j = 37 ∨ 38 ≤ j by omega) with z | z | z | z | z | z | z | z | z | z | z | z | z | z | z | z | z | z | z | z | z | z | z | z | z | z | z | z | z | z | z | z | z | z | z | z | z | z | z
    · subst z
      refine z_tabI (tgt := 212) hx hb dL_law_44 ⟨by decide, by decide⟩ (v := 0) rfl (by decide) (by decide) (off := 168) rfl (by decide) ?_
      exact lc_0 hF hst hX hbl hbA hLn x0 hx5 h hK6 hP hD hS hl hcl kk
    · subst z
      refine z_tabI (tgt := 292) hx hb dL_law_44 ⟨by decide, by decide⟩ (v := 1) rfl (by decide) (by decide) (off := 248) rfl (by decide) ?_
      exact lc_1 hF hst hX hbl hbA hLn x0 hx5 h hK6 hP hD hS hl hcl kk
    · subst z
      refine z_tabI (tgt := 348) hx hb dL_law_44 ⟨by decide, by decide⟩ (v := 2) rfl (by decide) (by decide) (off := 304) rfl (by decide) ?_
      exact lc_2 hF hst hX hbl hbA hLn x0 hx5 h hK6 hP hD hS hl hcl kk
    · subst z
      refine z_tabI (tgt := 428) hx hb dL_law_44 ⟨by decide, by decide⟩ (v := 3) rfl (by decide) (by decide) (off := 384) rfl (by decide) ?_
      exact lc_3 hF hst hX hbl hbA hLn x0 hx5 h hK6 hP hD hS hl hcl kk
    · subst z
      refine z_tabI (tgt := 484) hx hb dL_law_44 ⟨by decide, by decide⟩ (v := 4) rfl (by decide) (by decide) (off := 440) rfl (by decide) ?_
      exact lc_4 hF hst hX hbl hbA hLn x0 hx5 h hK6 hP hD hS hl hcl kk
    · subst z
      refine z_tabI (tgt := 528) hx hb dL_law_44 ⟨by decide, by decide⟩ (v := 5) rfl (by decide) (by decide) (off := 484) rfl (by decide) ?_
      exact lc_5 hF hst hX hbl hbA hLn x0 hx5 h hK6 hP hD hS hl hcl kk
    · subst z
      refine z_tabI (tgt := 584) hx hb dL_law_44 ⟨by decide, by decide⟩ (v := 6) rfl (by decide) (by decide) (off := 540) rfl (by decide) ?_
      exact lc_6 hF hst hX hbl hbA hLn x0 hx5 h hK6 hP hD hS hl hcl kk
    · subst z
      refine z_tabI (tgt := 640) hx hb dL_law_44 ⟨by decide, by decide⟩ (v := 7) rfl (by decide) (by decide) (off := 596) rfl (by decide) ?_
      exact lc_7 hF hst hX hbl hbA hLn x0 hx5 h hK6 hP hD hS hl hcl kk
    · subst z
      refine z_tabI (tgt := 696) hx hb dL_law_44 ⟨by decide, by decide⟩ (v := 8) rfl (by decide) (by decide) (off := 652) rfl (by decide) ?_
      exact lc_8 hF hst hX hbl hbA hLn x0 hx5 h hK6 hP hD hS hl hcl kk
    · subst z
      refine z_tabI (tgt := 709) hx hb dL_law_44 ⟨by decide, by decide⟩ (v := 9) rfl (by decide) (by decide) (off := 665) rfl (by decide) ?_
      exact lc_9 hF hst hX hbl hbA hLn x0 hx5 h hK6 hP hD hS hl hcl kk
    · subst z
      refine z_tabI (tgt := 777) hx hb dL_law_44 ⟨by decide, by decide⟩ (v := 10) rfl (by decide) (by decide) (off := 733) rfl (by decide) ?_
      exact lc_10 hF hst hX hbl hbA hLn x0 hx5 h hK6 hP hD hS hl hcl kk
    · subst z
      refine z_tabI (tgt := 857) hx hb dL_law_44 ⟨by decide, by decide⟩ (v := 11) rfl (by decide) (by decide) (off := 813) rfl (by decide) ?_
      exact lc_11 hF hst hX hbl hbA hLn x0 hx5 h hK6 hP hD hS hl hcl kk
    · subst z
      refine z_tabI (tgt := 913) hx hb dL_law_44 ⟨by decide, by decide⟩ (v := 12) rfl (by decide) (by decide) (off := 869) rfl (by decide) ?_
      exact lc_12 hF hst hX hbl hbA hLn x0 hx5 h hK6 hP hD hS hl hcl kk
    · subst z
      refine z_tabI (tgt := 1000) hx hb dL_law_44 ⟨by decide, by decide⟩ (v := 13) rfl (by decide) (by decide) (off := 956) rfl (by decide) ?_
      exact lc_13 hF hst hX hbl hbA hLn x0 hx5 h hK6 hP hD hS hl hcl kk
    · subst z
      refine z_tabI (tgt := 1096) hx hb dL_law_44 ⟨by decide, by decide⟩ (v := 14) rfl (by decide) (by decide) (off := 1052) rfl (by decide) ?_
      exact lc_14 hF hst hX hbl hbA hLn x0 hx5 h hK6 hP hD hS hl hcl kk
    · subst z
      refine z_tabI (tgt := 1152) hx hb dL_law_44 ⟨by decide, by decide⟩ (v := 15) rfl (by decide) (by decide) (off := 1108) rfl (by decide) ?_
      exact lc_15 hF hst hX hbl hbA hLn x0 hx5 h hK6 hP hD hS hl hcl kk
    · subst z
      refine z_tabI (tgt := 1196) hx hb dL_law_44 ⟨by decide, by decide⟩ (v := 16) rfl (by decide) (by decide) (off := 1152) rfl (by decide) ?_
      exact lc_16 hF hst hX hbl hbA hLn x0 hx5 h hK6 hP hD hS hl hcl kk
    · subst z
      refine z_tabI (tgt := 1252) hx hb dL_law_44 ⟨by decide, by decide⟩ (v := 17) rfl (by decide) (by decide) (off := 1208) rfl (by decide) ?_
      exact lc_17 hF hst hX hbl hbA hLn x0 hx5 h hK6 hP hD hS hl hcl kk
    · subst z
      refine z_tabI (tgt := 1320) hx hb dL_law_44 ⟨by decide, by decide⟩ (v := 18) rfl (by decide) (by decide) (off := 1276) rfl (by decide) ?_
      exact lc_18 hF hst hX hbl hbA hLn x0 hx5 h hK6 hP hD hS hl hcl kk
    · subst z
      refine z_tabI (tgt := 1364) hx hb dL_law_44 ⟨by decide, by decide⟩ (v := 19) rfl (by decide) (by decide) (off := 1320) rfl (by decide) ?_
      exact lc_19 hF hst hX hbl hbA hLn x0 hx5 h hK6 hP hD hS hl hcl kk
    · subst z
      refine z_tabI (tgt := 1405) hx hb dL_law_44 ⟨by decide, by decide⟩ (v := 20) rfl (by decide) (by decide) (off := 1361) rfl (by decide) ?_
      exact lc_20 hF hst hX hbl hbA hLn x0 hx5 h hK6 hP hD hS hl hcl kk
    · subst z
      refine z_tabI (tgt := 1418) hx hb dL_law_44 ⟨by decide, by decide⟩ (v := 21) rfl (by decide) (by decide) (off := 1374) rfl (by decide) ?_
      exact lc_21 hF hst hX hbl hbA hLn x0 hx5 h hK6 hP hD hS hl hcl kk
    · subst z
      refine z_tabI (tgt := 1481) hx hb dL_law_44 ⟨by decide, by decide⟩ (v := 22) rfl (by decide) (by decide) (off := 1437) rfl (by decide) ?_
      exact lc_22 hF hst hX hbl hbA hLn x0 hx5 h hK6 hP hD hS hl hcl kk
    · subst z
      refine z_tabI (tgt := 1537) hx hb dL_law_44 ⟨by decide, by decide⟩ (v := 23) rfl (by decide) (by decide) (off := 1493) rfl (by decide) ?_
      exact lc_23 hF hst hX hbl hbA hLn x0 hx5 h hK6 hP hD hS hl hcl kk
    · subst z
      refine z_tabI (tgt := 1593) hx hb dL_law_44 ⟨by decide, by decide⟩ (v := 24) rfl (by decide) (by decide) (off := 1549) rfl (by decide) ?_
      exact lc_24 hF hst hX hbl hbA hLn x0 hx5 h hK6 hP hD hS hl hcl kk
    · subst z
      refine z_tabI (tgt := 1649) hx hb dL_law_44 ⟨by decide, by decide⟩ (v := 25) rfl (by decide) (by decide) (off := 1605) rfl (by decide) ?_
      exact lc_25 hF hst hX hbl hbA hLn x0 hx5 h hK6 hP hD hS hl hcl kk
    · subst z
      refine z_tabI (tgt := 1662) hx hb dL_law_44 ⟨by decide, by decide⟩ (v := 26) rfl (by decide) (by decide) (off := 1618) rfl (by decide) ?_
      exact lc_26 hF hst hX hbl hbA hLn x0 hx5 h hK6 hP hD hS hl hcl kk
    · subst z
      refine z_tabI (tgt := 1718) hx hb dL_law_44 ⟨by decide, by decide⟩ (v := 27) rfl (by decide) (by decide) (off := 1674) rfl (by decide) ?_
      exact lc_27 hF hst hX hbl hbA hLn x0 hx5 h hK6 hP hD hS hl hcl kk
    · subst z
      refine z_tabI (tgt := 1776) hx hb dL_law_44 ⟨by decide, by decide⟩ (v := 28) rfl (by decide) (by decide) (off := 1732) rfl (by decide) ?_
      exact lc_28 hF hst hX hbl hbA hLn x0 hx5 h hK6 hP hD hS hl hcl kk
    · subst z
      refine z_tabI (tgt := 1820) hx hb dL_law_44 ⟨by decide, by decide⟩ (v := 29) rfl (by decide) (by decide) (off := 1776) rfl (by decide) ?_
      exact lc_29 hF hst hX hbl hbA hLn x0 hx5 h hK6 hP hD hS hl hcl kk
    · subst z
      refine z_tabI (tgt := 1833) hx hb dL_law_44 ⟨by decide, by decide⟩ (v := 30) rfl (by decide) (by decide) (off := 1789) rfl (by decide) ?_
      exact lc_30 hF hst hX hbl hbA hLn x0 hx5 h hK6 hP hD hS hl hcl kk
    · subst z
      refine z_tabI (tgt := 1905) hx hb dL_law_44 ⟨by decide, by decide⟩ (v := 31) rfl (by decide) (by decide) (off := 1861) rfl (by decide) ?_
      exact lc_31 hF hst hX hbl hbA hLn x0 hx5 h hK6 hP hD hS hl hcl kk
    · subst z
      refine z_tabI (tgt := 1961) hx hb dL_law_44 ⟨by decide, by decide⟩ (v := 32) rfl (by decide) (by decide) (off := 1917) rfl (by decide) ?_
      exact lc_32 hF hst hX hbl hbA hLn x0 hx5 h hK6 hP hD hS hl hcl kk
    · subst z
      refine z_tabI (tgt := 1974) hx hb dL_law_44 ⟨by decide, by decide⟩ (v := 33) rfl (by decide) (by decide) (off := 1930) rfl (by decide) ?_
      exact lc_33 hF hst hX hbl hbA hLn x0 hx5 h hK6 hP hD hS hl hcl kk
    · subst z
      refine z_tabI (tgt := 2039) hx hb dL_law_44 ⟨by decide, by decide⟩ (v := 34) rfl (by decide) (by decide) (off := 1995) rfl (by decide) ?_
      exact lc_34 hF hst hX hbl hbA hLn x0 hx5 h hK6 hP hD hS hl hcl kk
    · subst z
      refine z_tabI (tgt := 2105) hx hb dL_law_44 ⟨by decide, by decide⟩ (v := 35) rfl (by decide) (by decide) (off := 2061) rfl (by decide) ?_
      exact lc_35 hF hst hX hbl hbA hLn x0 hx5 h hK6 hP hD hS hl hcl kk
    · subst z
      refine z_tabI (tgt := 2149) hx hb dL_law_44 ⟨by decide, by decide⟩ (v := 36) rfl (by decide) (by decide) (off := 2105) rfl (by decide) ?_
      exact lc_36 hF hst hX hbl hbA hLn x0 hx5 h hK6 hP hD hS hl hcl kk
    · subst z
      refine z_tabI (tgt := 2162) hx hb dL_law_44 ⟨by decide, by decide⟩ (v := 37) rfl (by decide) (by decide) (off := 2118) rfl (by decide) ?_
      exact lc_37 hF hst hX hbl hbA hLn x0 hx5 h hK6 hP hD hS hl hcl kk
    · refine z_tabD (tgt := 2206) hx hb dL_law_44 ⟨by omega, by omega⟩ (by decide) (Or.inl (Or.inr (by omega))) ?_
      exact kk _ _ _ _ _ _ _ _ _ _ _ _ _ _ _ _ _ (Iv_mono h hK6) hP hD hS hl (by omega) (by omega)
end LLO
