/-! more cases of the law -/
section LCA
variable {p : Program} {l : Launch} {e : Env} {R : Room} {s : State} {m : MethodId} {args : Array Value} {below : List Frame} {meth : Method} {c : Code} {H : Heap} {locs : List Loc} {cells slots : Nat} {Q : State → Prop}
variable {ls : Array Slot} {D : va_G} {A : Nat → Prop} {k : Nat → ClassId} {a r o d : Nat → Nat} {K : Int} {F P T B N Hs : Nat → Nat → Int} {Gs : Nat → Nat → Nat → Int} {I L RR J : Nat → Nat → Int} {X : Nat → UInt64} {b Ln : Nat} {xs : Nat → Int32} {x5 : Int}
set_option maxHeartbeats 4000000 in
set_option maxRecDepth 100000 in
theorem lc_16 (hF : lwF p s m args c R D k A) (hst : l.stackTraces = false) (hX : va_X b Ln xs s s.heap) (hbl : b < s.heap.size) (hbA : ¬ A b) (hLn : Ln ≤ 2048) (x0 : 0 ≤ x5) (hx5 : x5 + 4 ≤ Ln) (h : Iv K F P T B N Hs Gs I L RR) (hK : K + 620 ≤ 320000) (hP : va_P D vwCl (wLaw k a r o d F P T B N Hs Gs I L RR J X) H) (hD : va_D A (wLaw k a r o d F P T B N Hs Gs I L RR J X)) (hS : va_S A s.heap H locs) (hl : lv_has ls 9 (lvB a r o d b x5)) (hcl : cells + 1 ≤ R.cells ∧ slots + 6 ≤ R.slots) (kk : lwK p l e R s m args below meth c D k A a r o d b x5 K cells slots Q) : W p l e R s m args below meth c H locs cells slots Q (F0 m 1196 ls []) := by
  obtain ⟨hx, hb, hml, hown, hts, hK0, hG, hE, hA, hR1, hR2⟩ := id hF
  refine lv_aload_n hx hb dL_law_1196 rfl (lv_at hl 4 rfl) ?_
  refine la_arg (xs := xs) (j := 1) (q := 1) hF hX hbl hbA hS (lv_at hl 5 rfl) (lv_at hl 0 rfl) hLn x0 (by decide) (by omega) dL_law_1197 dL_law_1198 dL_law_1200 rfl dL_law_1201 dL_law_1202 ?_
  refine lv_aload_n hx hb dL_law_1203 rfl (lv_at hl 2 rfl) ?_
  obtain ⟨F1, P1, T1, B1, N1, H1, G1, I1, L1, R1, J1, kx, bx, hL, hC, e8, hk, hJ, hZ, hI⟩ := st_leastGrey (D := D) (k := k) (a := a) (r := r) (o := o) (d := d) (J := J) (X := X) hst h hK (p1 := (pJ xs (x5 + 1))) (pJ_r xs _)
  refine la_L (As := [.ref (a 0), .int (iI (pJ xs (x5 + 1))), .ref (o 0)]) (rest := []) (idx := 189) (n := 3) hF hP hD hS hl.1 hL gL_law_L_leastGrey rfl (by decide +kernel) rfl (Nat.le_of_ble_eq_true rfl) (Nat.le_of_ble_eq_true rfl) dL_law_1204 hcl (fun H locs hP hD hS => ?_)
  refine lv_istore (lv' := (6, .int (iI kx)) :: lvB a r o d b x5) hx hb dL_law_1207 hl (by decide) rfl (fun ls hl => ?_)
  refine lv_aload_n hx hb dL_law_1209 rfl (lv_at hl 4 rfl) ?_
  refine la_arg (xs := xs) (j := 1) (q := 1) hF hX hbl hbA hS (lv_at hl 6 rfl) (lv_at hl 1 rfl) hLn x0 (by decide) (by omega) dL_law_1210 dL_law_1211 dL_law_1213 rfl dL_law_1214 dL_law_1215 ?_
  refine la_V (As := [.int (iI (pJ xs (x5 + 1)))]) (rest := []) (idx := 191) (n := 1) (ci := 10) hF hP hD hS hl.1 hC rfl gL_law_X8_leastGrey rfl (by decide +kernel) rfl (Nat.le_of_ble_eq_true rfl) (Nat.le_of_ble_eq_true rfl) dL_law_1216 ⟨hcl.1, hcl.2⟩ (fun H locs hP hD hS => ?_)
  refine lv_istore (lv' := (7, .int (iI bx)) :: (6, .int (iI kx)) :: lvB a r o d b x5) hx hb dL_law_1219 hl (by decide) rfl (fun ls hl => ?_)
  have hT : zXc l yX8_thrown wsX8_thrown D k (r 0) 10 [] (wLaw k a r o d F1 P1 T1 B1 N1 H1 G1 I1 L1 R1 J1 X) kx (wLaw k a r o d F1 P1 T1 B1 N1 H1 G1 I1 L1 R1 J1 X) := by
    rw [← e8]
    exact xc_of (c_X8_thrown l D k r R1) (rm_i rfl rfl rfl rfl) sel_r rfl
  exact la_tail (q := 1221) (off := 957) (fJ := J1 0) (kk0 := 195) (kx := kx) (bx := bx) hF hP hD hS hl.1 hT wLaw_J hk hJ (lv_at hl 5 rfl) (lv_at hl 4 rfl) (lv_at hl 1 rfl) (lv_at hl 0 rfl) hcl dL_law_1221 dL_law_1222 dL_law_1225 dL_law_1227 dL_law_1232 dL_law_1234 dL_law_1237 dL_law_1238 dL_law_1239 dL_law_1240 dL_law_1242 dL_law_1243 dL_law_1244 dL_law_1249 (by decide) (fun H1 locs1 hP hD hS => kk _ _ _ _ _ _ _ _ _ _ _ _ _ _ _ _ _ hI hP hD hS (lv_drop (lv_drop hl)) (Nat.le_refl _) (Nat.le_refl _))
set_option maxHeartbeats 4000000 in
set_option maxRecDepth 100000 in
theorem lc_17 (hF : lwF p s m args c R D k A) (hst : l.stackTraces = false) (hX : va_X b Ln xs s s.heap) (hbl : b < s.heap.size) (hbA : ¬ A b) (hLn : Ln ≤ 2048) (x0 : 0 ≤ x5) (hx5 : x5 + 4 ≤ Ln) (h : Iv K F P T B N Hs Gs I L RR) (hK : K + 620 ≤ 320000) (hP : va_P D vwCl (wLaw k a r o d F P T B N Hs Gs I L RR J X) H) (hD : va_D A (wLaw k a r o d F P T B N Hs Gs I L RR J X)) (hS : va_S A s.heap H locs) (hl : lv_has ls 9 (lvB a r o d b x5)) (hcl : cells + 1 ≤ R.cells ∧ slots + 6 ≤ R.slots) (kk : lwK p l e R s m args below meth c D k A a r o d b x5 K cells slots Q) : W p l e R s m args below meth c H locs cells slots Q (F0 m 1252 ls []) := by
  obtain ⟨hx, hb, hml, hown, hts, hK0, hG, hE, hA, hR1, hR2⟩ := id hF
  refine lv_aload_n hx hb dL_law_1252 rfl (lv_at hl 4 rfl) ?_
  refine la_arg (xs := xs) (j := 1) (q := 1) hF hX hbl hbA hS (lv_at hl 5 rfl) (lv_at hl 0 rfl) hLn x0 (by decide) (by omega) dL_law_1253 dL_law_1254 dL_law_1256 rfl dL_law_1257 dL_law_1258 ?_
  refine la_arg (xs := xs) (j := 2) (q := 2) hF hX hbl hbA hS (lv_at hl 5 rfl) (lv_at hl 0 rfl) hLn x0 (by decide) (by omega) dL_law_1259 dL_law_1260 dL_law_1262 rfl dL_law_1263 dL_law_1264 ?_
  refine lv_aload_n hx hb dL_law_1265 rfl (lv_at hl 2 rfl) ?_
  obtain ⟨F1, P1, T1, B1, N1, H1, G1, I1, L1, R1, J1, kx, bx, hL, hC, e8, hk, hJ, hZ, hI⟩ := st_rejectOf (D := D) (k := k) (a := a) (r := r) (o := o) (d := d) (J := J) (X := X) hst h hK (p1 := (pJ xs (x5 + 1))) (p2 := (pJ xs (x5 + 2))) (pJ_r xs _) (pJ_r xs _)
  refine la_L (As := [.ref (a 0), .int (iI (pJ xs (x5 + 1))), .int (iI (pJ xs (x5 + 2))), .ref (o 0)]) (rest := []) (idx := 192) (n := 4) hF hP hD hS hl.1 hL gL_law_L_rejectOf rfl (by decide +kernel) rfl (Nat.le_of_ble_eq_true rfl) (Nat.le_of_ble_eq_true rfl) dL_law_1266 hcl (fun H locs hP hD hS => ?_)
  refine lv_istore (lv' := (6, .int (iI kx)) :: lvB a r o d b x5) hx hb dL_law_1269 hl (by decide) rfl (fun ls hl => ?_)
  refine lv_aload_n hx hb dL_law_1271 rfl (lv_at hl 4 rfl) ?_
  refine la_arg (xs := xs) (j := 1) (q := 1) hF hX hbl hbA hS (lv_at hl 6 rfl) (lv_at hl 1 rfl) hLn x0 (by decide) (by omega) dL_law_1272 dL_law_1273 dL_law_1275 rfl dL_law_1276 dL_law_1277 ?_
  refine la_arg (xs := xs) (j := 2) (q := 2) hF hX hbl hbA hS (lv_at hl 6 rfl) (lv_at hl 1 rfl) hLn x0 (by decide) (by omega) dL_law_1278 dL_law_1279 dL_law_1281 rfl dL_law_1282 dL_law_1283 ?_
  refine la_V (As := [.int (iI (pJ xs (x5 + 1))), .int (iI (pJ xs (x5 + 2)))]) (rest := []) (idx := 194) (n := 2) (ci := 10) hF hP hD hS hl.1 hC rfl gL_law_X8_rejectOf rfl (by decide +kernel) rfl (Nat.le_of_ble_eq_true rfl) (Nat.le_of_ble_eq_true rfl) dL_law_1284 ⟨hcl.1, hcl.2⟩ (fun H locs hP hD hS => ?_)
  refine lv_istore (lv' := (7, .int (iI bx)) :: (6, .int (iI kx)) :: lvB a r o d b x5) hx hb dL_law_1287 hl (by decide) rfl (fun ls hl => ?_)
  have hT : zXc l yX8_thrown wsX8_thrown D k (r 0) 10 [] (wLaw k a r o d F1 P1 T1 B1 N1 H1 G1 I1 L1 R1 J1 X) kx (wLaw k a r o d F1 P1 T1 B1 N1 H1 G1 I1 L1 R1 J1 X) := by
    rw [← e8]
    exact xc_of (c_X8_thrown l D k r R1) (rm_i rfl rfl rfl rfl) sel_r rfl
  exact la_tail (q := 1289) (off := 889) (fJ := J1 0) (kk0 := 195) (kx := kx) (bx := bx) hF hP hD hS hl.1 hT wLaw_J hk hJ (lv_at hl 5 rfl) (lv_at hl 4 rfl) (lv_at hl 1 rfl) (lv_at hl 0 rfl) hcl dL_law_1289 dL_law_1290 dL_law_1293 dL_law_1295 dL_law_1300 dL_law_1302 dL_law_1305 dL_law_1306 dL_law_1307 dL_law_1308 dL_law_1310 dL_law_1311 dL_law_1312 dL_law_1317 (by decide) (fun H1 locs1 hP hD hS => kk _ _ _ _ _ _ _ _ _ _ _ _ _ _ _ _ _ hI hP hD hS (lv_drop (lv_drop hl)) (Nat.le_refl _) (Nat.le_refl _))
set_option maxHeartbeats 4000000 in
set_option maxRecDepth 100000 in
theorem lc_18 (hF : lwF p s m args c R D k A) (hst : l.stackTraces = false) (hX : va_X b Ln xs s s.heap) (hbl : b < s.heap.size) (hbA : ¬ A b) (hLn : Ln ≤ 2048) (x0 : 0 ≤ x5) (hx5 : x5 + 4 ≤ Ln) (h : Iv K F P T B N Hs Gs I L RR) (hK : K + 620 ≤ 320000) (hP : va_P D vwCl (wLaw k a r o d F P T B N Hs Gs I L RR J X) H) (hD : va_D A (wLaw k a r o d F P T B N Hs Gs I L RR J X)) (hS : va_S A s.heap H locs) (hl : lv_has ls 9 (lvB a r o d b x5)) (hcl : cells + 1 ≤ R.cells ∧ slots + 6 ≤ R.slots) (kk : lwK p l e R s m args below meth c D k A a r o d b x5 K cells slots Q) : W p l e R s m args below meth c H locs cells slots Q (F0 m 1320 ls []) := by
  obtain ⟨hx, hb, hml, hown, hts, hK0, hG, hE, hA, hR1, hR2⟩ := id hF
  refine lv_aload_n hx hb dL_law_1320 rfl (lv_at hl 4 rfl) ?_
  refine lv_aload_n hx hb dL_law_1321 rfl (lv_at hl 2 rfl) ?_
  obtain ⟨F1, P1, T1, B1, N1, H1, G1, I1, L1, R1, J1, kx, bx, hL, hC, e8, hk, hJ, hZ, hI⟩ := st_best (D := D) (k := k) (a := a) (r := r) (o := o) (d := d) (J := J) (X := X) hst h hK  
  refine la_L (As := [.ref (a 0), .ref (o 0)]) (rest := []) (idx := 195) (n := 2) hF hP hD hS hl.1 hL gL_law_L_best rfl (by decide +kernel) rfl (Nat.le_of_ble_eq_true rfl) (Nat.le_of_ble_eq_true rfl) dL_law_1322 hcl (fun H locs hP hD hS => ?_)
  refine lv_istore (lv' := (6, .int (iI kx)) :: lvB a r o d b x5) hx hb dL_law_1325 hl (by decide) rfl (fun ls hl => ?_)
  refine lv_aload_n hx hb dL_law_1327 rfl (lv_at hl 4 rfl) ?_
  refine la_V (As := []) (rest := []) (idx := 197) (n := 0) (ci := 10) hF hP hD hS hl.1 hC rfl gL_law_X8_best rfl (by decide +kernel) rfl (Nat.le_of_ble_eq_true rfl) (Nat.le_of_ble_eq_true rfl) dL_law_1328 ⟨hcl.1, hcl.2⟩ (fun H locs hP hD hS => ?_)
  refine lv_istore (lv' := (7, .int (iI bx)) :: (6, .int (iI kx)) :: lvB a r o d b x5) hx hb dL_law_1331 hl (by decide) rfl (fun ls hl => ?_)
  have hT : zXc l yX8_thrown wsX8_thrown D k (r 0) 10 [] (wLaw k a r o d F1 P1 T1 B1 N1 H1 G1 I1 L1 R1 J1 X) kx (wLaw k a r o d F1 P1 T1 B1 N1 H1 G1 I1 L1 R1 J1 X) := by
    rw [← e8]
    exact xc_of (c_X8_thrown l D k r R1) (rm_i rfl rfl rfl rfl) sel_r rfl
  exact la_tail (q := 1333) (off := 845) (fJ := J1 0) (kk0 := 195) (kx := kx) (bx := bx) hF hP hD hS hl.1 hT wLaw_J hk hJ (lv_at hl 5 rfl) (lv_at hl 4 rfl) (lv_at hl 1 rfl) (lv_at hl 0 rfl) hcl dL_law_1333 dL_law_1334 dL_law_1337 dL_law_1339 dL_law_1344 dL_law_1346 dL_law_1349 dL_law_1350 dL_law_1351 dL_law_1352 dL_law_1354 dL_law_1355 dL_law_1356 dL_law_1361 (by decide) (fun H1 locs1 hP hD hS => kk _ _ _ _ _ _ _ _ _ _ _ _ _ _ _ _ _ hI hP hD hS (lv_drop (lv_drop hl)) (Nat.le_refl _) (Nat.le_refl _))
set_option maxHeartbeats 4000000 in
set_option maxRecDepth 100000 in
theorem lc_19 (hF : lwF p s m args c R D k A) (hst : l.stackTraces = false) (hX : va_X b Ln xs s s.heap) (hbl : b < s.heap.size) (hbA : ¬ A b) (hLn : Ln ≤ 2048) (x0 : 0 ≤ x5) (hx5 : x5 + 4 ≤ Ln) (h : Iv K F P T B N Hs Gs I L RR) (hK : K + 620 ≤ 320000) (hP : va_P D vwCl (wLaw k a r o d F P T B N Hs Gs I L RR J X) H) (hD : va_D A (wLaw k a r o d F P T B N Hs Gs I L RR J X)) (hS : va_S A s.heap H locs) (hl : lv_has ls 9 (lvB a r o d b x5)) (hcl : cells + 1 ≤ R.cells ∧ slots + 6 ≤ R.slots) (kk : lwK p l e R s m args below meth c D k A a r o d b x5 K cells slots Q) : W p l e R s m args below meth c H locs cells slots Q (F0 m 1364 ls []) := by
  obtain ⟨hx, hb, hml, hown, hts, hK0, hG, hE, hA, hR1, hR2⟩ := id hF
  refine lv_aload_n hx hb dL_law_1364 rfl (lv_at hl 4 rfl) ?_
  refine la_arg (xs := xs) (j := 1) (q := 1) hF hX hbl hbA hS (lv_at hl 5 rfl) (lv_at hl 0 rfl) hLn x0 (by decide) (by omega) dL_law_1365 dL_law_1366 dL_law_1368 rfl dL_law_1369 dL_law_1370 ?_
  refine la_bool (z := pJ xs (x5 + 1)) hF (pJ_r xs _) dL_law_1371 dL_law_1374 dL_law_1375 dL_law_1378 ?_
  obtain ⟨F1, P1, T1, B1, N1, H1, G1, I1, L1, R1, v, hL, hC, hI⟩ := st_allPrices (D := D) (k := k) (a := a) (r := r) (o := o) (d := d) (J := J) (X := X) hst h hK (p1 := (zif ((pJ xs (x5 + 1)) = 0) 0 1)) (zif_r _)
  refine la_V (As := [.int (iI (zif ((pJ xs (x5 + 1)) = 0) 0 1))]) (rest := []) (idx := 198) (n := 1) (ci := 9) hF hP hD hS hl.1 hL rfl gL_law_X7_allPrices rfl (by decide +kernel) rfl (Nat.le_of_ble_eq_true rfl) (Nat.le_of_ble_eq_true rfl) dL_law_1379 ⟨by omega, by omega⟩ (fun H locs hP hD hS => ?_)
  refine lv_aload_n hx hb dL_law_1382 rfl (lv_at hl 3 rfl) ?_
  refine la_arg (xs := xs) (j := 1) (q := 1) hF hX hbl hbA hS (lv_at hl 5 rfl) (lv_at hl 0 rfl) hLn x0 (by decide) (by omega) dL_law_1383 dL_law_1384 dL_law_1386 rfl dL_law_1387 dL_law_1388 ?_
  refine la_bool (z := pJ xs (x5 + 1)) hF (pJ_r xs _) dL_law_1389 dL_law_1392 dL_law_1393 dL_law_1396 ?_
  refine la_V (As := [.int (iI (zif ((pJ xs (x5 + 1)) = 0) 0 1))]) (rest := [.int (iI v)]) (idx := 201) (n := 1) (ci := 10) hF hP hD hS hl.1 hC rfl gL_law_X8_allPrices rfl (by decide +kernel) rfl (Nat.le_of_ble_eq_true rfl) (Nat.le_of_ble_eq_true rfl) dL_law_1397 ⟨by omega, by omega⟩ (fun H locs hP hD hS => ?_)
  refine lv_icmp_eq (tgt := 2206) hx hb dL_law_1400 (by decide) (fun _ => ?_) (fun w => absurd rfl w)
  exact kk _ _ _ _ _ _ _ _ _ _ _ _ _ _ _ _ _ hI hP hD hS hl (by omega) (by omega)
set_option maxHeartbeats 4000000 in
set_option maxRecDepth 100000 in
theorem lc_20 (hF : lwF p s m args c R D k A) (hst : l.stackTraces = false) (hX : va_X b Ln xs s s.heap) (hbl : b < s.heap.size) (hbA : ¬ A b) (hLn : Ln ≤ 2048) (x0 : 0 ≤ x5) (hx5 : x5 + 4 ≤ Ln) (h : Iv K F P T B N Hs Gs I L RR) (hK : K + 620 ≤ 320000) (hP : va_P D vwCl (wLaw k a r o d F P T B N Hs Gs I L RR J X) H) (hD : va_D A (wLaw k a r o d F P T B N Hs Gs I L RR J X)) (hS : va_S A s.heap H locs) (hl : lv_has ls 9 (lvB a r o d b x5)) (hcl : cells + 1 ≤ R.cells ∧ slots + 6 ≤ R.slots) (kk : lwK p l e R s m args below meth c D k A a r o d b x5 K cells slots Q) : W p l e R s m args below meth c H locs cells slots Q (F0 m 1405 ls []) := by
  obtain ⟨hx, hb, hml, hown, hts, hK0, hG, hE, hA, hR1, hR2⟩ := id hF
  refine lv_aload_n hx hb dL_law_1405 rfl (lv_at hl 4 rfl) ?_
  obtain ⟨F1, P1, T1, B1, N1, H1, G1, I1, L1, R1, v, hL, hC, hI⟩ := st_bestOrder (D := D) (k := k) (a := a) (r := r) (o := o) (d := d) (J := J) (X := X) hst h hK  
  refine la_V (As := []) (rest := []) (idx := 202) (n := 0) (ci := 9) hF hP hD hS hl.1 hL rfl gL_law_X7_bestOrder rfl (by decide +kernel) rfl (Nat.le_of_ble_eq_true rfl) (Nat.le_of_ble_eq_true rfl) dL_law_1406 ⟨by omega, by omega⟩ (fun H locs hP hD hS => ?_)
  refine lv_aload_n hx hb dL_law_1409 rfl (lv_at hl 3 rfl) ?_
  refine la_V (As := []) (rest := [.int (iI v)]) (idx := 205) (n := 0) (ci := 10) hF hP hD hS hl.1 hC rfl gL_law_X8_bestOrder rfl (by decide +kernel) rfl (Nat.le_of_ble_eq_true rfl) (Nat.le_of_ble_eq_true rfl) dL_law_1410 ⟨by omega, by omega⟩ (fun H locs hP hD hS => ?_)
  refine lv_icmp_eq (tgt := 2206) hx hb dL_law_1413 (by decide) (fun _ => ?_) (fun w => absurd rfl w)
  exact kk _ _ _ _ _ _ _ _ _ _ _ _ _ _ _ _ _ hI hP hD hS hl (by omega) (by omega)
set_option maxHeartbeats 4000000 in
set_option maxRecDepth 100000 in
theorem lc_21 (hF : lwF p s m args c R D k A) (hst : l.stackTraces = false) (hX : va_X b Ln xs s s.heap) (hbl : b < s.heap.size) (hbA : ¬ A b) (hLn : Ln ≤ 2048) (x0 : 0 ≤ x5) (hx5 : x5 + 4 ≤ Ln) (h : Iv K F P T B N Hs Gs I L RR) (hK : K + 620 ≤ 320000) (hP : va_P D vwCl (wLaw k a r o d F P T B N Hs Gs I L RR J X) H) (hD : va_D A (wLaw k a r o d F P T B N Hs Gs I L RR J X)) (hS : va_S A s.heap H locs) (hl : lv_has ls 9 (lvB a r o d b x5)) (hcl : cells + 1 ≤ R.cells ∧ slots + 6 ≤ R.slots) (kk : lwK p l e R s m args below meth c D k A a r o d b x5 K cells slots Q) : W p l e R s m args below meth c H locs cells slots Q (F0 m 1418 ls []) := by
  obtain ⟨hx, hb, hml, hown, hts, hK0, hG, hE, hA, hR1, hR2⟩ := id hF
  refine lv_aload_n hx hb dL_law_1418 rfl (lv_at hl 4 rfl) ?_
  refine la_arg (xs := xs) (j := 1) (q := 1) hF hX hbl hbA hS (lv_at hl 5 rfl) (lv_at hl 0 rfl) hLn x0 (by decide) (by omega) dL_law_1419 dL_law_1420 dL_law_1422 rfl dL_law_1423 dL_law_1424 ?_
  refine lv_aload_n hx hb dL_law_1425 rfl (lv_at hl 2 rfl) ?_
  obtain ⟨F1, P1, T1, B1, N1, H1, G1, I1, L1, R1, J1, kx, bx, hL, hC, e8, hk, hJ, hZ, hI⟩ := st_wouldMend (D := D) (k := k) (a := a) (r := r) (o := o) (d := d) (J := J) (X := X) hst h hK (p1 := (pJ xs (x5 + 1))) (pJ_r xs _)
  refine la_L (As := [.ref (a 0), .int (iI (pJ xs (x5 + 1))), .ref (o 0)]) (rest := []) (idx := 206) (n := 3) hF hP hD hS hl.1 hL gL_law_L_wouldMend rfl (by decide +kernel) rfl (Nat.le_of_ble_eq_true rfl) (Nat.le_of_ble_eq_true rfl) dL_law_1426 hcl (fun H locs hP hD hS => ?_)
  refine lv_istore (lv' := (6, .int (iI kx)) :: lvB a r o d b x5) hx hb dL_law_1429 hl (by decide) rfl (fun ls hl => ?_)
  refine lv_aload_n hx hb dL_law_1431 rfl (lv_at hl 4 rfl) ?_
  refine la_arg (xs := xs) (j := 1) (q := 1) hF hX hbl hbA hS (lv_at hl 6 rfl) (lv_at hl 1 rfl) hLn x0 (by decide) (by omega) dL_law_1432 dL_law_1433 dL_law_1435 rfl dL_law_1436 dL_law_1437 ?_
  refine la_V (As := [.int (iI (pJ xs (x5 + 1)))]) (rest := []) (idx := 208) (n := 1) (ci := 10) hF hP hD hS hl.1 hC rfl gL_law_X8_wouldMend rfl (by decide +kernel) rfl (Nat.le_of_ble_eq_true rfl) (Nat.le_of_ble_eq_true rfl) dL_law_1438 ⟨hcl.1, hcl.2⟩ (fun H locs hP hD hS => ?_)
  refine lv_istore (lv' := (7, .int (iI bx)) :: (6, .int (iI kx)) :: lvB a r o d b x5) hx hb dL_law_1441 hl (by decide) rfl (fun ls hl => ?_)
  have hT : zXc l yX8_thrown wsX8_thrown D k (r 0) 10 [] (wLaw k a r o d F1 P1 T1 B1 N1 H1 G1 I1 L1 R1 J1 X) kx (wLaw k a r o d F1 P1 T1 B1 N1 H1 G1 I1 L1 R1 J1 X) := by
    rw [← e8]
    exact xc_of (c_X8_thrown l D k r R1) (rm_i rfl rfl rfl rfl) sel_r rfl
  exact la_tailb (q := 1443) (off := 728) (fJ := J1 0) (kk0 := 195) (kx := kx) (bx := bx) hF hP hD hS hl.1 hT wLaw_J hk hZ hJ (lv_at hl 5 rfl) (lv_at hl 4 rfl) (lv_at hl 1 rfl) (lv_at hl 0 rfl) hcl dL_law_1443 dL_law_1444 dL_law_1447 dL_law_1449 dL_law_1454 dL_law_1456 dL_law_1459 dL_law_1460 dL_law_1461 dL_law_1462 dL_law_1464 dL_law_1467 dL_law_1468 dL_law_1471 dL_law_1472 dL_law_1473 dL_law_1478 (by decide) (fun H1 locs1 hP hD hS => kk _ _ _ _ _ _ _ _ _ _ _ _ _ _ _ _ _ hI hP hD hS (lv_drop (lv_drop hl)) (Nat.le_refl _) (Nat.le_refl _))
end LCA
