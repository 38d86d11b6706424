/-! the start of both -/
theorem st_relP : relP iPl (iRef 1) := by
  have b0 : relB (iPl 3 1) (iPl 2) (iPl 4) (iRef 1) 0 := ⟨⟨by decide +kernel, by decide +kernel⟩, by decide +kernel, ⟨by decide +kernel, by decide +kernel, by decide +kernel, by decide +kernel, by decide +kernel⟩, ⟨by decide +kernel, by decide +kernel, by decide +kernel⟩, fun k k0 k1 => absurd k1 (by show ¬ k < 0; omega)⟩
  have b1 : relB (iPl 6 1) (iPl 5) (iPl 7) (iRef 1) 1 := ⟨⟨by decide +kernel, by decide +kernel⟩, by decide +kernel, ⟨by decide +kernel, by decide +kernel, by decide +kernel, by decide +kernel, by decide +kernel⟩, ⟨by decide +kernel, by decide +kernel, by decide +kernel⟩, fun k k0 k1 => absurd k1 (by show ¬ k < 0; omega)⟩
  have b2 : relB (iPl 9 1) (iPl 8) (iPl 10) (iRef 1) 2 := ⟨⟨by decide +kernel, by decide +kernel⟩, by decide +kernel, ⟨by decide +kernel, by decide +kernel, by decide +kernel, by decide +kernel, by decide +kernel⟩, ⟨by decide +kernel, by decide +kernel, by decide +kernel⟩, fun k k0 k1 => absurd k1 (by show ¬ k < 0; omega)⟩
  have s : relS (iPl 11 1) (iPl 12) (iRef 1) := ⟨⟨by decide +kernel, by decide +kernel⟩, by decide +kernel, fun k k0 k1 => absurd k1 (by show ¬ k < 0; omega)⟩
  have y : relY (iPl 13 1) (iPl 14) (iRef 1) := ⟨⟨by decide +kernel, by decide +kernel⟩, by decide +kernel, fun k k0 k1 => absurd k1 (by show ¬ k < 0; omega)⟩
  exact ⟨b0, b1, b2, s, y, ⟨by decide +kernel, by decide +kernel, by decide +kernel, by decide +kernel, by decide +kernel, by decide +kernel, by decide +kernel, by decide +kernel⟩, by decide +kernel, by decide +kernel⟩
theorem st_relA : relA iFac iPl iPl iZ (fun _ => iPl) iZ iZ iRef := by
  refine ⟨st_relP, ⟨⟨by decide +kernel, by decide +kernel⟩, ⟨by decide +kernel, by decide +kernel⟩, fun c c0 c1 => absurd c1 (by show ¬ c < 0; omega)⟩, by decide +kernel, by decide +kernel, Or.inl ⟨by decide +kernel, by decide +kernel⟩, by decide +kernel, ⟨by decide +kernel, by decide +kernel⟩, ⟨⟨by decide +kernel, by decide +kernel⟩, by decide +kernel, fun j hj => absurd hj (by show ¬ (j : Int) < 0; omega), fun j => by show 0 ≤ (0 : Int) ∧ (0 : Int) < 65536; decide⟩, ⟨⟨by decide +kernel, by decide +kernel⟩, by decide +kernel, fun j hj => absurd hj (by show ¬ (j : Int) < 0; omega)⟩⟩
theorem st_pK : pK 1000 iPl := by
  have z : zBk 1000 zZ := fun j => by show -(1000 : Int) ≤ 0 ∧ (0 : Int) ≤ 1000; decide
  have l : zBk 1000 iBl := ((z.up ⟨by decide, by decide⟩).up ⟨by decide, by decide⟩).up ⟨by decide, by decide⟩
  refine ⟨fun c _ => ?_, ⟨by decide +kernel, by decide +kernel⟩, ⟨by decide +kernel, by decide +kernel⟩, ⟨by decide +kernel, by decide +kernel⟩, ⟨by decide +kernel, by decide +kernel⟩, ⟨by decide +kernel, by decide +kernel⟩⟩
  unfold iPl
  exact zBk_upA (fun _ => l) (fun _ => zBk_upA (fun _ => l) (fun _ => zBk_upA (fun _ => l) (fun _ => zBk_upA (fun _ => z.up ⟨by decide, by decide⟩) (fun _ => z))))
theorem st_Iv : Iv 1000 iFac iPl iPl iPl iPl iZ (fun _ => iPl) iZ iZ iRef := by
  have z : ∀ K : Int, 0 ≤ K → zBk K zZ := fun K hK j => ⟨by show -K ≤ (0 : Int); omega, by show (0 : Int) ≤ K; omega⟩
  have w : rowR zZ := fun j => by show 0 ≤ (0 : Int) ∧ (0 : Int) < 65536; decide
  have n : nnP iPl := ⟨by decide +kernel, by decide +kernel, by decide +kernel⟩
  have g1 : zBk 1000 (iRef 1) := by
    show zBk 1000 (upZ (upZ (upZ (upZ (upZ (upZ (upZ (upZ (upZ (upZ zZ 0 5) 16 5) 17 7) 18 (-1)) 42 5) 43 7) 44 (-1)) 68 5) 69 7) 70 (-1))
    exact (((((((((((z 1000 (by decide)).up ⟨by decide, by decide⟩).up ⟨by decide, by decide⟩).up ⟨by decide, by decide⟩).up ⟨by decide, by decide⟩).up ⟨by decide, by decide⟩).up ⟨by decide, by decide⟩).up ⟨by decide, by decide⟩).up ⟨by decide, by decide⟩).up ⟨by decide, by decide⟩).up ⟨by decide, by decide⟩)
  have g0 : zBk (4 * 1000) (iRef 0) := by
    show zBk (4 * 1000) (upZ zZ 13 (-1))
    exact (z _ (by decide)).up ⟨by decide, by decide⟩
  exact ⟨st_relA, bA_i ⟨by decide, by decide⟩ st_pK (pOK_a (st_pK.mono (by decide))) st_pK st_pK (fun _ _ => st_pK) g0 g1 (z _ (by decide)) (z _ (by decide)) (z _ (by decide)) w w (z _ (by decide)) w ⟨by decide +kernel, by decide +kernel⟩ (fun b _ _ => by show 0 ≤ (0 : Int) ∧ (0 : Int) ≤ 5; decide) ⟨n, n, fun _ _ => n⟩⟩
theorem la_arr {s : State} {args : Array Value} {ty : FieldType} (h : (Cond.arrayClass ty).before args s = true) : ∃ c, ArrOfT s c ty ∧ s.vm.findClass ("[" ++ ty.toString) = some c := by
  obtain ⟨c, kA, comp, h1, h2, h3⟩ := Cond.arrayClass_spec h
  exact ⟨c, fun n z => ⟨fun k h => (by cases h), kA, h2, comp, h3⟩, h1⟩
theorem la_arrO {s : State} {args : Array Value} {C : String} (h : (Cond.arrayOver (.object C)).before args s = true) : ∃ c, ArrOfT s c (.object C) ∧ va_RA s c (.object C) := by
  obtain ⟨comp, c, k, h1, h2, h3, h4, h5⟩ := Cond.arrayOver_spec h
  exact ⟨c, fun N z => ⟨(fun k h => by cases h), k, h3, comp, h4⟩, k, comp, h3, h4, h1, h5⟩
theorem la_cls {s : State} {args : Array Value} (hts : ∀ w ∈ lw_tbl, w.before args s = true) : ∃ D : va_G, ∀ (c : Nat) (q : vw_C), vwCl[c]? = some q → u_Kn s q.1 q.2.1 q.2.2 (D.1 c) (D.2 c) := by
  have h : ∀ c : Nat, ∃ (cC : ClassId) (iS : Nat → Nat), ∀ q : vw_C, vwCl[c]? = some q → u_Kn s q.1 q.2.1 q.2.2 cC iS := by
    intro c
    rcases (show c = 0 ∨ c = 1 ∨ c = 2 ∨ c = 3 ∨ c = 4 ∨ c = 5 ∨ c = 6 ∨ c = 7 ∨ c = 8 ∨ c = 9 ∨ c = 10 ∨ 11 ≤ c by omega) with z | z | z | z | z | z | z | z | z | z | z | z
    · subst z
      obtain ⟨cC, iS, h⟩ := u_known (C := RJ0) (T := TJ0) (N := 2) hts inJ0 (hts (.instantiable RJ0 4) (by decide +kernel))
      exact ⟨cC, iS, fun q hq => by cases hq; exact h⟩
    · subst z
      obtain ⟨cC, iS, h⟩ := u_known (C := RJx00060) (T := TJx00060) (N := 6) hts inJx00060 (hts (.instantiable RJx00060 6) (by decide +kernel))
      exact ⟨cC, iS, fun q hq => by cases hq; exact h⟩
    · subst z
      obtain ⟨cC, iS, h⟩ := u_known (C := RX0) (T := TX0) (N := 6) hts inX0 (hts (.instantiable RX0 6) (by decide +kernel))
      exact ⟨cC, iS, fun q hq => by cases hq; exact h⟩
    · subst z
      obtain ⟨cC, iS, h⟩ := u_known (C := RX1) (T := TX1) (N := 2) hts inX1 (hts (.instantiable RX1 2) (by decide +kernel))
      exact ⟨cC, iS, fun q hq => by cases hq; exact h⟩
    · subst z
      obtain ⟨cC, iS, h⟩ := u_known (C := RX2) (T := TX2) (N := 3) hts inX2 (hts (.instantiable RX2 3) (by decide +kernel))
      exact ⟨cC, iS, fun q hq => by cases hq; exact h⟩
    · subst z
      obtain ⟨cC, iS, h⟩ := u_known (C := RX3) (T := TX3) (N := 2) hts inX3 (hts (.instantiable RX3 2) (by decide +kernel))
      exact ⟨cC, iS, fun q hq => by cases hq; exact h⟩
    · subst z
      obtain ⟨cC, iS, h⟩ := u_known (C := RX4) (T := TX4) (N := 2) hts inX4 (hts (.instantiable RX4 2) (by decide +kernel))
      exact ⟨cC, iS, fun q hq => by cases hq; exact h⟩
    · subst z
      obtain ⟨cC, iS, h⟩ := u_known (C := RX5) (T := TX5) (N := 11) hts inX5 (hts (.instantiable RX5 11) (by decide +kernel))
      exact ⟨cC, iS, fun q hq => by cases hq; exact h⟩
    · subst z
      obtain ⟨cC, iS, h⟩ := u_known (C := RX6) (T := TX6) (N := 2) hts inX6 (hts (.instantiable RX6 2) (by decide +kernel))
      exact ⟨cC, iS, fun q hq => by cases hq; exact h⟩
    · subst z
      obtain ⟨cC, iS, h⟩ := u_known (C := RX7) (T := TX7) (N := 11) hts inX7 (hts (.instantiable RX7 11) (by decide +kernel))
      exact ⟨cC, iS, fun q hq => by cases hq; exact h⟩
    · subst z
      obtain ⟨cC, iS, h⟩ := u_known (C := RX8) (T := TX8) (N := 19) hts inX8 (hts (.instantiable RX8 19) (by decide +kernel))
      exact ⟨cC, iS, fun q hq => by cases hq; exact h⟩
    · exact ⟨(0 : Nat), fun _ => 0, fun q hq => absurd (List.getElem?_eq_some_iff.mp hq).1 (by show ¬ c < 11; omega)⟩
  exact ⟨(fun c => (h c).choose, fun c => (h c).choose_spec.choose), fun c q hq => (h c).choose_spec.choose_spec q hq⟩
theorem la_K {s : State} {args : Array Value} (hts : ∀ w ∈ lw_tbl, w.before args s = true) : ∃ (D : va_G) (k : Nat → ClassId), va_K D vwCl (zT k) s := by
  obtain ⟨D, hD⟩ := la_cls hts
  obtain ⟨c0, a0, b0⟩ := la_arr (hts (.arrayClass .int) (by decide +kernel))
  obtain ⟨c1, a1, b1⟩ := la_arr (hts (.arrayClass .char) (by decide +kernel))
  obtain ⟨c2, a2, b2⟩ := la_arrO (hts (.arrayOver (.object RX0)) (by decide +kernel))
  obtain ⟨c3, a3, b3⟩ := la_arrO (hts (.arrayOver (.object RX5)) (by decide +kernel))
  obtain ⟨c4, a4, b4⟩ := la_arr (hts (.arrayClass .long) (by decide +kernel))
  obtain ⟨c5, a5, b5⟩ := la_arr (hts (.arrayClass .double) (by decide +kernel))
  refine ⟨D, fun i => [c0, c1, c2, c3, c4, c5].getD i c0, hD, fun i q hq => ?_⟩
  rcases (show i = 0 ∨ i = 1 ∨ i = 2 ∨ i = 3 ∨ i = 4 ∨ i = 5 ∨ 6 ≤ i by omega) with z | z | z | z | z | z | z
  · subst z; cases hq; exact ⟨a0, b0⟩
  · subst z; cases hq; exact ⟨a1, b1⟩
  · subst z; cases hq; exact ⟨a2, b2⟩
  · subst z; cases hq; exact ⟨a3, b3⟩
  · subst z; cases hq; exact ⟨a4, b4⟩
  · subst z; cases hq; exact ⟨a5, b5⟩
  · exact absurd (List.getElem?_eq_some_iff.mp hq).1 (by show ¬ i < 6; omega)
theorem la_str {s : State} {args : Array Value} {n : Nat} {t : String} (h1 : (Cond.stringRef RX7 n t).before args s = true) (h2 : (Cond.exactly (Term.string "MondayFactory" n) "java/lang/String").before args s = true) : ∃ sa : Nat, vk_R RX7 n t sa s := by
  obtain ⟨a, c, cell, k, h, -⟩ := Cond.exactly_spec h2
  exact ⟨a, vk_R.of h1 h⟩
theorem la_strM : ∀ q ∈ zStrs, Cond.stringRef RX7 q.1 q.2 ∈ lw_tbl := by decide +kernel
theorem la_strN : ∀ q ∈ zStrs, Cond.exactly (Term.string "MondayFactory" q.1) "java/lang/String" ∈ flatC (Jvm.Cond.and given_1 narrow_1) := by decide +kernel
theorem la_nest : ∀ q ∈ zNest, Cond.methodLinkNest q.1 q.2.1 q.2.2.1 q.2.2.2 ∈ lw_tbl := by decide +kernel
theorem la_cast : ∀ q ∈ zEc, Cond.castable q q ∈ lw_tbl := by decide +kernel
theorem la_decl : ∀ q ∈ zEd, Cond.declares (Bundle.initS q) ∈ lw_tbl := by decide +kernel
theorem la_not : ∀ q ∈ zEn, Cond.not (Cond.castable q.1 q.2) ∈ flatC (Jvm.Cond.and given_1 narrow_1) := by decide +kernel
theorem la_E {s : State} {args : Array Value} (hts : ∀ w ∈ lw_tbl, w.before args s = true) (hgv : (Jvm.Cond.and given_1 narrow_1).before args s = true) : zE s :=
  ⟨fun q hq => va_Nw.of rfl (hts _ (la_cast q hq)), fun q hq => va_Nw.of rfl (hts _ (la_decl q hq)), fun q hq => va_Nc.of (flat_of_before _ hgv _ (la_not q hq))⟩
theorem la_G {s : State} {args : Array Value} {A : Nat → Prop} (hts : ∀ w ∈ lw_tbl, w.before args s = true) (hgv : (Jvm.Cond.and given_1 narrow_1).before args s = true) (hA : ∀ a : Nat, a < s.heap.size → ¬ A a) : zG A s :=
  ⟨vx_Zqof (hts (.laysStatic Bundle.tN "UNASSIGNED_STACK" Bundle.steD) (by decide +kernel)) (hts (.initialized Bundle.tN) (by decide +kernel)) (flat_of_before _ hgv (.isRef (.static Bundle.tN "UNASSIGNED_STACK" Bundle.steD)) (by decide +kernel)) hA,
   vx_Zqof (hts (.laysStatic Bundle.tN "SUPPRESSED_SENTINEL" Bundle.listD) (by decide +kernel)) (hts (.initialized Bundle.tN) (by decide +kernel)) (flat_of_before _ hgv (.isRef (.static Bundle.tN "SUPPRESSED_SENTINEL" Bundle.listD)) (by decide +kernel)) hA,
   fun q hq => va_Nw.of rfl (hts _ (la_nest q hq)), fun q hq => la_str (hts _ (la_strM q hq)) (flat_of_before _ hgv _ (la_strN q hq))⟩
