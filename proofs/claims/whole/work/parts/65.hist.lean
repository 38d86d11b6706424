/-! copies, and the row of plants against the reference's kept rows -/
theorem relP_ext {S : Nat → Nat → Int} {G G' : Nat → Int} (h : relP S G) (hg : ∀ j : Nat, j < 125 → G' j = G j) : relP S G' := by
  obtain ⟨b0, b1, b2, sh, cr, ⟨s0, s1, s2, s4, s5, s6, s7, s8⟩, st, f9⟩ := h
  unfold relP
  rw [hg 0 (by decide), hg 1 (by decide), hg 2 (by decide), hg 3 (by decide), hg 4 (by decide), hg 5 (by decide), hg 6 (by decide), hg 7 (by decide), hg 8 (by decide)]
  exact ⟨relB_fr (by decide) b0 (fun j j0 j1 => hg j (by omega)), relB_fr (by decide) b1 (fun j j0 j1 => hg j (by omega)), relB_fr (by decide) b2 (fun j j0 j1 => hg j (by omega)), relS_fr sh (hg 10 (by decide)) (fun j j0 j1 => hg j (by omega)), relY_fr cr (hg 9 (by decide)) (fun j j0 j1 => hg j (by omega)), ⟨s0, s1, s2, s4, s5, s6, s7, s8⟩, st, f9⟩
theorem relB_N {c : Int} {L N N' G : Nat → Int} {b : Int} (h : relB c L N G b) (hn : ∀ j : Nat, (j : Int) < c * 4 → N' j = N j) : relB c L N' G b := by
  obtain ⟨hc, h0, hf, hr, hk⟩ := h
  exact ⟨hc, h0, hf, hr, fun k k0 k1 => relC_at (hk k k0 k1) (hn _ (by omega)) (hn _ (by omega)) (hn _ (by omega)) rfl rfl rfl rfl⟩
theorem relS_N {c : Int} {N N' G : Nat → Int} (h : relS c N G) (hn : ∀ j : Nat, (j : Int) < c * 4 → N' j = N j) : relS c N' G := by
  obtain ⟨hc, h0, hk⟩ := h
  refine ⟨hc, h0, fun k k0 k1 => ?_⟩
  rw [hn (k * 4 + 0).toNat (by omega), hn (k * 4 + 1).toNat (by omega), hn (k * 4 + 2).toNat (by omega), hn (k * 4 + 3).toNat (by omega)]
  exact hk k k0 k1
theorem relY_N {c : Int} {N N' G : Nat → Int} (h : relY c N G) (hn : ∀ j : Nat, j < 4 → N' j = N j) : relY c N' G := by
  obtain ⟨hc, h0, hk⟩ := h
  refine ⟨hc, h0, fun k k0 k1 => ?_⟩
  rw [hn k.toNat (by omega)]
  exact hk k k0 k1
theorem relP_copy {S T : Nat → Nat → Int} {G : Nat → Int} (h : relP S G) : relP (wCopy T S) G := by
  obtain ⟨b0, b1, b2, sh, cr, sc, st, f9⟩ := h
  have c0 := relB_c b0
  have c1 := relB_c b1
  have c2 := relB_c b2
  have cs := sh.1
  have e4 : wCopy T S 4 = cpyZ (S 4) (T 4) 0 0 (((S 3 1) * 4).toNat) := rfl
  have e7 : wCopy T S 7 = cpyZ (S 7) (T 7) 0 0 (((S 6 1) * 4).toNat) := rfl
  have e10 : wCopy T S 10 = cpyZ (S 10) (T 10) 0 0 (((S 9 1) * 4).toNat) := rfl
  have e12 : wCopy T S 12 = cpyZ (S 12) (T 12) 0 0 (((S 11 1) * 4).toNat) := rfl
  have e14 : wCopy T S 14 = cpyZ (S 14) (T 14) 0 0 4 := rfl
  have e0 : wCopy T S 0 = S 0 := rfl
  have e2 : wCopy T S 2 = S 2 := rfl
  have e3 : wCopy T S 3 = S 3 := rfl
  have e5 : wCopy T S 5 = S 5 := rfl
  have e6 : wCopy T S 6 = S 6 := rfl
  have e8 : wCopy T S 8 = S 8 := rfl
  have e9 : wCopy T S 9 = S 9 := rfl
  have e11 : wCopy T S 11 = S 11 := rfl
  have e13 : wCopy T S 13 = S 13 := rfl
  unfold relP
  rw [e0, e2, e3, e4, e5, e6, e7, e8, e9, e10, e11, e12, e13, e14]
  exact ⟨relB_N b0 (fun j hj => by (repeat (first | rw [upZ_s] | rw [upZ_e (by omega)] | rw [upZ_n (by omega)] | rw [shf_in (by omega) (by omega)] | rw [shf_out (by omega)] | rw [zer_in (by omega) (by omega)] | rw [zer_out (by omega)] | rw [cpyZ_in (by omega) (by omega)] | rw [cpyZ_out (by omega)] | rw [mapZ_in (by omega) (by omega)] | rw [mapZ_out (by omega)])); congr 1; omega), relB_N b1 (fun j hj => by (repeat (first | rw [upZ_s] | rw [upZ_e (by omega)] | rw [upZ_n (by omega)] | rw [shf_in (by omega) (by omega)] | rw [shf_out (by omega)] | rw [zer_in (by omega) (by omega)] | rw [zer_out (by omega)] | rw [cpyZ_in (by omega) (by omega)] | rw [cpyZ_out (by omega)] | rw [mapZ_in (by omega) (by omega)] | rw [mapZ_out (by omega)])); congr 1; omega), relB_N b2 (fun j hj => by (repeat (first | rw [upZ_s] | rw [upZ_e (by omega)] | rw [upZ_n (by omega)] | rw [shf_in (by omega) (by omega)] | rw [shf_out (by omega)] | rw [zer_in (by omega) (by omega)] | rw [zer_out (by omega)] | rw [cpyZ_in (by omega) (by omega)] | rw [cpyZ_out (by omega)] | rw [mapZ_in (by omega) (by omega)] | rw [mapZ_out (by omega)])); congr 1; omega), relS_N sh (fun j hj => by (repeat (first | rw [upZ_s] | rw [upZ_e (by omega)] | rw [upZ_n (by omega)] | rw [shf_in (by omega) (by omega)] | rw [shf_out (by omega)] | rw [zer_in (by omega) (by omega)] | rw [zer_out (by omega)] | rw [cpyZ_in (by omega) (by omega)] | rw [cpyZ_out (by omega)] | rw [mapZ_in (by omega) (by omega)] | rw [mapZ_out (by omega)])); congr 1; omega), relY_N cr (fun j hj => by (repeat (first | rw [upZ_s] | rw [upZ_e (by omega)] | rw [upZ_n (by omega)] | rw [shf_in (by omega) (by omega)] | rw [shf_out (by omega)] | rw [zer_in (by omega) (by omega)] | rw [zer_out (by omega)] | rw [cpyZ_in (by omega) (by omega)] | rw [cpyZ_out (by omega)] | rw [mapZ_in (by omega) (by omega)] | rw [mapZ_out (by omega)])); congr 1; omega), sc, st, f9⟩
/-- the row of plants -/
def relH (a n : Int) (Gs : Nat → Nat → Nat → Int) (K : Nat → Int) : Prop := (0 ≤ a ∧ a < 8) ∧ (0 ≤ n ∧ n ≤ 8) ∧ ∀ c : Int, 0 ≤ c → c < n → relP (Gs ((a + 8 - n + c) % 8).toNat) (fun j => K ((125 * c).toNat + j))
def upG (Gs : Nat → Nat → Nat → Int) (i : Nat) (P : Nat → Nat → Int) : Nat → Nat → Nat → Int := fun k => if k = i then P else Gs k
theorem relH_rem {a n : Int} {Gs : Nat → Nat → Nat → Int} {K G : Nat → Int} {P : Nat → Nat → Int} {i0 : Nat} (h : relH a n Gs K) (hp : relP P G) (ha : a = (i0 : Int)) : relH ((a + 1) % 8) (min (n + 1) 8) (upG Gs i0 (wCopy (Gs i0) P)) (zif (n = 8) (cpyZ G (shf K 0 875 125) 0 (125 * (n - 1)).toNat 125) (cpyZ G K 0 (125 * n).toNat 125)) := by
  obtain ⟨h0, h1, hk⟩ := h
  refine ⟨by omega, by omega, fun c c0 c1 => ?_⟩
  rcases Classical.em (n = 8) with q | q
  · rw [zif_pos q]
    subst q
    by_cases z : c = 7
    · subst z
      have e : upG Gs i0 (wCopy (Gs i0) P) (((a + 1) % 8 + 8 - min (8 + 1) 8 + 7) % 8).toNat = wCopy (Gs i0) P := if_pos (by omega)
      rw [e]
      exact relP_ext (relP_copy hp) (fun j hj => by (repeat (first | rw [upZ_s] | rw [upZ_e (by omega)] | rw [upZ_n (by omega)] | rw [shf_in (by omega) (by omega)] | rw [shf_out (by omega)] | rw [zer_in (by omega) (by omega)] | rw [zer_out (by omega)] | rw [cpyZ_in (by omega) (by omega)] | rw [cpyZ_out (by omega)] | rw [mapZ_in (by omega) (by omega)] | rw [mapZ_out (by omega)])); exact congrArg G (by omega))
    · have e : upG Gs i0 (wCopy (Gs i0) P) (((a + 1) % 8 + 8 - min (8 + 1) 8 + c) % 8).toNat = Gs ((a + 8 - 8 + (c + 1)) % 8).toNat := by
        unfold upG
        rw [if_neg (by omega)]
        congr 1
        omega
      rw [e]
      exact relP_ext (hk (c + 1) (by omega) (by omega)) (fun j hj => by (repeat (first | rw [upZ_s] | rw [upZ_e (by omega)] | rw [upZ_n (by omega)] | rw [shf_in (by omega) (by omega)] | rw [shf_out (by omega)] | rw [zer_in (by omega) (by omega)] | rw [zer_out (by omega)] | rw [cpyZ_in (by omega) (by omega)] | rw [cpyZ_out (by omega)] | rw [mapZ_in (by omega) (by omega)] | rw [mapZ_out (by omega)])); congr 1; omega)
  · rw [zif_neg q]
    by_cases z : c = n
    · subst z
      have e : upG Gs i0 (wCopy (Gs i0) P) (((a + 1) % 8 + 8 - min (c + 1) 8 + c) % 8).toNat = wCopy (Gs i0) P := if_pos (by omega)
      rw [e]
      exact relP_ext (relP_copy hp) (fun j hj => by (repeat (first | rw [upZ_s] | rw [upZ_e (by omega)] | rw [upZ_n (by omega)] | rw [shf_in (by omega) (by omega)] | rw [shf_out (by omega)] | rw [zer_in (by omega) (by omega)] | rw [zer_out (by omega)] | rw [cpyZ_in (by omega) (by omega)] | rw [cpyZ_out (by omega)] | rw [mapZ_in (by omega) (by omega)] | rw [mapZ_out (by omega)])); exact congrArg G (by omega))
    · have e : upG Gs i0 (wCopy (Gs i0) P) (((a + 1) % 8 + 8 - min (n + 1) 8 + c) % 8).toNat = Gs ((a + 8 - n + c) % 8).toNat := by
        unfold upG
        rw [if_neg (by omega)]
        congr 1
        omega
      rw [e]
      exact relP_ext (hk c c0 (by omega)) (fun j hj => by (repeat (first | rw [upZ_s] | rw [upZ_e (by omega)] | rw [upZ_n (by omega)] | rw [shf_in (by omega) (by omega)] | rw [shf_out (by omega)] | rw [zer_in (by omega) (by omega)] | rw [zer_out (by omega)] | rw [cpyZ_in (by omega) (by omega)] | rw [cpyZ_out (by omega)] | rw [mapZ_in (by omega) (by omega)] | rw [mapZ_out (by omega)])))
theorem relH_take {a n : Int} {Gs : Nat → Nat → Nat → Int} {K : Nat → Int} (h : relH a n Gs K) (hn : 1 ≤ n) : relH ((a + 8 - 1) % 8) (n - 1) Gs K ∧ relP (Gs ((a + 8 - 1) % 8).toNat) (fun j => K ((125 * (n - 1)).toNat + j)) := by
  obtain ⟨h0, h1, hk⟩ := h
  refine ⟨⟨by omega, by omega, fun c c0 c1 => ?_⟩, ?_⟩
  · have e := hk c c0 (by omega)
    rw [show ((a + 8 - 1) % 8 + 8 - (n - 1) + c) % 8 = (a + 8 - n + c) % 8 by omega]
    exact e
  · have e := hk (n - 1) (by omega) (by omega)
    rw [show (a + 8 - n + (n - 1)) % 8 = (a + 8 - 1) % 8 by omega] at e
    exact e
/-- what the reference keeps -/
theorem keeps_2 {S0 : Nat → Nat → Int} (hw : S0 0 6 = 0) : sS0_2_X8_keeps S0 0 = zif (S0 0 5 = 8) (cpyZ (S0 1) (shf (S0 2) 0 875 125) 0 (125 * (S0 0 5 - 1)).toNat 125) (cpyZ (S0 1) (S0 2) 0 (125 * S0 0 5).toNat 125) := by
  unfold sS0_2_X8_keeps
  rw [zif_pos rfl, zif_pos hw]
theorem keeps_0 {S0 : Nat → Nat → Int} (hw : S0 0 6 = 0) (h8 : S0 0 5 ≤ 8) : sS0_0_X8_keeps S0 0 = upZ (upZ (S0 0) 8 0) 5 (min (S0 0 5 + 1) 8) := by
  unfold sS0_0_X8_keeps
  rw [zif_pos rfl, zif_pos hw]
  rcases Classical.em (S0 0 5 = 8) with q | q
  · rw [zif_pos q]
    funext j
    by_cases z : j = 5
    · rw [z]; (repeat (first | rw [upZ_s] | rw [upZ_e (by omega)] | rw [upZ_n (by omega)] | rw [shf_in (by omega) (by omega)] | rw [shf_out (by omega)] | rw [zer_in (by omega) (by omega)] | rw [zer_out (by omega)] | rw [cpyZ_in (by omega) (by omega)] | rw [cpyZ_out (by omega)] | rw [mapZ_in (by omega) (by omega)] | rw [mapZ_out (by omega)])); omega
    · (repeat (first | rw [upZ_s] | rw [upZ_e (by omega)] | rw [upZ_n (by omega)] | rw [shf_in (by omega) (by omega)] | rw [shf_out (by omega)] | rw [zer_in (by omega) (by omega)] | rw [zer_out (by omega)] | rw [cpyZ_in (by omega) (by omega)] | rw [cpyZ_out (by omega)] | rw [mapZ_in (by omega) (by omega)] | rw [mapZ_out (by omega)])); exact (upZ_n z).symm
  · rw [zif_neg q]
    rw [show min (S0 0 5 + 1) 8 = S0 0 5 + 1 by omega]
