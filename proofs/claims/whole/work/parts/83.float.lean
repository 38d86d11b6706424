/-! quotients of whole numbers as doubles and floats are numbers -/
def fOk32 (n : Nat) : Prop := ∃ s e t : Nat, n = (s * 256 + e) * 8388608 + t ∧ s ≤ 1 ∧ t < 8388608 ∧ (e ≤ 254 ∨ (e = 255 ∧ t = 0))
def fOk64 (n : Nat) : Prop := ∃ s e t : Nat, n = (s * 2048 + e) * 4503599627370496 + t ∧ s ≤ 1 ∧ t < 4503599627370496 ∧ (e ≤ 2046 ∨ (e = 2047 ∧ t = 0))
theorem toNat_1 (s : Bool) : s.toNat ≤ 1 := by cases s <;> decide
theorem enc32_s (s : Bool) (c : Nat) (q : Int) : fOk32 (Jvm.FP.Core.encode Jvm.FP.Core.b32 (Jvm.FP.Core.settle Jvm.FP.Core.b32 s c q)) := by
  have hs := toNat_1 s
  have key : ∀ c : Nat, c < 16777216 → ∀ q : Int, fOk32 (Jvm.FP.Core.encode Jvm.FP.Core.b32 (Jvm.FP.Core.bound Jvm.FP.Core.b32 s c q)) := by
    intro c hc q
    unfold Jvm.FP.Core.bound
    by_cases h : q ≤ Jvm.FP.Core.b32.qmax
    · rw [if_pos h]
      have h : q ≤ 104 := h
      show fOk32 (if c < 8388608 then (s.toNat * 256 + 0) * 8388608 + c else (s.toNat * 256 + ((q - (-149)).toNat + 1)) * 8388608 + (c - 8388608))
      by_cases h2 : c < 8388608
      · rw [if_pos h2]
        exact ⟨s.toNat, 0, c, rfl, hs, h2, Or.inl (by decide)⟩
      · rw [if_neg h2]
        exact ⟨s.toNat, (q - (-149)).toNat + 1, c - 8388608, rfl, hs, by omega, Or.inl (by omega)⟩
    · rw [if_neg h]
      exact ⟨s.toNat, 255, 0, rfl, hs, by decide, Or.inr ⟨rfl, rfl⟩⟩
  unfold Jvm.FP.Core.settle
  by_cases h : c < 2 ^ Jvm.FP.Core.b32.p
  · rw [if_pos h]
    exact key c h q
  · rw [if_neg h]
    exact key 8388608 (by decide) (q + 1)
theorem enc64_s (s : Bool) (c : Nat) (q : Int) : fOk64 (Jvm.FP.Core.encode Jvm.FP.Core.b64 (Jvm.FP.Core.settle Jvm.FP.Core.b64 s c q)) := by
  have hs := toNat_1 s
  have key : ∀ c : Nat, c < 9007199254740992 → ∀ q : Int, fOk64 (Jvm.FP.Core.encode Jvm.FP.Core.b64 (Jvm.FP.Core.bound Jvm.FP.Core.b64 s c q)) := by
    intro c hc q
    unfold Jvm.FP.Core.bound
    by_cases h : q ≤ Jvm.FP.Core.b64.qmax
    · rw [if_pos h]
      have h : q ≤ 971 := h
      show fOk64 (if c < 4503599627370496 then (s.toNat * 2048 + 0) * 4503599627370496 + c else (s.toNat * 2048 + ((q - (-1074)).toNat + 1)) * 4503599627370496 + (c - 4503599627370496))
      by_cases h2 : c < 4503599627370496
      · rw [if_pos h2]
        exact ⟨s.toNat, 0, c, rfl, hs, h2, Or.inl (by decide)⟩
      · rw [if_neg h2]
        exact ⟨s.toNat, (q - (-1074)).toNat + 1, c - 4503599627370496, rfl, hs, by omega, Or.inl (by omega)⟩
    · rw [if_neg h]
      exact ⟨s.toNat, 2047, 0, rfl, hs, by decide, Or.inr ⟨rfl, rfl⟩⟩
  unfold Jvm.FP.Core.settle
  by_cases h : c < 2 ^ Jvm.FP.Core.b64.p
  · rw [if_pos h]
    exact key c h q
  · rw [if_neg h]
    exact key 4503599627370496 (by decide) (q + 1)
theorem enc32_r (s : Bool) (a b : Nat) (e : Int) : fOk32 (Jvm.FP.Core.encode Jvm.FP.Core.b32 (Jvm.FP.Core.roundRatio Jvm.FP.Core.b32 s a b e)) := by
  unfold Jvm.FP.Core.roundRatio
  by_cases h : a = 0
  · rw [if_pos h]
    exact ⟨s.toNat, 0, 0, rfl, toNat_1 s, by decide, Or.inl (by decide)⟩
  · rw [if_neg h]
    exact enc32_s _ _ _
theorem enc64_r (s : Bool) (a b : Nat) (e : Int) : fOk64 (Jvm.FP.Core.encode Jvm.FP.Core.b64 (Jvm.FP.Core.roundRatio Jvm.FP.Core.b64 s a b e)) := by
  unfold Jvm.FP.Core.roundRatio
  by_cases h : a = 0
  · rw [if_pos h]
    exact ⟨s.toNat, 0, 0, rfl, toNat_1 s, by decide, Or.inl (by decide)⟩
  · rw [if_neg h]
    exact enc64_s _ _ _
/-- what such bits stand for is no NaN -/
theorem dec32 {n : Nat} (h : fOk32 n) : (∃ s c q, Jvm.FP.Core.decode Jvm.FP.Core.b32 n = .fin s c q) ∨ ∃ s, Jvm.FP.Core.decode Jvm.FP.Core.b32 n = .inf s := by
  obtain ⟨s, e, t, hn, hs, ht, he⟩ := h
  have eE : Jvm.FP.Core.fieldE Jvm.FP.Core.b32 n = e := by show n / 8388608 % 256 = e; omega
  have eT : Jvm.FP.Core.fieldT Jvm.FP.Core.b32 n = t := by show n % 8388608 = t; omega
  unfold Jvm.FP.Core.decode
  rw [eE, eT]
  by_cases h1 : e = 255
  · have h2 : t = 0 := by omega
    refine Or.inr ⟨Jvm.FP.Core.fieldS Jvm.FP.Core.b32 n, ?_⟩
    rw [if_pos (show e = Jvm.FP.Core.b32.exps - 1 from h1), if_pos h2]
  · refine Or.inl ?_
    rw [if_neg (show ¬ e = Jvm.FP.Core.b32.exps - 1 from h1)]
    by_cases h2 : e = 0
    · rw [if_pos h2]; exact ⟨_, _, _, rfl⟩
    · rw [if_neg h2]; exact ⟨_, _, _, rfl⟩
theorem dec64 {n : Nat} (h : fOk64 n) : (∃ s c q, Jvm.FP.Core.decode Jvm.FP.Core.b64 n = .fin s c q) ∨ ∃ s, Jvm.FP.Core.decode Jvm.FP.Core.b64 n = .inf s := by
  obtain ⟨s, e, t, hn, hs, ht, he⟩ := h
  have eE : Jvm.FP.Core.fieldE Jvm.FP.Core.b64 n = e := by show n / 4503599627370496 % 2048 = e; omega
  have eT : Jvm.FP.Core.fieldT Jvm.FP.Core.b64 n = t := by show n % 4503599627370496 = t; omega
  unfold Jvm.FP.Core.decode
  rw [eE, eT]
  by_cases h1 : e = 2047
  · have h2 : t = 0 := by omega
    refine Or.inr ⟨Jvm.FP.Core.fieldS Jvm.FP.Core.b64 n, ?_⟩
    rw [if_pos (show e = Jvm.FP.Core.b64.exps - 1 from h1), if_pos h2]
  · refine Or.inl ?_
    rw [if_neg (show ¬ e = Jvm.FP.Core.b64.exps - 1 from h1)]
    by_cases h2 : e = 0
    · rw [if_pos h2]; exact ⟨_, _, _, rfl⟩
    · rw [if_neg h2]; exact ⟨_, _, _, rfl⟩
theorem ok32_n {n : Nat} (h : fOk32 n) : n < 4294967296 ∧ n % 2147483648 ≤ 2139095040 := by
  obtain ⟨s, e, t, hn, hs, ht, he⟩ := h
  omega
theorem ok64_n {n : Nat} (h : fOk64 n) : n < 18446744073709551616 ∧ n % 9223372036854775808 ≤ 9218868437227405312 := by
  obtain ⟨s, e, t, hn, hs, ht, he⟩ := h
  omega
theorem vf_32 {n : Nat} (h : fOk32 n) : vf_n32 (UInt32.ofNat n) := by
  have a := ok32_n h
  unfold vf_n32
  rw [UInt32.le_iff_toNat_le, UInt32.toNat_and, UInt32.toNat_ofNat_of_lt' (show n < UInt32.size from a.1)]
  show n &&& 2147483647 ≤ 2139095040
  rw [show (2147483647 : Nat) = 2 ^ 31 - 1 by decide, Nat.and_two_pow_sub_one_eq_mod]
  exact a.2
theorem vf_64 {n : Nat} (h : fOk64 n) : vf_n64 (UInt64.ofNat n) := by
  have a := ok64_n h
  unfold vf_n64
  rw [UInt64.le_iff_toNat_le, UInt64.toNat_and, UInt64.toNat_ofNat_of_lt' (show n < UInt64.size from a.1)]
  show n &&& 9223372036854775807 ≤ 9218868437227405312
  rw [show (9223372036854775807 : Nat) = 2 ^ 63 - 1 by decide, Nat.and_two_pow_sub_one_eq_mod]
  exact a.2
theorem tn32 {n : Nat} (h : fOk32 n) : (UInt32.ofNat n).toNat = n := UInt32.toNat_ofNat_of_lt' (show n < UInt32.size from (ok32_n h).1)
theorem tn64 {n : Nat} (h : fOk64 n) : (UInt64.ofNat n).toNat = n := UInt64.toNat_ofNat_of_lt' (show n < UInt64.size from (ok64_n h).1)
def fNz32 (n : Nat) : Prop := ∃ s e t : Nat, n = (s * 256 + e) * 8388608 + t ∧ s ≤ 1 ∧ t < 8388608 ∧ e ≤ 254 ∧ (e = 0 → ¬ t = 0)
def fNz64 (n : Nat) : Prop := ∃ s e t : Nat, n = (s * 2048 + e) * 4503599627370496 + t ∧ s ≤ 1 ∧ t < 4503599627370496 ∧ e ≤ 2046 ∧ (e = 0 → ¬ t = 0)
theorem fNz32.ok {n : Nat} (h : fNz32 n) : fOk32 n := by
  obtain ⟨s, e, t, hn, hs, ht, he, -⟩ := h
  exact ⟨s, e, t, hn, hs, ht, Or.inl he⟩
theorem fNz64.ok {n : Nat} (h : fNz64 n) : fOk64 n := by
  obtain ⟨s, e, t, hn, hs, ht, he, -⟩ := h
  exact ⟨s, e, t, hn, hs, ht, Or.inl he⟩
theorem nz32_s (s : Bool) (c : Nat) (q : Int) (c0 : ¬ c = 0) (hq : q ≤ 100) : fNz32 (Jvm.FP.Core.encode Jvm.FP.Core.b32 (Jvm.FP.Core.settle Jvm.FP.Core.b32 s c q)) := by
  have hs := toNat_1 s
  have key : ∀ c : Nat, ¬ c = 0 → c < 16777216 → ∀ q : Int, q ≤ 101 → fNz32 (Jvm.FP.Core.encode Jvm.FP.Core.b32 (Jvm.FP.Core.bound Jvm.FP.Core.b32 s c q)) := by
    intro c c0 hc q hq
    unfold Jvm.FP.Core.bound
    rw [if_pos (show q ≤ Jvm.FP.Core.b32.qmax from (show q ≤ 104 by omega))]
    show fNz32 (if c < 8388608 then (s.toNat * 256 + 0) * 8388608 + c else (s.toNat * 256 + ((q - (-149)).toNat + 1)) * 8388608 + (c - 8388608))
    by_cases h2 : c < 8388608
    · rw [if_pos h2]
      exact ⟨s.toNat, 0, c, rfl, hs, h2, by decide, fun _ => c0⟩
    · rw [if_neg h2]
      exact ⟨s.toNat, (q - (-149)).toNat + 1, c - 8388608, rfl, hs, by omega, by omega, fun h => absurd h (by omega)⟩
  unfold Jvm.FP.Core.settle
  by_cases h : c < 2 ^ Jvm.FP.Core.b32.p
  · rw [if_pos h]
    exact key c c0 h q (by omega)
  · rw [if_neg h]
    exact key 8388608 (by decide) (by decide) (q + 1) (by omega)
theorem nz64_s (s : Bool) (c : Nat) (q : Int) (c0 : ¬ c = 0) (hq : q ≤ 100) : fNz64 (Jvm.FP.Core.encode Jvm.FP.Core.b64 (Jvm.FP.Core.settle Jvm.FP.Core.b64 s c q)) := by
  have hs := toNat_1 s
  have key : ∀ c : Nat, ¬ c = 0 → c < 9007199254740992 → ∀ q : Int, q ≤ 101 → fNz64 (Jvm.FP.Core.encode Jvm.FP.Core.b64 (Jvm.FP.Core.bound Jvm.FP.Core.b64 s c q)) := by
    intro c c0 hc q hq
    unfold Jvm.FP.Core.bound
    rw [if_pos (show q ≤ Jvm.FP.Core.b64.qmax from (show q ≤ 971 by omega))]
    show fNz64 (if c < 4503599627370496 then (s.toNat * 2048 + 0) * 4503599627370496 + c else (s.toNat * 2048 + ((q - (-1074)).toNat + 1)) * 4503599627370496 + (c - 4503599627370496))
    by_cases h2 : c < 4503599627370496
    · rw [if_pos h2]
      exact ⟨s.toNat, 0, c, rfl, hs, h2, by decide, fun _ => c0⟩
    · rw [if_neg h2]
      exact ⟨s.toNat, (q - (-1074)).toNat + 1, c - 4503599627370496, rfl, hs, by omega, by omega, fun h => absurd h (by omega)⟩
  unfold Jvm.FP.Core.settle
  by_cases h : c < 2 ^ Jvm.FP.Core.b64.p
  · rw [if_pos h]
    exact key c c0 h q (by omega)
  · rw [if_neg h]
    exact key 4503599627370496 (by decide) (by decide) (q + 1) (by omega)
theorem lead_1 (n : Nat) (h : n < 1048576) : Jvm.FP.Core.leading n 1 ≤ 20 := by
  have l : n.log2 ≤ 20 := by
    by_cases h0 : n = 0
    · subst h0; decide
    · have a := (Nat.log2_lt h0 (k := 21)).mpr (by omega)
      omega
  unfold Jvm.FP.Core.leading
  have e : (((1 : Nat).log2 : Nat) : Int) = 0 := by decide
  have e2 : (n.log2 : Int) - (((1 : Nat).log2 : Nat) : Int) = (n.log2 : Int) := by rw [e, Int.sub_zero]
  have g : ∀ (P : Prop) [Decidable P] (z : Int), z ≤ 20 → (if P then z else z - 1) ≤ 20 := by intro P _ z hz; split <;> omega
  exact g _ ((n.log2 : Int) - (((1 : Nat).log2 : Nat) : Int)) (by rw [e2]; first | omega | exact Int.ofNat_le.mpr l)
theorem near_1 (a : Nat) : Jvm.FP.Core.nearest a 1 = a := by
  unfold Jvm.FP.Core.nearest
  rw [Nat.mod_one, if_pos (by decide), Nat.div_one]
theorem rr32 (n : Nat) (h0 : ¬ n = 0) (h : n < 1048576) : fNz32 (Jvm.FP.Core.encode Jvm.FP.Core.b32 (Jvm.FP.Core.roundRatio Jvm.FP.Core.b32 false n 1 0)) := by
  have l := lead_1 n h
  have q : Jvm.FP.Core.quantum Jvm.FP.Core.b32 n 1 0 ≤ -3 := by
    show max (-149 : Int) (Jvm.FP.Core.leading n 1 + 0 - ((24 : Int) - 1)) ≤ -3
    omega
  unfold Jvm.FP.Core.roundRatio
  rw [if_neg h0]
  unfold Jvm.FP.Core.roundAt
  refine nz32_s _ _ _ ?_ (by omega)
  have d : Jvm.FP.Core.unitsDen 1 0 (Jvm.FP.Core.quantum Jvm.FP.Core.b32 n 1 0) = 1 := by
    unfold Jvm.FP.Core.unitsDen
    rw [show (Jvm.FP.Core.quantum Jvm.FP.Core.b32 n 1 0 - 0).toNat = 0 by omega]
  rw [d, near_1]
  unfold Jvm.FP.Core.unitsNum
  intro z
  rcases Nat.mul_eq_zero.mp z with z | z
  · exact h0 z
  · exact absurd z (Nat.pos_iff_ne_zero.mp (Nat.two_pow_pos _))
theorem rr64 (n : Nat) (h0 : ¬ n = 0) (h : n < 1048576) : fNz64 (Jvm.FP.Core.encode Jvm.FP.Core.b64 (Jvm.FP.Core.roundRatio Jvm.FP.Core.b64 false n 1 0)) := by
  have l := lead_1 n h
  have q : Jvm.FP.Core.quantum Jvm.FP.Core.b64 n 1 0 ≤ -3 := by
    show max (-1074 : Int) (Jvm.FP.Core.leading n 1 + 0 - ((53 : Int) - 1)) ≤ -3
    omega
  unfold Jvm.FP.Core.roundRatio
  rw [if_neg h0]
  unfold Jvm.FP.Core.roundAt
  refine nz64_s _ _ _ ?_ (by omega)
  have d : Jvm.FP.Core.unitsDen 1 0 (Jvm.FP.Core.quantum Jvm.FP.Core.b64 n 1 0) = 1 := by
    unfold Jvm.FP.Core.unitsDen
    rw [show (Jvm.FP.Core.quantum Jvm.FP.Core.b64 n 1 0 - 0).toNat = 0 by omega]
  rw [d, near_1]
  unfold Jvm.FP.Core.unitsNum
  intro z
  rcases Nat.mul_eq_zero.mp z with z | z
  · exact h0 z
  · exact absurd z (Nat.pos_iff_ne_zero.mp (Nat.two_pow_pos _))
theorem nzdec32 {n : Nat} (h : fNz32 n) : ∃ s c q, Jvm.FP.Core.decode Jvm.FP.Core.b32 n = .fin s c q ∧ ¬ c = 0 := by
  obtain ⟨s, e, t, hn, hs, ht, he, h0⟩ := h
  have eE : Jvm.FP.Core.fieldE Jvm.FP.Core.b32 n = e := by show n / 8388608 % 256 = e; omega
  have eT : Jvm.FP.Core.fieldT Jvm.FP.Core.b32 n = t := by show n % 8388608 = t; omega
  unfold Jvm.FP.Core.decode
  rw [eE, eT, if_neg (show ¬ e = Jvm.FP.Core.b32.exps - 1 from (show ¬ e = 255 by omega))]
  by_cases h2 : e = 0
  · rw [if_pos h2]; exact ⟨_, _, _, rfl, h0 h2⟩
  · rw [if_neg h2]; exact ⟨_, _, _, rfl, (show ¬ 8388608 + t = 0 by omega)⟩
theorem nzdec64 {n : Nat} (h : fNz64 n) : ∃ s c q, Jvm.FP.Core.decode Jvm.FP.Core.b64 n = .fin s c q ∧ ¬ c = 0 := by
  obtain ⟨s, e, t, hn, hs, ht, he, h0⟩ := h
  have eE : Jvm.FP.Core.fieldE Jvm.FP.Core.b64 n = e := by show n / 4503599627370496 % 2048 = e; omega
  have eT : Jvm.FP.Core.fieldT Jvm.FP.Core.b64 n = t := by show n % 4503599627370496 = t; omega
  unfold Jvm.FP.Core.decode
  rw [eE, eT, if_neg (show ¬ e = Jvm.FP.Core.b64.exps - 1 from (show ¬ e = 2047 by omega))]
  by_cases h2 : e = 0
  · rw [if_pos h2]; exact ⟨_, _, _, rfl, h0 h2⟩
  · rw [if_neg h2]; exact ⟨_, _, _, rfl, (show ¬ 4503599627370496 + t = 0 by omega)⟩
theorem qu32 {x y : Nat} (hx : fOk32 x) (hy : fNz32 y) : fOk32 (Jvm.FP.Core.div Jvm.FP.Core.b32 x y) := by
  obtain ⟨s2, c2, q2, ey, c0⟩ := nzdec32 hy
  unfold Jvm.FP.Core.div
  rw [ey]
  rcases dec32 hx with ⟨s, c, q, e⟩ | ⟨s, e⟩
  · rw [e]
    show fOk32 (Jvm.FP.Core.encode Jvm.FP.Core.b32 (if c2 = 0 then _ else Jvm.FP.Core.roundRatio Jvm.FP.Core.b32 (s != s2) c c2 (q - q2)))
    rw [if_neg c0]
    exact enc32_r _ _ _ _
  · rw [e]
    exact ⟨(s != s2).toNat, 255, 0, rfl, toNat_1 _, by decide, Or.inr ⟨rfl, rfl⟩⟩
theorem qu64 {x y : Nat} (hx : fOk64 x) (hy : fNz64 y) : fOk64 (Jvm.FP.Core.div Jvm.FP.Core.b64 x y) := by
  obtain ⟨s2, c2, q2, ey, c0⟩ := nzdec64 hy
  unfold Jvm.FP.Core.div
  rw [ey]
  rcases dec64 hx with ⟨s, c, q, e⟩ | ⟨s, e⟩
  · rw [e]
    show fOk64 (Jvm.FP.Core.encode Jvm.FP.Core.b64 (if c2 = 0 then _ else Jvm.FP.Core.roundRatio Jvm.FP.Core.b64 (s != s2) c c2 (q - q2)))
    rw [if_neg c0]
    exact enc64_r _ _ _ _
  · rw [e]
    exact ⟨(s != s2).toNat, 2047, 0, rfl, toNat_1 _, by decide, Or.inr ⟨rfl, rfl⟩⟩
theorem i2f_nz {y : Int} (h : 1 ≤ y ∧ y < 1048576) : ∃ n : Nat, fNz32 n ∧ FP.i2f (iI y) = UInt32.ofNat n := by
  refine ⟨_, rr32 y.natAbs (by omega) (by omega), ?_⟩
  show UInt32.ofNat (Jvm.FP.Core.encode Jvm.FP.Core.b32 (Jvm.FP.Core.roundRatio Jvm.FP.Core.b32 (decide ((iI y).toInt < 0)) (iI y).toInt.natAbs 1 0)) = _
  rw [iI_toInt ⟨by omega, by omega⟩, decide_eq_false (by omega)]
theorem i2d_nz {y : Int} (h : 1 ≤ y ∧ y < 1048576) : ∃ n : Nat, fNz64 n ∧ FP.i2d (iI y) = UInt64.ofNat n := by
  refine ⟨_, rr64 y.natAbs (by omega) (by omega), ?_⟩
  show UInt64.ofNat (Jvm.FP.Core.encode Jvm.FP.Core.b64 (Jvm.FP.Core.roundRatio Jvm.FP.Core.b64 (decide ((iI y).toInt < 0)) (iI y).toInt.natAbs 1 0)) = _
  rw [iI_toInt ⟨by omega, by omega⟩, decide_eq_false (by omega)]
theorem fdiv_ok (x : Int32) {y : Int} (h : 1 ≤ y ∧ y < 1048576) : ∃ n : Nat, fOk32 n ∧ FP.fdiv (FP.i2f x) (FP.i2f (iI y)) = UInt32.ofNat n := by
  obtain ⟨n, hn, e⟩ := i2f_nz h
  have hx : fOk32 (Jvm.FP.Core.encode Jvm.FP.Core.b32 (Jvm.FP.Core.roundRatio Jvm.FP.Core.b32 (decide (x.toInt < 0)) x.toInt.natAbs 1 0)) := enc32_r _ _ _ _
  refine ⟨_, qu32 hx hn, ?_⟩
  rw [e]
  show UInt32.ofNat (Jvm.FP.Core.div Jvm.FP.Core.b32 (UInt32.ofNat (Jvm.FP.Core.encode Jvm.FP.Core.b32 (Jvm.FP.Core.roundRatio Jvm.FP.Core.b32 (decide (x.toInt < 0)) x.toInt.natAbs 1 0))).toNat (UInt32.ofNat n).toNat) = _
  rw [tn32 hx, tn32 hn.ok]
theorem ddiv_ok (x : Int32) {y : Int} (h : 1 ≤ y ∧ y < 1048576) : ∃ n : Nat, fOk64 n ∧ FP.ddiv (FP.i2d x) (FP.i2d (iI y)) = UInt64.ofNat n := by
  obtain ⟨n, hn, e⟩ := i2d_nz h
  have hx : fOk64 (Jvm.FP.Core.encode Jvm.FP.Core.b64 (Jvm.FP.Core.roundRatio Jvm.FP.Core.b64 (decide (x.toInt < 0)) x.toInt.natAbs 1 0)) := enc64_r _ _ _ _
  refine ⟨_, qu64 hx hn, ?_⟩
  rw [e]
  show UInt64.ofNat (Jvm.FP.Core.div Jvm.FP.Core.b64 (UInt64.ofNat (Jvm.FP.Core.encode Jvm.FP.Core.b64 (Jvm.FP.Core.roundRatio Jvm.FP.Core.b64 (decide (x.toInt < 0)) x.toInt.natAbs 1 0))).toNat (UInt64.ofNat n).toNat) = _
  rw [tn64 hx, tn64 hn.ok]
theorem f2d_ok {n : Nat} (h : fOk32 n) : ∃ m : Nat, fOk64 m ∧ FP.f2d (UInt32.ofNat n) = UInt64.ofNat m := by
  have e1 : Jvm.FP.Core.fIsNaN (UInt32.ofNat n) = false := by
    unfold Jvm.FP.Core.fIsNaN Jvm.FP.Core.isNaN
    rw [tn32 h]
    rcases dec32 h with ⟨s, c, q, e⟩ | ⟨s, e⟩ <;> rw [e] <;> rfl
  refine ⟨Jvm.FP.Core.convert Jvm.FP.Core.b32 Jvm.FP.Core.b64 n, ?_, ?_⟩
  · unfold Jvm.FP.Core.convert
    rcases dec32 h with ⟨s, c, q, e⟩ | ⟨s, e⟩
    · rw [e]; exact enc64_r _ _ _ _
    · rw [e]; exact ⟨s.toNat, 2047, 0, rfl, toNat_1 _, by decide, Or.inr ⟨rfl, rfl⟩⟩
  · unfold FP.f2d
    rw [e1]
    show Jvm.FP.Core.f2d (UInt32.ofNat n) = _
    unfold Jvm.FP.Core.f2d
    rw [tn32 h]
theorem dcmp_eq {n : Nat} (h : fOk64 n) : Op.cmpValue (FP.dcmp (UInt64.ofNat n) (UInt64.ofNat n)) CmpOp.l = 0 := by
  have k : ∀ a : Int, compare a a = Ordering.eq := fun a => by simp [compare, compareOfLessAndEq]
  have e : FP.dcmp (UInt64.ofNat n) (UInt64.ofNat n) = some .eq := by
    show Jvm.FP.Core.order (Jvm.FP.Core.decode Jvm.FP.Core.b64 (UInt64.ofNat n).toNat) (Jvm.FP.Core.decode Jvm.FP.Core.b64 (UInt64.ofNat n).toNat) = _
    rw [tn64 h]
    rcases dec64 h with ⟨s, c, q, e⟩ | ⟨s, e⟩ <;> rw [e]
    · exact congrArg some (k _)
    · exact congrArg some (k _)
  rw [e]
  rfl
