def zBk (K : Int) (f : Nat → Int) : Prop := ∀ j, -K ≤ f j ∧ f j ≤ K
theorem zBk.mono {K L : Int} {f : Nat → Int} (h : zBk K f) (hK : K ≤ L) : zBk L f := fun j => ⟨by have := h j; omega, by have := h j; omega⟩
theorem zBk.t {K : Int} {f : Nat → Int} (h : zBk K f) (hK : K ≤ 1000000) : zBt f := fun j => ⟨by have := h j; omega, by have := h j; omega⟩
theorem zBk.f {K : Int} {f : Nat → Int} (h : zBk K f) (hK : K ≤ 1000000000) : zBf f := fun j => ⟨by have := h j; omega, by have := h j; omega⟩
theorem zBk.up {K : Int} {f : Nat → Int} (h : zBk K f) {k : Nat} {v : Int} (hv : -K ≤ v ∧ v ≤ K) : zBk K (upZ f k v) := by
  intro j
  by_cases q : j = k
  · subst q; rw [upZ_s]; exact hv
  · rw [upZ_n q]; exact h j
theorem zBk.shf {K : Int} {G : Nat → Int} (h : zBk K G) (lo hi d : Nat) : zBk K (shf G lo hi d) := by
  intro j
  by_cases r : lo ≤ j ∧ j < hi
  · rw [shf_in r.1 r.2]; exact h _
  · rw [shf_out r]; exact h _
theorem zBk.zer {K : Int} {G : Nat → Int} (h : zBk K G) (h0 : 0 ≤ K) (lo hi : Nat) : zBk K (zer G lo hi) := by
  intro j
  by_cases r : lo ≤ j ∧ j < hi
  · rw [zer_in r.1 r.2]; omega
  · rw [zer_out r]; exact h _
theorem zBk.cpy {K : Int} {f g : Nat → Int} (hf : zBk K f) (hg : zBk K g) (sp dp n : Nat) : zBk K (cpyZ f g sp dp n) := by
  intro j
  by_cases r : dp ≤ j ∧ j < dp + n
  · rw [cpyZ_in r.1 r.2]; exact hf _
  · rw [cpyZ_out r]; exact hg _
theorem zBk.map {K : Int} {h : Int → Int} {G : Nat → Int} (hG : zBk K G) (hh : ∀ z, -K ≤ z ∧ z ≤ K → -K ≤ h z ∧ h z ≤ K) (lo hi : Nat) : zBk K (mapZ h G lo hi) := by
  intro j
  by_cases r : lo ≤ j ∧ j < hi
  · rw [mapZ_in r.1 r.2]; exact hh _ (hG _)
  · rw [mapZ_out r]; exact hG _
theorem zBk.zif {K : Int} {P : Prop} {f g : Nat → Int} (hf : zBk K f) (hg : zBk K g) : zBk K (zif P f g) := by
  by_cases h : P
  · rw [zif_pos h]; exact hf
  · rw [zif_neg h]; exact hg
theorem zBk.goes {K : Int} {G : Nat → Int} (h : zBk K G) {p0 : Int} (hc : 1 ≤ G (15 + 26 * p0 + 0).toNat ∧ G (15 + 26 * p0 + 0).toNat ≤ 5) (hK : 5 ≤ K) : zBk K (rGoes G p0) := ((h.up (by omega)).shf _ _ _).zer (by omega) _ _
theorem zBk.puts {K : Int} {G : Nat → Int} (h : zBk K G) {p0 p1 p2 p3 p4 : Int} (h1 : -K ≤ p1 ∧ p1 ≤ K) (h2 : -K ≤ p2 ∧ p2 ≤ K) (h3 : -K ≤ p3 ∧ p3 ≤ K) (h4 : -K ≤ p4 ∧ p4 ≤ K) (h5 : 0 ≤ G (15 + 26 * p0 + 0).toNat ∧ G (15 + 26 * p0 + 0).toNat ≤ 4) (hK : 5 ≤ K) : zBk K (rPuts G p0 p1 p2 p3 p4) :=
  ((((h.up h1).up h2).up h3).up h4).up (by omega)
theorem zBk.off {K : Int} {G : Nat → Int} (h : zBk K G) {p0 : Int} (h1 : 1 ≤ G 10 ∧ G 10 ≤ 8) (hK : 8 ≤ K) : zBk K (rOff G p0) := ((h.up (by omega)).shf _ _ _).zer (by omega) _ _
theorem zBk.pass {K : Int} {G : Nat → Int} (hB : zBk K G) {p0 : Int} (h : 0 ≤ p0 ∧ p0 ≤ 1) (h1 : 0 ≤ G (15 + 26 * p0 + 0).toNat ∧ G (15 + 26 * p0 + 0).toNat ≤ 5) (h2 : 0 ≤ G (15 + 26 * (p0 + 1) + 0).toNat ∧ G (15 + 26 * (p0 + 1) + 0).toNat ≤ 4) (hK : 5 ≤ K) : zBk K (rPass G p0) := by
  unfold rPass
  rcases Classical.em (G (15 + 26 * p0 + 0).toNat = 0) with c | c
  · rw [zif_pos c]; exact hB
  · rw [zif_neg c]
    have e : ∀ b g a m, rPuts G (p0 + 1) b g a m (15 + 26 * p0 + 0).toNat = G (15 + 26 * p0 + 0).toNat := fun _ _ _ _ => rPuts_n (by omega) h2 (by omega)
    exact zBk.goes (hB.puts (hB _) (hB _) (hB _) (hB _) h2 hK) (by rw [e]; omega) hK
theorem zBk.rejects {K : Int} {S0 : Nat → Nat → Int} (h : zBk K (S0 1)) {p0 p1 : Int} (hp : 0 ≤ p1 ∧ p1 ≤ 3) (hS : 0 ≤ S0 1 10 ∧ S0 1 10 ≤ 8) (hK : 9 ≤ K) : zBk (K + 1) (sS0_1_X8_rejects S0 p0 p1) := by
  have a4 := h 4
  have a5 := h 5
  have h' : zBk (K + 1) (S0 1) := h.mono (by omega)
  have b := fun j => h' j
  unfold sS0_1_X8_rejects
  exact zBk.zif ((h'.up (by omega)).up (by omega)) ((((((h'.up (by omega)).up (b _)).up (b _)).up (b _)).up (by omega)).up (by omega))
theorem rejects_10 {S0 : Nat → Nat → Int} {p0 p1 : Int} (hS : 0 ≤ S0 1 10 ∧ S0 1 10 ≤ 8) : 0 ≤ sS0_1_X8_rejects S0 p0 p1 10 ∧ sS0_1_X8_rejects S0 p0 p1 10 ≤ 8 := by
  unfold sS0_1_X8_rejects
  rcases Classical.em (S0 1 10 = 8) with c | c
  · rw [zif_pos c, upZ_n (by omega), upZ_n (by omega)]; exact hS
  · rw [zif_neg c, upZ_s]; omega
/-- the row after an inspection is noted, but for yawns and the carrier -/
def rNote (X : Nat → Int) (p0 t g : Int) : Nat → Int := upZ (upZ (upZ (upZ X 3 (X 3 + t)) (15 + 26 * p0 + 4).toNat (X (15 + 26 * p0 + 4).toNat + 1)) (15 + 26 * p0 + 5).toNat (X (15 + 26 * p0 + 5).toNat + t)) (15 + 26 * p0 + 3).toNat g
def rTire (X : Nat → Int) (q d : Int) : Nat → Int := upZ X (11 + q).toNat (max 0 (min (X (11 + q).toNat + d) 9))
noncomputable def rFail (S0 : Nat → Nat → Int) (p0 : Int) : Int := sp_X8_failed S0 p0 0 (S0 1 (11 + sp_X8_nextOne S0).toNat)
/-- the row ahead of the carrier's leaving -/
noncomputable def rPre (S0 : Nat → Nat → Int) (p0 : Int) : Nat → Int :=
  zif (S0 1 (15 + 26 * p0 + (6 + 4 * 0 + 0)).toNat = 1) (rTire (S0 1) (sp_X8_nextOne S0) (-1))
    (rTire (rNote (zif (rFail S0 p0 ≤ 0) (S0 1) (sS0_1_X8_rejects S0 p0 (rFail S0 p0))) p0 (zif (rFail S0 p0 = 0) 1 0) (S0 1 (15 + 26 * p0 + (6 + 4 * 0 + 1)).toNat)) (sp_X8_nextOne S0) (zif (S0 1 (15 + 26 * p0 + (6 + 4 * 0 + 1)).toNat ≤ 7) 1 2))
noncomputable def rInsp (S0 : Nat → Nat → Int) (p0 : Int) : Nat → Int := rGoes (rPre S0 p0) p0
theorem zif_same {α : Type} {P : Prop} {a : α} : zif P a a = a := by
  by_cases h : P
  · rw [zif_pos h]
  · rw [zif_neg h]
theorem insp_v (S0 : Nat → Nat → Int) (p0 : Int) : sp_X8_inspects S0 p0 = zif (S0 1 (15 + 26 * p0 + (6 + 4 * 0 + 0)).toNat = 1) 0 (rFail S0 p0) := by
  unfold sp_X8_inspects rFail
  simp only [zif_same]
theorem insp_e (S0 : Nat → Nat → Int) (p0 : Int) : sS0_1_X8_inspects S0 p0 = rInsp S0 p0 := by
  unfold sS0_1_X8_inspects rInsp rPre
  rcases Classical.em (S0 1 (15 + 26 * p0 + (6 + 4 * 0 + 0)).toNat = 1) with c | c
  · rw [zif_pos c, zif_pos c]; rfl
  · rw [zif_neg c, zif_neg c]
    have e : sp_X8_failed S0 p0 0 (S0 1 (11 + sp_X8_nextOne S0).toNat) = rFail S0 p0 := rfl
    rw [e]
    rcases Classical.em (rFail S0 p0 ≤ 0) with c1 | c1 <;> rcases Classical.em (rFail S0 p0 = 0) with c2 | c2 <;> rcases Classical.em (S0 1 (15 + 26 * p0 + (6 + 4 * 0 + 1)).toNat ≤ 7) with c3 | c3
    · simp only [zif_pos c1, zif_pos c2, zif_pos c3]; rfl
    · simp only [zif_pos c1, zif_pos c2, zif_neg c3]; rfl
    · simp only [zif_pos c1, zif_neg c2, zif_pos c3]; rfl
    · simp only [zif_pos c1, zif_neg c2, zif_neg c3]; rfl
    · simp only [zif_neg c1, zif_pos c2, zif_pos c3]; rfl
    · simp only [zif_neg c1, zif_pos c2, zif_neg c3]; rfl
    · simp only [zif_neg c1, zif_neg c2, zif_pos c3]; rfl
    · simp only [zif_neg c1, zif_neg c2, zif_neg c3]; rfl
theorem rNote_n {X : Nat → Int} {p0 t g : Int} {j : Nat} (h3 : j ≠ 3) (h : (j : Int) < 15 + 26 * p0 + 3 ∨ 15 + 26 * p0 + 6 ≤ j) (h0 : 0 ≤ p0) : rNote X p0 t g j = X j := by
  unfold rNote
  rw [upZ_n (by omega), upZ_n (by omega), upZ_n (by omega), upZ_n h3]
theorem rTire_n {X : Nat → Int} {q d : Int} {j : Nat} (h0 : 0 ≤ q) (h : (j : Int) ≠ 11 + q) : rTire X q d j = X j := upZ_n (by omega)
theorem pre_at {S0 : Nat → Nat → Int} {p0 : Int} {j : Nat} (h0 : 0 ≤ p0 ∧ p0 ≤ 2) (hI : 1 ≤ S0 1 9 ∧ S0 1 9 ≤ 4) (hF : 0 ≤ S0 1 10 ∧ S0 1 10 ≤ 8) (h3 : j ≠ 3) (h4 : j ≠ 4) (h5 : j ≠ 5) (h10 : j ≠ 10) (hj : j < 93) (hy : j < 11 ∨ 15 ≤ j) (hr : (j : Int) < 15 + 26 * p0 + 3 ∨ 15 + 26 * p0 + 6 ≤ j) : rPre S0 p0 j = S0 1 j := by
  have n := nextOne_rng S0 hI
  unfold rPre
  rcases Classical.em (S0 1 (15 + 26 * p0 + (6 + 4 * 0 + 0)).toNat = 1) with c | c
  · rw [zif_pos c]; exact rTire_n n.1 (by omega)
  · rw [zif_neg c, rTire_n n.1 (by omega), rNote_n h3 hr h0.1]
    rcases Classical.em (rFail S0 p0 ≤ 0) with c1 | c1
    · rw [zif_pos c1]
    · rw [zif_neg c1]; exact rejects_at h4 h5 h10 hj hF.1
theorem pre_10 {S0 : Nat → Nat → Int} {p0 : Int} (h0 : 0 ≤ p0 ∧ p0 ≤ 2) (hI : 1 ≤ S0 1 9 ∧ S0 1 9 ≤ 4) (hF : 0 ≤ S0 1 10 ∧ S0 1 10 ≤ 8) : 0 ≤ rPre S0 p0 10 ∧ rPre S0 p0 10 ≤ 8 := by
  have n := nextOne_rng S0 hI
  unfold rPre
  rcases Classical.em (S0 1 (15 + 26 * p0 + (6 + 4 * 0 + 0)).toNat = 1) with c | c
  · rw [zif_pos c, rTire_n n.1 (by omega)]; exact hF
  · rw [zif_neg c, rTire_n n.1 (by omega), rNote_n (by omega) (by omega) h0.1]
    rcases Classical.em (rFail S0 p0 ≤ 0) with c1 | c1
    · rw [zif_pos c1]; exact hF
    · rw [zif_neg c1]; exact rejects_10 hF
theorem zBk.pre {K : Int} {S0 : Nat → Nat → Int} (h : zBk K (S0 1)) {p0 : Int} (hF : 0 ≤ S0 1 10 ∧ S0 1 10 ≤ 8) (hK : 9 ≤ K) : zBk (K + 2) (rPre S0 p0) := by
  have hK2 : zBk (K + 2) (S0 1) := h.mono (by omega)
  have f := failed_rng S0 p0 0 (S0 1 (11 + sp_X8_nextOne S0).toNat)
  have key : ∀ X q d, zBk (K + 2) X → zBk (K + 2) (rTire X q d) := fun X q d hX => hX.up (by omega)
  have key2 : ∀ X t g, zBk (K + 1) X → 0 ≤ t ∧ t ≤ 1 → -(K + 2) ≤ g ∧ g ≤ K + 2 → zBk (K + 2) (rNote X p0 t g) := by
    intro X t g hX ht hg
    have a := hX 3
    have b := hX (15 + 26 * p0 + 4).toNat
    have c := hX (15 + 26 * p0 + 5).toNat
    exact ((((hX.mono (by omega)).up (by omega)).up (by omega)).up (by omega)).up hg
  unfold rPre
  refine zBk.zif (key _ _ _ hK2) (key _ _ _ (key2 _ _ _ (zBk.zif (h.mono (by omega)) (h.rejects f hF hK)) ?_ (hK2 _)))
  rcases Classical.em (rFail S0 p0 = 0) with c | c
  · rw [zif_pos c]; omega
  · rw [zif_neg c]; omega
theorem pre_own {S0 : Nat → Nat → Int} {p0 : Int} (h0 : 0 ≤ p0 ∧ p0 ≤ 2) (hI : 1 ≤ S0 1 9 ∧ S0 1 9 ≤ 4) (hF : 0 ≤ S0 1 10 ∧ S0 1 10 ≤ 8) : rPre S0 p0 (15 + 26 * p0 + 0).toNat = S0 1 (15 + 26 * p0 + 0).toNat :=
  pre_at h0 hI hF (by omega) (by omega) (by omega) (by omega) (by omega) (by omega) (by omega)
theorem insp_own {S0 : Nat → Nat → Int} {p0 : Int} (h0 : 0 ≤ p0 ∧ p0 ≤ 2) (hI : 1 ≤ S0 1 9 ∧ S0 1 9 ≤ 4) (hF : 0 ≤ S0 1 10 ∧ S0 1 10 ≤ 8) (h1 : 1 ≤ S0 1 (15 + 26 * p0 + 0).toNat ∧ S0 1 (15 + 26 * p0 + 0).toNat ≤ 5) : sS0_1_X8_inspects S0 p0 (15 + 26 * p0 + 0).toNat = S0 1 (15 + 26 * p0 + 0).toNat - 1 := by
  have e := pre_own h0 hI hF
  rw [insp_e]
  unfold rInsp
  rw [rGoes_own h0 (by omega), e]
theorem insp_9 {S0 : Nat → Nat → Int} {p0 : Int} (h0 : 0 ≤ p0 ∧ p0 ≤ 2) (hI : 1 ≤ S0 1 9 ∧ S0 1 9 ≤ 4) (hF : 0 ≤ S0 1 10 ∧ S0 1 10 ≤ 8) (h1 : 1 ≤ S0 1 (15 + 26 * p0 + 0).toNat ∧ S0 1 (15 + 26 * p0 + 0).toNat ≤ 5) : sS0_1_X8_inspects S0 p0 9 = S0 1 9 := by
  have e := pre_own h0 hI hF
  rw [insp_e]
  unfold rInsp
  rw [rGoes_n h0 (by omega) (by omega)]
  exact pre_at h0 hI hF (by omega) (by omega) (by omega) (by omega) (by omega) (by omega) (by omega)
theorem insp_10 {S0 : Nat → Nat → Int} {p0 : Int} (h0 : 0 ≤ p0 ∧ p0 ≤ 2) (hI : 1 ≤ S0 1 9 ∧ S0 1 9 ≤ 4) (hF : 0 ≤ S0 1 10 ∧ S0 1 10 ≤ 8) (h1 : 1 ≤ S0 1 (15 + 26 * p0 + 0).toNat ∧ S0 1 (15 + 26 * p0 + 0).toNat ≤ 5) : 0 ≤ sS0_1_X8_inspects S0 p0 10 ∧ sS0_1_X8_inspects S0 p0 10 ≤ 8 := by
  have e := pre_own h0 hI hF
  rw [insp_e]
  unfold rInsp
  rw [rGoes_n h0 (by omega) (by omega)]
  exact pre_10 h0 hI hF
theorem zBk.insp {K : Int} {S0 : Nat → Nat → Int} (h : zBk K (S0 1)) {p0 : Int} (h0 : 0 ≤ p0 ∧ p0 ≤ 2) (hI : 1 ≤ S0 1 9 ∧ S0 1 9 ≤ 4) (hF : 0 ≤ S0 1 10 ∧ S0 1 10 ≤ 8) (h1 : 1 ≤ S0 1 (15 + 26 * p0 + 0).toNat ∧ S0 1 (15 + 26 * p0 + 0).toNat ≤ 5) (hK : 9 ≤ K) : zBk (K + 2) (sS0_1_X8_inspects S0 p0) := by
  have e := pre_own h0 hI hF
  rw [insp_e]
  exact (h.pre hF hK).goes (by omega) (by omega)
/-- so many inspections one after another -/
noncomputable def rInspN (S0 : Nat → Nat → Int) (p0 : Int) : Nat → (Nat → Int)
  | 0 => S0 1
  | n + 1 => sS0_1_X8_inspects (upA S0 1 (rInspN S0 p0 n)) p0
/-- an array's numbers may be named otherwise beyond its end -/
theorem z_nrmP {D : va_G} {cl : List vw_C} {ws : va_W} {H : Heap} {a n : Nat} {cA : ClassId} {f g : Nat → Int} (hP : va_P D cl ws H) (q : Nat) (ha : ws[q]? = some (a, .inl (cA, n, .inl (fun j => iI (f j))))) (hfg : ∀ j, j < n → f j = g j) : va_P D cl (ws.set q (a, .inl (cA, n, .inl (fun j => iI (g j))))) H := by
  intro k x hx
  rcases Classical.em (k = q) with e | e
  · subst e
    have hl : k < ws.length := by
      rcases Nat.lt_or_ge k ws.length with h | h
      · exact h
      · rw [List.getElem?_eq_none h] at ha; cases ha
    rw [List.getElem?_set_self hl] at hx
    have hx' : (a, (Sum.inl (cA, n, .inl (fun j => iI (g j))) : va_E)) = x := Option.some.inj hx
    subst hx'
    have h1 : H[a]? = some (vp_cell cA (n, .inl (fun j => iI (f j)))) := hP k _ ha
    show H[a]? = some (vp_cell cA (n, .inl (fun j => iI (g j))))
    rw [h1, vp_cell_i, vp_cell_i]
    unfold arrV
    have e2 : (fun j : Fin n => Value.int (iI (f j))) = (fun j : Fin n => Value.int (iI (g j))) := funext (fun j => by rw [hfg j j.2])
    rw [e2]
  · rw [List.getElem?_set_ne (Ne.symm e)] at hx
    exact hP k x hx
theorem z_nrmD {A : Nat → Prop} {ws : va_W} {a n : Nat} {cA : ClassId} {f g : Nat → Int} (hD : va_D A ws) (q : Nat) (ha : ws[q]? = some (a, .inl (cA, n, .inl (fun j => iI (f j))))) : va_D A (ws.set q (a, .inl (cA, n, .inl (fun j => iI (g j))))) := by
  have hl : q < ws.length := by
    rcases Nat.lt_or_ge q ws.length with h | h
    · exact h
    · rw [List.getElem?_eq_none h] at ha; cases ha
  have key : ∀ (k : Nat) (x : Nat × va_E), (ws.set q (a, .inl (cA, n, .inl (fun j => iI (g j)))))[k]? = some x → ∃ y, ws[k]? = some y ∧ y.1 = x.1 := by
    intro k x hx
    rcases Classical.em (k = q) with e | e
    · subst e
      rw [List.getElem?_set_self hl] at hx
      have hx' := Option.some.inj hx
      exact ⟨_, ha, by rw [← hx']⟩
    · rw [List.getElem?_set_ne (Ne.symm e)] at hx
      exact ⟨x, hx, rfl⟩
  refine ⟨fun i j x y hx hy hxy => ?_, fun k x hx => ?_⟩
  · obtain ⟨x', hx', ex⟩ := key i x hx
    obtain ⟨y', hy', ey⟩ := key j y hy
    exact hD.1 i j x' y' hx' hy' (by rw [ex, ey]; exact hxy)
  · obtain ⟨x', hx', ex⟩ := key k x hx
    rw [← ex]
    exact hD.2 k x' hx'
theorem cpy_back {f g h : Nat → Int} {n : Nat} : ∀ j, j < n → cpyZ (cpyZ f g 0 0 n) h 0 0 n j = f j := by
  intro j hj
  rw [cpyZ_in (by omega) (by omega), cpyZ_in (by omega) (by omega)]
  congr 1
  omega

