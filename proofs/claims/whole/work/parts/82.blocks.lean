/-! a world in blocks, some of them handed to a call -/
def zOld : List (va_W × Option va_W) → va_W
  | [] => []
  | (b, _) :: q => b ++ zOld q
def zNew : List (va_W × Option va_W) → va_W
  | [] => []
  | (b, none) :: q => b ++ zNew q
  | (_, some c) :: q => c ++ zNew q
def zIn : List (va_W × Option va_W) → va_W
  | [] => []
  | (_, none) :: q => zIn q
  | (b, some _) :: q => b ++ zIn q
def zOut : List (va_W × Option va_W) → va_W
  | [] => []
  | (_, none) :: q => zOut q
  | (_, some c) :: q => c ++ zOut q
def zIx : Nat → List (va_W × Option va_W) → List Nat
  | _, [] => []
  | o, (b, none) :: q => zIx (o + b.length) q
  | o, (b, some _) :: q => zrg o b.length ++ zIx (o + b.length) q
def zFs : List (va_W × Option va_W) → Prop
  | [] => True
  | (_, none) :: q => zFs q
  | (b, some c) :: q => c.map Prod.fst = b.map Prod.fst ∧ zFs q
theorem zIx_in : ∀ (q : List (va_W × Option va_W)) (pre : va_W), (zIx pre.length q).map (fun i => (pre ++ zOld q)[i]?) = (zIn q).map some := by
  intro q
  induction q with
  | nil => intro pre; rfl
  | cons x q ih =>
    intro pre
    obtain ⟨b, c⟩ := x
    have h := ih (pre ++ b)
    rw [List.length_append, List.append_assoc] at h
    cases c with
    | none => exact h
    | some c => exact z_mcat (z_sk (a := pre) (n := pre.length) (off := 0) (m := b.length) rfl (z_hd (n := b.length) rfl)) h
theorem zIx_set : ∀ (q : List (va_W × Option va_W)) (pre : va_W), zFs q → zset (pre ++ zOld q) (zIx pre.length q) (zOut q) = pre ++ zNew q := by
  intro q
  induction q with
  | nil => intro pre _; simp [zIx, zOut, zOld, zNew, zset]
  | cons x q ih =>
    intro pre hf
    obtain ⟨b, c⟩ := x
    cases c with
    | none =>
      have h := ih (pre ++ b) hf
      rw [List.length_append, List.append_assoc, List.append_assoc] at h
      exact h
    | some c =>
      obtain ⟨hc, hf⟩ := hf
      have hl : c.length = b.length := by
        have e := congrArg List.length hc
        simpa using e
      have h := ih (pre ++ c) hf
      rw [List.length_append, List.append_assoc, List.append_assoc, hl] at h
      exact z_zcat (ws1 := pre ++ (c ++ zOld q)) (by rw [zrg_len]; exact hl.symm) (z_zsk (a := pre) (n := pre.length) (off := 0) (m := b.length) rfl (z_zhd (n := b.length) rfl hl)) h
theorem va_nd_app : ∀ (l1 l2 : List Nat), va_nd l1 = true → va_nd l2 = true → (∀ i ∈ l1, i ∉ l2) → va_nd (l1 ++ l2) = true := by
  intro l1
  induction l1 with
  | nil => intro l2 _ h _; exact h
  | cons x l1 ih =>
    intro l2 h1 h2 hd
    have h1 : (decide (x ∉ l1) && va_nd l1) = true := h1
    rw [Bool.and_eq_true, decide_eq_true_eq] at h1
    show (decide (x ∉ l1 ++ l2) && va_nd (l1 ++ l2)) = true
    rw [Bool.and_eq_true, decide_eq_true_eq]
    refine ⟨fun hm => ?_, ih l2 h1.2 h2 (fun i hi => hd i (List.mem_cons_of_mem _ hi))⟩
    rcases List.mem_append.mp hm with hm | hm
    · exact h1.1 hm
    · exact hd x List.mem_cons_self hm
theorem zIx_nd : ∀ (q : List (va_W × Option va_W)) (o : Nat), (∀ i ∈ zIx o q, o ≤ i) ∧ va_nd (zIx o q) = true := by
  intro q
  induction q with
  | nil => intro o; exact ⟨fun i hi => (by cases hi), rfl⟩
  | cons x q ih =>
    intro o
    obtain ⟨b, c⟩ := x
    have h := ih (o + b.length)
    cases c with
    | none => exact ⟨fun i hi => Nat.le_trans (Nat.le_add_right o b.length) (h.1 i hi), h.2⟩
    | some c =>
      have r := z_rgR b.length o
      refine ⟨fun i hi => ?_, va_nd_app _ _ r.2 h.2 (fun i hi hj => ?_)⟩
      · rcases List.mem_append.mp (show i ∈ zrg o b.length ++ zIx (o + b.length) q from hi) with hi | hi
        · exact (r.1 i hi).1
        · exact Nat.le_trans (Nat.le_add_right o b.length) (h.1 i hi)
      · have a1 := (r.1 i hi).2
        have a2 := h.1 i hj
        omega
theorem zFs_fst : ∀ q : List (va_W × Option va_W), zFs q → (zOut q).map Prod.fst = (zIn q).map Prod.fst := by
  intro q
  induction q with
  | nil => intro _; rfl
  | cons x q ih =>
    intro hf
    obtain ⟨b, c⟩ := x
    cases c with
    | none => exact ih hf
    | some c => exact z_mfst hf.1 (ih hf.2)
/-- the cells wc of the world W, handed out; come back as wc', they make it W' -/
def zSel (W wc W' wc' : va_W) : Prop := ∃ is : List Nat, is.map (fun i => W[i]?) = wc.map some ∧ va_nd is = true ∧ wc'.map Prod.fst = wc.map Prod.fst ∧ zset W is wc' = W'
theorem zSel_q (q : List (va_W × Option va_W)) (h : zFs q) : zSel (zOld q) (zIn q) (zNew q) (zOut q) := ⟨zIx 0 q, zIx_in q [], (zIx_nd q 0).2, zFs_fst q h, zIx_set q [] h⟩
/-- the law's row of one double -/
abbrev wArrD (k : Nat → ClassId) (d : Nat → Nat) (X : Nat → UInt64) : va_W := [(d 0, .inl (k 5, 1, .inr (.inr (.inr (.inl X)))))]
/-- all that the law's run works on -/
def wLaw (k : Nat → ClassId) (a r o d : Nat → Nat) (F P T B N Hs : Nat → Nat → Int) (G : Nat → Nat → Nat → Int) (I L R J : Nat → Nat → Int) (X : Nat → UInt64) : va_W :=
  wFac k a F ++ (wPlant k (subA a 1) P ++ (wPlant k (subA a 16) T ++ (wPlant k (subA a 31) B ++ (wPlant k (subA a 46) N ++ (wHist k (subA a 61) Hs ++ (wPlant k (subA (subA a 61) 2) (G 0) ++ (wPlant k (subA (subA a 61) 17) (G 1) ++ (wPlant k (subA (subA a 61) 32) (G 2) ++ (wPlant k (subA (subA a 61) 47) (G 3) ++ (wPlant k (subA (subA a 61) 62) (G 4) ++ (wPlant k (subA (subA a 61) 77) (G 5) ++ (wPlant k (subA (subA a 61) 92) (G 6) ++ (wPlant k (subA (subA a 61) 107) (G 7) ++ (wInput k (subA a 183) I ++ (wLine k (subA a 185) L ++ (wRef k r R ++ (wArrJ k o J ++ wArrD k d X)))))))))))))))))
theorem wLaw_all {k : Nat → ClassId} {a r o d : Nat → Nat} {F P T B N Hs : Nat → Nat → Int} {G : Nat → Nat → Nat → Int} {I L R J : Nat → Nat → Int} {X : Nat → UInt64} : wAll k a F P T B N Hs G I L ++ (wRef k r R ++ (wArrJ k o J ++ wArrD k d X)) = wLaw k a r o d F P T B N Hs G I L R J X := by
  unfold wAll wRing wLaw
  simp only [List.append_assoc]
def zQ (k : Nat → ClassId) (a r o d : Nat → Nat) (F P T B N Hs : Nat → Nat → Int) (G : Nat → Nat → Nat → Int) (I L R J : Nat → Nat → Int) (X : Nat → UInt64) (f p t b n h g0 g1 g2 g3 g4 g5 g6 g7 i l rr j x : Option va_W) : List (va_W × Option va_W) :=
  [(wFac k a F, f), (wPlant k (subA a 1) P, p), (wPlant k (subA a 16) T, t), (wPlant k (subA a 31) B, b), (wPlant k (subA a 46) N, n), (wHist k (subA a 61) Hs, h), (wPlant k (subA (subA a 61) 2) (G 0), g0), (wPlant k (subA (subA a 61) 17) (G 1), g1), (wPlant k (subA (subA a 61) 32) (G 2), g2), (wPlant k (subA (subA a 61) 47) (G 3), g3), (wPlant k (subA (subA a 61) 62) (G 4), g4), (wPlant k (subA (subA a 61) 77) (G 5), g5), (wPlant k (subA (subA a 61) 92) (G 6), g6), (wPlant k (subA (subA a 61) 107) (G 7), g7), (wInput k (subA a 183) I, i), (wLine k (subA a 185) L, l), (wRef k r R, rr), (wArrJ k o J, j), (wArrD k d X, x)]
section ZSE
variable {k : Nat → ClassId} {a r o d : Nat → Nat} {F P T B N Hs : Nat → Nat → Int} {G : Nat → Nat → Nat → Int} {I L R J : Nat → Nat → Int} {X : Nat → UInt64} {F' P' T' B' N' Hs' Q' I' L' R' J' : Nat → Nat → Int} {X' : Nat → UInt64}
theorem fst_J : (wArrJ k o J').map Prod.fst = (wArrJ k o J).map Prod.fst := show [o 0] = [o 0] from rfl
theorem sel_r : zSel (wLaw k a r o d F P T B N Hs G I L R J X) (wRef k r R) (wLaw k a r o d F P T B N Hs G I L R' J X) (wRef k r R') := by
  have h := zSel_q (zQ k a r o d F P T B N Hs G I L R J X none none none none none none none none none none none none none none none none (some (wRef k r R')) none none) (And.intro rfl True.intro)
  simp only [zQ, zOld, zIn, zNew, zOut, List.append_nil] at h
  exact h
theorem sel_f : zSel (wLaw k a r o d F P T B N Hs G I L R J X) (wFac k a F) (wLaw k a r o d F' P T B N Hs G I L R J X) (wFac k a F') := by
  have h := zSel_q (zQ k a r o d F P T B N Hs G I L R J X (some (wFac k a F')) none none none none none none none none none none none none none none none none none none) (And.intro rfl True.intro)
  simp only [zQ, zOld, zIn, zNew, zOut, List.append_nil] at h
  exact h
theorem sel_fj : zSel (wLaw k a r o d F P T B N Hs G I L R J X) (wFac k a F ++ wArrJ k o J) (wLaw k a r o d F' P T B N Hs G I L R J' X) (wFac k a F' ++ wArrJ k o J') := by
  have h := zSel_q (zQ k a r o d F P T B N Hs G I L R J X (some (wFac k a F')) none none none none none none none none none none none none none none none none (some (wArrJ k o J')) none) (And.intro rfl (And.intro fst_J True.intro))
  simp only [zQ, zOld, zIn, zNew, zOut, List.append_nil] at h
  exact h
theorem sel_fp : zSel (wLaw k a r o d F P T B N Hs G I L R J X) (wFac k a F ++ wPlant k (subA a 1) P) (wLaw k a r o d F' P' T B N Hs G I L R J X) (wFac k a F' ++ wPlant k (subA a 1) P') := by
  have h := zSel_q (zQ k a r o d F P T B N Hs G I L R J X (some (wFac k a F')) (some (wPlant k (subA a 1) P')) none none none none none none none none none none none none none none none none none) (And.intro rfl (And.intro rfl True.intro))
  simp only [zQ, zOld, zIn, zNew, zOut, List.append_nil] at h
  exact h
theorem sel_fpj : zSel (wLaw k a r o d F P T B N Hs G I L R J X) (wFac k a F ++ (wPlant k (subA a 1) P ++ wArrJ k o J)) (wLaw k a r o d F' P' T B N Hs G I L R J' X) (wFac k a F' ++ (wPlant k (subA a 1) P' ++ wArrJ k o J')) := by
  have h := zSel_q (zQ k a r o d F P T B N Hs G I L R J X (some (wFac k a F')) (some (wPlant k (subA a 1) P')) none none none none none none none none none none none none none none none (some (wArrJ k o J')) none) (And.intro rfl (And.intro rfl (And.intro fst_J True.intro)))
  simp only [zQ, zOld, zIn, zNew, zOut, List.append_nil] at h
  exact h
theorem sel_fpx : zSel (wLaw k a r o d F P T B N Hs G I L R J X) (wFac k a F ++ (wPlant k (subA a 1) P ++ wArrD k d X)) (wLaw k a r o d F' P' T B N Hs G I L R J X') (wFac k a F' ++ (wPlant k (subA a 1) P' ++ wArrD k d X')) := by
  have h := zSel_q (zQ k a r o d F P T B N Hs G I L R J X (some (wFac k a F')) (some (wPlant k (subA a 1) P')) none none none none none none none none none none none none none none none none (some (wArrD k d X'))) (And.intro rfl (And.intro rfl (And.intro rfl True.intro)))
  simp only [zQ, zOld, zIn, zNew, zOut, List.append_nil] at h
  exact h
theorem sel_fpt : zSel (wLaw k a r o d F P T B N Hs G I L R J X) (wFac k a F ++ (wPlant k (subA a 1) P ++ wPlant k (subA a 16) T)) (wLaw k a r o d F' P' T' B N Hs G I L R J X) (wFac k a F' ++ (wPlant k (subA a 1) P' ++ wPlant k (subA a 16) T')) := by
  have h := zSel_q (zQ k a r o d F P T B N Hs G I L R J X (some (wFac k a F')) (some (wPlant k (subA a 1) P')) (some (wPlant k (subA a 16) T')) none none none none none none none none none none none none none none none none) (And.intro rfl (And.intro rfl (And.intro rfl True.intro)))
  simp only [zQ, zOld, zIn, zNew, zOut, List.append_nil] at h
  exact h
theorem sel_fptj : zSel (wLaw k a r o d F P T B N Hs G I L R J X) (wFac k a F ++ (wPlant k (subA a 1) P ++ (wPlant k (subA a 16) T ++ wArrJ k o J))) (wLaw k a r o d F' P' T' B N Hs G I L R J' X) (wFac k a F' ++ (wPlant k (subA a 1) P' ++ (wPlant k (subA a 16) T' ++ wArrJ k o J'))) := by
  have h := zSel_q (zQ k a r o d F P T B N Hs G I L R J X (some (wFac k a F')) (some (wPlant k (subA a 1) P')) (some (wPlant k (subA a 16) T')) none none none none none none none none none none none none none none (some (wArrJ k o J')) none) (And.intro rfl (And.intro rfl (And.intro rfl (And.intro fst_J True.intro))))
  simp only [zQ, zOld, zIn, zNew, zOut, List.append_nil] at h
  exact h
theorem sel_fpn : zSel (wLaw k a r o d F P T B N Hs G I L R J X) (wFac k a F ++ (wPlant k (subA a 1) P ++ wPlant k (subA a 46) N)) (wLaw k a r o d F' P' T B N' Hs G I L R J X) (wFac k a F' ++ (wPlant k (subA a 1) P' ++ wPlant k (subA a 46) N')) := by
  have h := zSel_q (zQ k a r o d F P T B N Hs G I L R J X (some (wFac k a F')) (some (wPlant k (subA a 1) P')) none none (some (wPlant k (subA a 46) N')) none none none none none none none none none none none none none none) (And.intro rfl (And.intro rfl (And.intro rfl True.intro)))
  simp only [zQ, zOld, zIn, zNew, zOut, List.append_nil] at h
  exact h
theorem sel_fpl : zSel (wLaw k a r o d F P T B N Hs G I L R J X) (wFac k a F ++ (wPlant k (subA a 1) P ++ wLine k (subA a 185) L)) (wLaw k a r o d F' P' T B N Hs G I L' R J X) (wFac k a F' ++ (wPlant k (subA a 1) P' ++ wLine k (subA a 185) L')) := by
  have h := zSel_q (zQ k a r o d F P T B N Hs G I L R J X (some (wFac k a F')) (some (wPlant k (subA a 1) P')) none none none none none none none none none none none none none (some (wLine k (subA a 185) L')) none none none) (And.intro rfl (And.intro rfl (And.intro rfl True.intro)))
  simp only [zQ, zOld, zIn, zNew, zOut, List.append_nil] at h
  exact h
theorem sel_fplj : zSel (wLaw k a r o d F P T B N Hs G I L R J X) (wFac k a F ++ (wPlant k (subA a 1) P ++ (wLine k (subA a 185) L ++ wArrJ k o J))) (wLaw k a r o d F' P' T B N Hs G I L' R J' X) (wFac k a F' ++ (wPlant k (subA a 1) P' ++ (wLine k (subA a 185) L' ++ wArrJ k o J'))) := by
  have h := zSel_q (zQ k a r o d F P T B N Hs G I L R J X (some (wFac k a F')) (some (wPlant k (subA a 1) P')) none none none none none none none none none none none none none (some (wLine k (subA a 185) L')) none (some (wArrJ k o J')) none) (And.intro rfl (And.intro rfl (And.intro rfl (And.intro fst_J True.intro))))
  simp only [zQ, zOld, zIn, zNew, zOut, List.append_nil] at h
  exact h
theorem sel_flj : zSel (wLaw k a r o d F P T B N Hs G I L R J X) (wFac k a F ++ (wLine k (subA a 185) L ++ wArrJ k o J)) (wLaw k a r o d F' P T B N Hs G I L' R J' X) (wFac k a F' ++ (wLine k (subA a 185) L' ++ wArrJ k o J')) := by
  have h := zSel_q (zQ k a r o d F P T B N Hs G I L R J X (some (wFac k a F')) none none none none none none none none none none none none none none (some (wLine k (subA a 185) L')) none (some (wArrJ k o J')) none) (And.intro rfl (And.intro rfl (And.intro fst_J True.intro)))
  simp only [zQ, zOld, zIn, zNew, zOut, List.append_nil] at h
  exact h
theorem sel_fij : zSel (wLaw k a r o d F P T B N Hs G I L R J X) (wFac k a F ++ (wInput k (subA a 183) I ++ wArrJ k o J)) (wLaw k a r o d F' P T B N Hs G I' L R J' X) (wFac k a F' ++ (wInput k (subA a 183) I' ++ wArrJ k o J')) := by
  have h := zSel_q (zQ k a r o d F P T B N Hs G I L R J X (some (wFac k a F')) none none none none none none none none none none none none none (some (wInput k (subA a 183) I')) none none (some (wArrJ k o J')) none) (And.intro rfl (And.intro rfl (And.intro fst_J True.intro)))
  simp only [zQ, zOld, zIn, zNew, zOut, List.append_nil] at h
  exact h
theorem sel_fhj : zSel (wLaw k a r o d F P T B N Hs G I L R J X) (wFac k a F ++ (wHist k (subA a 61) Hs ++ wArrJ k o J)) (wLaw k a r o d F' P T B N Hs' G I L R J' X) (wFac k a F' ++ (wHist k (subA a 61) Hs' ++ wArrJ k o J')) := by
  have h := zSel_q (zQ k a r o d F P T B N Hs G I L R J X (some (wFac k a F')) none none none none (some (wHist k (subA a 61) Hs')) none none none none none none none none none none none (some (wArrJ k o J')) none) (And.intro rfl (And.intro rfl (And.intro fst_J True.intro)))
  simp only [zQ, zOld, zIn, zNew, zOut, List.append_nil] at h
  exact h
theorem sel_fpnhj : zSel (wLaw k a r o d F P T B N Hs G I L R J X) (wFac k a F ++ (wPlant k (subA a 1) P ++ (wPlant k (subA a 46) N ++ (wHist k (subA a 61) Hs ++ wArrJ k o J)))) (wLaw k a r o d F' P' T B N' Hs' G I L R J' X) (wFac k a F' ++ (wPlant k (subA a 1) P' ++ (wPlant k (subA a 46) N' ++ (wHist k (subA a 61) Hs' ++ wArrJ k o J')))) := by
  have h := zSel_q (zQ k a r o d F P T B N Hs G I L R J X (some (wFac k a F')) (some (wPlant k (subA a 1) P')) none none (some (wPlant k (subA a 46) N')) (some (wHist k (subA a 61) Hs')) none none none none none none none none none none none (some (wArrJ k o J')) none) (And.intro rfl (And.intro rfl (And.intro rfl (And.intro rfl (And.intro fst_J True.intro)))))
  simp only [zQ, zOld, zIn, zNew, zOut, List.append_nil] at h
  exact h
theorem sel_fpbij : zSel (wLaw k a r o d F P T B N Hs G I L R J X) (wFac k a F ++ (wPlant k (subA a 1) P ++ (wPlant k (subA a 31) B ++ (wInput k (subA a 183) I ++ wArrJ k o J)))) (wLaw k a r o d F' P' T B' N Hs G I' L R J' X) (wFac k a F' ++ (wPlant k (subA a 1) P' ++ (wPlant k (subA a 31) B' ++ (wInput k (subA a 183) I' ++ wArrJ k o J')))) := by
  have h := zSel_q (zQ k a r o d F P T B N Hs G I L R J X (some (wFac k a F')) (some (wPlant k (subA a 1) P')) none (some (wPlant k (subA a 31) B')) none none none none none none none none none none (some (wInput k (subA a 183) I')) none none (some (wArrJ k o J')) none) (And.intro rfl (And.intro rfl (And.intro rfl (And.intro rfl (And.intro fst_J True.intro)))))
  simp only [zQ, zOld, zIn, zNew, zOut, List.append_nil] at h
  exact h
end ZSE
