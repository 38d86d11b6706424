/-! .. with a plant of the ring -/
section ZSF
variable {k : Nat → ClassId} {a r o d : Nat → Nat} {F P T B N Hs : Nat → Nat → Int} {G : Nat → Nat → Nat → Int} {I L R J : Nat → Nat → Int} {X : Nat → UInt64} {F' P' T' B' N' Hs' Q' I' L' R' J' : Nat → Nat → Int} {X' : Nat → UInt64}
theorem sel_fphg (i0 : Nat) (hi : i0 < 8) : zSel (wLaw k a r o d F P T B N Hs G I L R J X) (wFac k a F ++ (wPlant k (subA a 1) P ++ (wHist k (subA a 61) Hs ++ wPlant k (subA (subA a 61) (2 + 15 * i0)) (G i0)))) (wLaw k a r o d F' P' T B N Hs' (upG G i0 Q') I L R J X) (wFac k a F' ++ (wPlant k (subA a 1) P' ++ (wHist k (subA a 61) Hs' ++ wPlant k (subA (subA a 61) (2 + 15 * i0)) Q'))) := by
  rcases (show i0 = 0 ∨ i0 = 1 ∨ i0 = 2 ∨ i0 = 3 ∨ i0 = 4 ∨ i0 = 5 ∨ i0 = 6 ∨ i0 = 7 by omega) with h | h | h | h | h | h | h | h
  · subst h
    have h := zSel_q (zQ k a r o d F P T B N Hs G I L R J X (some (wFac k a F')) (some (wPlant k (subA a 1) P')) none none none (some (wHist k (subA a 61) Hs')) (some (wPlant k (subA (subA a 61) (2 + 15 * 0)) Q')) none none none none none none none none none none none none) (And.intro rfl (And.intro rfl (And.intro rfl (And.intro rfl True.intro))))
    simp only [zQ, zOld, zIn, zNew, zOut, List.append_nil] at h
    exact h
  · subst h
    have h := zSel_q (zQ k a r o d F P T B N Hs G I L R J X (some (wFac k a F')) (some (wPlant k (subA a 1) P')) none none none (some (wHist k (subA a 61) Hs')) none (some (wPlant k (subA (subA a 61) (2 + 15 * 1)) Q')) none none none none none none none none none none none) (And.intro rfl (And.intro rfl (And.intro rfl (And.intro rfl True.intro))))
    simp only [zQ, zOld, zIn, zNew, zOut, List.append_nil] at h
    exact h
  · subst h
    have h := zSel_q (zQ k a r o d F P T B N Hs G I L R J X (some (wFac k a F')) (some (wPlant k (subA a 1) P')) none none none (some (wHist k (subA a 61) Hs')) none none (some (wPlant k (subA (subA a 61) (2 + 15 * 2)) Q')) none none none none none none none none none none) (And.intro rfl (And.intro rfl (And.intro rfl (And.intro rfl True.intro))))
    simp only [zQ, zOld, zIn, zNew, zOut, List.append_nil] at h
    exact h
  · subst h
    have h := zSel_q (zQ k a r o d F P T B N Hs G I L R J X (some (wFac k a F')) (some (wPlant k (subA a 1) P')) none none none (some (wHist k (subA a 61) Hs')) none none none (some (wPlant k (subA (subA a 61) (2 + 15 * 3)) Q')) none none none none none none none none none) (And.intro rfl (And.intro rfl (And.intro rfl (And.intro rfl True.intro))))
    simp only [zQ, zOld, zIn, zNew, zOut, List.append_nil] at h
    exact h
  · subst h
    have h := zSel_q (zQ k a r o d F P T B N Hs G I L R J X (some (wFac k a F')) (some (wPlant k (subA a 1) P')) none none none (some (wHist k (subA a 61) Hs')) none none none none (some (wPlant k (subA (subA a 61) (2 + 15 * 4)) Q')) none none none none none none none none) (And.intro rfl (And.intro rfl (And.intro rfl (And.intro rfl True.intro))))
    simp only [zQ, zOld, zIn, zNew, zOut, List.append_nil] at h
    exact h
  · subst h
    have h := zSel_q (zQ k a r o d F P T B N Hs G I L R J X (some (wFac k a F')) (some (wPlant k (subA a 1) P')) none none none (some (wHist k (subA a 61) Hs')) none none none none none (some (wPlant k (subA (subA a 61) (2 + 15 * 5)) Q')) none none none none none none none) (And.intro rfl (And.intro rfl (And.intro rfl (And.intro rfl True.intro))))
    simp only [zQ, zOld, zIn, zNew, zOut, List.append_nil] at h
    exact h
  · subst h
    have h := zSel_q (zQ k a r o d F P T B N Hs G I L R J X (some (wFac k a F')) (some (wPlant k (subA a 1) P')) none none none (some (wHist k (subA a 61) Hs')) none none none none none none (some (wPlant k (subA (subA a 61) (2 + 15 * 6)) Q')) none none none none none none) (And.intro rfl (And.intro rfl (And.intro rfl (And.intro rfl True.intro))))
    simp only [zQ, zOld, zIn, zNew, zOut, List.append_nil] at h
    exact h
  · subst h
    have h := zSel_q (zQ k a r o d F P T B N Hs G I L R J X (some (wFac k a F')) (some (wPlant k (subA a 1) P')) none none none (some (wHist k (subA a 61) Hs')) none none none none none none none (some (wPlant k (subA (subA a 61) (2 + 15 * 7)) Q')) none none none none none) (And.intro rfl (And.intro rfl (And.intro rfl (And.intro rfl True.intro))))
    simp only [zQ, zOld, zIn, zNew, zOut, List.append_nil] at h
    exact h
theorem sel_fphgj (i0 : Nat) (hi : i0 < 8) : zSel (wLaw k a r o d F P T B N Hs G I L R J X) (wFac k a F ++ (wPlant k (subA a 1) P ++ (wHist k (subA a 61) Hs ++ (wPlant k (subA (subA a 61) (2 + 15 * i0)) (G i0) ++ wArrJ k o J)))) (wLaw k a r o d F' P' T B N Hs' (upG G i0 Q') I L R J' X) (wFac k a F' ++ (wPlant k (subA a 1) P' ++ (wHist k (subA a 61) Hs' ++ (wPlant k (subA (subA a 61) (2 + 15 * i0)) Q' ++ wArrJ k o J')))) := by
  rcases (show i0 = 0 ∨ i0 = 1 ∨ i0 = 2 ∨ i0 = 3 ∨ i0 = 4 ∨ i0 = 5 ∨ i0 = 6 ∨ i0 = 7 by omega) with h | h | h | h | h | h | h | h
  · subst h
    have h := zSel_q (zQ k a r o d F P T B N Hs G I L R J X (some (wFac k a F')) (some (wPlant k (subA a 1) P')) none none none (some (wHist k (subA a 61) Hs')) (some (wPlant k (subA (subA a 61) (2 + 15 * 0)) Q')) none none none none none none none none none none (some (wArrJ k o J')) none) (And.intro rfl (And.intro rfl (And.intro rfl (And.intro rfl (And.intro fst_J True.intro)))))
    simp only [zQ, zOld, zIn, zNew, zOut, List.append_nil] at h
    exact h
  · subst h
    have h := zSel_q (zQ k a r o d F P T B N Hs G I L R J X (some (wFac k a F')) (some (wPlant k (subA a 1) P')) none none none (some (wHist k (subA a 61) Hs')) none (some (wPlant k (subA (subA a 61) (2 + 15 * 1)) Q')) none none none none none none none none none (some (wArrJ k o J')) none) (And.intro rfl (And.intro rfl (And.intro rfl (And.intro rfl (And.intro fst_J True.intro)))))
    simp only [zQ, zOld, zIn, zNew, zOut, List.append_nil] at h
    exact h
  · subst h
    have h := zSel_q (zQ k a r o d F P T B N Hs G I L R J X (some (wFac k a F')) (some (wPlant k (subA a 1) P')) none none none (some (wHist k (subA a 61) Hs')) none none (some (wPlant k (subA (subA a 61) (2 + 15 * 2)) Q')) none none none none none none none none (some (wArrJ k o J')) none) (And.intro rfl (And.intro rfl (And.intro rfl (And.intro rfl (And.intro fst_J True.intro)))))
    simp only [zQ, zOld, zIn, zNew, zOut, List.append_nil] at h
    exact h
  · subst h
    have h := zSel_q (zQ k a r o d F P T B N Hs G I L R J X (some (wFac k a F')) (some (wPlant k (subA a 1) P')) none none none (some (wHist k (subA a 61) Hs')) none none none (some (wPlant k (subA (subA a 61) (2 + 15 * 3)) Q')) none none none none none none none (some (wArrJ k o J')) none) (And.intro rfl (And.intro rfl (And.intro rfl (And.intro rfl (And.intro fst_J True.intro)))))
    simp only [zQ, zOld, zIn, zNew, zOut, List.append_nil] at h
    exact h
  · subst h
    have h := zSel_q (zQ k a r o d F P T B N Hs G I L R J X (some (wFac k a F')) (some (wPlant k (subA a 1) P')) none none none (some (wHist k (subA a 61) Hs')) none none none none (some (wPlant k (subA (subA a 61) (2 + 15 * 4)) Q')) none none none none none none (some (wArrJ k o J')) none) (And.intro rfl (And.intro rfl (And.intro rfl (And.intro rfl (And.intro fst_J True.intro)))))
    simp only [zQ, zOld, zIn, zNew, zOut, List.append_nil] at h
    exact h
  · subst h
    have h := zSel_q (zQ k a r o d F P T B N Hs G I L R J X (some (wFac k a F')) (some (wPlant k (subA a 1) P')) none none none (some (wHist k (subA a 61) Hs')) none none none none none (some (wPlant k (subA (subA a 61) (2 + 15 * 5)) Q')) none none none none none (some (wArrJ k o J')) none) (And.intro rfl (And.intro rfl (And.intro rfl (And.intro rfl (And.intro fst_J True.intro)))))
    simp only [zQ, zOld, zIn, zNew, zOut, List.append_nil] at h
    exact h
  · subst h
    have h := zSel_q (zQ k a r o d F P T B N Hs G I L R J X (some (wFac k a F')) (some (wPlant k (subA a 1) P')) none none none (some (wHist k (subA a 61) Hs')) none none none none none none (some (wPlant k (subA (subA a 61) (2 + 15 * 6)) Q')) none none none none (some (wArrJ k o J')) none) (And.intro rfl (And.intro rfl (And.intro rfl (And.intro rfl (And.intro fst_J True.intro)))))
    simp only [zQ, zOld, zIn, zNew, zOut, List.append_nil] at h
    exact h
  · subst h
    have h := zSel_q (zQ k a r o d F P T B N Hs G I L R J X (some (wFac k a F')) (some (wPlant k (subA a 1) P')) none none none (some (wHist k (subA a 61) Hs')) none none none none none none none (some (wPlant k (subA (subA a 61) (2 + 15 * 7)) Q')) none none none (some (wArrJ k o J')) none) (And.intro rfl (And.intro rfl (And.intro rfl (And.intro rfl (And.intro fst_J True.intro)))))
    simp only [zQ, zOld, zIn, zNew, zOut, List.append_nil] at h
    exact h
theorem sel_fpbhgij (i0 : Nat) (hi : i0 < 8) : zSel (wLaw k a r o d F P T B N Hs G I L R J X) (wFac k a F ++ (wPlant k (subA a 1) P ++ (wPlant k (subA a 31) B ++ (wHist k (subA a 61) Hs ++ (wPlant k (subA (subA a 61) (2 + 15 * i0)) (G i0) ++ (wInput k (subA a 183) I ++ wArrJ k o J)))))) (wLaw k a r o d F' P' T B' N Hs' (upG G i0 Q') I' L R J' X) (wFac k a F' ++ (wPlant k (subA a 1) P' ++ (wPlant k (subA a 31) B' ++ (wHist k (subA a 61) Hs' ++ (wPlant k (subA (subA a 61) (2 + 15 * i0)) Q' ++ (wInput k (subA a 183) I' ++ wArrJ k o J')))))) := by
  rcases (show i0 = 0 ∨ i0 = 1 ∨ i0 = 2 ∨ i0 = 3 ∨ i0 = 4 ∨ i0 = 5 ∨ i0 = 6 ∨ i0 = 7 by omega) with h | h | h | h | h | h | h | h
  · subst h
    have h := zSel_q (zQ k a r o d F P T B N Hs G I L R J X (some (wFac k a F')) (some (wPlant k (subA a 1) P')) none (some (wPlant k (subA a 31) B')) none (some (wHist k (subA a 61) Hs')) (some (wPlant k (subA (subA a 61) (2 + 15 * 0)) Q')) none none none none none none none (some (wInput k (subA a 183) I')) none none (some (wArrJ k o J')) none) (And.intro rfl (And.intro rfl (And.intro rfl (And.intro rfl (And.intro rfl (And.intro rfl (And.intro fst_J True.intro)))))))
    simp only [zQ, zOld, zIn, zNew, zOut, List.append_nil] at h
    exact h
  · subst h
    have h := zSel_q (zQ k a r o d F P T B N Hs G I L R J X (some (wFac k a F')) (some (wPlant k (subA a 1) P')) none (some (wPlant k (subA a 31) B')) none (some (wHist k (subA a 61) Hs')) none (some (wPlant k (subA (subA a 61) (2 + 15 * 1)) Q')) none none none none none none (some (wInput k (subA a 183) I')) none none (some (wArrJ k o J')) none) (And.intro rfl (And.intro rfl (And.intro rfl (And.intro rfl (And.intro rfl (And.intro rfl (And.intro fst_J True.intro)))))))
    simp only [zQ, zOld, zIn, zNew, zOut, List.append_nil] at h
    exact h
  · subst h
    have h := zSel_q (zQ k a r o d F P T B N Hs G I L R J X (some (wFac k a F')) (some (wPlant k (subA a 1) P')) none (some (wPlant k (subA a 31) B')) none (some (wHist k (subA a 61) Hs')) none none (some (wPlant k (subA (subA a 61) (2 + 15 * 2)) Q')) none none none none none (some (wInput k (subA a 183) I')) none none (some (wArrJ k o J')) none) (And.intro rfl (And.intro rfl (And.intro rfl (And.intro rfl (And.intro rfl (And.intro rfl (And.intro fst_J True.intro)))))))
    simp only [zQ, zOld, zIn, zNew, zOut, List.append_nil] at h
    exact h
  · subst h
    have h := zSel_q (zQ k a r o d F P T B N Hs G I L R J X (some (wFac k a F')) (some (wPlant k (subA a 1) P')) none (some (wPlant k (subA a 31) B')) none (some (wHist k (subA a 61) Hs')) none none none (some (wPlant k (subA (subA a 61) (2 + 15 * 3)) Q')) none none none none (some (wInput k (subA a 183) I')) none none (some (wArrJ k o J')) none) (And.intro rfl (And.intro rfl (And.intro rfl (And.intro rfl (And.intro rfl (And.intro rfl (And.intro fst_J True.intro)))))))
    simp only [zQ, zOld, zIn, zNew, zOut, List.append_nil] at h
    exact h
  · subst h
    have h := zSel_q (zQ k a r o d F P T B N Hs G I L R J X (some (wFac k a F')) (some (wPlant k (subA a 1) P')) none (some (wPlant k (subA a 31) B')) none (some (wHist k (subA a 61) Hs')) none none none none (some (wPlant k (subA (subA a 61) (2 + 15 * 4)) Q')) none none none (some (wInput k (subA a 183) I')) none none (some (wArrJ k o J')) none) (And.intro rfl (And.intro rfl (And.intro rfl (And.intro rfl (And.intro rfl (And.intro rfl (And.intro fst_J True.intro)))))))
    simp only [zQ, zOld, zIn, zNew, zOut, List.append_nil] at h
    exact h
  · subst h
    have h := zSel_q (zQ k a r o d F P T B N Hs G I L R J X (some (wFac k a F')) (some (wPlant k (subA a 1) P')) none (some (wPlant k (subA a 31) B')) none (some (wHist k (subA a 61) Hs')) none none none none none (some (wPlant k (subA (subA a 61) (2 + 15 * 5)) Q')) none none (some (wInput k (subA a 183) I')) none none (some (wArrJ k o J')) none) (And.intro rfl (And.intro rfl (And.intro rfl (And.intro rfl (And.intro rfl (And.intro rfl (And.intro fst_J True.intro)))))))
    simp only [zQ, zOld, zIn, zNew, zOut, List.append_nil] at h
    exact h
  · subst h
    have h := zSel_q (zQ k a r o d F P T B N Hs G I L R J X (some (wFac k a F')) (some (wPlant k (subA a 1) P')) none (some (wPlant k (subA a 31) B')) none (some (wHist k (subA a 61) Hs')) none none none none none none (some (wPlant k (subA (subA a 61) (2 + 15 * 6)) Q')) none (some (wInput k (subA a 183) I')) none none (some (wArrJ k o J')) none) (And.intro rfl (And.intro rfl (And.intro rfl (And.intro rfl (And.intro rfl (And.intro rfl (And.intro fst_J True.intro)))))))
    simp only [zQ, zOld, zIn, zNew, zOut, List.append_nil] at h
    exact h
  · subst h
    have h := zSel_q (zQ k a r o d F P T B N Hs G I L R J X (some (wFac k a F')) (some (wPlant k (subA a 1) P')) none (some (wPlant k (subA a 31) B')) none (some (wHist k (subA a 61) Hs')) none none none none none none none (some (wPlant k (subA (subA a 61) (2 + 15 * 7)) Q')) (some (wInput k (subA a 183) I')) none none (some (wArrJ k o J')) none) (And.intro rfl (And.intro rfl (And.intro rfl (And.intro rfl (And.intro rfl (And.intro rfl (And.intro fst_J True.intro)))))))
    simp only [zQ, zOld, zIn, zNew, zOut, List.append_nil] at h
    exact h
end ZSF
