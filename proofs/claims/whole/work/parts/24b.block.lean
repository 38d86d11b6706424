/-! worlds in blocks: a call that takes whole blocks -/
def zrg (o : Nat) : Nat → List Nat
  | 0 => []
  | n + 1 => o :: zrg (o + 1) n
theorem zrg_len : ∀ (n o : Nat), (zrg o n).length = n := by
  intro n
  induction n with
  | zero => intro o; rfl
  | succ n ih => intro o; show (zrg (o + 1) n).length + 1 = n + 1; rw [ih]
theorem zrg_sh {x : Nat × va_E} {w : va_W} : ∀ (n o : Nat), (zrg (o + 1) n).map (fun i => (x :: w)[i]?) = (zrg o n).map (fun i => w[i]?) := by
  intro n
  induction n with
  | zero => intro o; rfl
  | succ n ih =>
    intro o
    show (x :: w)[o + 1]? :: (zrg (o + 1 + 1) n).map (fun i => (x :: w)[i]?) = w[o]? :: (zrg (o + 1) n).map (fun i => w[i]?)
    rw [ih (o + 1), List.getElem?_cons_succ]
theorem z_hd {post : va_W} : ∀ {b : va_W} {n : Nat}, b.length = n → (zrg 0 n).map (fun i => (b ++ post)[i]?) = b.map some := by
  intro b
  induction b with
  | nil => intro n h; subst h; rfl
  | cons x b ih =>
    intro n h
    subst h
    show (some x) :: (zrg (0 + 1) b.length).map (fun i => (x :: (b ++ post))[i]?) = some x :: b.map some
    rw [zrg_sh, ih rfl]
theorem z_hdl {b : va_W} {n : Nat} (h : b.length = n) : (zrg 0 n).map (fun i => b[i]?) = b.map some := by
  have a := z_hd (post := []) h
  rw [List.append_nil] at a
  exact a
theorem z_sk {w : va_W} {X : List (Option (Nat × va_E))} {off m : Nat} : ∀ {a : va_W} {n : Nat}, a.length = n → (zrg off m).map (fun i => w[i]?) = X → (zrg (n + off) m).map (fun i => (a ++ w)[i]?) = X := by
  intro a
  induction a with
  | nil => intro n h g; subst h; rw [show ([] : va_W).length + off = off from Nat.zero_add off]; exact g
  | cons x a ih =>
    intro n h g
    subst h
    rw [show (x :: a).length + off = (a.length + off) + 1 by simp; omega]
    exact (zrg_sh m _).trans (ih rfl g)
theorem z_mcat {f : Nat → Option (Nat × va_E)} {i1 i2 : List Nat} {w1 w2 : va_W} (h1 : i1.map f = w1.map some) (h2 : i2.map f = w2.map some) : (i1 ++ i2).map f = (w1 ++ w2).map some := by rw [List.map_append, List.map_append, h1, h2]
theorem z_mfst {w1 w2 v1 v2 : va_W} (h1 : v1.map Prod.fst = w1.map Prod.fst) (h2 : v2.map Prod.fst = w2.map Prod.fst) : (v1 ++ v2).map Prod.fst = (w1 ++ w2).map Prod.fst := by rw [List.map_append, List.map_append, h1, h2]
theorem zset_sh {x : Nat × va_E} : ∀ (n o : Nat) (w b : va_W), zset (x :: w) (zrg (o + 1) n) b = x :: zset w (zrg o n) b := by
  intro n
  induction n with
  | zero => intro o w b; simp [zrg, zset]
  | succ n ih =>
    intro o w b
    cases b with
    | nil => simp [zrg, zset]
    | cons q b =>
      show zset ((x :: w).set (o + 1) q) (zrg (o + 1 + 1) n) b = x :: zset (w.set o q) (zrg (o + 1) n) b
      rw [show (x :: w).set (o + 1) q = x :: w.set o q from rfl]
      exact ih (o + 1) _ _
theorem z_zhd {post : va_W} : ∀ {b b' : va_W} {n : Nat}, b.length = n → b'.length = n → zset (b ++ post) (zrg 0 n) b' = b' ++ post := by
  intro b
  induction b with
  | nil =>
    intro b' n h h'
    subst h
    cases b' with
    | nil => rfl
    | cons y b' => simp at h'
  | cons x b ih =>
    intro b' n h h'
    subst h
    cases b' with
    | nil => simp at h'
    | cons y b' =>
      show zset (y :: (b ++ post)) (zrg (0 + 1) b.length) b' = y :: (b' ++ post)
      rw [zset_sh, ih rfl (by simpa using h')]
theorem z_zhl {b b' : va_W} {n : Nat} (h : b.length = n) (h' : b'.length = n) : zset b (zrg 0 n) b' = b' := by
  have a := z_zhd (post := []) h h'
  rw [List.append_nil, List.append_nil] at a
  exact a
theorem z_zsk {w w' b' : va_W} {off m : Nat} : ∀ {a : va_W} {n : Nat}, a.length = n → zset w (zrg off m) b' = w' → zset (a ++ w) (zrg (n + off) m) b' = a ++ w' := by
  intro a
  induction a with
  | nil => intro n h g; subst h; rw [show ([] : va_W).length + off = off from Nat.zero_add off]; exact g
  | cons x a ih =>
    intro n h g
    subst h
    rw [show (x :: a).length + off = (a.length + off) + 1 by simp; omega]
    exact (zset_sh m _ (a ++ w) b').trans (congrArg (fun z => x :: z) (ih rfl g))
theorem z_zcat {ws ws1 ws2 : va_W} : ∀ {i1 : List Nat} {w1 : va_W} {i2 : List Nat} {w2 : va_W}, i1.length = w1.length → zset ws i1 w1 = ws1 → zset ws1 i2 w2 = ws2 → zset ws (i1 ++ i2) (w1 ++ w2) = ws2 := by
  intro i1
  induction i1 generalizing ws with
  | nil =>
    intro w1 i2 w2 h h1 h2
    cases w1 with
    | nil =>
      have h1 : ws = ws1 := by simpa [zset] using h1
      rw [h1]; exact h2
    | cons q w1 => simp at h
  | cons i i1 ih =>
    intro w1 i2 w2 h h1 h2
    cases w1 with
    | nil => simp at h
    | cons q w1 => exact ih (by simpa using h) h1 h2

