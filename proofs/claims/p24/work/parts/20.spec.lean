/-! rows of nine numbers: elements, as functions that are 0 from 9 on -/
def mx_of (f : Nat → Int) (o : Nat) : Nat → Int := fun k => if k < 9 then f (o + k) else 0
def mx_ok (m : Int) (a : Nat → Int) : Prop := ∀ k, k < 9 → 0 ≤ a k ∧ a k < m
/-- sums of the usual product -/
def mx_ps (a b : Nat → Int) (r c : Nat) : Nat → Int
  | 0 => 0
  | k + 1 => mx_ps a b r c k + a (3 * r + k) * b (3 * k + c)
/-- the usual product -/
def mx_mul (n : Nat) (m : Int) (a b : Nat → Int) : Nat → Int := fun k => if k < 9 ∧ k / 3 < n ∧ k % 3 < n then mx_ps a b (k / 3) (k % 3) n % m else 0
def mx_lin (m : Int) (a : Nat → Int) (x : Int) (b : Nat → Int) (y : Int) : Nat → Int := fun k => if k < 9 then (a k * x + b k * y) % m else 0
theorem mx_of_at {f : Nat → Int} {o k : Nat} (h : k < 9) : mx_of f o k = f (o + k) := if_pos h
theorem mx_of_ext {f g : Nat → Int} {o q : Nat} (h : ∀ k, k < 9 → f (o + k) = g (q + k)) : mx_of f o = mx_of g q := by
  funext k
  unfold mx_of
  by_cases e : k < 9
  · rw [if_pos e, if_pos e, h k e]
  · rw [if_neg e, if_neg e]
theorem mx_pr {m x y : Int} (h : m ≤ 11) (hx : 0 ≤ x ∧ x < m) (hy : 0 ≤ y ∧ y < m) : 0 ≤ x * y ∧ x * y ≤ 100 := by
  refine ⟨Int.mul_nonneg hx.1 hy.1, ?_⟩
  have h1 : x * y ≤ 10 * y := Int.mul_le_mul_of_nonneg_right (by omega) hy.1
  omega
theorem mx_md {m : Int} (h : 3 ≤ m) (x : Int) : 0 ≤ x % m ∧ x % m < m := ⟨Int.emod_nonneg _ (by omega), Int.emod_lt_of_pos _ (by omega)⟩
theorem mx_psb {m : Int} (h : m ≤ 11) {a b : Nat → Int} (ha : mx_ok m a) (hb : mx_ok m b) {r c : Nat} (hr : r < 3) (hc : c < 3) : ∀ k, k ≤ 3 → 0 ≤ mx_ps a b r c k ∧ mx_ps a b r c k ≤ 100 * k
  | 0, _ => by simp [mx_ps]
  | k + 1, hk => by
    have h1 := mx_psb h ha hb hr hc k (by omega)
    have h2 := mx_pr h (ha (3 * r + k) (by omega)) (hb (3 * k + c) (by omega))
    show 0 ≤ mx_ps a b r c k + a (3 * r + k) * b (3 * k + c) ∧ mx_ps a b r c k + a (3 * r + k) * b (3 * k + c) ≤ 100 * ((k + 1 : Nat) : Int)
    omega
theorem mx_mul_ok {n : Nat} {m : Int} (h : 3 ≤ m) (a b : Nat → Int) : mx_ok m (mx_mul n m a b) := by
  intro k hk
  unfold mx_mul
  split
  · exact mx_md h _
  · omega
theorem mx_lin_ok {m : Int} (h : 3 ≤ m) (a b : Nat → Int) (x y : Int) : mx_ok m (mx_lin m a x b y) := by
  intro k hk
  unfold mx_lin
  rw [if_pos hk]
  exact mx_md h _
/-- a block of a cell's numbers written anew -/
def gx_blk (M : gx_M) (c o n : Nat) (f : Nat → Int) : gx_M := fun c' => if c' = c then (fun j => if o ≤ j ∧ j < o + n then f (j - o) else M c j) else M c'
theorem gx_blk_nc {M : gx_M} {c o n c' : Nat} {f : Nat → Int} (h : c' ≠ c) : gx_blk M c o n f c' = M c' := by simp [gx_blk, h]
theorem gx_blk_in {M : gx_M} {c o n k : Nat} {f : Nat → Int} (h : k < n) : gx_blk M c o n f c (o + k) = f k := by
  have : o ≤ o + k ∧ o + k < o + n := by omega
  simp [gx_blk, h]
theorem gx_blk_out {M : gx_M} {c o n j : Nat} {f : Nat → Int} (h : j < o ∨ o + n ≤ j) : gx_blk M c o n f c j = M c j := by
  have : ¬ (o ≤ j ∧ j < o + n) := by omega
  simp [gx_blk, this]
theorem gx_blk_0 {M : gx_M} {c o : Nat} {f : Nat → Int} : gx_blk M c o 0 f = M := by
  funext c' j
  unfold gx_blk
  by_cases e : c' = c
  · subst e
    rw [if_pos rfl]
    exact if_neg (by omega)
  · rw [if_neg e]
theorem gx_blk_s {M : gx_M} {c o n : Nat} {f : Nat → Int} {v : Int} (h : v = f n) : gx_u (gx_blk M c o n f) c (o + n) v = gx_blk M c o (n + 1) f := by
  subst h
  funext c' j
  rw [gx_u_at]
  unfold gx_blk
  by_cases e : c' = c
  · subst e
    by_cases e2 : j = o + n
    · subst e2
      simp
    · by_cases e3 : o ≤ j ∧ j < o + n
      · have : o ≤ j ∧ j < o + (n + 1) := by omega
        simp [e2, e3, this]
      · have : ¬ (o ≤ j ∧ j < o + (n + 1)) := by omega
        simp [e2, e3, this]
  · simp [e]
theorem gx_blk_f {M : gx_M} {c o n : Nat} {f g : Nat → Int} (h : ∀ k, k < n → f k = g k) : gx_blk M c o n f = gx_blk M c o n g := by
  funext c' j
  unfold gx_blk
  by_cases e : c' = c
  · subst e
    by_cases e3 : o ≤ j ∧ j < o + n
    · simp [e3, h (j - o) (by omega)]
    · simp [e3]
  · simp [e]
theorem gx_blk_u {M : gx_M} {c o n k : Nat} {f : Nat → Int} {v : Int} (h : k < n) : gx_u (gx_blk M c o n f) c (o + k) v = gx_blk M c o n (fun i => if i = k then v else f i) := by
  funext c' j
  rw [gx_u_at]
  unfold gx_blk
  by_cases e : c' = c
  · subst e
    by_cases e2 : j = o + k
    · subst e2
      have : o ≤ o + k ∧ o + k < o + n := by omega
      simp [h]
    · by_cases e3 : o ≤ j ∧ j < o + n
      · have : ¬ (j - o = k) := by omega
        simp [e2, e3, this]
      · simp [e2, e3]
  · simp [e]
theorem mx_of_blk {M : gx_M} {c o : Nat} {f : Nat → Int} : mx_of (gx_blk M c o 9 f c) o = fun k => if k < 9 then f k else 0 := by
  funext k
  unfold mx_of
  by_cases e : k < 9
  · rw [if_pos e, if_pos e, gx_blk_in e]
  · rw [if_neg e, if_neg e]
theorem mx_of_blo {M : gx_M} {c o q : Nat} {f : Nat → Int} (h : q + 9 ≤ o ∨ o + 9 ≤ q) : mx_of (gx_blk M c o 9 f c) q = mx_of (M c) q :=
  mx_of_ext (fun k hk => gx_blk_out (by omega))
theorem mx_cut {f : Nat → Int} (h : ∀ k, 9 ≤ k → f k = 0) : (fun k => if k < 9 then f k else 0) = f := by
  funext k
  by_cases e : k < 9
  · rw [if_pos e]
  · rw [if_neg e, h k (by omega)]
theorem mx_mul_9 {n : Nat} {m : Int} {a b : Nat → Int} : ∀ k, 9 ≤ k → mx_mul n m a b k = 0 := fun k hk => if_neg (by omega)
theorem mx_lin_9 {m : Int} {a b : Nat → Int} {x y : Int} : ∀ k, 9 ≤ k → mx_lin m a x b y k = 0 := fun k hk => if_neg (by omega)
theorem mx_sm {x y : Int} (hx : 0 ≤ x ∧ x ≤ 10) (hy : -10 ≤ y ∧ y ≤ 10) : -100 ≤ x * y ∧ x * y ≤ 100 := by
  have h1 : x * y ≤ x * 10 := Int.mul_le_mul_of_nonneg_left hy.2 hx.1
  have h2 : x * (-10) ≤ x * y := Int.mul_le_mul_of_nonneg_left hy.1 hx.1
  omega
theorem mx_all {P : Nat → Prop} {k : Nat} : (∀ j, j < k + 1 → P j) ↔ (∀ j, j < k → P j) ∧ P k :=
  ⟨fun h => ⟨fun j hj => h j (by omega), h k (by omega)⟩, fun h j hj => by
    rcases (show j < k ∨ j = k by omega) with q | q
    · exact h.1 j q
    · rw [q]; exact h.2⟩
theorem mx_9 {f g : Nat → Int} {a b : Nat} (h : ∀ j, j < 9 → mx_of f a j = mx_of g b j) : mx_of f a = mx_of g b := by
  funext k
  by_cases e : k < 9
  · exact h k e
  · unfold mx_of
    rw [if_neg e, if_neg e]
theorem mx_90 {f : Nat → Int} {a : Nat} (h : ∀ j, j < 9 → mx_of f a j = 0) : mx_of f a = fun _ => 0 := by
  funext k
  by_cases e : k < 9
  · exact h k e
  · unfold mx_of
    rw [if_neg e]
