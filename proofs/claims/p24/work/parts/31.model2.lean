theorem mx_of_mul {M : gx_M} {t n : Nat} {m : Int} {a b : Nat → Int} : mx_of (gx_blk M 6 t 9 (mx_mul n m a b) 6) t = mx_mul n m a b := by rw [mx_of_blk, mx_cut mx_mul_9]
theorem mx_of_lin {M : gx_M} {t : Nat} {m x y : Int} {a b : Nat → Int} : mx_of (gx_blk M 6 t 9 (mx_lin m a x b y) 6) t = mx_lin m a x b y := by rw [mx_of_blk, mx_cut mx_lin_9]
theorem mx_of_of {M : gx_M} {t q : Nat} {f : Nat → Int} : mx_of (gx_blk M 6 t 9 (mx_of f q) 6) t = mx_of f q := by rw [mx_of_blk, mx_cut (f := mx_of f q) (fun k hk => if_neg (by omega))]
/-! determinants and inverses, as the reference has them -/
def mx_at (a : Nat → Int) (r c : Nat) : Int := a (3 * (r % 3) + c % 3)
def mx_d3s (a : Nat → Int) : Nat → Int
  | 0 => 0
  | k + 1 => mx_d3s a k + mx_at a 0 k * (mx_at a 1 (k + 1) * mx_at a 2 (k + 2) - mx_at a 1 (k + 2) * mx_at a 2 (k + 1))
def mx_det (n : Nat) (m : Int) (a : Nat → Int) : Int := (if n = 2 then a 0 * a 4 - a 1 * a 3 else mx_d3s a 3) % m
def mx_min (a : Nat → Int) (k : Nat) : Int := mx_at a (k % 3 + 1) (k / 3 + 1) * mx_at a (k % 3 + 2) (k / 3 + 2) - mx_at a (k % 3 + 1) (k / 3 + 2) * mx_at a (k % 3 + 2) (k / 3 + 1)
def mx_inv (n : Nat) (m : Int) (a : Nat → Int) : Nat → Int := fun k =>
  if n = 2 then (if k = 0 then a 4 * mx_ov (mx_det n m a) m (m.toNat - 1) % m else if k = 1 then -a 1 * mx_ov (mx_det n m a) m (m.toNat - 1) % m else if k = 3 then -a 3 * mx_ov (mx_det n m a) m (m.toNat - 1) % m else if k = 4 then a 0 * mx_ov (mx_det n m a) m (m.toNat - 1) % m else 0)
  else if k < 9 then mx_min a k % m * mx_ov (mx_det n m a) m (m.toNat - 1) % m else 0
theorem mx_inv_9 {n : Nat} {m : Int} {a : Nat → Int} : ∀ k, 9 ≤ k → mx_inv n m a k = 0 := fun k hk => by
  unfold mx_inv
  split
  · rw [if_neg (by omega), if_neg (by omega), if_neg (by omega), if_neg (by omega)]
  · rw [if_neg (by omega)]
theorem mx_inv_ok {n : Nat} {m : Int} (h : 3 ≤ m) (a : Nat → Int) : mx_ok m (mx_inv n m a) := by
  intro k hk
  have h1 := mx_md h
  unfold mx_inv
  split
  · split
    · exact h1 _
    · split
      · exact h1 _
      · split
        · exact h1 _
        · split
          · exact h1 _
          · omega
  · exact h1 _
theorem mx_det_b {n : Nat} {m : Int} (h : 3 ≤ m) (a : Nat → Int) : 0 ≤ mx_det n m a ∧ mx_det n m a < m := mx_md h _
theorem mx_of_inv {M : gx_M} {t n : Nat} {m : Int} {a : Nat → Int} : mx_of (gx_blk M 6 t 9 (mx_inv n m a) 6) t = mx_inv n m a := by rw [mx_of_blk, mx_cut mx_inv_9]
theorem mx_pr2 {x y : Int} (hx : -100 ≤ x ∧ x ≤ 100) (hy : 0 ≤ y ∧ y ≤ 100) : -10000 ≤ x * y ∧ x * y ≤ 10000 := by
  have h1 : x * y ≤ 100 * y := Int.mul_le_mul_of_nonneg_right hx.2 hy.1
  have h2 : (-100) * y ≤ x * y := Int.mul_le_mul_of_nonneg_right hx.1 hy.1
  omega
theorem mx_mb {a : Nat → Int} {m : Int} (hm : m ≤ 11) (oa : mx_ok m a) (r c r' c' s d s' d' : Nat) : -100 ≤ mx_at a r c * mx_at a r' c' - mx_at a s d * mx_at a s' d' ∧ mx_at a r c * mx_at a r' c' - mx_at a s d * mx_at a s' d' ≤ 100 := by
  have h1 := mx_pr hm (oa (3 * (r % 3) + c % 3) (by omega)) (oa (3 * (r' % 3) + c' % 3) (by omega))
  have h2 := mx_pr hm (oa (3 * (s % 3) + d % 3) (by omega)) (oa (3 * (s' % 3) + d' % 3) (by omega))
  unfold mx_at
  omega
theorem mx_d3b {a : Nat → Int} {m : Int} (hm : m ≤ 11) (oa : mx_ok m a) : ∀ k, k ≤ 3 → -10000 * k ≤ mx_d3s a k ∧ mx_d3s a k ≤ 10000 * k
  | 0, _ => by simp [mx_d3s]
  | k + 1, hk => by
    have h1 := mx_d3b hm oa k (by omega)
    have h2 := mx_mb hm oa 1 (k + 1) 2 (k + 2) 1 (k + 2) 2 (k + 1)
    have h3 := oa (3 * (0 % 3) + k % 3) (by omega)
    have h4 := mx_pr2 h2 (y := mx_at a 0 k) (by unfold mx_at; omega)
    rw [Int.mul_comm] at h4
    show _ ≤ mx_d3s a k + mx_at a 0 k * (mx_at a 1 (k + 1) * mx_at a 2 (k + 2) - mx_at a 1 (k + 2) * mx_at a 2 (k + 1)) ∧ mx_d3s a k + mx_at a 0 k * (mx_at a 1 (k + 1) * mx_at a 2 (k + 2) - mx_at a 1 (k + 2) * mx_at a 2 (k + 1)) ≤ _
    omega
theorem mx_3 (k : Nat) : ((k : Int)).tmod 3 = ((k % 3 : Nat) : Int) := by
  rw [gx_tmod (by omega)]
  omega
