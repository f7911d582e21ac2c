/-- the unit times the base is the identity -/
theorem mx_inv_mul {n : Nat} (hn : n = 2 ∨ n = 3) {m : Int} (hm : m = 3 ∨ m = 5 ∨ m = 7 ∨ m = 11) {a : Nat → Int} (hz : mx_z n a) (hd : mx_det n m a ≠ 0) : mx_mul 3 m (mx_inv n m a) a = mx_id (n : Int) := by
  rcases hn with rfl | rfl
  · exact mx_inv2_mul hm hz hd
  · exact mx_inv3_mul hm hd
/-- powers of W before a factor -/
def mx_pw (m : Int) (w v : Nat → Int) : Nat → Nat → Int
  | 0 => v
  | k + 1 => mx_mul 3 m w (mx_pw m w v k)
/-- W = a u; the k-th before v, times u, times the l-th is the (k + l)-th -/
theorem mx_pw_add {n : Nat} (hn : n = 2 ∨ n = 3) {m : Int} {w v u : Nat → Int} (hvu : mx_mul 3 m v u = mx_id (n : Int)) (l : Nat) (ol : mx_ok m (mx_pw m w v l)) (zl : mx_z n (mx_pw m w v l)) : ∀ k, mx_mul 3 m (mx_mul 3 m (mx_pw m w v k) u) (mx_pw m w v l) = mx_pw m w v (k + l)
  | 0 => by
    rw [Nat.zero_add]
    show mx_mul 3 m (mx_mul 3 m v u) (mx_pw m w v l) = _
    rw [hvu, mx_id_mul hn ol zl]
  | k + 1 => by
    have ih := mx_pw_add hn hvu l ol zl k
    rw [show k + 1 + l = (k + l) + 1 by omega]
    show mx_mul 3 m (mx_mul 3 m (mx_mul 3 m w (mx_pw m w v k)) u) (mx_pw m w v l) = mx_mul 3 m w (mx_pw m w v (k + l))
    rw [mx_mul_a (b := mx_pw m w v k), mx_mul_a, ih]
