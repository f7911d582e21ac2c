/-! products: associative, turned round by transposing -/
def mx_t (a : Nat → Int) : Nat → Int := fun k => a (3 * (k % 3) + k / 3)
theorem mx_t_at {a : Nat → Int} {r c : Nat} (hc : c < 3) : mx_t a (3 * r + c) = a (3 * c + r) := by
  unfold mx_t
  rw [show (3 * r + c) % 3 = c by omega, show (3 * r + c) / 3 = r by omega]
theorem mx_ps_t {a b : Nat → Int} {r c : Nat} (hr : r < 3) (hc : c < 3) : ∀ k, k ≤ 3 → mx_ps a b c r k = mx_ps (mx_t b) (mx_t a) r c k
  | 0, _ => rfl
  | k + 1, hk => by
    show mx_ps a b c r k + a (3 * c + k) * b (3 * k + r) = mx_ps (mx_t b) (mx_t a) r c k + mx_t b (3 * r + k) * mx_t a (3 * k + c)
    rw [mx_ps_t hr hc k (by omega), mx_t_at (by omega), mx_t_at hc, Int.mul_comm]
theorem mx_ps_c {a b a' b' : Nat → Int} (h : ∀ k, k < 9 → a k = a' k) (g : ∀ k, k < 9 → b k = b' k) {r c : Nat} (hr : r < 3) (hc : c < 3) : ∀ k, k ≤ 3 → mx_ps a b r c k = mx_ps a' b' r c k
  | 0, _ => rfl
  | k + 1, hk => by
    show mx_ps a b r c k + a (3 * r + k) * b (3 * k + c) = mx_ps a' b' r c k + a' (3 * r + k) * b' (3 * k + c)
    rw [mx_ps_c h g hr hc k (by omega), h _ (by omega), g _ (by omega)]
theorem mx_mul_c {m : Int} {a b a' b' : Nat → Int} (h : ∀ k, k < 9 → a k = a' k) (g : ∀ k, k < 9 → b k = b' k) : mx_mul 3 m a b = mx_mul 3 m a' b' := by
  funext k
  unfold mx_mul
  by_cases e : k < 9
  · rw [if_pos (by omega), if_pos (by omega), mx_ps_c h g (by omega) (by omega) 3 (by omega)]
  · rw [if_neg (by omega), if_neg (by omega)]
theorem mx_mul_t {m : Int} {a b : Nat → Int} {k : Nat} (hk : k < 9) : mx_t (mx_mul 3 m a b) k = mx_mul 3 m (mx_t b) (mx_t a) k := by
  have h := @mx_t_at (mx_mul 3 m a b) (k / 3) (k % 3) (by omega)
  rw [show 3 * (k / 3) + k % 3 = k by omega] at h
  rw [h, mx_mul3_at (by omega) (by omega)]
  have g := @mx_mul3_at m (mx_t b) (mx_t a) (k / 3) (k % 3) (by omega) (by omega)
  rw [show 3 * (k / 3) + k % 3 = k by omega] at g
  rw [g, mx_ps_t (by omega) (by omega) 3 (by omega)]
theorem mx_e3 {m x y z p q r : Int} : (x % m * p + y % m * q + z % m * r) % m = (x * p + y * q + z * r) % m := by
  have h : x % m * p + y % m * q + z % m * r = (x * p + y * q + z * r) - m * (x / m * p + y / m * q + z / m * r) := by
    rw [Int.emod_def, Int.emod_def, Int.emod_def, Int.sub_mul, Int.sub_mul, Int.sub_mul, Int.mul_assoc m, Int.mul_assoc m, Int.mul_assoc m, Int.mul_add, Int.mul_add]
    omega
  rw [h, Int.sub_mul_emod_self_left]
theorem mx_ps3 {a b : Nat → Int} {r c : Nat} : mx_ps a b r c 3 = a (3 * r) * b c + a (3 * r + 1) * b (3 + c) + a (3 * r + 2) * b (6 + c) := by
  show 0 + a (3 * r + 0) * b (3 * 0 + c) + a (3 * r + 1) * b (3 * 1 + c) + a (3 * r + 2) * b (3 * 2 + c) = _
  rw [Int.zero_add, Nat.add_zero, show 3 * 0 + c = c by omega]
theorem mx_mul_a {m : Int} {a b c : Nat → Int} : mx_mul 3 m (mx_mul 3 m a b) c = mx_mul 3 m a (mx_mul 3 m b c) := by
  funext k
  by_cases e : k < 9
  · have hr : k / 3 < 3 := by omega
    have hc : k % 3 < 3 := by omega
    generalize k / 3 = r at hr
    rw [show k = 3 * (k / 3) + k % 3 by omega]
    have hr : k / 3 < 3 := by omega
    generalize k / 3 = r at hr ⊢
    generalize k % 3 = t at hc ⊢
    rw [mx_mul3_at hr hc, mx_mul3_at hr hc, mx_ps3, mx_ps3]
    have e0 := @mx_mul3_at m a b r 0 hr (by omega)
    have e1 := @mx_mul3_at m a b r 1 hr (by omega)
    have e2 := @mx_mul3_at m a b r 2 hr (by omega)
    have f0 := @mx_mul3_at m b c 0 t (by omega) hc
    have f1 := @mx_mul3_at m b c 1 t (by omega) hc
    have f2 := @mx_mul3_at m b c 2 t (by omega) hc
    rw [Nat.add_zero] at e0
    rw [show 3 * 0 + t = t by omega] at f0
    rw [show 3 * 1 + t = 3 + t by omega] at f1
    rw [show 3 * 2 + t = 6 + t by omega] at f2
    rw [e0, e1, e2, f0, f1, f2, mx_e3, Int.mul_comm (a (3 * r)), Int.mul_comm (a (3 * r + 1)), Int.mul_comm (a (3 * r + 2)), mx_e3]
    congr 1
    rw [mx_ps3, mx_ps3, mx_ps3, mx_ps3, mx_ps3, mx_ps3]
    simp only [Int.add_mul, Nat.mul_zero, Nat.zero_add, Nat.mul_one, Nat.reduceMul, Nat.reduceAdd, Nat.add_zero]
    simp only [Int.mul_assoc, Int.mul_comm, Int.mul_left_comm]
    omega
  · rw [mx_mul_9 k (by omega), mx_mul_9 k (by omega)]
theorem mx_s_t {a : Nat → Int} (h : mx_s a) : ∀ k, k < 9 → mx_t a k = a k := fun k hk => by
  have := h (k % 3) (k / 3) (by omega) (by omega)
  unfold mx_t
  rw [this, show 3 * (k / 3) + k % 3 = k by omega]
/-- the usual product of three, turned round -/
theorem mx_mul_t3 {m : Int} {a u b : Nat → Int} (ha : mx_s a) (hu : mx_s u) (hb : mx_s b) {k : Nat} (hk : k < 9) : mx_t (mx_mul 3 m (mx_mul 3 m a u) b) k = mx_mul 3 m (mx_mul 3 m b u) a k := by
  rw [mx_mul_t hk, mx_mul_a]
  have h1 : ∀ k, k < 9 → mx_t (mx_mul 3 m a u) k = mx_mul 3 m u a k := fun k hk => by
    rw [mx_mul_t hk, mx_mul_c (mx_s_t hu) (mx_s_t ha)]
  rw [mx_mul_c (mx_s_t hb) h1]
theorem mx_half_s {m x y : Int} (hm : m = 3 ∨ m = 5 ∨ m = 7 ∨ m = 11) (hx : 0 ≤ x ∧ x < m) (hy : 0 ≤ y ∧ y < m) : (if (x + y) % 2 = 0 then x + y else x + y + m) / 2 % m = (x * ((m + 1) / 2) + y * ((m + 1) / 2)) % m := by
  rcases hm with rfl | rfl | rfl | rfl <;> split <;> omega
/-- half of a product and of the one turned round -/
theorem mx_sym_lin {m : Int} (hm : m = 3 ∨ m = 5 ∨ m = 7 ∨ m = 11) {x y : Nat → Int} (ox : mx_ok m x) (h : ∀ k, k < 9 → mx_t x k = y k) : mx_sym m x = mx_lin m x ((m + 1) / 2) y ((m + 1) / 2) := by
  funext k
  unfold mx_sym mx_lin
  by_cases e : k < 9
  · rw [if_pos e, if_pos e, ← h k e]
    exact mx_half_s hm (ox k e) (ox (3 * (k % 3) + k / 3) (by omega))
  · rw [if_neg e, if_neg e]
/-- the class's product is the reference's -/
theorem mc_prod_eq {n : Nat} (hn : n = 2 ∨ n = 3) {m : Int} (hm : m = 3 ∨ m = 5 ∨ m = 7 ∨ m = 11) {a u b : Nat → Int} (za : mx_z n a) (zu : mx_z n u) (zb : mx_z n b) (sa : mx_s a) (su : mx_s u) (sb : mx_s b) : mc_prod m u a b = mx_prod n m u a b := by
  unfold mc_prod mx_prod
  rw [mx_sym_lin hm (mx_mul_ok (by omega) _ _) (fun k hk => mx_mul_t3 sa su sb hk), mx_mul3 hn za zu, mx_mul3 hn mx_mul_z zb, mx_mul3 hn zb zu, mx_mul3 hn mx_mul_z za]
