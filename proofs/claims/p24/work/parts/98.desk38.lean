/-! powers: base u, unit v -/
theorem mx_id_s {n : Int} : mx_s (mx_id n) := fun i j hi hj => by
  rw [mx_id_at, mx_id_at]
  by_cases e : i = j
  · rw [e]
  · rw [if_neg (by omega), if_neg (by omega)]
theorem mx_t_fun {m : Int} {a b : Nat → Int} : mx_mul 3 m a b = fun k => if k < 9 then mx_mul 3 m (mx_t b) (mx_t a) (3 * (k % 3) + k / 3) else 0 := by
  funext k
  by_cases h : k < 9
  · rw [if_pos h, ← mx_mul_t (a := a) (b := b) (k := 3 * (k % 3) + k / 3) (by omega)]
    unfold mx_t
    rw [show 3 * ((3 * (k % 3) + k / 3) % 3) + (3 * (k % 3) + k / 3) / 3 = k by omega]
  · rw [if_neg h, mx_mul_9 k (by omega)]
theorem mx_t_back {x : Nat → Int} (hs : mx_s x) (h9 : ∀ k, 9 ≤ k → x k = 0) : (fun k => if k < 9 then x (3 * (k % 3) + k / 3) else 0) = x := by
  funext k
  by_cases h : k < 9
  · rw [if_pos h]
    exact mx_s_t hs k h
  · rw [if_neg h, h9 k (by omega)]
/-- what stands for valid factors in one order, stands in the other, if the product is symmetric -/
theorem mx_mul_sw {m : Int} {a b : Nat → Int} (ha : mx_s a) (hb : mx_s b) (hs : mx_s (mx_mul 3 m a b)) : mx_mul 3 m b a = mx_mul 3 m a b := by
  rw [mx_t_fun (a := b) (b := a), mx_mul_c (mx_s_t ha) (mx_s_t hb)]
  exact mx_t_back hs mx_mul_9
theorem mx_mul_id {n : Nat} (hn : n = 2 ∨ n = 3) {m : Int} {x : Nat → Int} (hx : mx_V n m x) : mx_mul 3 m x (mx_id (n : Int)) = x := by
  have h := mx_id_mul hn hx.1 hx.2.1
  rw [mx_mul_sw mx_id_s hx.2.2 (by rw [h]; exact hx.2.2), h]
theorem mx_pw_1 {n : Nat} (hn : n = 2 ∨ n = 3) {m : Int} {a u v : Nat → Int} (ha : mx_V n m a) (su : mx_s u) (sv : mx_s v) (hvu : mx_mul 3 m v u = mx_id (n : Int)) : mx_pw m (mx_mul 3 m a u) v 1 = a := by
  show mx_mul 3 m (mx_mul 3 m a u) v = a
  rw [mx_mul_a, mx_mul_sw sv su (by rw [hvu]; exact mx_id_s), hvu, mx_mul_id hn ha]
theorem mx_pw_V {n : Nat} (hn : n = 2 ∨ n = 3) {m : Int} (hm : 3 ≤ m) {a u v : Nat → Int} (ha : mx_V n m a) (su : mx_s u) (zu : mx_z n u) (hv : mx_V n m v) (hvu : mx_mul 3 m v u = mx_id (n : Int)) : ∀ k, mx_V n m (mx_pw m (mx_mul 3 m a u) v k)
  | 0 => hv
  | k + 1 => by
    have ih := mx_pw_V hn hm ha su zu hv hvu k
    have h1 := mx_pw_1 hn ha su hv.2.2 hvu
    have h2 := mx_pw_add (w := mx_mul 3 m a u) hn hvu 1 (by rw [h1]; exact ha.1) (by rw [h1]; exact ha.2.1) k
    rw [h1] at h2
    refine ⟨mx_mul_ok hm _ _, ?_, fun i j hi hj => ?_⟩
    · show mx_z n (mx_mul 3 m (mx_mul 3 m a u) (mx_pw m (mx_mul 3 m a u) v k))
      rw [mx_mul3 hn ha.2.1 zu, mx_mul3 hn mx_mul_z (by rw [← mx_mul3 hn ha.2.1 zu]; exact ih.2.1)]
      exact mx_mul_z
    · have h3 := mx_mul_t3 (m := m) ha.2.2 su ih.2.2 (k := 3 * i + j) (by omega)
      rw [h2] at h3
      rw [← h3]
      exact (mx_t_at hj).symm ▸ rfl
