/-! sums of products: the three columns of a small element, its transpose -/
def mx_z (n : Nat) (a : Nat → Int) : Prop := (∀ i j, i < 3 → j < 3 → n ≤ i → a (3 * i + j) = 0 ∧ a (3 * j + i) = 0) ∧ ∀ k, 9 ≤ k → a k = 0
def mx_s (a : Nat → Int) : Prop := ∀ i j, i < 3 → j < 3 → a (3 * i + j) = a (3 * j + i)
theorem mx_ps_z {n : Nat} (hn : n = 2 ∨ n = 3) {a b : Nat → Int} (ha : mx_z n a) {r c : Nat} (hr : r < 3) : mx_ps a b r c 3 = mx_ps a b r c n := by
  rcases hn with rfl | rfl
  · show mx_ps a b r c 2 + a (3 * r + 2) * b (3 * 2 + c) = _
    rw [(ha.1 2 r (by omega) hr (by omega)).2, Int.zero_mul, Int.add_zero]
  · rfl
theorem mx_ps_0 {n : Nat} {a b : Nat → Int} (ha : mx_z n a) {r c : Nat} (hr : r < 3) (h : n ≤ r) : ∀ k, k ≤ 3 → mx_ps a b r c k = 0
  | 0, _ => rfl
  | k + 1, hk => by
    show mx_ps a b r c k + a (3 * r + k) * b (3 * k + c) = 0
    rw [mx_ps_0 ha hr h k (by omega), (ha.1 r k hr (by omega) h).1, Int.zero_mul, Int.add_zero]
theorem mx_ps_1 {n : Nat} {a b : Nat → Int} (hb : mx_z n b) {r c : Nat} (hc : c < 3) (h : n ≤ c) : ∀ k, k ≤ 3 → mx_ps a b r c k = 0
  | 0, _ => rfl
  | k + 1, hk => by
    show mx_ps a b r c k + a (3 * r + k) * b (3 * k + c) = 0
    rw [mx_ps_1 hb hc h k (by omega), (hb.1 c k hc (by omega) h).2, Int.mul_zero, Int.add_zero]
/-- three rows of products are as good as n -/
theorem mx_mul3 {n : Nat} (hn : n = 2 ∨ n = 3) {m : Int} {a b : Nat → Int} (ha : mx_z n a) (hb : mx_z n b) : mx_mul 3 m a b = mx_mul n m a b := by
  funext k
  unfold mx_mul
  by_cases h9 : k < 9
  · rw [if_pos (by omega)]
    by_cases h : k / 3 < n ∧ k % 3 < n
    · rw [if_pos ⟨h9, h⟩, mx_ps_z hn ha (by omega)]
    · rw [if_neg (fun g => h g.2)]
      rcases (show n ≤ k / 3 ∨ n ≤ k % 3 by omega) with g | g
      · rw [mx_ps_0 ha (by omega) g 3 (by omega)]
        rfl
      · rw [mx_ps_1 hb (by omega) g 3 (by omega)]
        rfl
  · rw [if_neg (by omega), if_neg (by omega)]
theorem mx_mul_z {n : Nat} {m : Int} {a b : Nat → Int} : mx_z n (mx_mul n m a b) := by
  refine ⟨fun i j hi hj h => ⟨?_, ?_⟩, mx_mul_9⟩
  · unfold mx_mul
    exact if_neg (by omega)
  · unfold mx_mul
    exact if_neg (by omega)
