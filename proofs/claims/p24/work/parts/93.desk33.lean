/-! the cofactors' identity -/
theorem mx_cof {a : Nat → Int} {r c : Nat} (hr : r < 3) (hc : c < 3) : mx_ps (mx_min a) a r c 3 = if r = c then mx_d3s a 3 else 0 := by
  rw [mx_ps3]
  rcases (show r = 0 ∨ r = 1 ∨ r = 2 by omega) with rfl | rfl | rfl <;> rcases (show c = 0 ∨ c = 1 ∨ c = 2 by omega) with rfl | rfl | rfl <;> simp [mx_min, mx_at, mx_d3s, Int.sub_mul, Int.mul_sub] <;> simp only [Int.mul_assoc, Int.mul_comm, Int.mul_left_comm] <;> omega
