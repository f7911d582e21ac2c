/-- the identity on the left -/
theorem mx_id_mul {n : Nat} (hn : n = 2 ∨ n = 3) {m : Int} {x : Nat → Int} (ox : mx_ok m x) (hz : mx_z n x) : mx_mul 3 m (mx_id (n : Int)) x = x := by
  funext k
  by_cases h9 : k < 9
  · have hr : k / 3 < 3 := by omega
    have hc : k % 3 < 3 := by omega
    have o := ox k h9
    have hk : k = 3 * (k / 3) + k % 3 := by omega
    rw [hk] at o ⊢
    generalize k / 3 = r at hr o ⊢
    generalize k % 3 = c at hc o ⊢
    have hid : ∀ j, mx_id (n : Int) j = if j % 4 = 0 ∧ j / 4 < n then 1 else 0 := fun j => by
      unfold mx_id
      by_cases e : j % 4 = 0 ∧ j / 4 < n
      · rw [if_pos e, if_pos (by omega)]
      · rw [if_neg e, if_neg (by omega)]
    have key : mx_ps (mx_id (n : Int)) x r c 3 = x (3 * r + c) := by
      rw [mx_ps3, hid, hid, hid]
      by_cases e : n ≤ r
      · rw [(hz.1 r c hr hc e).1, if_neg (by omega), if_neg (by omega), if_neg (by omega)]
        simp
      · rcases (show r = 0 ∨ r = 1 ∨ r = 2 by omega) with rfl | rfl | rfl
        · rw [if_pos (by omega), if_neg (by omega), if_neg (by omega)]
          simp
        · rw [if_neg (by omega), if_pos (by omega), if_neg (by omega)]
          simp
        · rw [if_neg (by omega), if_neg (by omega), if_pos (by omega)]
          simp
    rw [mx_mul3_at hr hc, key, Int.emod_eq_of_lt o.1 o.2]
  · rw [mx_mul_9 k (by omega), hz.2 k (by omega)]
