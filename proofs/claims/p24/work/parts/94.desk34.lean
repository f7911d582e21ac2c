theorem mx_inv3_mul {m : Int} (hm : m = 3 ∨ m = 5 ∨ m = 7 ∨ m = 11) {a : Nat → Int} (hd : mx_det 3 m a ≠ 0) : mx_mul 3 m (mx_inv 3 m a) a = mx_id 3 := by
  funext k
  by_cases h9 : k < 9
  · have hr : k / 3 < 3 := by omega
    have hc : k % 3 < 3 := by omega
    rw [show k = 3 * (k / 3) + k % 3 by omega]
    generalize k / 3 = r at hr ⊢
    generalize k % 3 = c at hc ⊢
    have g : ∀ k, k < 9 → mx_inv 3 m a k = mx_min a k % m * mx_ov (mx_det 3 m a) m (m.toNat - 1) % m := fun k hk => by
      unfold mx_inv
      rw [if_neg (show ¬ 3 = 2 by decide), if_pos hk]
    rw [mx_mul3_at hr hc, mx_ps3, g _ (by omega), g _ (by omega), g _ (by omega), mx_e3, Int.mul_assoc, Int.mul_assoc, Int.mul_assoc, mx_e3]
    generalize hw : mx_ov (mx_det 3 m a) m (m.toNat - 1) = w
    have h1 : mx_min a (3 * r) * (w * a c) + mx_min a (3 * r + 1) * (w * a (3 + c)) + mx_min a (3 * r + 2) * (w * a (6 + c)) = w * mx_ps (mx_min a) a r c 3 := by
      rw [mx_ps3, Int.mul_add, Int.mul_add, Int.mul_left_comm, Int.mul_left_comm (mx_min a (3 * r + 1)), Int.mul_left_comm (mx_min a (3 * r + 2))]
    rw [h1, mx_cof hr hc, mx_id_at]
    by_cases e : r = c
    · have hD : mx_det 3 m a = mx_d3s a 3 % m := by unfold mx_det; rw [if_neg (by decide)]
      have hb := mx_md (m := m) (by omega) (mx_d3s a 3)
      have h2 := mx_ov_1 hm (d := mx_det 3 m a) (by rw [hD] at hd ⊢; omega)
      rw [hw, hD, Int.mul_comm, Int.mul_emod, Int.emod_emod_of_dvd _ (Int.dvd_refl m), ← Int.mul_emod] at h2
      rw [if_pos e, if_pos (by omega)]
      exact h2
    · rw [if_neg e, if_neg (by omega), Int.mul_zero]
      rfl
  · rw [mx_mul_9 k (by omega), mx_id_9 (by decide) k (by omega)]
