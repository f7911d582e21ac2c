theorem mx_inv2_mul {m : Int} (hm : m = 3 ∨ m = 5 ∨ m = 7 ∨ m = 11) {a : Nat → Int} (hz : mx_z 2 a) (hd : mx_det 2 m a ≠ 0) : mx_mul 3 m (mx_inv 2 m a) a = mx_id 2 := by
  have hD : mx_det 2 m a = (a 0 * a 4 - a 1 * a 3) % m := by unfold mx_det; rw [if_pos rfl]
  have hb := mx_md (m := m) (by omega) (a 0 * a 4 - a 1 * a 3)
  have h2 := mx_ov_1 hm (d := mx_det 2 m a) (by rw [hD] at hd ⊢; omega)
  generalize hw : mx_ov (mx_det 2 m a) m (m.toNat - 1) = w at h2
  rw [hD, Int.mul_comm, Int.mul_emod, Int.emod_emod_of_dvd _ (Int.dvd_refl m), ← Int.mul_emod] at h2
  have i0 : mx_inv 2 m a 0 = a 4 * w % m := by simp [mx_inv, hw]
  have i1 : mx_inv 2 m a 1 = -a 1 * w % m := by simp [mx_inv, hw]
  have i2 : mx_inv 2 m a 2 = 0 := by simp [mx_inv]
  have i3 : mx_inv 2 m a 3 = -a 3 * w % m := by simp [mx_inv, hw]
  have i4 : mx_inv 2 m a 4 = a 0 * w % m := by simp [mx_inv, hw]
  have i5 : mx_inv 2 m a 5 = 0 := by simp [mx_inv]
  have i6 : mx_inv 2 m a 6 = 0 := by simp [mx_inv]
  have i7 : mx_inv 2 m a 7 = 0 := by simp [mx_inv]
  have i8 : mx_inv 2 m a 8 = 0 := by simp [mx_inv]
  have a2 : a 2 = 0 := (hz.1 2 0 (by decide) (by decide) (by decide)).2
  have a5 : a 5 = 0 := (hz.1 2 1 (by decide) (by decide) (by decide)).2
  have e2 : ∀ x y p q : Int, (x % m * p + y % m * q) % m = (x * p + y * q) % m := fun x y p q => by
    have := @mx_e3 m x y 0 p q 0
    simpa using this
  funext k
  by_cases h9 : k < 9
  · have key : mx_ps (mx_inv 2 m a) a (k / 3) (k % 3) 3 % m = mx_id 2 k := by
      rw [mx_ps3]
      rcases (show k = 0 ∨ k = 1 ∨ k = 2 ∨ k = 3 ∨ k = 4 ∨ k = 5 ∨ k = 6 ∨ k = 7 ∨ k = 8 by omega) with rfl | rfl | rfl | rfl | rfl | rfl | rfl | rfl | rfl
      · show (mx_inv 2 m a 0 * a 0 + mx_inv 2 m a 1 * a 3 + mx_inv 2 m a 2 * a 6) % m = 1
        rw [i0, i1, i2, Int.zero_mul, Int.add_zero, e2, ← h2]
        congr 1
        simp only [Int.mul_sub, Int.neg_mul, Int.mul_neg, Int.mul_assoc, Int.mul_comm, Int.mul_left_comm]
        omega
      · show (mx_inv 2 m a 0 * a 1 + mx_inv 2 m a 1 * a 4 + mx_inv 2 m a 2 * a 7) % m = 0
        rw [i0, i1, i2, Int.zero_mul, Int.add_zero, e2, show a 4 * w * a 1 + -a 1 * w * a 4 = 0 by simp only [Int.neg_mul, Int.mul_neg, Int.mul_assoc, Int.mul_comm, Int.mul_left_comm]; omega]
        rfl
      · show (mx_inv 2 m a 0 * a 2 + mx_inv 2 m a 1 * a 5 + mx_inv 2 m a 2 * a 8) % m = 0
        rw [a2, a5, i2]
        simp
      · show (mx_inv 2 m a 3 * a 0 + mx_inv 2 m a 4 * a 3 + mx_inv 2 m a 5 * a 6) % m = 0
        rw [i3, i4, i5, Int.zero_mul, Int.add_zero, e2, show -a 3 * w * a 0 + a 0 * w * a 3 = 0 by simp only [Int.neg_mul, Int.mul_neg, Int.mul_assoc, Int.mul_comm, Int.mul_left_comm]; omega]
        rfl
      · show (mx_inv 2 m a 3 * a 1 + mx_inv 2 m a 4 * a 4 + mx_inv 2 m a 5 * a 7) % m = 1
        rw [i3, i4, i5, Int.zero_mul, Int.add_zero, e2, ← h2]
        congr 1
        simp only [Int.mul_sub, Int.neg_mul, Int.mul_neg, Int.mul_assoc, Int.mul_comm, Int.mul_left_comm]
        omega
      · show (mx_inv 2 m a 3 * a 2 + mx_inv 2 m a 4 * a 5 + mx_inv 2 m a 5 * a 8) % m = 0
        rw [a2, a5, i5]
        simp
      · show (mx_inv 2 m a 6 * a 0 + mx_inv 2 m a 7 * a 3 + mx_inv 2 m a 8 * a 6) % m = 0
        rw [i6, i7, i8]
        simp
      · show (mx_inv 2 m a 6 * a 1 + mx_inv 2 m a 7 * a 4 + mx_inv 2 m a 8 * a 7) % m = 0
        rw [i6, i7, i8]
        simp
      · show (mx_inv 2 m a 6 * a 2 + mx_inv 2 m a 7 * a 5 + mx_inv 2 m a 8 * a 8) % m = 0
        rw [i6, i7, i8]
        simp
    rw [← key]
    unfold mx_mul
    rw [if_pos (by omega)]
  · rw [mx_mul_9 k (by omega), mx_id_9 (by decide) k (by omega)]
