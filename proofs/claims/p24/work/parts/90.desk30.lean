/-! the unit is an element -/
theorem mx_min_t {a : Nat → Int} (h : mx_s a) : ∀ k, k < 9 → mx_min a (3 * (k % 3) + k / 3) = mx_min a k := by
  have h1 : a 3 = a 1 := h 1 0 (by decide) (by decide)
  have h2 : a 6 = a 2 := h 2 0 (by decide) (by decide)
  have h3 : a 7 = a 5 := h 2 1 (by decide) (by decide)
  intro k hk
  rcases (show k = 0 ∨ k = 1 ∨ k = 2 ∨ k = 3 ∨ k = 4 ∨ k = 5 ∨ k = 6 ∨ k = 7 ∨ k = 8 by omega) with rfl | rfl | rfl | rfl | rfl | rfl | rfl | rfl | rfl <;> simp [mx_min, mx_at, h1, h2, h3, Int.mul_comm]
theorem mx_inv_V {n : Nat} (hn : n = 2 ∨ n = 3) {m : Int} (hm : 3 ≤ m) {a : Nat → Int} (h : mx_s a) : mx_V n m (mx_inv n m a) := by
  refine ⟨mx_inv_ok hm a, ⟨?_, mx_inv_9⟩, ?_⟩
  · intro i j hi hj hni
    have h2 : n = 2 := by omega
    have h3 : i = 2 := by omega
    subst h2
    subst h3
    rcases (show j = 0 ∨ j = 1 ∨ j = 2 by omega) with rfl | rfl | rfl <;> exact ⟨by simp [mx_inv], by simp [mx_inv]⟩
  · intro i j hi hj
    rcases hn with rfl | rfl
    · have h1 : a 3 = a 1 := h 1 0 (by decide) (by decide)
      rcases (show i = 0 ∨ i = 1 ∨ i = 2 by omega) with rfl | rfl | rfl <;> rcases (show j = 0 ∨ j = 1 ∨ j = 2 by omega) with rfl | rfl | rfl <;> simp [mx_inv, h1]
    · have e := mx_min_t h (3 * i + j) (by omega)
      rw [show 3 * ((3 * i + j) % 3) + (3 * i + j) / 3 = 3 * j + i by omega] at e
      have g : ∀ k, k < 9 → mx_inv 3 m a k = mx_min a k % m * mx_ov (mx_det 3 m a) m (m.toNat - 1) % m := fun k hk => by
        unfold mx_inv
        rw [if_neg (show ¬ 3 = 2 by decide), if_pos hk]
      rw [g _ (by omega), g _ (by omega), e]
theorem sp_V9 {s : sp_S} (hs : sp_ok s) : sp_V s (zs_el s.1 9) := by
  have h8 := sp_Vel hs (r := 8) (by decide)
  have hm := hs.1.2.1
  unfold zs_el at h8 ⊢
  rw [if_pos (by decide)] at h8
  rw [if_neg (by decide)]
  exact mx_inv_V (sp_nn hs) (by omega) h8.2.2
