/-! inverses of numbers -/
theorem mx_ov_1 {m d : Int} (hm : m = 3 ∨ m = 5 ∨ m = 7 ∨ m = 11) (hd : 0 < d ∧ d < m) : d * mx_ov d m (m.toNat - 1) % m = 1 := by
  have k3 : ∀ j : Fin 3, 0 < j.val → (j.val : Int) * mx_ov (j.val : Int) 3 ((3 : Int).toNat - 1) % 3 = 1 := by decide +kernel
  have k5 : ∀ j : Fin 5, 0 < j.val → (j.val : Int) * mx_ov (j.val : Int) 5 ((5 : Int).toNat - 1) % 5 = 1 := by decide +kernel
  have k7 : ∀ j : Fin 7, 0 < j.val → (j.val : Int) * mx_ov (j.val : Int) 7 ((7 : Int).toNat - 1) % 7 = 1 := by decide +kernel
  have k11 : ∀ j : Fin 11, 0 < j.val → (j.val : Int) * mx_ov (j.val : Int) 11 ((11 : Int).toNat - 1) % 11 = 1 := by decide +kernel
  have e : ((d.toNat : Nat) : Int) = d := by omega
  rcases hm with rfl | rfl | rfl | rfl
  · have := k3 ⟨d.toNat, by omega⟩ (by show 0 < d.toNat; omega)
    simp only [e] at this
    exact this
  · have := k5 ⟨d.toNat, by omega⟩ (by show 0 < d.toNat; omega)
    simp only [e] at this
    exact this
  · have := k7 ⟨d.toNat, by omega⟩ (by show 0 < d.toNat; omega)
    simp only [e] at this
    exact this
  · have := k11 ⟨d.toNat, by omega⟩ (by show 0 < d.toNat; omega)
    simp only [e] at this
    exact this
