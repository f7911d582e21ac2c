/-! THE REFERENCE: its small methods -/
theorem mx_wi {v m : Int} (h : 0 < m) : (v.tmod m + m).tmod m = v % m := by
  have h1 := Int.lt_tmod_of_pos v h
  rw [gx_tmod (by omega), Int.add_emod_right, Int.tmod_def, Int.sub_mul_emod_self_left]
/-- the greatest number below k that gives 1 with v, 1 if there is none -/
def mx_ov (v m : Int) : Nat → Int
  | 0 => 1
  | k + 1 => if v * (k + 1 : Nat) % m = 1 then ((k + 1 : Nat) : Int) else mx_ov v m k
theorem mx_ovb {v m : Int} : ∀ k, 1 ≤ mx_ov v m k ∧ (mx_ov v m k ≤ k ∨ mx_ov v m k = 1)
  | 0 => by simp [mx_ov]
  | k + 1 => by
    have := mx_ovb (v := v) (m := m) k
    unfold mx_ov
    split <;> omega
