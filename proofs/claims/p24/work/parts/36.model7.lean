/-! WHAT A DESK IS: 83 numbers (the registers, the base, size, modulus), the history, the slots, the pad -/
abbrev sp_S : Type := (Nat → Int) × (Nat × (Nat → Nat → Int)) × ((Nat → Int) × (Nat → Nat → Int)) × (Nat × (Nat → Int))
/-- a state of the registers is as it should be -/
def zs_ok (Z : Nat → Int) : Prop := (Z 81 = 2 ∨ Z 81 = 3) ∧ (Z 82 = 3 ∨ Z 82 = 5 ∨ Z 82 = 7 ∨ Z 82 = 11) ∧ (∀ r, r < 9 → mx_ok (Z 82) (mx_of Z (9 * r)) ∧ (∀ i j, i < 3 → j < 3 → mx_of Z (9 * r) (3 * i + j) = mx_of Z (9 * r) (3 * j + i)) ∧ ∀ i j, i < 3 → j < 3 → (Z 81).toNat ≤ i → mx_of Z (9 * r) (3 * i + j) = 0) ∧ mx_det (Z 81).toNat (Z 82) (mx_of Z 72) ≠ 0
def sp_ok (s : sp_S) : Prop := zs_ok s.1 ∧ s.2.1.1 ≤ 6 ∧ (∀ i, i < s.2.1.1 → zs_ok (s.2.1.2 i)) ∧ (∀ j, j < 2 → (s.2.2.1.1 j = 0 ∨ s.2.2.1.1 j = 1)) ∧ (∀ j, j < 2 → s.2.2.1.1 j = 1 → zs_ok (s.2.2.1.2 j)) ∧ s.2.2.2.1 ≤ 60 ∧ ∀ i, i < s.2.2.2.1 → 33 ≤ s.2.2.2.2 i ∧ s.2.2.2.2 i ≤ 126
/-- a change is recorded -/
def sp_h (s : sp_S) : Nat := if s.2.1.1 = 6 then 5 else s.2.1.1
def sp_push (s : sp_S) (Z : Nat → Int) : sp_S := (Z, (sp_h s + 1, fun i => if i = sp_h s then s.1 else if s.2.1.1 = 6 then s.2.1.2 (i + 1) else s.2.1.2 i), s.2.2.1, s.2.2.2)
/-- the reference's numbers are this desk -/
def sm_R (s : sp_S) (M : gx_M) : Prop :=
  (∀ k, k < 83 → M 1 k = s.1 k) ∧ M 0 4 = s.2.1.1 ∧ (∀ i k, i < s.2.1.1 → k < 83 → M 2 (83 * i + k) = s.2.1.2 i k) ∧ (∀ j, j < 2 → M 4 j = s.2.2.1.1 j) ∧ (∀ j k, j < 2 → s.2.2.1.1 j = 1 → k < 83 → M 3 (83 * j + k) = s.2.2.1.2 j k) ∧ M 0 6 = s.2.2.2.1 ∧ ∀ i, i < s.2.2.2.1 → M 5 i = s.2.2.2.2 i
def sm_Q (s : sp_S) (M M' : gx_M) : Prop := sm_R s M' ∧ ∀ c, 12 ≤ c → M' c = M c
theorem sm_n {s : sp_S} (hs : sp_ok s) : s.1 81 = ((s.1 81).toNat : Int) := by
  have := hs.1.1
  omega
theorem sm_el {s : sp_S} {M : gx_M} (h : sm_R s M) {r : Nat} (hr : r < 9) : mx_of (M 1) (9 * r) = mx_of s.1 (9 * r) := mx_of_ext (fun k hk => h.1 _ (by omega))
theorem sm_el72 {s : sp_S} {M : gx_M} (h : sm_R s M) : mx_of (M 1) 72 = mx_of s.1 72 := sm_el h (r := 8) (by omega)
theorem sm_ou {s : sp_S} {M : gx_M} (hs : sp_ok s) (h : sm_R s M) : mx_ok (s.1 82) (mx_of (M 1) 72) := by rw [sm_el72 h]; exact (hs.1.2.2.1 8 (by omega)).1
/-- register, base or unit of a state -/
def zs_el (Z : Nat → Int) (r : Nat) : Nat → Int := if r < 9 then mx_of Z (9 * r) else mx_inv (Z 81).toNat (Z 82) (mx_of Z 72)
theorem zs_el_ok {Z : Nat → Int} (h : zs_ok Z) {r : Nat} : r < 10 → mx_ok (Z 82) (zs_el Z r) := fun hr => by
  unfold zs_el
  split
  · exact (h.2.2.1 r (by omega)).1
  · exact mx_inv_ok (by have := h.2.1; omega) _
/-- all 0, the base the identity matrix -/
def zs_new (n m : Int) : Nat → Int := fun k => if k = 81 then n else if k = 82 then m else if 72 ≤ k ∧ (k - 72) % 4 = 0 ∧ (((k - 72) / 4 : Nat) : Int) < n then 1 else 0
