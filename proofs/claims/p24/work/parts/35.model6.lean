/-- the rows of an element -/
def mx_rws (n : Nat) (a : Nat → Int) (r : Nat) : Nat → Int := fun c => if c < n then a (3 * r + c) else 0
def mx_rst (n : Nat) (m : Int) (a : Nat → Int) : Nat → Nat × (Nat → Nat → Int)
  | 0 => (0, fun _ _ => 0)
  | r + 1 => mx_nw m (mx_rst n m a r) (mx_rws n a r)
theorem mx_nw1 (m : Int) (s : Nat × (Nat → Nat → Int)) (x : Nat → Int) : s.1 ≤ (mx_nw m s x).1 ∧ (mx_nw m s x).1 ≤ s.1 + 1 := by
  unfold mx_nw
  simp only
  split <;> omega
theorem mx_rst1 {n : Nat} {m : Int} {a : Nat → Int} : ∀ r, (mx_rst n m a r).1 ≤ r
  | 0 => Nat.le_refl _
  | r + 1 => by
    have h1 := mx_rst1 (n := n) (m := m) (a := a) r
    have h2 := mx_nw1 m (mx_rst n m a r) (mx_rws n a r)
    show (mx_nw m (mx_rst n m a r) (mx_rws n a r)).1 ≤ r + 1
    omega
def mx_rank (n : Nat) (m : Int) (a : Nat → Int) : Nat := (mx_rst n m a n).1
/-- a times itself k times more -/
def mx_po (n : Nat) (m : Int) (u a : Nat → Int) (b : Nat → Int) : Nat → Nat → Int
  | 0 => b
  | k + 1 => mx_prod n m u (mx_po n m u a b k) a
theorem mx_po_ok {n : Nat} {m : Int} (h : 3 ≤ m) {u a b : Nat → Int} (ob : mx_ok m b) : ∀ k, mx_ok m (mx_po n m u a b k)
  | 0 => ob
  | k + 1 => mx_lin_ok h _ _ _ _
/-- the least place below N with P, counted from 1; -6 if there is none -/
def mx_fst (P : Nat → Prop) (N : Nat) (z : Int) : Prop := (∃ k, k < N ∧ P k ∧ (∀ j, j < k → ¬ P j) ∧ z = (k : Int) + 1) ∨ ((∀ j, j < N → ¬ P j) ∧ z = -6)
theorem mx_fst_u {P : Nat → Prop} {N : Nat} {z w : Int} (h1 : mx_fst P N z) (h2 : mx_fst P N w) : z = w := by
  rcases h1 with ⟨k, a1, a2, a3, a4⟩ | ⟨a1, a2⟩ <;> rcases h2 with ⟨j, b1, b2, b3, b4⟩ | ⟨b1, b2⟩
  · rcases Nat.lt_trichotomy k j with h | h | h
    · exact absurd a2 (b3 k h)
    · rw [a4, b4, h]
    · exact absurd b2 (a3 j h)
  · exact absurd a2 (b1 k a1)
  · exact absurd b2 (a1 j b1)
  · rw [a2, b2]
/-- the rows of the powers -/
def mx_dst (n : Nat) (m : Int) (u a v : Nat → Int) : Nat → Nat × (Nat → Nat → Int)
  | 0 => (0, fun _ _ => 0)
  | k + 1 => mx_nw m (mx_dst n m u a v k) (mx_po n m u a v k)
def mx_tr (m : Int) (a : Nat → Int) : Int := (a 0 + a 4 + a 8) % m
/-- a part of b by e -/
def mx_part (n : Nat) (m : Int) (u v e b : Nat → Int) (w : Int) : Nat → Int :=
  if w = 0 then mx_oper n m u (mx_lin m v 1 e (-1)) b else if w = 1 then mx_lin m b 1 (mx_lin m (mx_oper n m u e b) 1 (mx_oper n m u (mx_lin m v 1 e (-1)) b) 1) (-1) else mx_oper n m u e b
