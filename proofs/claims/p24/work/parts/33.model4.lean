/-- the operations, as the reference has them -/
def mx_prod (n : Nat) (m : Int) (u a b : Nat → Int) : Nat → Int := mx_lin m (mx_mul n m (mx_mul n m a u) b) ((m + 1) / 2) (mx_mul n m (mx_mul n m b u) a) ((m + 1) / 2)
def mx_oper (n : Nat) (m : Int) (u a b : Nat → Int) : Nat → Int := mx_mul n m (mx_mul n m (mx_mul n m (mx_mul n m a u) b) u) a
def mx_trip (n : Nat) (m : Int) (u a b c : Nat → Int) : Nat → Int := mx_lin m (mx_mul n m (mx_mul n m (mx_mul n m (mx_mul n m a u) b) u) c) ((m + 1) / 2) (mx_mul n m (mx_mul n m (mx_mul n m (mx_mul n m c u) b) u) a) ((m + 1) / 2)
theorem mx_half {m : Int} (h : 3 ≤ m ∧ m ≤ 11) : -10 ≤ (m + 1) / 2 ∧ (m + 1) / 2 ≤ 10 := by omega
