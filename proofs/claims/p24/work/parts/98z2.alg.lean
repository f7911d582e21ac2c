/-! MATRIX ALGEBRA: products of n rows, as rewriting -/
theorem al_e2l {m x p z : Int} : (x % m * p + z) % m = (x * p + z) % m := by
  rw [Int.add_emod, Int.mul_emod, Int.emod_emod_of_dvd _ (Int.dvd_refl m), ← Int.mul_emod, ← Int.add_emod]
theorem al_e2r {m y q z : Int} : (z + y % m * q) % m = (z + y * q) % m := by rw [Int.add_comm, al_e2l, Int.add_comm]
theorem al_at {m : Int} {a b : Nat → Int} {x y : Int} {k : Nat} (hk : k < 9) : mx_lin m a x b y k = (a k * x + b k * y) % m := if_pos hk
theorem al_9 {m : Int} {a b : Nat → Int} {x y : Int} {k : Nat} (hk : ¬ k < 9) : mx_lin m a x b y k = 0 := if_neg hk
theorem al_e3 {m x y z p q r : Int} : (p * (x % m) + q * (y % m) + r * (z % m)) % m = (p * x + q * y + r * z) % m := by
  rw [Int.mul_comm p, Int.mul_comm q, Int.mul_comm r, mx_e3, Int.mul_comm p, Int.mul_comm q, Int.mul_comm r]
theorem al_p1 (a0 b0 a1 b1 a2 b2 c0 c1 c2 x y : Int) : (a0 * x + b0 * y) * c0 + (a1 * x + b1 * y) * c1 + (a2 * x + b2 * y) * c2 = (a0 * c0 + a1 * c1 + a2 * c2) * x + (b0 * c0 + b1 * c1 + b2 * c2) * y := by grind
theorem al_p2 (a0 b0 a1 b1 a2 b2 c0 c1 c2 x y : Int) : c0 * (a0 * x + b0 * y) + c1 * (a1 * x + b1 * y) + c2 * (a2 * x + b2 * y) = (c0 * a0 + c1 * a1 + c2 * a2) * x + (c0 * b0 + c1 * b1 + c2 * b2) * y := by grind
theorem al_mulL3 {m : Int} {a b c : Nat → Int} {x y : Int} : mx_mul 3 m (mx_lin m a x b y) c = mx_lin m (mx_mul 3 m a c) x (mx_mul 3 m b c) y := by
  funext k
  by_cases hk : k < 9
  · obtain ⟨r, q, hr, hq, rfl⟩ : ∃ r q, r < 3 ∧ q < 3 ∧ k = 3 * r + q := ⟨k / 3, k % 3, by omega, by omega, by omega⟩
    rw [al_at hk, mx_mul3_at hr hq, mx_mul3_at hr hq, mx_mul3_at hr hq, al_e2l, al_e2r, mx_ps3, mx_ps3, mx_ps3, al_at (by omega), al_at (by omega), al_at (by omega), mx_e3, al_p1]
  · rw [al_9 hk]
    exact mx_mul_9 k (by omega)
theorem al_mulR3 {m : Int} {a b c : Nat → Int} {x y : Int} : mx_mul 3 m c (mx_lin m a x b y) = mx_lin m (mx_mul 3 m c a) x (mx_mul 3 m c b) y := by
  funext k
  by_cases hk : k < 9
  · obtain ⟨r, q, hr, hq, rfl⟩ : ∃ r q, r < 3 ∧ q < 3 ∧ k = 3 * r + q := ⟨k / 3, k % 3, by omega, by omega, by omega⟩
    rw [al_at hk, mx_mul3_at hr hq, mx_mul3_at hr hq, mx_mul3_at hr hq, al_e2l, al_e2r, mx_ps3, mx_ps3, mx_ps3, al_at (by omega), al_at (by omega), al_at (by omega), al_e3, al_p2]
  · rw [al_9 hk]
    exact mx_mul_9 k (by omega)
/-- the first n rows and columns -/
def al_cut (n : Nat) (a : Nat → Int) : Nat → Int := fun k => if k < 9 ∧ k / 3 < n ∧ k % 3 < n then a k else 0
theorem al_cut_at {n : Nat} {a : Nat → Int} {r c : Nat} (hr : r < 3) (hc : c < 3) (h1 : r < n) (h2 : c < n) : al_cut n a (3 * r + c) = a (3 * r + c) := by
  unfold al_cut
  rw [if_pos ⟨by omega, by omega, by omega⟩]
theorem al_cut_z {n : Nat} {a : Nat → Int} : mx_z n (al_cut n a) := by
  refine ⟨fun i j hi hj h => ⟨?_, ?_⟩, fun k hk => if_neg (by omega)⟩
  · exact if_neg (by omega)
  · exact if_neg (by omega)
theorem al_ps {n : Nat} (hn : n = 2 ∨ n = 3) {a b : Nat → Int} {r c : Nat} (hr : r < n) (hc : c < n) : ∀ k, k ≤ n → mx_ps (al_cut n a) (al_cut n b) r c k = mx_ps a b r c k
  | 0, _ => rfl
  | k + 1, hk => by
    show mx_ps (al_cut n a) (al_cut n b) r c k + al_cut n a (3 * r + k) * al_cut n b (3 * k + c) = mx_ps a b r c k + a (3 * r + k) * b (3 * k + c)
    rw [al_ps hn hr hc k (by omega), al_cut_at (by omega) (by omega) hr (by omega), al_cut_at (by omega) (by omega) (by omega) hc]
theorem al_mul {n : Nat} (hn : n = 2 ∨ n = 3) {m : Int} {a b : Nat → Int} : mx_mul n m a b = mx_mul 3 m (al_cut n a) (al_cut n b) := by
  rw [mx_mul3 hn al_cut_z al_cut_z]
  funext k
  unfold mx_mul
  by_cases h : k < 9 ∧ k / 3 < n ∧ k % 3 < n
  · rw [if_pos h, if_pos h, al_ps hn h.2.1 h.2.2 n (Nat.le_refl _)]
  · rw [if_neg h, if_neg h]
theorem al_cut_self {n : Nat} (hn : n = 2 ∨ n = 3) {a : Nat → Int} (h : mx_z n a) : al_cut n a = a := by
  funext k
  unfold al_cut
  by_cases q : k < 9 ∧ k / 3 < n ∧ k % 3 < n
  · rw [if_pos q]
  · rw [if_neg q]
    by_cases h9 : 9 ≤ k
    · exact (h.2 k h9).symm
    · by_cases h1 : n ≤ k / 3
      · have := (h.1 (k / 3) (k % 3) (by omega) (by omega) h1).1
        rw [show 3 * (k / 3) + k % 3 = k by omega] at this
        exact this.symm
      · have := (h.1 (k % 3) (k / 3) (by omega) (by omega) (by omega)).2
        rw [show 3 * (k / 3) + k % 3 = k by omega] at this
        exact this.symm
theorem al_cut_mul {n : Nat} (hn : n = 2 ∨ n = 3) {m : Int} {a b : Nat → Int} : al_cut n (mx_mul n m a b) = mx_mul n m a b := al_cut_self hn mx_mul_z
theorem al_cut_lin {n : Nat} {m : Int} {a b : Nat → Int} {x y : Int} : al_cut n (mx_lin m a x b y) = mx_lin m (al_cut n a) x (al_cut n b) y := by
  funext k
  show (if k < 9 ∧ k / 3 < n ∧ k % 3 < n then mx_lin m a x b y k else 0) = mx_lin m (al_cut n a) x (al_cut n b) y k
  by_cases q : k < 9 ∧ k / 3 < n ∧ k % 3 < n
  · rw [if_pos q, al_at q.1, al_at q.1, show al_cut n a k = a k from if_pos q, show al_cut n b k = b k from if_pos q]
  · rw [if_neg q]
    by_cases h9 : k < 9
    · rw [al_at h9, show al_cut n a k = 0 from if_neg q, show al_cut n b k = 0 from if_neg q]
      simp
    · rw [al_9 h9]
theorem al_L {n : Nat} (hn : n = 2 ∨ n = 3) {m : Int} {a b c : Nat → Int} {x y : Int} : mx_mul n m (mx_lin m a x b y) c = mx_lin m (mx_mul n m a c) x (mx_mul n m b c) y := by
  rw [al_mul hn, al_cut_lin, al_mulL3, ← al_mul hn, ← al_mul hn]
theorem al_R {n : Nat} (hn : n = 2 ∨ n = 3) {m : Int} {a b c : Nat → Int} {x y : Int} : mx_mul n m c (mx_lin m a x b y) = mx_lin m (mx_mul n m c a) x (mx_mul n m c b) y := by
  rw [al_mul hn, al_cut_lin, al_mulR3, ← al_mul hn, ← al_mul hn]
theorem al_A {n : Nat} (hn : n = 2 ∨ n = 3) {m : Int} {a b c : Nat → Int} : mx_mul n m (mx_mul n m a b) c = mx_mul n m a (mx_mul n m b c) := by
  rw [al_mul hn, al_cut_mul hn, al_mul hn (a := a), mx_mul_a, al_mul hn (a := a) (b := mx_mul n m b c), al_cut_mul hn, al_mul hn (a := b)]
theorem al_0R {n : Nat} (hn : n = 2 ∨ n = 3) {m : Int} {a : Nat → Int} : mx_mul n m a (fun _ => 0) = fun _ => 0 := by
  have h0 : al_cut n (fun _ => 0) = fun _ => 0 := al_cut_self hn ⟨fun _ _ _ _ _ => ⟨rfl, rfl⟩, fun _ _ => rfl⟩
  rw [al_mul hn, h0, ls_mul_0]
theorem al_0L {n : Nat} (hn : n = 2 ∨ n = 3) {m : Int} {a : Nat → Int} : mx_mul n m (fun _ => 0) a = fun _ => 0 := by
  have h0 : al_cut n (fun _ => 0) = fun _ => 0 := al_cut_self hn ⟨fun _ _ _ _ _ => ⟨rfl, rfl⟩, fun _ _ => rfl⟩
  rw [al_mul hn, h0]
  funext k
  unfold mx_mul
  split
  · rw [mx_ps3]
    simp
  · rfl
/-- reduced, and 0 from 9 on -/
def al_r (m : Int) (x : Nat → Int) : Prop := mx_ok m x ∧ ∀ k, 9 ≤ k → x k = 0
theorem al_rV {n : Nat} {m : Int} {x : Nat → Int} (h : mx_V n m x) : al_r m x := ⟨h.1, h.2.1.2⟩
theorem al_r_lin {m : Int} (h : 3 ≤ m) {a b : Nat → Int} {x y : Int} : al_r m (mx_lin m a x b y) := ⟨mx_lin_ok h _ _ _ _, mx_lin_9⟩
theorem al_r_mul {n : Nat} {m : Int} (h : 3 ≤ m) {a b : Nat → Int} : al_r m (mx_mul n m a b) := ⟨mx_mul_ok h _ _, mx_mul_9⟩
theorem al_r_inv {n : Nat} {m : Int} (h : 3 ≤ m) {a : Nat → Int} : al_r m (mx_inv n m a) := ⟨mx_inv_ok h a, mx_inv_9⟩
theorem al_md {m x : Int} (h : 0 ≤ x ∧ x < m) : x % m = x := Int.emod_eq_of_lt h.1 h.2
theorem al_l0 {m : Int} {x : Nat → Int} (h : al_r m x) : mx_lin m (fun _ => 0) 1 x 1 = x := by
  funext k
  by_cases hk : k < 9
  · rw [al_at hk, Int.zero_mul, Int.zero_add, Int.mul_one, al_md (h.1 k hk)]
  · rw [al_9 hk, h.2 k (by omega)]
theorem al_lr {m : Int} {x : Nat → Int} (h : al_r m x) {k : Nat} (hk : k < 9) : x k = x k % m := (al_md (h.1 k hk)).symm
/-! the four moduli and their halves -/
def al_h (m h : Int) : Prop := (m = 3 ∧ h = 2) ∨ (m = 5 ∧ h = 3) ∨ (m = 7 ∧ h = 4) ∨ (m = 11 ∧ h = 6)
theorem al_hm {m : Int} (hm : ls_p m) : al_h m ((m + 1) / 2) := by
  rcases hm with rfl | rfl | rfl | rfl
  · exact Or.inl ⟨rfl, rfl⟩
  · exact Or.inr (Or.inl ⟨rfl, rfl⟩)
  · exact Or.inr (Or.inr (Or.inl ⟨rfl, rfl⟩))
  · exact Or.inr (Or.inr (Or.inr ⟨rfl, rfl⟩))
section ALG
variable {n : Nat} {m : Int} {u v A B X : Nat → Int}
/-! the operations keep what they find -/
theorem al_prod_r (hm : 3 ≤ m) {a b : Nat → Int} : al_r m (mx_prod n m u a b) := al_r_lin hm
theorem al_oper_r (hm : 3 ≤ m) {a b : Nat → Int} : al_r m (mx_oper n m u a b) := al_r_mul hm
theorem al_trip_r (hm : 3 ≤ m) {a b c : Nat → Int} : al_r m (mx_trip n m u a b c) := al_r_lin hm
/-! equations that hold always -/
theorem al_1 (hn : n = 2 ∨ n = 3) (hm : ls_p m) : mx_prod n m u A B = mx_prod n m u B A := by
  unfold mx_prod
  funext k
  by_cases hk : k < 9
  · rw [al_at hk, al_at hk, Int.add_comm]
  · rw [al_9 hk, al_9 hk]
theorem al_3 (hn : n = 2 ∨ n = 3) (hm : ls_p m) : mx_oper n m u A B = mx_lin m (mx_lin m (fun _ => 0) 1 (mx_prod n m u A (mx_prod n m u A B)) 2) 1 (mx_prod n m u (mx_prod n m u A A) B) (-1) := by
  have hh := al_hm hm
  unfold mx_prod mx_oper
  simp only [al_L hn, al_R hn, al_A hn]
  generalize (m + 1) / 2 = h at *
  funext k
  by_cases hk : k < 9
  · simp only [al_at hk, al_e2l, al_e2r, Int.zero_mul, Int.zero_add]
    rw [al_lr (m := m) (al_r_mul (ls_3 hm)) hk]
    generalize mx_mul n m A (mx_mul n m u (mx_mul n m B (mx_mul n m u A))) k = w1
    generalize mx_mul n m A (mx_mul n m u (mx_mul n m A (mx_mul n m u B))) k = w2
    generalize mx_mul n m B (mx_mul n m u (mx_mul n m A (mx_mul n m u A))) k = w3
    rcases hh with ⟨rfl, rfl⟩ | ⟨rfl, rfl⟩ | ⟨rfl, rfl⟩ | ⟨rfl, rfl⟩ <;> omega
  · rw [al_9 hk]
    exact mx_mul_9 k (by omega)
theorem al_4 (hn : n = 2 ∨ n = 3) (hm : ls_p m) : mx_trip n m u A B A = mx_oper n m u A B := by
  have hh := al_hm hm
  unfold mx_trip mx_oper
  simp only [al_L hn, al_R hn, al_A hn]
  generalize (m + 1) / 2 = h at *
  funext k
  by_cases hk : k < 9
  · simp only [al_at hk, al_e2l, al_e2r, Int.zero_mul, Int.zero_add]
    rw [al_lr (m := m) (x := mx_mul n m A _) (al_r_mul (ls_3 hm)) hk]
    generalize mx_mul n m A (mx_mul n m u (mx_mul n m B (mx_mul n m u A))) k = w1
    rcases hh with ⟨rfl, rfl⟩ | ⟨rfl, rfl⟩ | ⟨rfl, rfl⟩ | ⟨rfl, rfl⟩ <;> omega
  · rw [al_9 hk]
    exact (mx_mul_9 k (by omega)).symm
theorem al_5 (hn : n = 2 ∨ n = 3) {C : Nat → Int} : mx_oper n m u (mx_oper n m u A B) C = mx_oper n m u A (mx_oper n m u B (mx_oper n m u A C)) := by
  unfold mx_oper
  simp only [al_A hn]
theorem al_6 (hn : n = 2 ∨ n = 3) (hm : ls_p m) {C : Nat → Int} : mx_oper n m u (mx_lin m A 1 B 1) C = mx_lin m (mx_lin m (mx_oper n m u A C) 1 (mx_oper n m u B C) 1) 1 (mx_trip n m u A C B) 2 := by
  have hh := al_hm hm
  unfold mx_trip mx_oper
  simp only [al_L hn, al_R hn, al_A hn]
  generalize (m + 1) / 2 = h at *
  funext k
  by_cases hk : k < 9
  · simp only [al_at hk, al_e2l, al_e2r, Int.zero_mul, Int.zero_add]
    generalize mx_mul n m A (mx_mul n m u (mx_mul n m C (mx_mul n m u A))) k = w1
    generalize mx_mul n m A (mx_mul n m u (mx_mul n m C (mx_mul n m u B))) k = w2
    generalize mx_mul n m B (mx_mul n m u (mx_mul n m C (mx_mul n m u A))) k = w3
    generalize mx_mul n m B (mx_mul n m u (mx_mul n m C (mx_mul n m u B))) k = w4
    rcases hh with ⟨rfl, rfl⟩ | ⟨rfl, rfl⟩ | ⟨rfl, rfl⟩ | ⟨rfl, rfl⟩ <;> omega
  · rw [al_9 hk, al_9 hk]
theorem al_7 (hn : n = 2 ∨ n = 3) (hm : ls_p m) : mx_prod n m u (mx_prod n m u A A) (mx_prod n m u A B) = mx_prod n m u A (mx_prod n m u (mx_prod n m u A A) B) := by
  have hh := al_hm hm
  unfold mx_prod
  simp only [al_L hn, al_R hn, al_A hn]
  generalize (m + 1) / 2 = h at *
  funext k
  by_cases hk : k < 9
  · simp only [al_at hk, al_e2l, al_e2r, Int.zero_mul, Int.zero_add]
    generalize mx_mul n m A (mx_mul n m u (mx_mul n m A (mx_mul n m u (mx_mul n m A (mx_mul n m u B))))) k = w1
    generalize mx_mul n m A (mx_mul n m u (mx_mul n m A (mx_mul n m u (mx_mul n m B (mx_mul n m u A))))) k = w2
    generalize mx_mul n m A (mx_mul n m u (mx_mul n m B (mx_mul n m u (mx_mul n m A (mx_mul n m u A))))) k = w3
    generalize mx_mul n m B (mx_mul n m u (mx_mul n m A (mx_mul n m u (mx_mul n m A (mx_mul n m u A))))) k = w4
    rcases hh with ⟨rfl, rfl⟩ | ⟨rfl, rfl⟩ | ⟨rfl, rfl⟩ | ⟨rfl, rfl⟩ <;> omega
  · rw [al_9 hk, al_9 hk]
/-! with the unit v: the base u and v cancel -/
theorem al_idz (hn : n = 2 ∨ n = 3) : mx_z n (mx_id (n : Int)) := by
  refine ⟨fun i j hi hj h => ⟨?_, ?_⟩, fun k hk => ?_⟩
  · rw [mx_id_at, if_neg (by omega)]
  · rw [mx_id_at, if_neg (by omega)]
  · rw [mx_id_at, if_neg (by omega)]
theorem al_Ix (hn : n = 2 ∨ n = 3) {x : Nat → Int} (hx : mx_V n m x) : mx_mul n m (mx_id (n : Int)) x = x := by
  rw [← mx_mul3 hn (al_idz hn) hx.2.1]
  exact mx_id_mul hn hx.1 hx.2.1
theorem al_xI (hn : n = 2 ∨ n = 3) {x : Nat → Int} (hx : mx_V n m x) : mx_mul n m x (mx_id (n : Int)) = x := by
  rw [← mx_mul3 hn hx.2.1 (al_idz hn)]
  exact mx_mul_id hn hx
theorem al_Im (hn : n = 2 ∨ n = 3) (hm : ls_p m) {a b : Nat → Int} : mx_mul n m (mx_id (n : Int)) (mx_mul n m a b) = mx_mul n m a b := by
  rw [← mx_mul3 hn (al_idz hn) mx_mul_z]
  exact mx_id_mul hn (mx_mul_ok (ls_3 hm) _ _) mx_mul_z
theorem al_2 (hn : n = 2 ∨ n = 3) (hm : ls_p m) (hA : mx_V n m A) (vu : mx_mul n m v u = mx_id (n : Int)) (uv : mx_mul n m u v = mx_id (n : Int)) : mx_prod n m u v A = A := by
  have hh := al_hm hm
  unfold mx_prod
  simp only [al_A hn, uv, al_xI hn hA]
  rw [← al_A hn (a := v), vu, al_Ix hn hA]
  generalize (m + 1) / 2 = h at *
  funext k
  by_cases hk : k < 9
  · rw [al_at hk]
    have h1 := al_lr (al_rV hA) hk
    revert h1
    generalize A k = w1
    intro h1
    rcases hh with ⟨rfl, rfl⟩ | ⟨rfl, rfl⟩ | ⟨rfl, rfl⟩ | ⟨rfl, rfl⟩ <;> omega
  · rw [al_9 hk, (al_rV hA).2 k (by omega)]
theorem al_half (hm : ls_p m) {x : Nat → Int} (hx : al_r m x) : mx_lin m x ((m + 1) / 2) x ((m + 1) / 2) = x := by
  have hh := al_hm hm
  generalize (m + 1) / 2 = h at *
  funext k
  by_cases hk : k < 9
  · rw [al_at hk]
    have h1 := al_lr hx hk
    revert h1
    generalize x k = w1
    intro h1
    rcases hh with ⟨rfl, rfl⟩ | ⟨rfl, rfl⟩ | ⟨rfl, rfl⟩ | ⟨rfl, rfl⟩ <;> omega
  · rw [al_9 hk, hx.2 k (by omega)]
/-! the inverse -/
variable {w : Nat → Int}
theorem al_vx (hn : n = 2 ∨ n = 3) {a b : Nat → Int} (h : mx_mul n m a b = mx_id (n : Int)) (x : Nat → Int) : mx_mul n m a (mx_mul n m b x) = mx_mul n m (mx_id (n : Int)) x := by rw [← al_A hn, h]
theorem al_iV (hn : n = 2 ∨ n = 3) (hm : ls_p m) (hv : mx_V n m v) (hw : mx_V n m w) : mx_V n m (mx_mul n m (mx_mul n m v w) v) := by
  refine ⟨mx_mul_ok (ls_3 hm) _ _, mx_mul_z, fun i j hi hj => ?_⟩
  have h1 := mx_mul_t3 (m := m) hv.2.2 hw.2.2 hv.2.2 (k := 3 * i + j) (by omega)
  rw [mx_t_at hj, mx_mul3 hn hv.2.1 hw.2.1, mx_mul3 hn mx_mul_z hv.2.1] at h1
  exact h1.symm
theorem al_8 (hn : n = 2 ∨ n = 3) (hm : ls_p m) (hA : mx_V n m A) (hv : mx_V n m v) (vu : mx_mul n m v u = mx_id (n : Int)) (uv : mx_mul n m u v = mx_id (n : Int)) (wA : mx_mul n m w A = mx_id (n : Int)) : mx_oper n m u A (mx_mul n m (mx_mul n m v w) v) = A := by
  unfold mx_oper
  simp only [al_A hn, al_vx hn vu, al_vx hn uv, al_Im hn hm, al_Ix hn hA, wA, al_xI hn hv, uv, al_xI hn hA]
theorem al_p9 (hn : n = 2 ∨ n = 3) (hm : ls_p m) (hA : mx_V n m A) (hv : mx_V n m v) (vu : mx_mul n m v u = mx_id (n : Int)) (uv : mx_mul n m u v = mx_id (n : Int)) (wA : mx_mul n m w A = mx_id (n : Int)) (Aw : mx_mul n m A w = mx_id (n : Int)) : mx_prod n m u A (mx_mul n m (mx_mul n m v w) v) = v := by
  unfold mx_prod
  simp only [al_A hn, al_vx hn vu, al_vx hn uv, al_vx hn Aw, al_Im hn hm, al_Ix hn hA, al_Ix hn hv, wA, al_xI hn hv]
  exact al_half hm (al_rV hv)
theorem al_10d (hn : n = 2 ∨ n = 3) (hm : ls_p m) (hu : mx_V n m u) (hv : mx_V n m v) (hw : mx_V n m w) (vu : mx_mul n m v u = mx_id (n : Int)) (wA : mx_mul n m w A = mx_id (n : Int)) : mx_mul n m (mx_mul n m (mx_mul n m v w) v) (mx_mul n m (mx_mul n m u A) u) = mx_id (n : Int) := by
  simp only [al_A hn, al_vx hn vu, al_vx hn wA, al_Im hn hm, al_Ix hn hu, vu]
theorem al_10 (hn : n = 2 ∨ n = 3) (hm : ls_p m) (hA : mx_V n m A) (hu : mx_V n m u) (hv : mx_V n m v) (hw : mx_V n m w) (vu : mx_mul n m v u = mx_id (n : Int)) (uv : mx_mul n m u v = mx_id (n : Int)) (wA : mx_mul n m w A = mx_id (n : Int)) : mx_det n m (mx_mul n m (mx_mul n m v w) v) ≠ 0 ∧ mx_mul n m (mx_mul n m v (mx_inv n m (mx_mul n m (mx_mul n m v w) v))) v = A := by
  have h3 := ls_3 hm
  have hX := al_iV hn hm hv hw
  have hXY := al_10d hn hm hu hv hw vu wA
  have hd : mx_det n m (mx_mul n m (mx_mul n m v w) v) ≠ 0 := ls_nsing hn hm hX (Y := mx_mul n m (mx_mul n m u A) u) (by rw [mx_mul3 hn mx_mul_z mx_mul_z]; exact hXY)
  refine ⟨hd, ?_⟩
  have h1 := mx_inv_mul hn hm hX.2.1 hd
  have hI := mx_inv_V hn h3 (m := m) hX.2.2
  rw [mx_mul3 hn hI.2.1 hX.2.1] at h1
  have h2 : mx_inv n m (mx_mul n m (mx_mul n m v w) v) = mx_mul n m (mx_mul n m u A) u := by
    have e1 := al_xI hn hI
    rw [← hXY, ← al_A hn, h1, al_Im hn hm] at e1
    exact e1.symm
  rw [h2]
  simp only [al_A hn, al_vx hn vu, al_Im hn hm, uv, al_xI hn hA, al_Ix hn hA]
/-! an element that is its own square, and the parts -/
variable {e : Nat → Int}
theorem al_ex (hn : n = 2 ∨ n = 3) (eue : mx_mul n m e (mx_mul n m u e) = e) (x : Nat → Int) : mx_mul n m e (mx_mul n m u (mx_mul n m e x)) = mx_mul n m e x := by
  rw [← al_A hn (a := u), ← al_A hn (a := e), eue]
theorem al_12 (hm : ls_p m) (hB : al_r m B) {F H : Nat → Int} : mx_lin m (mx_lin m F 1 (mx_lin m B 1 (mx_lin m F 1 H 1) (-1)) 1) 1 H 1 = B := by
  have hh := al_hm hm
  funext k
  by_cases hk : k < 9
  · have h1 := al_lr hB hk
    simp only [al_at hk, al_e2l, al_e2r]
    revert h1
    generalize B k = w1
    generalize F k = w2
    generalize H k = w3
    intro h1
    rcases hh with ⟨rfl, -⟩ | ⟨rfl, -⟩ | ⟨rfl, -⟩ | ⟨rfl, -⟩ <;> omega
  · rw [al_9 hk, hB.2 k (by omega)]
theorem al_13 (hn : n = 2 ∨ n = 3) (hm : ls_p m) (eue : mx_mul n m e (mx_mul n m u e) = e) : mx_prod n m u e (mx_oper n m u e B) = mx_oper n m u e B := by
  unfold mx_prod mx_oper
  simp only [al_A hn, al_ex hn eue, eue]
  exact al_half hm (al_r_mul (ls_3 hm))
theorem al_14 (hn : n = 2 ∨ n = 3) (hm : ls_p m) (hB : mx_V n m B) (vu : mx_mul n m v u = mx_id (n : Int)) (uv : mx_mul n m u v = mx_id (n : Int)) (eue : mx_mul n m e (mx_mul n m u e) = e) : mx_lin m (fun _ => 0) 1 (mx_prod n m u e (mx_lin m B 1 (mx_lin m (mx_oper n m u e B) 1 (mx_oper n m u (mx_lin m v 1 e (-1)) B) 1) (-1))) 2 = mx_lin m B 1 (mx_lin m (mx_oper n m u e B) 1 (mx_oper n m u (mx_lin m v 1 e (-1)) B) 1) (-1) := by
  have hh := al_hm hm
  unfold mx_prod mx_oper
  simp only [al_L hn, al_R hn, al_A hn, al_vx hn vu, al_Im hn hm, uv, al_xI hn hB, al_Ix hn hB, al_ex hn eue, eue]
  generalize (m + 1) / 2 = h at *
  funext k
  by_cases hk : k < 9
  · simp only [al_at hk, al_e2l, al_e2r, Int.zero_mul, Int.zero_add]
    generalize mx_mul n m e (mx_mul n m u (mx_mul n m B (mx_mul n m u e))) k = w1
    generalize mx_mul n m e (mx_mul n m u B) k = w2
    generalize mx_mul n m B (mx_mul n m u e) k = w3
    generalize B k = w4
    rcases hh with ⟨rfl, rfl⟩ | ⟨rfl, rfl⟩ | ⟨rfl, rfl⟩ | ⟨rfl, rfl⟩ <;> omega
  · rw [al_9 hk, al_9 hk]
theorem al_15 (hn : n = 2 ∨ n = 3) (hm : ls_p m) (hB : mx_V n m B) (vu : mx_mul n m v u = mx_id (n : Int)) (uv : mx_mul n m u v = mx_id (n : Int)) (eue : mx_mul n m e (mx_mul n m u e) = e) : mx_prod n m u e (mx_oper n m u (mx_lin m v 1 e (-1)) B) = mx_lin m A 1 A (-1) := by
  have hh := al_hm hm
  unfold mx_prod mx_oper
  simp only [al_L hn, al_R hn, al_A hn, al_vx hn vu, al_Im hn hm, uv, al_xI hn hB, al_Ix hn hB, al_ex hn eue, eue]
  generalize (m + 1) / 2 = h at *
  funext k
  by_cases hk : k < 9
  · simp only [al_at hk, al_e2l, al_e2r, Int.zero_mul, Int.zero_add]
    generalize mx_mul n m e (mx_mul n m u (mx_mul n m B (mx_mul n m u e))) k = w1
    generalize mx_mul n m e (mx_mul n m u B) k = w2
    generalize mx_mul n m B (mx_mul n m u e) k = w3
    generalize A k = w4
    rcases hh with ⟨rfl, rfl⟩ | ⟨rfl, rfl⟩ | ⟨rfl, rfl⟩ | ⟨rfl, rfl⟩ <;> omega
  · rw [al_9 hk, al_9 hk]
end ALG
