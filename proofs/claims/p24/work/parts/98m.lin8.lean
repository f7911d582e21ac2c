/-! how many parts there are -/
def ls_row (a : Nat → Int) (i : Nat) : Nat → Int := fun j => if j < 3 then a (3 * i + j) else 0
def ls_B (x y : Nat → Int) : Nat → Int := fun k => x (k / 3) * y (k % 3) + y (k / 3) * x (k % 3)
def ls_T (a Q c : Nat → Int) (i j : Nat) : Int := (a (3 * i) * Q 0 + a (3 * i + 1) * Q 3 + a (3 * i + 2) * Q 6) * c j + (a (3 * i) * Q 1 + a (3 * i + 1) * Q 4 + a (3 * i + 2) * Q 7) * c (3 + j) + (a (3 * i) * Q 2 + a (3 * i + 1) * Q 5 + a (3 * i + 2) * Q 8) * c (6 + j)
theorem ls_mm {m : Int} {a b : Nat → Int} {r c : Nat} (hr : r < 3) (hc : c < 3) : m ∣ mx_mul 3 m a b (3 * r + c) - (a (3 * r) * b c + a (3 * r + 1) * b (3 + c) + a (3 * r + 2) * b (6 + c)) := by
  rw [mx_mul3_at hr hc, mx_ps3]
  exact ls_em
theorem ls_T_m {m : Int} {a Q c : Nat → Int} {i j : Nat} (hi : i < 3) (hj : j < 3) : m ∣ mx_mul 3 m (mx_mul 3 m a Q) c (3 * i + j) - ls_T a Q c i j := by
  obtain ⟨p0, h0⟩ := @ls_mm m a Q i 0 hi (by decide)
  obtain ⟨p1, h1⟩ := @ls_mm m a Q i 1 hi (by decide)
  obtain ⟨p2, h2⟩ := @ls_mm m a Q i 2 hi (by decide)
  obtain ⟨p, h⟩ := @ls_mm m (mx_mul 3 m a Q) c i j hi hj
  rw [Nat.add_zero] at h0
  have h0 : mx_mul 3 m a Q (3 * i) = a (3 * i) * Q 0 + a (3 * i + 1) * Q 3 + a (3 * i + 2) * Q 6 + m * p0 := by
    have h0 : mx_mul 3 m a Q (3 * i) - (a (3 * i) * Q 0 + a (3 * i + 1) * Q 3 + a (3 * i + 2) * Q 6) = m * p0 := h0
    omega
  have h1 : mx_mul 3 m a Q (3 * i + 1) = a (3 * i) * Q 1 + a (3 * i + 1) * Q 4 + a (3 * i + 2) * Q 7 + m * p1 := by
    have h1 : mx_mul 3 m a Q (3 * i + 1) - (a (3 * i) * Q 1 + a (3 * i + 1) * Q 4 + a (3 * i + 2) * Q 7) = m * p1 := h1
    omega
  have h2 : mx_mul 3 m a Q (3 * i + 2) = a (3 * i) * Q 2 + a (3 * i + 1) * Q 5 + a (3 * i + 2) * Q 8 + m * p2 := by
    have h2 : mx_mul 3 m a Q (3 * i + 2) - (a (3 * i) * Q 2 + a (3 * i + 1) * Q 5 + a (3 * i + 2) * Q 8) = m * p2 := h2
    omega
  rw [h0, h1, h2] at h
  unfold ls_T
  exact ⟨p + p0 * c j + p1 * c (3 + j) + p2 * c (6 + j), by grind⟩
theorem ls_T_t {a Q c : Nat → Int} (sa : mx_s a) (sQ : mx_s Q) (sc : mx_s c) {i j : Nat} (hi : i < 3) (hj : j < 3) : ls_T c Q a i j = ls_T a Q c j i := by
  have q1 : Q 3 = Q 1 := sQ 1 0 (by decide) (by decide)
  have q2 : Q 6 = Q 2 := sQ 2 0 (by decide) (by decide)
  have q3 : Q 7 = Q 5 := sQ 2 1 (by decide) (by decide)
  have a0 : a (3 * j) = a j := by
    have := sa j 0 hj (by decide)
    rw [Nat.add_zero] at this
    rw [this, show 3 * 0 + j = j by omega]
  have a1 : a (3 * j + 1) = a (3 + j) := sa j 1 hj (by decide)
  have a2 : a (3 * j + 2) = a (6 + j) := sa j 2 hj (by decide)
  have c0 : c (3 * i) = c i := by
    have := sc i 0 hi (by decide)
    rw [Nat.add_zero] at this
    rw [this, show 3 * 0 + i = i by omega]
  have c1 : c (3 * i + 1) = c (3 + i) := sc i 1 hi (by decide)
  have c2 : c (3 * i + 2) = c (6 + i) := sc i 2 hi (by decide)
  unfold ls_T
  rw [q1, q2, q3, a0, a1, a2, c0, c1, c2]
  grind
theorem ls_T_add {m : Int} {v e f Q : Nat → Int} (h : ∀ k, k < 9 → m ∣ v k - (e k + f k)) {i j : Nat} (hi : i < 3) (hj : j < 3) : m ∣ ls_T v Q v i j - (ls_T e Q e i j + ls_T e Q f i j + ls_T f Q e i j + ls_T f Q f i j) := by
  obtain ⟨w0, h0⟩ := h (3 * i) (by omega)
  obtain ⟨w1, h1⟩ := h (3 * i + 1) (by omega)
  obtain ⟨w2, h2⟩ := h (3 * i + 2) (by omega)
  obtain ⟨y0, g0⟩ := h j (by omega)
  obtain ⟨y1, g1⟩ := h (3 + j) (by omega)
  obtain ⟨y2, g2⟩ := h (6 + j) (by omega)
  have h0 : v (3 * i) = e (3 * i) + f (3 * i) + m * w0 := by omega
  have h1 : v (3 * i + 1) = e (3 * i + 1) + f (3 * i + 1) + m * w1 := by omega
  have h2 : v (3 * i + 2) = e (3 * i + 2) + f (3 * i + 2) + m * w2 := by omega
  have g0 : v j = e j + f j + m * y0 := by omega
  have g1 : v (3 + j) = e (3 + j) + f (3 + j) + m * y1 := by omega
  have g2 : v (6 + j) = e (6 + j) + f (6 + j) + m * y2 := by omega
  clear h
  have s1 : m ∣ ls_T v Q v i j - ((e (3 * i) + f (3 * i)) * Q 0 + (e (3 * i + 1) + f (3 * i + 1)) * Q 3 + (e (3 * i + 2) + f (3 * i + 2)) * Q 6) * v j - ((e (3 * i) + f (3 * i)) * Q 1 + (e (3 * i + 1) + f (3 * i + 1)) * Q 4 + (e (3 * i + 2) + f (3 * i + 2)) * Q 7) * v (3 + j) - ((e (3 * i) + f (3 * i)) * Q 2 + (e (3 * i + 1) + f (3 * i + 1)) * Q 5 + (e (3 * i + 2) + f (3 * i + 2)) * Q 8) * v (6 + j) := by
    unfold ls_T
    rw [h0, h1, h2]
    refine ⟨(w0 * Q 0 + w1 * Q 3 + w2 * Q 6) * v j + (w0 * Q 1 + w1 * Q 4 + w2 * Q 7) * v (3 + j) + (w0 * Q 2 + w1 * Q 5 + w2 * Q 8) * v (6 + j), ?_⟩
    clear h0 h1 h2 g0 g1 g2
    grind
  obtain ⟨p, hp⟩ := s1
  have hp : ls_T v Q v i j = ((e (3 * i) + f (3 * i)) * Q 0 + (e (3 * i + 1) + f (3 * i + 1)) * Q 3 + (e (3 * i + 2) + f (3 * i + 2)) * Q 6) * v j + ((e (3 * i) + f (3 * i)) * Q 1 + (e (3 * i + 1) + f (3 * i + 1)) * Q 4 + (e (3 * i + 2) + f (3 * i + 2)) * Q 7) * v (3 + j) + ((e (3 * i) + f (3 * i)) * Q 2 + (e (3 * i + 1) + f (3 * i + 1)) * Q 5 + (e (3 * i + 2) + f (3 * i + 2)) * Q 8) * v (6 + j) + m * p := by omega
  rw [hp, g0, g1, g2]
  unfold ls_T
  refine ⟨p + ((e (3 * i) + f (3 * i)) * Q 0 + (e (3 * i + 1) + f (3 * i + 1)) * Q 3 + (e (3 * i + 2) + f (3 * i + 2)) * Q 6) * y0 + ((e (3 * i) + f (3 * i)) * Q 1 + (e (3 * i + 1) + f (3 * i + 1)) * Q 4 + (e (3 * i + 2) + f (3 * i + 2)) * Q 7) * y1 + ((e (3 * i) + f (3 * i)) * Q 2 + (e (3 * i + 1) + f (3 * i + 1)) * Q 5 + (e (3 * i + 2) + f (3 * i + 2)) * Q 8) * y2, ?_⟩
  clear h0 h1 h2 g0 g1 g2 hp
  grind
theorem ls_T_B {a Q c : Nat → Int} (sa : mx_s a) {i j : Nat} (hi : i < 3) (hj : j < 3) : ls_T a Q c i j + ls_T a Q c j i = ls_su (fun p => 1 * ls_su (fun q => Q (3 * p + q) * ls_B (ls_row a p) (ls_row c q) (3 * i + j)) 3) 3 := by
  have e : ∀ p q, p < 3 → q < 3 → ls_B (ls_row a p) (ls_row c q) (3 * i + j) = a (3 * i + p) * c (3 * q + j) + c (3 * q + i) * a (3 * j + p) := fun p q hp hq => by
    unfold ls_B ls_row
    rw [show (3 * i + j) / 3 = i by omega, show (3 * i + j) % 3 = j by omega, if_pos hi, if_pos hj, if_pos hi, if_pos hj, sa p i hp hi, sa p j hp hj]
  show _ = 0 + 1 * (0 + Q (3 * 0 + 0) * ls_B (ls_row a 0) (ls_row c 0) (3 * i + j) + Q (3 * 0 + 1) * ls_B (ls_row a 0) (ls_row c 1) (3 * i + j) + Q (3 * 0 + 2) * ls_B (ls_row a 0) (ls_row c 2) (3 * i + j)) + 1 * (0 + Q (3 * 1 + 0) * ls_B (ls_row a 1) (ls_row c 0) (3 * i + j) + Q (3 * 1 + 1) * ls_B (ls_row a 1) (ls_row c 1) (3 * i + j) + Q (3 * 1 + 2) * ls_B (ls_row a 1) (ls_row c 2) (3 * i + j)) + 1 * (0 + Q (3 * 2 + 0) * ls_B (ls_row a 2) (ls_row c 0) (3 * i + j) + Q (3 * 2 + 1) * ls_B (ls_row a 2) (ls_row c 1) (3 * i + j) + Q (3 * 2 + 2) * ls_B (ls_row a 2) (ls_row c 2) (3 * i + j))
  rw [e 0 0 (by decide) (by decide), e 0 1 (by decide) (by decide), e 0 2 (by decide) (by decide), e 1 0 (by decide) (by decide), e 1 1 (by decide) (by decide), e 1 2 (by decide) (by decide), e 2 0 (by decide) (by decide), e 2 1 (by decide) (by decide), e 2 2 (by decide) (by decide)]
  unfold ls_T
  simp only [Nat.mul_zero, Nat.zero_add, Nat.add_zero, Nat.mul_one, Nat.reduceMul, Nat.reduceAdd]
  clear e
  grind
theorem ls_B_s (x y : Nat → Int) : ls_B x y = ls_B y x := by
  funext k
  unfold ls_B
  omega
theorem ls_B_lc {m : Int} {P : (Nat → Int) → Prop} (h : ls_lc m P) (y : Nat → Int) : ls_lc m (fun x => P (ls_B x y)) := by
  refine ⟨ls_lc_0 h (fun k _ => ⟨0, by unfold ls_B; grind⟩), fun x x' z s t hx hx' hz => h.2 _ _ _ s t hx hx' (fun k hk => ?_)⟩
  obtain ⟨p, hp⟩ := hz (k / 3) (by omega)
  obtain ⟨q, hq⟩ := hz (k % 3) (by omega)
  have hp : z (k / 3) = s * x (k / 3) + t * x' (k / 3) + m * p := by omega
  have hq : z (k % 3) = s * x (k % 3) + t * x' (k % 3) + m * q := by omega
  unfold ls_B
  rw [hp, hq]
  exact ⟨p * y (k % 3) + q * y (k / 3), by grind⟩
theorem ls_B_P {m : Int} {P : (Nat → Int) → Prop} (h : ls_lc m P) {R R' : Nat → Nat → Int} {r r' : Nat} (g : ∀ k l, k < r → l < r' → P (ls_B (R k) (R' l))) {x y : Nat → Int} (hx : ls_Sp m R r x) (hy : ls_Sp m R' r' y) : P (ls_B x y) := by
  have h1 : ∀ l, l < r' → P (ls_B x (R' l)) := fun l hl => ls_Sp_P (ls_B_lc h (R' l)) hx (fun k hk => g k l hk hl)
  have h2 := ls_Sp_P (ls_B_lc h x) hy (fun l hl => by
    show P (ls_B (R' l) x)
    rw [ls_B_s]
    exact h1 l hl)
  rw [ls_B_s]
  exact h2
theorem ls_bil {m : Int} {P : (Nat → Int) → Prop} (h : ls_lc m P) {R R' : Nat → Nat → Int} {r r' : Nat} (g : ∀ k l, k < r → l < r' → P (ls_B (R k) (R' l))) {a Q c : Nat → Int} (sa : mx_s a) (ha : ∀ p, p < 3 → ls_Sp m R r (ls_row a p)) (hc : ∀ p, p < 3 → ls_Sp m R' r' (ls_row c p)) : P (fun k => ls_T a Q c (k / 3) (k % 3) + ls_T a Q c (k % 3) (k / 3)) := by
  have h1 : P (fun k => ls_su (fun p => 1 * ls_su (fun q => Q (3 * p + q) * ls_B (ls_row a p) (ls_row c q) k) 3) 3) := ls_lc_su h (R := fun p k => ls_su (fun q => Q (3 * p + q) * ls_B (ls_row a p) (ls_row c q) k) 3) (fun _ => 1) 3 (fun p hp => ls_lc_su h (R := fun q => ls_B (ls_row a p) (ls_row c q)) (fun q => Q (3 * p + q)) 3 (fun q hq => ls_B_P h g (ha p hp) (hc q hq)))
  refine ls_lc_e h h1 (fun k hk => ?_)
  have e := ls_T_B (a := a) (Q := Q) (c := c) sa (i := k / 3) (j := k % 3) (by omega) (by omega)
  rw [show 3 * (k / 3) + k % 3 = k by omega] at e
  skip
  rw [e, Int.sub_self]
  exact Int.dvd_zero m
theorem ls_lc_2 {m : Int} (hm : ls_p m) {P : (Nat → Int) → Prop} (h : ls_lc m P) {x z : Nat → Int} (hx : P x) (hz : ∀ k, k < 9 → m ∣ 2 * z k - x k) : P z := by
  obtain ⟨w, hw⟩ : ∃ w, 2 * w = m + 1 := by
    rcases hm with rfl | rfl | rfl | rfl
    · exact ⟨2, rfl⟩
    · exact ⟨3, rfl⟩
    · exact ⟨4, rfl⟩
    · exact ⟨6, rfl⟩
  refine h.2 x x z w 0 hx hx (fun k hk => ?_)
  obtain ⟨p, hp⟩ := hz k hk
  exact ⟨w * p - z k, by grind⟩
/-- pairs in a row -/
def ls_tk (i : Nat) : Nat := if i = 0 then 0 else if i = 1 then 0 else if i = 2 then 1 else if i = 3 then 0 else if i = 4 then 1 else 2
def ls_tl (i : Nat) : Nat := if i = 0 then 0 else if i = 1 then 1 else if i = 2 then 1 else 2
theorem ls_tri {m : Int} {R : Nat → Nat → Int} {r : Nat} (hr : r ≤ 3) {k l : Nat} (hk : k < r) (hl : l < r) : ls_Sp m (fun i => ls_B (R (ls_tk i)) (R (ls_tl i))) (r * (r + 1) / 2) (ls_B (R k) (R l)) := by
  have key : ∀ i, i < r * (r + 1) / 2 → ls_Sp m (fun i => ls_B (R (ls_tk i)) (R (ls_tl i))) (r * (r + 1) / 2) (ls_B (R (ls_tk i)) (R (ls_tl i))) := fun i hi => ls_Sp_i (R := fun i => ls_B (R (ls_tk i)) (R (ls_tl i))) hi
  have sw := ls_B_s (R k) (R l)
  rcases (show r = 0 ∨ r = 1 ∨ r = 2 ∨ r = 3 by omega) with rfl | rfl | rfl | rfl
  · omega
  · obtain rfl : k = 0 := by omega
    obtain rfl : l = 0 := by omega
    exact key 0 (by decide)
  · rcases (show k = 0 ∨ k = 1 by omega) with rfl | rfl <;> rcases (show l = 0 ∨ l = 1 by omega) with rfl | rfl
    · exact key 0 (by decide)
    · exact key 1 (by decide)
    · rw [sw]; exact key 1 (by decide)
    · exact key 2 (by decide)
  · rcases (show k = 0 ∨ k = 1 ∨ k = 2 by omega) with rfl | rfl | rfl <;> rcases (show l = 0 ∨ l = 1 ∨ l = 2 by omega) with rfl | rfl | rfl
    · exact key 0 (by decide)
    · exact key 1 (by decide)
    · exact key 3 (by decide)
    · rw [sw]; exact key 1 (by decide)
    · exact key 2 (by decide)
    · exact key 4 (by decide)
    · rw [sw]; exact key 3 (by decide)
    · rw [sw]; exact key 4 (by decide)
    · exact key 5 (by decide)
theorem ls_rec {m : Int} {R R' : Nat → Nat → Int} {r r' : Nat} {k l : Nat} (hk : k < r) (hl : l < r') : ls_Sp m (fun i => ls_B (R (i / r')) (R' (i % r'))) (r * r') (ls_B (R k) (R' l)) := by
  have h1 : k * r' + l < r * r' := by
    have : (k + 1) * r' ≤ r * r' := Nat.mul_le_mul_right r' (by omega)
    rw [Nat.succ_mul] at this
    omega
  have h := ls_Sp_i (m := m) (R := fun i => ls_B (R (i / r')) (R' (i % r'))) h1
  skip
  rwa [show (k * r' + l) / r' = k by rw [Nat.add_comm, Nat.add_mul_div_right _ _ (by omega), Nat.div_eq_of_lt hl, Nat.zero_add], show (k * r' + l) % r' = l by rw [Nat.add_comm, Nat.add_mul_mod_self_right, Nat.mod_eq_of_lt hl]] at h
