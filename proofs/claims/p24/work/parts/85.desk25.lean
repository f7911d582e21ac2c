/-- an element: in range, symmetric, 0 outside the size -/
def mx_V (n : Nat) (m : Int) (a : Nat → Int) : Prop := mx_ok m a ∧ mx_z n a ∧ mx_s a
theorem mx_sym_at {m : Int} {x : Nat → Int} {i j : Nat} (hi : i < 3) (hj : j < 3) : mx_sym m x (3 * i + j) = (if (x (3 * i + j) + x (3 * j + i)) % 2 = 0 then x (3 * i + j) + x (3 * j + i) else x (3 * i + j) + x (3 * j + i) + m) / 2 % m := by
  unfold mx_sym
  rw [if_pos (show 3 * i + j < 9 by omega), show 3 * ((3 * i + j) % 3) + (3 * i + j) / 3 = 3 * j + i by omega]
theorem mx_sym_s {m : Int} {x : Nat → Int} : mx_s (mx_sym m x) := fun i j hi hj => by
  rw [mx_sym_at hi hj, mx_sym_at hj hi, Int.add_comm (x (3 * j + i))]
theorem mx_sym_z {n : Nat} {m : Int} {x : Nat → Int} (h : mx_z n x) : mx_z n (mx_sym m x) := by
  have key : ∀ i j, i < 3 → j < 3 → n ≤ i → mx_sym m x (3 * i + j) = 0 := fun i j hi hj hn => by
    unfold mx_sym
    rw [if_pos (by omega), show 3 * ((3 * i + j) % 3) + (3 * i + j) / 3 = 3 * j + i by omega, (h.1 i j hi hj hn).1, (h.1 i j hi hj hn).2]
    rfl
  refine ⟨fun i j hi hj hn => ⟨key i j hi hj hn, ?_⟩, mx_sym_9⟩
  rw [mx_sym_s j i hj hi]
  exact key i j hi hj hn
theorem mc_prod_V {n : Nat} (hn : n = 2 ∨ n = 3) {m : Int} (hm : 3 ≤ m) {a u b : Nat → Int} (za : mx_z n a) (zu : mx_z n u) (zb : mx_z n b) : mx_V n m (mc_prod m u a b) := by
  refine ⟨mx_sym_ok hm _, ?_, mx_sym_s⟩
  unfold mc_prod
  rw [mx_mul3 hn za zu, mx_mul3 hn mx_mul_z zb]
  exact mx_sym_z mx_mul_z
theorem mc_trip_V {n : Nat} (hn : n = 2 ∨ n = 3) {m : Int} (hm : 3 ≤ m) {a u b c : Nat → Int} (za : mx_z n a) (zu : mx_z n u) (zb : mx_z n b) (zc : mx_z n c) : mx_V n m (mc_trip m u a b c) := by
  refine ⟨mx_sym_ok hm _, ?_, mx_sym_s⟩
  unfold mc_trip
  rw [mx_mul3 hn za zu, mx_mul3 hn mx_mul_z zb, mx_mul3 hn mx_mul_z zu, mx_mul3 hn mx_mul_z zc]
  exact mx_sym_z mx_mul_z
theorem mx_mul_t5 {m : Int} {a u b c : Nat → Int} (ha : mx_s a) (hu : mx_s u) (hb : mx_s b) (hc : mx_s c) {k : Nat} (hk : k < 9) : mx_t (mx_mul 3 m (mx_mul 3 m (mx_mul 3 m (mx_mul 3 m a u) b) u) c) k = mx_mul 3 m (mx_mul 3 m (mx_mul 3 m (mx_mul 3 m c u) b) u) a k := by
  have h1 : ∀ k, k < 9 → mx_t (mx_mul 3 m (mx_mul 3 m (mx_mul 3 m a u) b) u) k = mx_mul 3 m u (mx_mul 3 m (mx_mul 3 m b u) a) k := fun k hk => by
    rw [mx_mul_t hk, mx_mul_c (mx_s_t hu) (fun k hk => mx_mul_t3 ha hu hb hk)]
  rw [mx_mul_t hk, mx_mul_c (mx_s_t hc) h1, ← mx_mul_a, ← mx_mul_a, ← mx_mul_a]
theorem mc_trip_eq {n : Nat} (hn : n = 2 ∨ n = 3) {m : Int} (hm : m = 3 ∨ m = 5 ∨ m = 7 ∨ m = 11) {a u b c : Nat → Int} (za : mx_z n a) (zu : mx_z n u) (zb : mx_z n b) (zc : mx_z n c) (sa : mx_s a) (su : mx_s u) (sb : mx_s b) (sc : mx_s c) : mc_trip m u a b c = mx_trip n m u a b c := by
  unfold mc_trip mx_trip
  rw [mx_sym_lin hm (mx_mul_ok (by omega) _ _) (fun k hk => mx_mul_t5 sa su sb sc hk), mx_mul3 hn za zu, mx_mul3 hn mx_mul_z zb, mx_mul3 hn mx_mul_z zu, mx_mul3 hn mx_mul_z zc, mx_mul3 hn zc zu, mx_mul3 hn mx_mul_z zb, mx_mul3 hn mx_mul_z zu, mx_mul3 hn mx_mul_z za]
/-- half of a symmetric matrix and itself is itself -/
theorem mx_sym_self {m : Int} (hm : m = 3 ∨ m = 5 ∨ m = 7 ∨ m = 11) {x : Nat → Int} (ox : mx_ok m x) (h9 : ∀ k, 9 ≤ k → x k = 0) (h : ∀ k, k < 9 → mx_t x k = x k) : mx_sym m x = x := by
  funext k
  unfold mx_sym
  by_cases e : k < 9
  · have h1 : x (3 * (k % 3) + k / 3) = x k := h k e
    have o := ox k e
    rw [if_pos e, h1, if_pos (by omega), show (x k + x k) / 2 = x k by omega, Int.emod_eq_of_lt o.1 o.2]
  · rw [if_neg e, h9 k (by omega)]
theorem mc_oper_eq {n : Nat} (hn : n = 2 ∨ n = 3) {m : Int} (hm : m = 3 ∨ m = 5 ∨ m = 7 ∨ m = 11) {a u b : Nat → Int} (za : mx_z n a) (zu : mx_z n u) (zb : mx_z n b) (sa : mx_s a) (su : mx_s u) (sb : mx_s b) : mc_oper m u a b = mx_oper n m u a b := by
  unfold mc_oper mc_trip mx_oper
  rw [mx_sym_self hm (mx_mul_ok (by omega) _ _) mx_mul_9 (fun k hk => mx_mul_t5 sa su sb sa hk), mx_mul3 hn za zu, mx_mul3 hn mx_mul_z zb, mx_mul3 hn mx_mul_z zu, mx_mul3 hn mx_mul_z za]
/-- the elements of a valid desk -/
theorem zs_V {Z : Nat → Int} (h : zs_ok Z) {r : Nat} (hr : r < 9) : mx_V (Z 81).toNat (Z 82) (zs_el Z r) := by
  unfold zs_el
  rw [if_pos hr]
  obtain ⟨h1, h2, h3⟩ := h.2.2.1 r hr
  exact ⟨h1, ⟨fun i j hi hj hn => ⟨h3 i j hi hj hn, by rw [h2 j i hj hi]; exact h3 i j hi hj hn⟩, fun k hk => if_neg (by omega)⟩, h2⟩
theorem zs_n {Z : Nat → Int} (h : zs_ok Z) : (Z 81).toNat = 2 ∨ (Z 81).toNat = 3 := by have := h.1; omega
