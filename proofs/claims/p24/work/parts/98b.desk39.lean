theorem mx_pw_prod {n : Nat} (hn : n = 2 ∨ n = 3) {m : Int} (hm : m = 3 ∨ m = 5 ∨ m = 7 ∨ m = 11) {a u v : Nat → Int} (ha : mx_V n m a) (su : mx_s u) (zu : mx_z n u) (hv : mx_V n m v) (hvu : mx_mul 3 m v u = mx_id (n : Int)) (k l : Nat) : mc_prod m u (mx_pw m (mx_mul 3 m a u) v k) (mx_pw m (mx_mul 3 m a u) v l) = mx_pw m (mx_mul 3 m a u) v (k + l) := by
  have hl := mx_pw_V hn (by omega) ha su zu hv hvu l
  have hkl := mx_pw_V hn (by omega) ha su zu hv hvu (k + l)
  unfold mc_prod
  rw [mx_pw_add hn hvu l hl.1 hl.2.1 k]
  exact mx_sym_self hm hkl.1 hkl.2.1.2 (mx_s_t hkl.2.2)
theorem mc_po_pw {n : Nat} (hn : n = 2 ∨ n = 3) {m : Int} (hm : m = 3 ∨ m = 5 ∨ m = 7 ∨ m = 11) {a u v : Nat → Int} (ha : mx_V n m a) (su : mx_s u) (zu : mx_z n u) (hv : mx_V n m v) (hvu : mx_mul 3 m v u = mx_id (n : Int)) : ∀ k, mc_po m u a v k = mx_pw m (mx_mul 3 m a u) v k
  | 0 => rfl
  | k + 1 => by
    have h := mx_pw_prod hn hm ha su zu hv hvu k 1
    rw [mx_pw_1 hn ha su hv.2.2 hvu] at h
    show mc_prod m u (mc_po m u a v k) a = _
    rw [mc_po_pw hn hm ha su zu hv hvu k, h]
/-- powers by squares are the powers -/
theorem mc_rs_pw {n : Nat} (hn : n = 2 ∨ n = 3) {m : Int} (hm : m = 3 ∨ m = 5 ∨ m = 7 ∨ m = 11) {a u v : Nat → Int} (ha : mx_V n m a) (su : mx_s u) (zu : mx_z n u) (hv : mx_V n m v) (hvu : mx_mul 3 m v u = mx_id (n : Int)) {N : Nat} : ∀ k, mc_rs m u v a N k = (mx_pw m (mx_mul 3 m a u) v (N % 2 ^ k), mx_pw m (mx_mul 3 m a u) v (2 ^ k))
  | 0 => by
    show (v, a) = _
    rw [Nat.pow_zero, Nat.mod_one, mx_pw_1 hn ha su hv.2.2 hvu]
    rfl
  | k + 1 => by
    have ih := mc_rs_pw hn hm ha su zu hv hvu (N := N) k
    show (if N / 2 ^ k % 2 = 1 then mc_prod m u (mc_rs m u v a N k).1 (mc_rs m u v a N k).2 else (mc_rs m u v a N k).1, mc_prod m u (mc_rs m u v a N k).2 (mc_rs m u v a N k).2) = _
    rw [ih]
    show (if N / 2 ^ k % 2 = 1 then mc_prod m u (mx_pw m (mx_mul 3 m a u) v (N % 2 ^ k)) (mx_pw m (mx_mul 3 m a u) v (2 ^ k)) else mx_pw m (mx_mul 3 m a u) v (N % 2 ^ k), mc_prod m u (mx_pw m (mx_mul 3 m a u) v (2 ^ k)) (mx_pw m (mx_mul 3 m a u) v (2 ^ k))) = _
    rw [mx_pw_prod hn hm ha su zu hv hvu, mx_pw_prod hn hm ha su zu hv hvu, Nat.mod_pow_succ, show 2 ^ k + 2 ^ k = 2 ^ (k + 1) by rw [Nat.pow_succ]; omega]
    have hlt : N / 2 ^ k % 2 < 2 := Nat.mod_lt _ (by decide)
    by_cases e : N / 2 ^ k % 2 = 1
    · rw [if_pos e, e, Nat.mul_one]
    · rw [if_neg e, show N / 2 ^ k % 2 = 0 by omega, Nat.mul_zero]
      rfl
