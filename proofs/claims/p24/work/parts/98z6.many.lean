/-! HOW MANY ELEMENTS OF THE SIZE 2 -/
theorem mn_le {f g : Nat → Int} : ∀ n, (∀ i, i < n → f i ≤ g i) → ls_su f n ≤ ls_su g n
  | 0, _ => Int.le_refl _
  | n + 1, h => by
    have h1 := mn_le n (fun i hi => h i (by omega))
    have h2 := h n (by omega)
    show ls_su f n + f n ≤ ls_su g n + g n
    omega
theorem mn_1 (n : Nat) : ls_su (fun _ => 1) n = (n : Int) := by
  induction n with
  | zero => rfl
  | succ n ih =>
    show ls_su (fun _ => 1) n + 1 = ((n + 1 : Nat) : Int)
    omega
theorem mn_chi {P : Nat → Prop} (k : Nat) : ls_chi P k = 0 ∨ ls_chi P k = 1 := by
  by_cases h : P k
  · exact Or.inr (ls_chi1 h)
  · exact Or.inl (ls_chi0 h)
theorem mn_imp {P Q : Nat → Prop} {n : Nat} (h : ∀ k, k < n → P k → Q k) : ls_su (ls_chi P) n ≤ ls_su (ls_chi Q) n := mn_le n (fun i hi => by
  by_cases hP : P i
  · rw [ls_chi1 hP, ls_chi1 (h i hi hP)]
    exact Int.le_refl _
  · rw [ls_chi0 hP]
    rcases mn_chi (P := Q) i with e | e <;> omega)
theorem mn_dis {P Q : Nat → Prop} {n : Nat} (h : ∀ k, k < n → P k → ¬ Q k) : ls_su (ls_chi P) n + ls_su (ls_chi Q) n ≤ n := by
  rw [← ls_su_add, ← mn_1 n]
  refine mn_le n (fun i hi => ?_)
  by_cases hP : P i
  · rw [ls_chi1 hP, ls_chi0 (h i hi hP)]
    decide
  · rw [ls_chi0 hP]
    rcases mn_chi (P := Q) i with e | e <;> omega
theorem mn_ge {P : Nat → Prop} {n k : Nat} (hk : k < n) (h : P k) : 1 ≤ ls_su (ls_chi P) n := by
  have h1 : ls_su (fun i => if i = k then 1 else 0) n = (1 : Int) := by
    rw [ls_su_one n hk (fun i _ hne => if_neg hne)]
    exact if_pos rfl
  rw [← h1]
  refine mn_le n (fun i _ => ?_)
  by_cases e : i = k
  · rw [if_pos e, e, ls_chi1 h]
    exact Int.le_refl _
  · rw [if_neg e]
    rcases mn_chi (P := P) i with e | e <;> omega
theorem mn_ge2 {P : Nat → Prop} {n k l : Nat} (hk : k < n) (hl : l < n) (hne : k ≠ l) (h : P k) (g : P l) : 2 ≤ ls_su (ls_chi P) n := by
  have h1 : ls_su (fun i => (if i = k then 1 else 0) + (if i = l then 1 else 0)) n = (2 : Int) := by
    rw [ls_su_add (fun i => if i = k then 1 else 0) (fun i => if i = l then 1 else 0), ls_su_one n hk (fun i _ hne => if_neg hne), ls_su_one n hl (fun i _ hne => if_neg hne), if_pos rfl, if_pos rfl]
    rfl
  rw [← h1]
  refine mn_le n (fun i _ => ?_)
  by_cases e : i = k
  · rw [if_pos e, if_neg (by omega), e, ls_chi1 h]
    decide
  · rw [if_neg e]
    by_cases e2 : i = l
    · rw [if_pos e2, e2, ls_chi1 g]
      decide
    · rw [if_neg e2]
      rcases mn_chi (P := P) i with e | e <;> omega
/-! those with an inverse, counted -/
def mn_di (q k : Nat) : Bool := !((k % q) * (k / q / q) % q == (k / q % q) * (k / q % q) % q)
def mn_dc (q : Nat) : Nat → Nat
  | 0 => 0
  | k + 1 => mn_dc q k + (if mn_di q k then 1 else 0)
theorem mn_dcs {q : Nat} {P : Nat → Prop} : ∀ n, (∀ k, k < n → (P k ↔ mn_di q k = true)) → ls_su (ls_chi P) n = (mn_dc q n : Int)
  | 0, _ => rfl
  | n + 1, h => by
    have h1 := mn_dcs n (fun k hk => h k (by omega))
    have h2 := h n (by omega)
    show ls_su (ls_chi P) n + ls_chi P n = ((mn_dc q n + (if mn_di q n then 1 else 0) : Nat) : Int)
    by_cases e : mn_di q n = true
    · rw [ls_chi1 (h2.mpr e), if_pos e]
      omega
    · rw [ls_chi0 (fun g => e (h2.mp g)), if_neg e]
      omega
def mn_q (q : Nat) : Prop := q = 3 ∨ q = 5 ∨ q = 7 ∨ q = 11
set_option maxRecDepth 100000 in
theorem mn_d3 : mn_dc 3 (3 * 3 * 3) = 3 * 3 * 3 - 3 * 3 := by decide +kernel
set_option maxRecDepth 100000 in
theorem mn_d5 : mn_dc 5 (5 * 5 * 5) = 5 * 5 * 5 - 5 * 5 := by decide +kernel
set_option maxRecDepth 100000 in
theorem mn_d7 : mn_dc 7 (7 * 7 * 7) = 7 * 7 * 7 - 7 * 7 := by decide +kernel
set_option maxRecDepth 100000 in
theorem mn_d11 : mn_dc 11 (11 * 11 * 11) = 11 * 11 * 11 - 11 * 11 := by decide +kernel
theorem mn_det {q k : Nat} (hq : mn_q q) : (¬ mx_det 2 (q : Int) (mx_vec q k) = 0) ↔ mn_di q k = true := by
  have e : mx_det 2 (q : Int) (mx_vec q k) = (((k % q : Nat) : Int) * ((k / q / q : Nat) : Int) - ((k / q % q : Nat) : Int) * ((k / q % q : Nat) : Int)) % (q : Int) := rfl
  rw [e]
  unfold mn_di
  rw [← Int.natCast_mul, ← Int.natCast_mul]
  generalize (k % q) * (k / q / q) = x
  generalize (k / q % q) * (k / q % q) = y
  have h : (x % q = y % q) ↔ (((x : Int) - (y : Int)) % (q : Int) = 0) := by
    rcases hq with rfl | rfl | rfl | rfl <;> omega
  rw [← h]
  simp
/-! those whose product with themselves is the unit, and those that are their own squares -/
theorem al_un {n : Nat} {m : Int} {u v A : Nat → Int} (hn : n = 2 ∨ n = 3) (hm : ls_p m) (hA : mx_V n m A) (hv : mx_V n m v) (vu : mx_mul n m v u = mx_id (n : Int)) (uv : mx_mul n m u v = mx_id (n : Int)) : mx_prod n m u (mx_lin m A 2 v (-1)) (mx_lin m A 2 v (-1)) = v ↔ mx_prod n m u A A = A := by
  have hh := al_hm hm
  unfold mx_prod
  rw [al_half hm (al_r_mul (ls_3 hm)), al_half hm (al_r_mul (ls_3 hm))]
  simp only [al_L hn, al_R hn, al_A hn, al_vx hn vu, al_Im hn hm, uv, al_xI hn hA, al_Ix hn hA, al_xI hn hv, al_Ix hn hv]
  have hS : al_r m (mx_mul n m A (mx_mul n m u A)) := al_r_mul (ls_3 hm)
  generalize mx_mul n m A (mx_mul n m u A) = S at *
  constructor
  · intro h
    funext k
    by_cases hk : k < 9
    · have h1 := congrFun h k
      have h2 := hS.1 k hk
      have h3 := hA.1 k hk
      have h4 := hv.1 k hk
      simp only [al_at hk, al_e2l, al_e2r] at h1
      revert h1 h2 h3 h4
      generalize S k = x
      generalize A k = y
      generalize v k = z
      intro h1 h2 h3 h4
      rcases hh with ⟨rfl, -⟩ | ⟨rfl, -⟩ | ⟨rfl, -⟩ | ⟨rfl, -⟩ <;> omega
    · rw [hS.2 k (by omega), hA.2.1.2 k (by omega)]
  · intro h
    subst h
    funext k
    by_cases hk : k < 9
    · have h4 := hv.1 k hk
      simp only [al_at hk, al_e2l, al_e2r]
      revert h4
      generalize S k = x
      generalize v k = z
      intro h4
      rcases hh with ⟨rfl, -⟩ | ⟨rfl, -⟩ | ⟨rfl, -⟩ | ⟨rfl, -⟩ <;> omega
    · rw [al_9 hk, hv.2.1.2 k (by omega)]
def mn_s (q t x : Nat) : Nat := (2 * x + (q - t)) % q
set_option maxHeartbeats 4000000 in
theorem mn_perm {q t : Nat} (hq : mn_q q) (ht : t < q) (g : Nat → Int) : ls_su g q = ls_su (fun x => g (mn_s q t x)) q := by
  rcases hq with rfl | rfl | rfl | rfl
  · rcases (show t = 0 ∨ t = 1 ∨ t = 2 by omega) with rfl | rfl | rfl <;> (simp [ls_su, mn_s]; try omega)
  · rcases (show t = 0 ∨ t = 1 ∨ t = 2 ∨ t = 3 ∨ t = 4 by omega) with rfl | rfl | rfl | rfl | rfl <;> (simp [ls_su, mn_s]; try omega)
  · rcases (show t = 0 ∨ t = 1 ∨ t = 2 ∨ t = 3 ∨ t = 4 ∨ t = 5 ∨ t = 6 by omega) with rfl | rfl | rfl | rfl | rfl | rfl | rfl <;> (simp [ls_su, mn_s]; try omega)
  · rcases (show t = 0 ∨ t = 1 ∨ t = 2 ∨ t = 3 ∨ t = 4 ∨ t = 5 ∨ t = 6 ∨ t = 7 ∨ t = 8 ∨ t = 9 ∨ t = 10 by omega) with rfl | rfl | rfl | rfl | rfl | rfl | rfl | rfl | rfl | rfl | rfl <;> (simp [ls_su, mn_s]; try omega)
theorem mn_vec {q i j l : Nat} (hq : mn_q q) (hi : i < q) (hj : j < q) (hl : l < q) : mx_vec q ((i * q + j) * q + l) = fun x => if x = 0 then (l : Int) else if x = 1 ∨ x = 3 then (j : Int) else if x = 4 then (i : Int) else 0 := by
  have e1 : ((i * q + j) * q + l) % q = l := by rw [Nat.add_comm, Nat.add_mul_mod_self_right, Nat.mod_eq_of_lt hl]
  have e2 : ((i * q + j) * q + l) / q = i * q + j := by rw [Nat.add_comm, Nat.add_mul_div_right _ _ (by omega), Nat.div_eq_of_lt hl, Nat.zero_add]
  have e3 : (i * q + j) % q = j := by rw [Nat.add_comm, Nat.add_mul_mod_self_right, Nat.mod_eq_of_lt hj]
  have e4 : (i * q + j) / q = i := by rw [Nat.add_comm, Nat.add_mul_div_right _ _ (by omega), Nat.div_eq_of_lt hj, Nat.zero_add]
  funext x
  unfold mx_vec
  rw [e1, e2, e3, e4]
theorem mn_ofV {q : Nat} (hq : mn_q q) {v : Nat → Int} (hv : mx_V 2 (q : Int) v) : ∃ t4 t1 t0 : Nat, (t4 < q ∧ t1 < q ∧ t0 < q) ∧ v = fun x => if x = 0 then (t0 : Int) else if x = 1 ∨ x = 3 then (t1 : Int) else if x = 4 then (t4 : Int) else 0 := by
  have o0 := hv.1 0 (by decide)
  have o1 := hv.1 1 (by decide)
  have o4 := hv.1 4 (by decide)
  have s1 : v 3 = v 1 := hv.2.2 1 0 (by decide) (by decide)
  refine ⟨(v 4).toNat, (v 1).toNat, (v 0).toNat, by omega, funext fun x => ?_⟩
  by_cases e0 : x = 0
  · rw [if_pos e0, e0]; omega
  rw [if_neg e0]
  by_cases e1 : x = 1 ∨ x = 3
  · rw [if_pos e1]
    rcases e1 with e | e
    · rw [e]; omega
    · rw [e, s1]; omega
  rw [if_neg e1]
  by_cases e4 : x = 4
  · rw [if_pos e4, e4]; omega
  rw [if_neg e4]
  by_cases h9 : x < 9
  · rcases (show x = 2 ∨ x = 5 ∨ x = 6 ∨ x = 7 ∨ x = 8 by omega) with rfl | rfl | rfl | rfl | rfl
    · exact (hv.2.1.1 2 0 (by decide) (by decide) (by decide)).2
    · exact (hv.2.1.1 2 1 (by decide) (by decide) (by decide)).2
    · exact (hv.2.1.1 2 0 (by decide) (by decide) (by decide)).1
    · exact (hv.2.1.1 2 1 (by decide) (by decide) (by decide)).1
    · exact (hv.2.1.1 2 2 (by decide) (by decide) (by decide)).1
  · exact hv.2.1.2 x (by omega)
theorem mn_s1 {q t x : Nat} (hq : mn_q q) (ht : t < q) : ((mn_s q t x : Nat) : Int) = ((x : Int) * 2 + (t : Int) * (-1)) % (q : Int) := by
  unfold mn_s
  rcases hq with rfl | rfl | rfl | rfl <;> omega
theorem mn_sq {q t x : Nat} (hq : mn_q q) : mn_s q t x < q := Nat.mod_lt _ (by rcases hq with rfl | rfl | rfl | rfl <;> decide)
theorem mn_vs {q i j l t4 t1 t0 : Nat} (hq : mn_q q) (h4 : t4 < q) (h1 : t1 < q) (h0 : t0 < q) (hi : i < q) (hj : j < q) (hl : l < q) : mx_vec q ((mn_s q t4 i * q + mn_s q t1 j) * q + mn_s q t0 l) = mx_lin (q : Int) (mx_vec q ((i * q + j) * q + l)) 2 (fun x => if x = 0 then (t0 : Int) else if x = 1 ∨ x = 3 then (t1 : Int) else if x = 4 then (t4 : Int) else 0) (-1) := by
  rw [mn_vec hq (mn_sq hq) (mn_sq hq) (mn_sq hq), mn_vec hq hi hj hl]
  funext x
  by_cases hx : x < 9
  · rw [al_at hx]
    by_cases e0 : x = 0
    · rw [if_pos e0, if_pos e0, if_pos e0, mn_s1 hq h0]
    rw [if_neg e0, if_neg e0, if_neg e0]
    by_cases e1 : x = 1 ∨ x = 3
    · rw [if_pos e1, if_pos e1, if_pos e1, mn_s1 hq h1]
    rw [if_neg e1, if_neg e1, if_neg e1]
    by_cases e4 : x = 4
    · rw [if_pos e4, if_pos e4, if_pos e4, mn_s1 hq h4]
    rw [if_neg e4, if_neg e4, if_neg e4]
    rfl
  · rw [al_9 hx, if_neg (by omega), if_neg (by omega), if_neg (by omega)]
theorem mn_un {q : Nat} (hq : mn_q q) {u v : Nat → Int} (hv : mx_V 2 (q : Int) v) (vu : mx_mul 2 (q : Int) v u = mx_id (2 : Int)) (uv : mx_mul 2 (q : Int) u v = mx_id (2 : Int)) : ls_su (ls_chi (fun k => mx_prod 2 (q : Int) u (mx_vec q k) (mx_vec q k) = v)) (q * q * q) = ls_su (ls_chi (fun k => mx_prod 2 (q : Int) u (mx_vec q k) (mx_vec q k) = mx_vec q k)) (q * q * q) := by
  have hm : ls_p (q : Int) := by
    unfold ls_p
    rcases hq with rfl | rfl | rfl | rfl <;> simp
  have hq3 : 3 ≤ q := by rcases hq with rfl | rfl | rfl | rfl <;> decide
  obtain ⟨t4, t1, t0, ⟨h4, h1, h0⟩, hve⟩ := mn_ofV hq hv
  rw [ls_su_3, ls_su_3, mn_perm hq h4 (fun i => ls_su (fun j => ls_su (fun l => ls_chi (fun k => mx_prod 2 (q : Int) u (mx_vec q k) (mx_vec q k) = v) ((i * q + j) * q + l)) q) q)]
  refine ls_su_c q (fun i hi => ?_)
  rw [mn_perm hq h1 (fun j => ls_su (fun l => ls_chi (fun k => mx_prod 2 (q : Int) u (mx_vec q k) (mx_vec q k) = v) ((mn_s q t4 i * q + j) * q + l)) q)]
  refine ls_su_c q (fun j hj => ?_)
  rw [mn_perm hq h0 (fun l => ls_chi (fun k => mx_prod 2 (q : Int) u (mx_vec q k) (mx_vec q k) = v) ((mn_s q t4 i * q + mn_s q t1 j) * q + l))]
  refine ls_su_c q (fun l hl => ?_)
  have hlt : (i * q + j) * q + l < q * q * q := by
    have a1 : i * q + j < q * q := by
      have : (i + 1) * q ≤ q * q := Nat.mul_le_mul_right q hi
      rw [Nat.add_mul, Nat.one_mul] at this
      omega
    have a2 : (i * q + j + 1) * q ≤ q * q * q := Nat.mul_le_mul_right q a1
    rw [Nat.add_mul (i * q + j), Nat.one_mul] at a2
    omega
  have key := al_un (u := u) (v := v) (Or.inl rfl) hm (ls_vecV hq3 hlt) hv vu uv
  have e := mn_vs hq h4 h1 h0 hi hj hl
  rw [← hve] at e
  rw [← e] at key
  by_cases g : mx_prod 2 (q : Int) u (mx_vec q ((i * q + j) * q + l)) (mx_vec q ((i * q + j) * q + l)) = mx_vec q ((i * q + j) * q + l)
  · rw [ls_chi1 (P := fun k => mx_prod 2 (q : Int) u (mx_vec q k) (mx_vec q k) = v) (key.mpr g), ls_chi1 (P := fun k => mx_prod 2 (q : Int) u (mx_vec q k) (mx_vec q k) = mx_vec q k) g]
  · rw [ls_chi0 (P := fun k => mx_prod 2 (q : Int) u (mx_vec q k) (mx_vec q k) = v) (fun h => g (key.mp h)), ls_chi0 (P := fun k => mx_prod 2 (q : Int) u (mx_vec q k) (mx_vec q k) = mx_vec q k) g]
