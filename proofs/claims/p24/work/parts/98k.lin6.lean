/-! runs are there; what has an inverse on one side has a determinant -/
theorem ls_fd {R : Nat → Nat → Int} {c : Nat} : ∀ k a, a + k = 4 → ∃ f, rr_fd R c a f
  | 0, a, h => ⟨4, by omega, by omega, fun j h1 h2 => absurd h2 (by omega), fun h => absurd h (by omega)⟩
  | k + 1, a, h => by
    by_cases e : R a c = 0
    · obtain ⟨f, h1, h2, h3, h4⟩ := ls_fd (R := R) (c := c) k (a + 1) (by omega)
      refine ⟨f, by omega, h2, fun j a1 a2 => ?_, h4⟩
      by_cases q : j = a
      · rw [q]; exact e
      · exact h3 j (by omega) a2
    · exact ⟨a, Nat.le_refl _, by omega, fun j h1 h2 => absurd h2 (by omega), fun _ => e⟩
theorem ls_runx {m : Int} (hm : ls_p m) {R0 : Nat → Nat → Int} (ok : rr_ok m R0) {pv : Int} : ∀ c, c ≤ 9 → ∃ q, rr_run m (R0, pv, 0) c q
  | 0, _ => ⟨_, rfl⟩
  | c + 1, hc => by
    obtain ⟨p, hp⟩ := ls_runx hm ok c (by omega)
    have h4 := (ls_run hm ok c (by omega) p hp).1
    obtain ⟨f, hf⟩ := ls_fd (R := p.1) (c := c) (4 - p.2.2) p.2.2 (by omega)
    by_cases e : f = 4
    · exact ⟨p, p, hp, f, hf, Or.inl ⟨e, rfl⟩⟩
    · have := hf.2.1
      exact ⟨_, p, hp, f, hf, Or.inr ⟨by omega, rfl⟩⟩
theorem ls_un_in {m : Int} {n : Nat} (hn : n ≤ 3) : ls_in m (fun i j => if j = i then 1 else 0) n := fun c hc i hi => by
  have := hc i (by omega)
  rw [ls_su_one (j := i) n hi (fun p _ hp => by
    show c p * (if i = p then 1 else 0) = 0
    rw [if_neg (fun e => hp e.symm), Int.mul_zero])] at this
  have this : m ∣ c i * (if i = i then 1 else 0) := this
  rwa [if_pos rfl, Int.mul_one] at this
theorem ls_nsing {n : Nat} (hn : n = 2 ∨ n = 3) {m : Int} (hm : ls_p m) {a Y : Nat → Int} (ha : mx_V n m a) (hY : mx_mul 3 m a Y = mx_id (n : Int)) : mx_det n m a ≠ 0 := by
  have ok := rr_ld_ok (ls_3 hm) (n := (n : Int)) ha.1
  obtain ⟨q, hq⟩ := ls_runx hm ok (pv := 1) 3 (by decide)
  obtain ⟨g1, g2, g3, g4, g5⟩ := ls_gj hn hm ha hq
  obtain ⟨a1, a2, a3, ⟨pc, a4⟩, a5⟩ := ls_run hm ok 3 (by decide) q hq
  refine g3.mp ?_
  have hs : ∀ p, p < 4 → ls_Sp m (fun i => ls_tr 3 (q.1 i)) q.2.2 (ls_tr 3 (rr_ld (n : Int) a p)) := (a5 _ (ls_tr_lc ls_Sp_lc 3)).mpr (fun p hp => by
    by_cases e : p < q.2.2
    · exact ls_Sp_i (R := fun i => ls_tr 3 (q.1 i)) e
    · exact ls_lc_0 ls_Sp_lc (fun j hj => by
        unfold ls_tr
        by_cases w : j < 3
        · rw [if_pos w, a4.2.2 p j (by omega) hp w]
          exact Int.dvd_zero m
        · rw [if_neg w]
          exact Int.dvd_zero m))
  have := ls_st hm (ls_un_in (m := m) (n := n) (by omega)) (fun i hi => ls_lc_e ls_Sp_lc (ls_lc_su ls_Sp_lc (R := fun k => ls_tr 3 (rr_ld (n : Int) a k)) (fun k => Y (3 * k + i)) 3 (fun k hk => hs k (by omega))) (fun j hj => by
    show m ∣ (if j = i then 1 else 0) - (0 + Y (3 * 0 + i) * ls_tr 3 (rr_ld (n : Int) a 0) j + Y (3 * 1 + i) * ls_tr 3 (rr_ld (n : Int) a 1) j + Y (3 * 2 + i) * ls_tr 3 (rr_ld (n : Int) a 2) j)
    by_cases w : j < 3
    · have e : ∀ k, k < 3 → ls_tr 3 (rr_ld (n : Int) a k) j = a (3 * j + k) := fun k hk => by
        unfold ls_tr rr_ld rw_ld
        rw [if_pos w, if_pos hk]
        skip
        rw [if_pos w]
        exact ha.2.2 k j hk w
      have h1 := congrFun hY (3 * j + i)
      rw [mx_mul3_at w (by omega), mx_ps3, mx_id_at] at h1
      rw [e 0 (by decide), e 1 (by decide), e 2 (by decide), show 3 * 0 + i = i by omega, show 3 * 1 + i = 3 + i by omega, show 3 * 2 + i = 6 + i by omega, show 3 * j + 0 = 3 * j by omega]
      have h2 : (if j = i then (1 : Int) else 0) = if (3 * j + i) % 4 = 0 ∧ (((3 * j + i) / 4 : Nat) : Int) < n then 1 else 0 := by
        by_cases e : j = i
        · rw [if_pos e, if_pos (by omega)]
        · rw [if_neg e, if_neg (by omega)]
      rw [h2, ← h1]
      obtain ⟨p, hp⟩ := @ls_em m (a (3 * j) * Y i + a (3 * j + 1) * Y (3 + i) + a (3 * j + 2) * Y (6 + i))
      refine ⟨p, ?_⟩
      rw [Int.mul_comm (Y i), Int.mul_comm (Y (3 + i)), Int.mul_comm (Y (6 + i))]
      omega
    · have e : ∀ k, ls_tr 3 (rr_ld (n : Int) a k) j = 0 := fun k => by
        unfold ls_tr
        rw [if_neg w]
      rw [e, e, e, if_neg (by omega)]
      exact ⟨0, by omega⟩))
  omega
/-! Cayley and Hamilton -/
def ls_mv (W x : Nat → Int) : Nat → Int := fun r => W (3 * r) * x 0 + W (3 * r + 1) * x 1 + W (3 * r + 2) * x 2
theorem ls_ch3 (W x : Nat → Int) {r : Nat} (hr : r < 3) : ls_mv W (ls_mv W (ls_mv W x)) r = (W 0 + W 4 + W 8) * ls_mv W (ls_mv W x) r - (W 0 * W 4 - W 1 * W 3 + (W 0 * W 8 - W 2 * W 6) + (W 4 * W 8 - W 5 * W 7)) * ls_mv W x r + (W 0 * (W 4 * W 8 - W 5 * W 7) - W 1 * (W 3 * W 8 - W 5 * W 6) + W 2 * (W 3 * W 7 - W 4 * W 6)) * x r := by
  rcases (show r = 0 ∨ r = 1 ∨ r = 2 by omega) with rfl | rfl | rfl <;> simp only [ls_mv, Nat.mul_zero, Nat.zero_add, Nat.mul_one, Nat.reduceMul, Nat.reduceAdd] <;> grind
theorem ls_ch2 (W x : Nat → Int) (h2 : W 2 = 0) (h5 : W 5 = 0) (h6 : W 6 = 0) (h7 : W 7 = 0) (h8 : W 8 = 0) (hx : x 2 = 0) {r : Nat} (hr : r < 3) : ls_mv W (ls_mv W x) r = (W 0 + W 4) * ls_mv W x r - (W 0 * W 4 - W 1 * W 3) * x r := by
  rcases (show r = 0 ∨ r = 1 ∨ r = 2 by omega) with rfl | rfl | rfl <;> simp only [ls_mv, Nat.mul_zero, Nat.zero_add, Nat.mul_one, Nat.reduceMul, Nat.reduceAdd, h2, h5, h6, h7, h8, hx] <;> grind
theorem ls_mv_c {m : Int} {W x y : Nat → Int} (h : ∀ k, k < 3 → m ∣ x k - y k) (r : Nat) : m ∣ ls_mv W x r - ls_mv W y r := by
  obtain ⟨a, ha⟩ := h 0 (by decide)
  obtain ⟨b, hb⟩ := h 1 (by decide)
  obtain ⟨c, hc⟩ := h 2 (by decide)
  have ha : x 0 = y 0 + m * a := by omega
  have hb : x 1 = y 1 + m * b := by omega
  have hc : x 2 = y 2 + m * c := by omega
  unfold ls_mv
  rw [ha, hb, hc]
  exact ⟨W (3 * r) * a + W (3 * r + 1) * b + W (3 * r + 2) * c, by grind⟩
theorem ls_pw_mv {m : Int} {W v : Nat → Int} {k c r : Nat} (hr : r < 3) (hc : c < 3) : mx_pw m W v (k + 1) (3 * r + c) = ls_mv W (fun i => mx_pw m W v k (3 * i + c)) r % m := by
  show mx_mul 3 m W (mx_pw m W v k) (3 * r + c) = _
  rw [mx_mul3_at hr hc, mx_ps3]
  unfold ls_mv
  dsimp only
  rw [show 3 * 0 + c = c by omega, show 3 * 1 + c = 3 + c by omega, show 3 * 2 + c = 6 + c by omega]
theorem ls_pw_d {m : Int} {W v : Nat → Int} {k c : Nat} (hc : c < 3) {X : Nat → Int} (h : ∀ i, i < 3 → m ∣ mx_pw m W v k (3 * i + c) - X i) : ∀ i, i < 3 → m ∣ mx_pw m W v (k + 1) (3 * i + c) - ls_mv W X i := fun i hi => by
  rw [ls_pw_mv hi hc]
  have h1 := ls_mv_c (m := m) (W := W) (x := fun i => mx_pw m W v k (3 * i + c)) (y := X) h i
  have h2 := @ls_em m (ls_mv W (fun i => mx_pw m W v k (3 * i + c)) i)
  have := Int.dvd_add h2 h1
  rwa [show ls_mv W (fun i => mx_pw m W v k (3 * i + c)) i % m - ls_mv W (fun i => mx_pw m W v k (3 * i + c)) i + (ls_mv W (fun i => mx_pw m W v k (3 * i + c)) i - ls_mv W X i) = ls_mv W (fun i => mx_pw m W v k (3 * i + c)) i % m - ls_mv W X i by omega] at this
theorem ls_pw_ch {n : Nat} (hn : n = 2 ∨ n = 3) {m : Int} {W v : Nat → Int} (zW : mx_z n W) (zv : mx_z n v) : ls_Sp m (mx_pw m W v) n (mx_pw m W v n) := by
  have base : ∀ c, ∀ i, i < 3 → m ∣ mx_pw m W v 0 (3 * i + c) - (fun i => v (3 * i + c)) i := fun c i _ => ⟨0, by show v (3 * i + c) - v (3 * i + c) = _; omega⟩
  rcases hn with rfl | rfl
  · refine ⟨fun i => if i = 0 then -(W 0 * W 4 - W 1 * W 3) else W 0 + W 4, fun k hk => ?_⟩
    have hr : k / 3 < 3 := by omega
    have hc : k % 3 < 3 := by omega
    rw [show k = 3 * (k / 3) + k % 3 by omega]
    generalize k / 3 = r at hr ⊢
    generalize k % 3 = c at hc ⊢
    have d0 := base c
    have d1 : ∀ i, i < 3 → m ∣ mx_pw m W v 1 (3 * i + c) - ls_mv W (fun i => v (3 * i + c)) i := ls_pw_d hc d0
    have d2 : ∀ i, i < 3 → m ∣ mx_pw m W v 2 (3 * i + c) - ls_mv W (ls_mv W (fun i => v (3 * i + c))) i := ls_pw_d hc d1
    have e := ls_ch2 W (fun i => v (3 * i + c)) (zW.1 2 0 (by decide) (by decide) (by decide)).2 (zW.1 2 1 (by decide) (by decide) (by decide)).2 (zW.1 2 0 (by decide) (by decide) (by decide)).1 (zW.1 2 1 (by decide) (by decide) (by decide)).1 (zW.1 2 2 (by decide) (by decide) (by decide)).1 (zv.1 2 c (by decide) hc (by decide)).1 hr
    show m ∣ mx_pw m W v 2 (3 * r + c) - (0 + (if 0 = 0 then -(W 0 * W 4 - W 1 * W 3) else W 0 + W 4) * mx_pw m W v 0 (3 * r + c) + (if 1 = 0 then -(W 0 * W 4 - W 1 * W 3) else W 0 + W 4) * mx_pw m W v 1 (3 * r + c))
    rw [if_pos rfl, if_neg (by decide)]
    obtain ⟨p1, q1⟩ := d1 r hr
    obtain ⟨p2, q2⟩ := d2 r hr
    have f0 : mx_pw m W v 0 (3 * r + c) = v (3 * r + c) := rfl
    have q1 : mx_pw m W v 1 (3 * r + c) = ls_mv W (fun i => v (3 * i + c)) r + m * p1 := by omega
    have q2 : mx_pw m W v 2 (3 * r + c) = ls_mv W (ls_mv W (fun i => v (3 * i + c))) r + m * p2 := by omega
    rw [f0, q1, q2, e]
    skip
    generalize ls_mv W (fun i => v (3 * i + c)) r = x1
    exact ⟨p2 - (W 0 + W 4) * p1, by grind⟩
  · refine ⟨fun i => if i = 0 then W 0 * (W 4 * W 8 - W 5 * W 7) - W 1 * (W 3 * W 8 - W 5 * W 6) + W 2 * (W 3 * W 7 - W 4 * W 6) else if i = 1 then -(W 0 * W 4 - W 1 * W 3 + (W 0 * W 8 - W 2 * W 6) + (W 4 * W 8 - W 5 * W 7)) else W 0 + W 4 + W 8, fun k hk => ?_⟩
    have hr : k / 3 < 3 := by omega
    have hc : k % 3 < 3 := by omega
    rw [show k = 3 * (k / 3) + k % 3 by omega]
    generalize k / 3 = r at hr ⊢
    generalize k % 3 = c at hc ⊢
    have d0 := base c
    have d1 : ∀ i, i < 3 → m ∣ mx_pw m W v 1 (3 * i + c) - ls_mv W (fun i => v (3 * i + c)) i := ls_pw_d hc d0
    have d2 : ∀ i, i < 3 → m ∣ mx_pw m W v 2 (3 * i + c) - ls_mv W (ls_mv W (fun i => v (3 * i + c))) i := ls_pw_d hc d1
    have d3 : ∀ i, i < 3 → m ∣ mx_pw m W v 3 (3 * i + c) - ls_mv W (ls_mv W (ls_mv W (fun i => v (3 * i + c)))) i := ls_pw_d hc d2
    have e := ls_ch3 W (fun i => v (3 * i + c)) hr
    generalize hD : W 0 * (W 4 * W 8 - W 5 * W 7) - W 1 * (W 3 * W 8 - W 5 * W 6) + W 2 * (W 3 * W 7 - W 4 * W 6) = D at e ⊢
    generalize hS : W 0 * W 4 - W 1 * W 3 + (W 0 * W 8 - W 2 * W 6) + (W 4 * W 8 - W 5 * W 7) = S at e ⊢
    generalize hT : W 0 + W 4 + W 8 = T at e ⊢
    show m ∣ mx_pw m W v 3 (3 * r + c) - (0 + (if 0 = 0 then D else if 0 = 1 then -S else T) * mx_pw m W v 0 (3 * r + c) + (if 1 = 0 then D else if 1 = 1 then -S else T) * mx_pw m W v 1 (3 * r + c) + (if 2 = 0 then D else if 2 = 1 then -S else T) * mx_pw m W v 2 (3 * r + c))
    rw [if_pos rfl, if_neg (by decide), if_pos rfl, if_neg (by decide), if_neg (by decide)]
    obtain ⟨p1, q1⟩ := d1 r hr
    obtain ⟨p2, q2⟩ := d2 r hr
    obtain ⟨p3, q3⟩ := d3 r hr
    have f0 : mx_pw m W v 0 (3 * r + c) = v (3 * r + c) := rfl
    have q1 : mx_pw m W v 1 (3 * r + c) = ls_mv W (fun i => v (3 * i + c)) r + m * p1 := by omega
    have q2 : mx_pw m W v 2 (3 * r + c) = ls_mv W (ls_mv W (fun i => v (3 * i + c))) r + m * p2 := by omega
    have q3 : mx_pw m W v 3 (3 * r + c) = ls_mv W (ls_mv W (ls_mv W (fun i => v (3 * i + c)))) r + m * p3 := by omega
    rw [f0, q1, q2, q3, e]
    skip
    clear q1 q2 q3 e d0 d1 d2 d3 base hD hS hT f0
    generalize ls_mv W (ls_mv W (fun i => v (3 * i + c))) r = x2
    generalize ls_mv W (fun i => v (3 * i + c)) r = x1
    exact ⟨p3 - T * p2 + S * p1, by grind⟩
/-! the degree -/
theorem ls_dst {n : Nat} {m : Int} {u a v : Nat → Int} : ∀ k, mx_dst n m u a v k = ls_sq m (mx_po n m u a v) k
  | 0 => rfl
  | k + 1 => by
    show mx_nw m (mx_dst n m u a v k) (mx_po n m u a v k) = mx_nw m (ls_sq m (mx_po n m u a v) k) (mx_po n m u a v k)
    rw [ls_dst k]
theorem sp_p {s : sp_S} (hs : sp_ok s) : ls_p (s.1 82) := hs.1.2.1
theorem sp_po_pw {s : sp_S} (hs : sp_ok s) {a : Nat → Int} (ha : sp_V s a) : mx_po (zs_nn s) (s.1 82) (zs_el s.1 8) a (zs_el s.1 9) = mx_pw (s.1 82) (mx_mul 3 (s.1 82) a (zs_el s.1 8)) (zs_el s.1 9) := by
  funext k
  have h8 := sp_Vel hs (r := 8) (by decide)
  have h9 := sp_V9 hs
  have h1 := (sp_poV hs ha h9 k).1
  rw [mc_po_pw (sp_nn hs) hs.1.2.1 ha h8.2.2 h8.2.1 h9 (sp_vu hs) k] at h1
  exact h1.symm
theorem sp_W_z {s : sp_S} (hs : sp_ok s) {a : Nat → Int} (ha : sp_V s a) : mx_z (zs_nn s) (mx_mul 3 (s.1 82) a (zs_el s.1 8)) := by
  rw [mx_mul3 (sp_nn hs) ha.2.1 (sp_Vel hs (r := 8) (by decide)).2.1]
  exact mx_mul_z
theorem sp_cnt {s : sp_S} (hs : sp_ok s) {a : Nat → Int} (ha : sp_V s a) : (ls_sq (s.1 82) (mx_po (zs_nn s) (s.1 82) (zs_el s.1 8) a (zs_el s.1 9)) 1).1 = 1 ∧ (ls_sq (s.1 82) (mx_po (zs_nn s) (s.1 82) (zs_el s.1 8) a (zs_el s.1 9)) (zs_nn s + 1)).1 ≤ zs_nn s := by
  have h9 := sp_V9 hs
  have hn := sp_nn hs
  constructor
  · show (mx_nw (s.1 82) (0, fun _ _ => 0) (zs_el s.1 9)).1 = 1
    unfold mx_nw
    show (if mx_ld (zs_el s.1 9) < 9 then 0 + 1 else 0) = 1
    by_cases e : mx_ld (zs_el s.1 9) < 9
    · rw [if_pos e]
    · exfalso
      have hl := mx_ld_s (zs_el s.1 9)
      have hz : ∀ j, j < 9 → zs_el s.1 9 j = 0 := fun j hj => hl.2.1 j (by omega)
      have h := congrFun (sp_vu hs) (3 * 0 + 0)
      rw [mx_mul3_at (by decide) (by decide), mx_ps3, mx_id_at, hz _ (by decide), hz _ (by decide), hz _ (by decide), if_pos (by omega)] at h
      simp at h
  · refine ls_sq_le (sp_p hs) (fun i => ?_) (R := mx_po (zs_nn s) (s.1 82) (zs_el s.1 8) a (zs_el s.1 9)) (fun i hi => ?_)
    · exact ((sp_poV hs ha h9 i).2).1
    · by_cases e : i < zs_nn s
      · exact ls_Sp_i e
      · have : i = zs_nn s := by omega
        rw [this, sp_po_pw hs ha]
        exact ls_pw_ch hn (sp_W_z hs ha) h9.2.1
theorem ls_up {m : Int} {x : Nat → Nat → Int} (hc : (ls_sq m x 1).1 = 1) {K : Nat} (hK : 1 ≤ K) (h1 : (ls_sq m x (K + 1)).1 ≤ K) (h2 : ∀ j, 1 ≤ j → j < K → ¬ (ls_sq m x (j + 1)).1 ≤ j) : (∀ k, k ≤ K → (ls_sq m x k).1 = k) ∧ (ls_sq m x (K + 1)).1 = K := by
  have st : ∀ k, (ls_sq m x k).1 ≤ (ls_sq m x (k + 1)).1 ∧ (ls_sq m x (k + 1)).1 ≤ (ls_sq m x k).1 + 1 := fun k => mx_nw1 _ _ _
  have up : ∀ k, k ≤ K → (ls_sq m x k).1 = k := fun k => by
    induction k with
    | zero => exact fun _ => rfl
    | succ k ih =>
      intro hk
      have ih := ih (by omega)
      have s1 := st k
      by_cases e : k = 0
      · rw [e]; exact hc
      · have := h2 k (by omega) (by omega)
        omega
  have := up K (Nat.le_refl _)
  have := st K
  exact ⟨up, by omega⟩
theorem sp_deg_of {s : sp_S} (hs : sp_ok s) {a : Nat → Int} (ha : sp_V s a) {K : Nat} (hK : 1 ≤ K) (hK3 : K ≤ 3) (h1 : (ls_sq (s.1 82) (mx_po (zs_nn s) (s.1 82) (zs_el s.1 8) a (zs_el s.1 9)) (K + 1)).1 ≤ K) (h2 : ∀ j, 1 ≤ j → j < K → ¬ (ls_sq (s.1 82) (mx_po (zs_nn s) (s.1 82) (zs_el s.1 8) a (zs_el s.1 9)) (j + 1)).1 ≤ j) : sp_deg s a K := by
  have hc := (sp_cnt hs ha).1
  obtain ⟨u1, u2⟩ := ls_up hc hK h1 h2
  exact ⟨by omega, fun k hk => by rw [ls_dst]; exact u1 k hk, by rw [ls_dst]; exact u2⟩
theorem sp_degx {s : sp_S} (hs : sp_ok s) {a : Nat → Int} (ha : sp_V s a) : ∃ K, sp_deg s a K := by
  have hc := (sp_cnt hs ha).2
  have hn := sp_nn hs
  have key : ∀ K, (1 ≤ K ∧ K ≤ 3 ∧ (ls_sq (s.1 82) (mx_po (zs_nn s) (s.1 82) (zs_el s.1 8) a (zs_el s.1 9)) (K + 1)).1 ≤ K) → ∃ K, sp_deg s a K := by
    intro K
    induction K using Nat.strongRecOn with
    | ind K ih =>
      rintro ⟨h1, h2, h3⟩
      by_cases e : ∃ j, 1 ≤ j ∧ j < K ∧ (ls_sq (s.1 82) (mx_po (zs_nn s) (s.1 82) (zs_el s.1 8) a (zs_el s.1 9)) (j + 1)).1 ≤ j
      · obtain ⟨j, a1, a2, a3⟩ := e
        exact ih j a2 ⟨a1, by omega, a3⟩
      · exact ⟨K, sp_deg_of hs ha h1 h2 h3 (fun j a1 a2 a3 => e ⟨j, a1, a2, a3⟩)⟩
  exact key (zs_nn s) ⟨by omega, by omega, hc⟩
theorem sp_dg_r {s : sp_S} (hs : sp_ok s) {a : Nat → Int} (ha : sp_V s a) {K r : Nat} (hK : K ≤ 3) (h : mc_dg (s.1 82) (zs_el s.1 8) (zs_el s.1 9) a K r) : (ls_sq (s.1 82) (mx_po (zs_nn s) (s.1 82) (zs_el s.1 8) a (zs_el s.1 9)) (K + 1)).1 = r := by
  obtain ⟨q, h1, h2⟩ := h
  have h9 := sp_V9 hs
  rw [← h2]
  refine ls_rank (sp_p hs) (mc_pr_ok (ls_3 (sp_p hs)) h9.1 h9.2.1.2) (Nat.le_refl 9) h1 (fun i => ((sp_poV hs ha h9 i).2).1) (fun i hi => ⟨by omega, fun j hj => ?_⟩) (fun i hi hi4 j _ => ?_)
  · unfold ls_tr mc_pr
    rw [if_pos hj, if_pos hi, (sp_poV hs ha h9 i).1]
  · unfold mc_pr
    rw [if_neg (by omega)]
/-- the class's degree -/
theorem sp_dg {s : sp_S} (hs : sp_ok s) {a : Nat → Int} (ha : sp_V s a) {z : Int} (h : (∃ K, K < 3 ∧ (∃ r, mc_dg (s.1 82) (zs_el s.1 8) (zs_el s.1 9) a (K + 1) r ∧ r ≤ K + 1) ∧ (∀ j, j < K → ∃ r, mc_dg (s.1 82) (zs_el s.1 8) (zs_el s.1 9) a (j + 1) r ∧ j + 1 < r) ∧ z = (K : Int) + 1) ∨ ((∀ j, j < 3 → ∃ r, mc_dg (s.1 82) (zs_el s.1 8) (zs_el s.1 9) a (j + 1) r ∧ j + 1 < r) ∧ z = s.1 81)) : ∃ K : Nat, sp_deg s a K ∧ z = K := by
  rcases h with ⟨K, h1, ⟨r, h2, h3⟩, h4, h5⟩ | ⟨h1, h2⟩
  · refine ⟨K + 1, sp_deg_of hs ha (by omega) (by omega) (by rw [sp_dg_r hs ha (by omega) h2]; exact h3) (fun j a1 a2 a3 => ?_), by omega⟩
    obtain ⟨r', b1, b2⟩ := h4 (j - 1) (by omega)
    rw [show j - 1 + 1 = j by omega] at b1
    rw [sp_dg_r hs ha (by omega) b1] at a3
    omega
  · exfalso
    have hc := (sp_cnt hs ha).2
    have hn := sp_nn hs
    obtain ⟨r', b1, b2⟩ := h1 (zs_nn s - 1) (by omega)
    rw [show zs_nn s - 1 + 1 = zs_nn s by omega] at b1
    rw [sp_dg_r hs ha (by omega) b1] at hc
    omega
/-! the order -/
theorem sp_po_sh {s : sp_S} (hs : sp_ok s) {a : Nat → Int} (ha : sp_V s a) : ∀ k, zs_po s a a k = zs_po s a (zs_el s.1 9) (k + 1)
  | 0 => by
    have h8 := sp_Vel hs (r := 8) (by decide)
    have h1 : zs_po s a (zs_el s.1 9) = _ := sp_po_pw hs ha
    rw [h1, mx_pw_1 (sp_nn hs) ha h8.2.2 (sp_V9 hs).2.2 (sp_vu hs)]
    rfl
  | k + 1 => by
    show mx_prod _ _ _ (zs_po s a a k) a = mx_prod _ _ _ (zs_po s a (zs_el s.1 9) (k + 1)) a
    rw [sp_po_sh hs ha k]
theorem sp_ord {s : sp_S} (hs : sp_ok s) {a : Nat → Int} (ha : sp_V s a) (hd : mx_det (zs_nn s) (s.1 82) a = 0) (k : Nat) : zs_po s a a k ≠ zs_el s.1 9 := fun h => by
  have h8 := sp_Vel hs (r := 8) (by decide)
  have h1 : zs_po s a (zs_el s.1 9) = _ := sp_po_pw hs ha
  rw [sp_po_sh hs ha k, h1] at h
  have h2 : mx_mul 3 (s.1 82) (mx_mul 3 (s.1 82) a (zs_el s.1 8)) (mx_pw (s.1 82) (mx_mul 3 (s.1 82) a (zs_el s.1 8)) (zs_el s.1 9) k) = zs_el s.1 9 := h
  have h3 := sp_vu hs
  rw [← h2, mx_mul_a, mx_mul_a] at h3
  exact ls_nsing (sp_nn hs) (sp_p hs) ha h3 hd
