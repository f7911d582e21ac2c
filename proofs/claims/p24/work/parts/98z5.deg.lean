/-! POWERS: degree, order, the least that is 0 -/
theorem dg_hole {m : Int} {f : Nat → Int} {e r : Nat} (hr : r < e) (h : m ∣ ls_su f e) (h2 : ∀ i, i < e → i ≠ r → m ∣ f i) : m ∣ f r := by
  obtain ⟨n, rfl⟩ : ∃ n, e = n + 1 := ⟨e - 1, by omega⟩
  rw [ls_su_hole n (by omega : r ≤ n)] at h
  have h3 : m ∣ ls_su (fun i => f (if i < r then i else i + 1)) n := ls_su_dvd n (fun i hi => by
    by_cases q : i < r
    · rw [if_pos q]
      exact h2 i (by omega) (by omega)
    · rw [if_neg q]
      exact h2 (i + 1) (by omega) (by omega))
  have h4 := Int.dvd_sub h h3
  rwa [show f r + ls_su (fun i => f (if i < r then i else i + 1)) n - ls_su (fun i => f (if i < r then i else i + 1)) n = f r by omega] at h4
theorem dg_sub (f g : Nat → Int) : ∀ n, ls_su f n - ls_su g n = ls_su (fun i => f i - g i) n
  | 0 => rfl
  | n + 1 => by
    show ls_su f n + f n - (ls_su g n + g n) = ls_su (fun i => f i - g i) n + (f n - g n)
    rw [← dg_sub f g n]
    omega
/-- a combination of powers that is 0 is 0 one power on -/
theorem dg_sh {m : Int} {W v : Nat → Int} {c : Nat → Int} {e t : Nat} (h : ∀ j, j < 9 → m ∣ ls_su (fun i => c i * mx_pw m W v (i + t) j) e) : ∀ j, j < 9 → m ∣ ls_su (fun i => c i * mx_pw m W v (i + (t + 1)) j) e := by
  intro j hj
  obtain ⟨r, q, hr, hq, rfl⟩ : ∃ r q, r < 3 ∧ q < 3 ∧ j = 3 * r + q := ⟨j / 3, j % 3, by omega, by omega, by omega⟩
  have e1 : m ∣ ls_su (fun i => c i * mx_pw m W v (i + (t + 1)) (3 * r + q)) e - ls_su (fun i => c i * ls_mv W (fun l => mx_pw m W v (i + t) (3 * l + q)) r) e := by
    rw [dg_sub]
    refine ls_su_dvd e (fun i _ => ?_)
    rw [← Int.mul_sub, show i + (t + 1) = (i + t) + 1 by omega, ls_pw_mv hr hq]
    exact Int.dvd_mul_of_dvd_right (ls_em) 
  have e2 : ls_su (fun i => c i * ls_mv W (fun l => mx_pw m W v (i + t) (3 * l + q)) r) e = W (3 * r) * ls_su (fun i => c i * mx_pw m W v (i + t) (3 * 0 + q)) e + W (3 * r + 1) * ls_su (fun i => c i * mx_pw m W v (i + t) (3 * 1 + q)) e + W (3 * r + 2) * ls_su (fun i => c i * mx_pw m W v (i + t) (3 * 2 + q)) e := by
    rw [← ls_su_mul, ← ls_su_mul, ← ls_su_mul, ← ls_su_add, ← ls_su_add]
    refine ls_su_c e (fun i _ => ?_)
    unfold ls_mv
    grind
  have e3 : m ∣ ls_su (fun i => c i * ls_mv W (fun l => mx_pw m W v (i + t) (3 * l + q)) r) e := by
    rw [e2]
    exact Int.dvd_add (Int.dvd_add (Int.dvd_mul_of_dvd_right (h _ (by omega))) (Int.dvd_mul_of_dvd_right (h _ (by omega)))) (Int.dvd_mul_of_dvd_right (h _ (by omega)))
  have e4 := Int.dvd_add e1 e3
  rwa [Int.sub_add_cancel] at e4
theorem dg_0 {m : Int} {W v : Nat → Int} {e : Nat} (h : mx_pw m W v e = fun _ => 0) : ∀ k, mx_pw m W v (e + k) = fun _ => 0
  | 0 => h
  | k + 1 => by
    show mx_mul 3 m W (mx_pw m W v (e + k)) = _
    rw [dg_0 h k, ls_mul_0]
theorem dg_in {m : Int} (hm : ls_p m) {W v : Nat → Int} (ok : ∀ k, mx_ok m (mx_pw m W v k) ∧ ∀ j, 9 ≤ j → mx_pw m W v k j = 0) {e : Nat} (h0 : mx_pw m W v e = fun _ => 0) (h1 : ¬ mx_pw m W v (e - 1) = fun _ => 0) : ls_in m (mx_pw m W v) e := by
  intro c hc
  have sh : ∀ t, ∀ j, j < 9 → m ∣ ls_su (fun i => c i * mx_pw m W v (i + t) j) e := fun t => by
    induction t with
    | zero => exact hc
    | succ t ih => exact dg_sh ih
  obtain ⟨k, hk⟩ : ∃ k, mx_pw m W v (e - 1) k ≠ 0 := Classical.byContradiction fun h => h1 (funext fun k => Classical.byContradiction fun g => h ⟨k, g⟩)
  have hk9 : k < 9 := by
    rcases Nat.lt_or_ge k 9 with h | h
    · exact h
    · exact absurd ((ok (e - 1)).2 k h) hk
  have hnd : ¬ m ∣ mx_pw m W v (e - 1) k := fun q => hk (ls_r0 ((ok (e - 1)).1 k hk9) q)
  intro i
  induction i using Nat.strongRecOn with
  | ind i ih =>
    intro hi
    have h2 := dg_hole (r := i) hi (sh (e - 1 - i) k hk9) (fun j hj hne => by
      rcases Nat.lt_or_ge j i with q | q
      · exact Int.dvd_mul_of_dvd_left (ih j q hj)
      · have := congrFun (dg_0 h0 (j - i - 1)) k
        rw [show j + (e - 1 - i) = e + (j - i - 1) by omega, this, Int.mul_zero]
        exact Int.dvd_zero m)
    rw [show i + (e - 1 - i) = e - 1 by omega, Int.mul_comm] at h2
    exact ls_can hm hnd h2
theorem dg_st {m : Int} {x : Nat → Nat → Int} (k : Nat) : ∀ d, (ls_sq m x (k + d)).1 ≤ (ls_sq m x k).1 + d
  | 0 => Nat.le_refl _
  | d + 1 => by
    have h1 := dg_st (m := m) (x := x) k d
    have h2 : (ls_sq m x (k + (d + 1))).1 ≤ (ls_sq m x (k + d)).1 + 1 := (mx_nw1 m (ls_sq m x (k + d)) (x (k + d))).2
    omega
section DEG
variable {s : sp_S} {a : Nat → Int}
theorem dg_pw (hs : sp_ok s) (ha : sp_V s a) (k : Nat) : zs_po s a (zs_el s.1 9) k = mx_pw (s.1 82) (mx_mul 3 (s.1 82) a (zs_el s.1 8)) (zs_el s.1 9) k := congrFun (sp_po_pw hs ha) k
theorem dg_V (hs : sp_ok s) (ha : sp_V s a) (k : Nat) : sp_V s (zs_po s a (zs_el s.1 9) k) := (sp_poV hs ha (sp_V9 hs) k).2
theorem dg_v0 (hs : sp_ok s) : ¬ zs_el s.1 9 = fun _ => 0 := fun h => by
  have h1 := congrFun (tq_vu hs) 0
  rw [h, al_0L (sp_nn hs), mx_id_at, if_pos] at h1
  · exact absurd h1 (by decide)
  · have := sp_nn hs
    omega
/-- the degree: from 1 to the size -/
theorem dg_b (hs : sp_ok s) (ha : sp_V s a) {K : Nat} (h : sp_deg s a K) : 1 ≤ K ∧ K ≤ zs_nn s := by
  obtain ⟨h1, h2, h3⟩ := h
  obtain ⟨c1, c2⟩ := sp_cnt hs ha
  rw [ls_dst] at h3
  constructor
  · rcases Nat.eq_zero_or_pos K with q | q
    · subst q
      rw [show 0 + 1 = 1 from rfl, c1] at h3
      omega
    · exact q
  · rcases Nat.lt_or_ge (zs_nn s) K with q | q
    · have h4 := h2 (zs_nn s + 1) (by omega)
      rw [ls_dst] at h4
      omega
    · exact q
/-- the least power that is 0 is at most the degree -/
theorem dg_nil (hs : sp_ok s) (ha : sp_V s a) {K : Nat} (h : sp_deg s a K) {e : Nat} (h0 : zs_po s a (zs_el s.1 9) e = fun _ => 0) (h1 : ¬ zs_po s a (zs_el s.1 9) (e - 1) = fun _ => 0) : e ≤ K := by
  obtain ⟨-, -, h3⟩ := h
  rw [ls_dst] at h3
  rcases Nat.lt_or_ge K e with q | q
  · exfalso
    rw [dg_pw hs ha] at h0 h1
    have hi := dg_in (sp_p hs) (fun k => by
      have := dg_V hs ha k
      rw [dg_pw hs ha] at this
      exact ⟨this.1, this.2.1.2⟩) h0 h1
    rw [← sp_po_pw hs ha] at hi
    have h5 := ls_sq_n (sp_p hs) (x := mx_po (zs_nn s) (s.1 82) (zs_el s.1 8) a (zs_el s.1 9)) (fun i => (dg_V hs ha i).1) hi (fun i hi => ls_Sp_i hi) (fun i hi => ls_Sp_i hi)
    have h6 := dg_st (m := s.1 82) (x := mx_po (zs_nn s) (s.1 82) (zs_el s.1 8) a (zs_el s.1 9)) (K + 1) (e - (K + 1))
    rw [show K + 1 + (e - (K + 1)) = e by omega, h5, h3] at h6
    omega
  · exact q
/-- no power is 0 where there is an inverse -/
theorem dg_inv (hs : sp_ok s) (ha : sp_V s a) (hd : ¬ mx_det (zs_nn s) (s.1 82) a = 0) : ∀ k, ¬ zs_po s a (zs_el s.1 9) k = fun _ => 0
  | 0 => dg_v0 hs
  | k + 1 => fun h => by
    have hn := sp_nn hs
    have hm := sp_p hs
    have h8 := sp_Vel hs (r := 8) (by decide)
    obtain ⟨w0, w1, w2⟩ := tq_w hs ha hd
    have hV := dg_V hs ha k
    rw [dg_pw hs ha] at h
    have h2 : mx_mul 3 (s.1 82) (mx_mul 3 (s.1 82) a (zs_el s.1 8)) (mx_pw (s.1 82) (mx_mul 3 (s.1 82) a (zs_el s.1 8)) (zs_el s.1 9) k) = fun _ => 0 := h
    rw [← dg_pw hs ha, mx_mul3 hn ha.2.1 h8.2.1, mx_mul3 hn mx_mul_z hV.2.1, al_A hn] at h2
    have h3 := congrArg (mx_mul (zs_nn s) (s.1 82) (mx_inv (zs_nn s) (s.1 82) a)) h2
    rw [al_vx hn w1, al_Im hn hm, al_0R hn] at h3
    have h4 := congrArg (mx_mul (zs_nn s) (s.1 82) (zs_el s.1 9)) h3
    rw [al_vx hn (tq_vu hs), al_Ix hn hV, al_0R hn] at h4
    exact dg_inv hs ha hd k h4
/-- two elements that agree in all places -/
theorem al_ext {n : Nat} {m : Int} {x y : Nat → Int} (hx : mx_V n m x) (hy : mx_V n m y) (h : ∀ i j, i < n → j < n → x (3 * i + j) = y (3 * i + j)) (hn : n = 2 ∨ n = 3) : x = y := by
  funext k
  by_cases h9 : k < 9
  · have e : k = 3 * (k / 3) + k % 3 := by omega
    by_cases h1 : k / 3 < n
    · by_cases h2 : k % 3 < n
      · rw [e]
        exact h _ _ h1 h2
      · have a1 := (hx.2.1.1 (k % 3) (k / 3) (by omega) (by omega) (by omega)).2
        have a2 := (hy.2.1.1 (k % 3) (k / 3) (by omega) (by omega) (by omega)).2
        rw [← e] at a1 a2
        rw [a1, a2]
    · have a1 := (hx.2.1.1 (k / 3) (k % 3) (by omega) (by omega) (by omega)).1
      have a2 := (hy.2.1.1 (k / 3) (k % 3) (by omega) (by omega) (by omega)).1
      rw [← e] at a1 a2
      rw [a1, a2]
  · rw [hx.2.1.2 k (by omega), hy.2.1.2 k (by omega)]
/-- the order, as 'of' tells it -/
theorem dg_ord (hs : sp_ok s) (ha : sp_V s a) {z : Int} (h : mx_fst (fun k => zs_po s a a k = zs_el s.1 9) 2000 z) : z = -6 ∨ (¬ mx_det (zs_nn s) (s.1 82) a = 0 ∧ ∃ k : Nat, k < 2000 ∧ z = (k : Int) + 1 ∧ zs_po s a (zs_el s.1 9) (k + 1) = zs_el s.1 9 ∧ (k = 0 ∨ ¬ zs_po s a (zs_el s.1 9) k = zs_el s.1 9)) := by
  rcases h with ⟨k, h1, h2, h3, h4⟩ | ⟨-, h⟩
  · refine Or.inr ⟨fun hd => sp_ord hs ha hd k h2, k, h1, h4, by rw [← sp_po_sh hs ha]; exact h2, ?_⟩
    rcases Nat.eq_zero_or_pos k with q | q
    · exact Or.inl q
    · refine Or.inr (fun h5 => h3 (k - 1) (by omega) ?_)
      show zs_po s a a (k - 1) = _
      rw [sp_po_sh hs ha, show k - 1 + 1 = k by omega]
      exact h5
  · exact Or.inl h
/-- the least power that is 0, as 'of' tells it -/
theorem dg_end (hs : sp_ok s) (ha : sp_V s a) {z : Int} (h : mx_fst (fun k => zs_po s a a k = fun _ => 0) 10 z) : (z = -6 ∧ ∀ k, 1 ≤ k → k ≤ 10 → ¬ zs_po s a (zs_el s.1 9) k = fun _ => 0) ∨ ∃ k : Nat, 1 ≤ k ∧ k ≤ 10 ∧ z = (k : Int) ∧ (∀ j, j < k → ¬ zs_po s a (zs_el s.1 9) j = fun _ => 0) ∧ ∀ j, k ≤ j → zs_po s a (zs_el s.1 9) j = fun _ => 0 := by
  rcases h with ⟨k, h1, h2, h3, h4⟩ | ⟨h1, h2⟩
  · refine Or.inr ⟨k + 1, by omega, by omega, by omega, fun j hj => ?_, fun j hj => ?_⟩
    · rcases Nat.eq_zero_or_pos j with q | q
      · rw [q]
        exact dg_v0 hs
      · have : ¬ zs_po s a a (j - 1) = fun _ => 0 := h3 (j - 1) (by omega)
        rw [sp_po_sh hs ha, show j - 1 + 1 = j by omega] at this
        exact this
    · rw [sp_po_sh hs ha, dg_pw hs ha] at h2
      rw [dg_pw hs ha, show j = (k + 1) + (j - (k + 1)) by omega]
      exact dg_0 h2 _
  · refine Or.inl ⟨h2, fun k a1 a2 => ?_⟩
    have : ¬ zs_po s a a (k - 1) = fun _ => 0 := h1 (k - 1) (by omega)
    rw [sp_po_sh hs ha, show k - 1 + 1 = k by omega] at this
    exact this
end DEG
