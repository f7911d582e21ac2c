/-! rank, determinant and inverse: the class's are the reference's -/
theorem ls_sq_c {m : Int} {x y : Nat → Nat → Int} : ∀ k, (∀ i, i < k → x i = y i) → ls_sq m x k = ls_sq m y k
  | 0, _ => rfl
  | k + 1, h => by
    show mx_nw m (ls_sq m x k) (x k) = mx_nw m (ls_sq m y k) (y k)
    rw [ls_sq_c k (fun i hi => h i (by omega)), h k (by omega)]
theorem ls_rst {n : Nat} {m : Int} {a : Nat → Int} : ∀ k, mx_rst n m a k = ls_sq m (mx_rws n a) k
  | 0 => rfl
  | k + 1 => by
    show mx_nw m (mx_rst n m a k) (mx_rws n a k) = mx_nw m (ls_sq m (mx_rws n a) k) (mx_rws n a k)
    rw [ls_rst k]
theorem ls_ld_z {n : Nat} (hn : n = 2 ∨ n = 3) {m : Int} {a : Nat → Int} (za : mx_z n a) : ∀ i, n ≤ i → i < 4 → ∀ j, rr_ld (n : Int) a i j = 0 := fun i hi hi4 j => by
  unfold rr_ld
  by_cases e : i < 3
  · rw [if_pos e]
    unfold rw_ld
    by_cases q : j < 3
    · rw [if_pos q]
      exact (za.1 i j e q hi).1
    · rw [if_neg q]
      by_cases q2 : j < 6
      · rw [if_pos q2, if_neg (by omega)]
      · rw [if_neg q2]
  · rw [if_neg e]
theorem ls_ld_D {n : Nat} (hn : n = 2 ∨ n = 3) {m : Int} {a : Nat → Int} : mx_det n m a = ls_D n (rr_ld (n : Int) a) % m := by
  rcases hn with rfl | rfl
  · simp [mx_det, ls_D, rr_ld, rw_ld]
  · have : ls_D 3 (rr_ld ((3 : Nat) : Int) a) = mx_d3s a 3 := by
      simp [ls_D, ls_d3, rr_ld, rw_ld, mx_d3s, mx_at]
      grind
    rw [this]
    unfold mx_det
    rw [if_neg (by decide)]
theorem ls_c1 {m : Int} {R0 R1 : Nat → Nat → Int} (h : ∀ P : (Nat → Int) → Prop, ls_lc m P → ((∀ i, i < 4 → P (R0 i)) ↔ ∀ i, i < 4 → P (R1 i))) (ok : rr_ok m R1) {j : Nat} (hj : j < 9) (h0 : ∀ i, i < 4 → R0 i j = 0) : ∀ i, i < 4 → R1 i j = 0 := fun i hi => by
  have := (h (fun x => m ∣ x j) ⟨Int.dvd_zero m, fun x y z s t hx hy hz => by
    obtain ⟨p, hp⟩ := hx
    obtain ⟨q, hq⟩ := hy
    obtain ⟨r, hr⟩ := hz j hj
    exact ⟨r + s * p + t * q, by grind⟩⟩).mp (fun i hi => by
      show m ∣ R0 i j
      rw [h0 i hi]
      exact Int.dvd_zero m) i hi
  exact ls_r0 ((ok i hi).1 j hj) this
theorem ls_mul_id {n : Nat} (hn : n = 2 ∨ n = 3) {m : Int} {x : Nat → Int} (ox : mx_ok m x) (hz : mx_z n x) : mx_mul 3 m x (mx_id (n : Int)) = x := by
  funext k
  by_cases h9 : k < 9
  · have hr : k / 3 < 3 := by omega
    have hc : k % 3 < 3 := by omega
    have o := ox k h9
    have hk : k = 3 * (k / 3) + k % 3 := by omega
    rw [hk] at o ⊢
    generalize k / 3 = r at hr o ⊢
    generalize k % 3 = c at hc o ⊢
    have key : mx_ps x (mx_id (n : Int)) r c 3 = x (3 * r + c) := by
      rw [mx_ps3]
      have h2 := (hz.1 2 r (by omega) hr)
      rcases hn with rfl | rfl <;> rcases (show c = 0 ∨ c = 1 ∨ c = 2 by omega) with rfl | rfl | rfl <;> simp [mx_id] <;> (try omega)
    rw [mx_mul3_at hr hc, key, Int.emod_eq_of_lt o.1 o.2]
  · rw [mx_mul_9 k (by omega), hz.2 k (by omega)]
theorem ls_gj_lc {m : Int} {a : Nat → Int} : ls_lc m (fun x => ∀ j, j < 3 → m ∣ x 3 * a j + x 4 * a (3 + j) + x 5 * a (6 + j) - x j) := by
  refine ⟨fun j _ => ⟨0, by grind⟩, fun x y z s t hx hy hz j hj => ?_⟩
  obtain ⟨p, hp⟩ := hx j hj
  obtain ⟨r, hr⟩ := hy j hj
  obtain ⟨z0, e0⟩ := hz j (by omega)
  obtain ⟨z3, e3⟩ := hz 3 (by omega)
  obtain ⟨z4, e4⟩ := hz 4 (by omega)
  obtain ⟨z5, e5⟩ := hz 5 (by omega)
  have e0 : z j = s * x j + t * y j + m * z0 := by omega
  have e3 : z 3 = s * x 3 + t * y 3 + m * z3 := by omega
  have e4 : z 4 = s * x 4 + t * y 4 + m * z4 := by omega
  have e5 : z 5 = s * x 5 + t * y 5 + m * z5 := by omega
  have hp : x j = x 3 * a j + x 4 * a (3 + j) + x 5 * a (6 + j) - m * p := by omega
  have hr : y j = y 3 * a j + y 4 * a (3 + j) + y 5 * a (6 + j) - m * r := by omega
  refine ⟨s * p + t * r + z3 * a j + z4 * a (3 + j) + z5 * a (6 + j) - z0, ?_⟩
  rw [e0, e3, e4, e5, hp, hr]
  clear e0 e3 e4 e5 hp hr hx hy hz
  grind
theorem ls_gj {n : Nat} (hn : n = 2 ∨ n = 3) {m : Int} (hm : ls_p m) {a : Nat → Int} (ha : mx_V n m a) {q : rr_S} (hq : rr_run m (rr_ld (n : Int) a, 1, 0) 3 q) : mx_rank n m a = q.2.2 ∧ (if (q.2.2 : Int) = n then q.2.1 % m else 0) = mx_det n m a ∧ ((q.2.2 : Int) = n ↔ mx_det n m a ≠ 0) ∧ ((q.2.2 : Int) = n → rr_inv q.1 = mx_inv n m a) ∧ q.2.2 ≤ n := by
  obtain ⟨oa, za, sa⟩ := ha
  have ok := rr_ld_ok (ls_3 hm) (n := (n : Int)) oa
  have hz := ls_ld_z hn (m := m) za
  obtain ⟨a1, a2, a3, ⟨pc, a4⟩, a5⟩ := ls_run hm ok 3 (by decide) q hq
  obtain ⟨b1, b2, b3, b4⟩ := ls_det_run hn hm ok hz 3 (by decide) q hq
  have hrank : mx_rank n m a = q.2.2 := by
    unfold mx_rank
    rw [ls_rst, ls_sq_c (y := fun i => if i < n then mx_rws n a i else fun _ => 0) n (fun i hi => (if_pos hi).symm)]
    refine ls_rank hm ok (by decide) hq (fun i => ?_) (fun i hi => ?_) (fun i hi hi4 j _ => hz i hi hi4 j)
    · by_cases e : i < n
      · skip
        rw [if_pos e]
        intro k hk
        unfold mx_rws
        by_cases e2 : k < n
        · rw [if_pos e2]; exact oa _ (by omega)
        · rw [if_neg e2]; have := ls_3 hm; omega
      · skip
        rw [if_neg e]
        intro k hk
        have := ls_3 hm
        dsimp only
        omega
    · refine ⟨by omega, fun j hj => ?_⟩
      rw [if_pos hi]
      unfold mx_rws ls_tr rr_ld rw_ld
      rw [if_pos (show i < 3 by omega)]
      by_cases e : j < n
      · rw [if_pos e, if_pos (show j < 3 by omega)]
        skip
        rw [if_pos (show j < 3 by omega)]
      · rw [if_neg e]
        by_cases e2 : j < 3
        · rw [if_pos e2]
          skip
          rw [if_pos e2]
          exact ((za.1 j i e2 (by omega) (by omega)).2).symm
        · rw [if_neg e2]
  have hdet := ls_ld_D hn (m := m) (a := a)
  have hcol : ∀ i, i < 4 → ∀ j, n ≤ j → j < 3 → q.1 i j = 0 := fun i hi j hj hj3 => by
    refine ls_c1 a5 a3 (by omega) (fun i hi => ?_) i hi
    unfold rr_ld rw_ld
    by_cases e : i < 3
    · rw [if_pos e]
      skip
      rw [if_pos hj3]
      exact (za.1 j i hj3 e hj).2
    · rw [if_neg e]
  by_cases hd : q.2.2 = n
  · have hpc : ∀ i, i < n → pc i = i := by
      have hl : ∀ i, i < n → pc i < n := fun i hi => by
        obtain ⟨g1, g2, g3⟩ := a4.1 i (by omega)
        rcases Nat.lt_or_ge (pc i) n with h | h
        · exact h
        · rw [hcol i (by omega) (pc i) h (by omega)] at g2
          exact absurd g2 (by decide)
      have h01 := a4.2.1 0 1 (by decide) (by omega)
      have l0 := hl 0 (by omega)
      have l1 := hl 1 (by omega)
      rcases hn with rfl | rfl
      · intro i hi
        rcases (show i = 0 ∨ i = 1 by omega) with rfl | rfl <;> omega
      · have h12 := a4.2.1 1 2 (by decide) (by omega)
        have l2 := hl 2 (by omega)
        intro i hi
        rcases (show i = 0 ∨ i = 1 ∨ i = 2 by omega) with rfl | rfl | rfl <;> omega
    have hI : ∀ i j, i < 3 → j < 3 → q.1 i j = if i = j ∧ i < n then 1 else 0 := fun i j hi hj => by
      by_cases e : n ≤ j
      · rw [hcol i (by omega) j e hj, if_neg (by omega)]
      · have g := a4.1 j (by omega)
        rw [hpc j (by omega)] at g
        by_cases e2 : i = j
        · rw [if_pos (by omega), e2]; exact g.2.1
        · rw [if_neg (by omega)]; exact g.2.2 i (by omega) e2
    have hD1 : ls_D n q.1 = 1 := by
      rcases hn with rfl | rfl
      · unfold ls_D
        rw [if_pos rfl, hI 0 0 (by decide) (by decide), hI 1 1 (by decide) (by decide), hI 0 1 (by decide) (by decide), hI 1 0 (by decide) (by decide)]
        decide
      · unfold ls_D ls_d3
        rw [if_neg (by decide), hI 0 0 (by decide) (by decide), hI 1 1 (by decide) (by decide), hI 0 1 (by decide) (by decide), hI 1 0 (by decide) (by decide), hI 2 2 (by decide) (by decide), hI 0 2 (by decide) (by decide), hI 2 0 (by decide) (by decide), hI 1 2 (by decide) (by decide), hI 2 1 (by decide) (by decide)]
        decide
    rw [hD1, Int.mul_one] at b4
    have he : q.2.1 % m = mx_det n m a := by
      rw [hdet]
      exact Int.emod_eq_emod_iff_emod_sub_eq_zero.mpr (Int.emod_eq_zero_of_dvd b4)
    have hne : mx_det n m a ≠ 0 := fun e => b3 (Int.dvd_of_emod_eq_zero (he.trans e))
    have hdi : (q.2.2 : Int) = n := by omega
    refine ⟨hrank, by rw [if_pos hdi]; exact he, ⟨fun _ => hne, fun _ => hdi⟩, fun _ => ?_, b2⟩
    have hP : ∀ i, i < 4 → ∀ j, j < 3 → m ∣ q.1 i 3 * a j + q.1 i 4 * a (3 + j) + q.1 i 5 * a (6 + j) - q.1 i j := by
      refine (a5 (fun x => ∀ j, j < 3 → m ∣ x 3 * a j + x 4 * a (3 + j) + x 5 * a (6 + j) - x j) ls_gj_lc).mp (fun i hi j hj => ?_)
      · unfold rr_ld
        by_cases e : i < 3
        · rw [if_pos e]
          have z1 : n ≤ 2 → a (6 + j) = 0 := fun h => (za.1 2 j (by decide) hj h).1
          rcases (show i = 0 ∨ i = 1 ∨ i = 2 by omega) with rfl | rfl | rfl
          · have h1 : rw_ld (n : Int) a 0 3 = 1 := by unfold rw_ld; rw [if_neg (by decide), if_pos (by decide), if_pos (by omega)]
            have h2 : rw_ld (n : Int) a 0 4 = 0 := by unfold rw_ld; rw [if_neg (by decide), if_pos (by decide), if_neg (by omega)]
            have h3 : rw_ld (n : Int) a 0 5 = 0 := by unfold rw_ld; rw [if_neg (by decide), if_pos (by decide), if_neg (by omega)]
            have h4 : rw_ld (n : Int) a 0 j = a j := by unfold rw_ld; rw [if_pos hj, show 3 * 0 + j = j by omega]
            rw [h1, h2, h3, h4]
            exact ⟨0, by omega⟩
          · have h1 : rw_ld (n : Int) a 1 3 = 0 := by unfold rw_ld; rw [if_neg (by decide), if_pos (by decide), if_neg (by omega)]
            have h2 : rw_ld (n : Int) a 1 4 = 1 := by unfold rw_ld; rw [if_neg (by decide), if_pos (by decide), if_pos (by omega)]
            have h3 : rw_ld (n : Int) a 1 5 = 0 := by unfold rw_ld; rw [if_neg (by decide), if_pos (by decide), if_neg (by omega)]
            have h4 : rw_ld (n : Int) a 1 j = a (3 + j) := by unfold rw_ld; rw [if_pos hj]
            rw [h1, h2, h3, h4]
            exact ⟨0, by omega⟩
          · have h1 : rw_ld (n : Int) a 2 3 = 0 := by unfold rw_ld; rw [if_neg (by decide), if_pos (by decide), if_neg (by omega)]
            have h2 : rw_ld (n : Int) a 2 4 = 0 := by unfold rw_ld; rw [if_neg (by decide), if_pos (by decide), if_neg (by omega)]
            have h4 : rw_ld (n : Int) a 2 j = a (6 + j) := by unfold rw_ld; rw [if_pos hj]
            rw [h1, h2, h4]
            by_cases q : n ≤ 2
            · rw [z1 q]
              exact ⟨0, by omega⟩
            · have h3 : rw_ld (n : Int) a 2 5 = 1 := by unfold rw_ld; rw [if_neg (by decide), if_pos (by decide), if_pos (by omega)]
              rw [h3]
              exact ⟨0, by omega⟩
        · rw [if_neg e]
          exact ⟨0, by grind⟩
    have ht : ∀ i k, i < 3 → k < 3 → rr_inv q.1 (3 * i + k) = q.1 i (3 + k) := fun i k hi hk => by
      unfold rr_inv
      rw [if_pos (by omega), show (3 * i + k) / 3 = i by omega, show (3 * i + k) % 3 = k by omega]
    have tok : mx_ok m (rr_inv q.1) := fun k hk => by
      unfold rr_inv
      rw [if_pos hk]
      exact (a3 (k / 3) (by omega)).1 _ (by omega)
    have tz : mx_z n (rr_inv q.1) := by
      refine ⟨fun i j hi hj hni => ⟨?_, ?_⟩, fun k hk => if_neg (by omega)⟩
      · rw [ht i j hi hj]
        exact b1 i hni (by omega) _
      · rw [ht j i hj hi]
        refine ls_c1 a5 a3 (by omega) (fun p hp => ?_) j (by omega)
        unfold rr_ld rw_ld
        by_cases e : p < 3
        · rw [if_pos e]
          skip
          rw [if_neg (by omega), if_pos (by omega), if_neg (by omega)]
        · rw [if_neg e]
    have tI : mx_mul 3 m (rr_inv q.1) a = mx_id (n : Int) := by
      funext k
      by_cases h9 : k < 9
      · have hr : k / 3 < 3 := by omega
        have hc : k % 3 < 3 := by omega
        rw [show k = 3 * (k / 3) + k % 3 by omega]
        generalize k / 3 = r at hr ⊢
        generalize k % 3 = c at hc ⊢
        have g := hP r (by omega) c hc
        have t0 := ht r 0 hr (by decide)
        rw [Nat.add_zero] at t0
        rw [mx_mul3_at hr hc, mx_ps3, t0, ht r 1 hr (by decide), ht r 2 hr (by decide), mx_id_at]
        have e1 : (q.1 r (3 + 0) * a c + q.1 r (3 + 1) * a (3 + c) + q.1 r (3 + 2) * a (6 + c)) % m = q.1 r c % m := Int.emod_eq_emod_iff_emod_sub_eq_zero.mpr (Int.emod_eq_zero_of_dvd g)
        have b := (a3 r (by omega)).1 c (by omega)
        rw [e1, Int.emod_eq_of_lt b.1 b.2, hI r c hr hc]
        by_cases e : r = c ∧ r < n
        · rw [if_pos e, if_pos (by omega)]
        · rw [if_neg e, if_neg (by omega)]
      · rw [mx_mul_9 k (by omega), mx_id_9 (by omega) k (by omega)]
    have vI := mx_inv_V hn (ls_3 hm) (a := a) sa
    have h1 := mx_inv_mul hn hm za hne
    have h2 : mx_mul 3 m a (mx_inv n m a) = mx_id (n : Int) := by
      rw [mx_mul_sw vI.2.2 sa (by rw [h1]; exact mx_id_s), h1]
    rw [← ls_mul_id hn tok tz, ← h2, ← mx_mul_a, tI, mx_id_mul hn vI.1 vI.2.1]
  · have hD0 : ls_D n q.1 = 0 := by
      have z := a4.2.2 (n - 1)
      rcases hn with rfl | rfl
      · unfold ls_D
        rw [if_pos rfl, z 1 (by omega) (by decide) (by decide), z 0 (by omega) (by decide) (by decide)]
        simp
      · unfold ls_D ls_d3
        rw [if_neg (by decide), z 0 (by omega) (by decide) (by decide), z 1 (by omega) (by decide) (by decide), z 2 (by omega) (by decide) (by decide)]
        simp
    rw [hD0, Int.mul_zero] at b4
    have he : mx_det n m a = 0 := by
      rw [hdet]
      obtain ⟨p, hp⟩ := b4
      exact Int.emod_eq_zero_of_dvd ⟨-p, by rw [Int.mul_neg]; omega⟩
    have hdi : ¬ (q.2.2 : Int) = n := by omega
    exact ⟨hrank, by rw [if_neg hdi, he], ⟨fun h => absurd h hdi, fun h => absurd he h⟩, fun h => absurd h hdi, b2⟩
