/-- the rows of an element, as many as its rank -/
theorem ls_base {n : Nat} (hn : n = 2 ∨ n = 3) {m : Int} (hm : ls_p m) {a : Nat → Int} (ha : mx_V n m a) : ∃ R : Nat → Nat → Int, ls_in m R (mx_rank n m a) ∧ (∀ i, i < 3 → ls_Sp m R (mx_rank n m a) (ls_row a i)) ∧ (∀ P, ls_lc m P → (∀ i, i < 3 → P (ls_row a i)) → ∀ i, i < mx_rank n m a → P (R i)) ∧ mx_rank n m a ≤ 3 := by
  obtain ⟨oa, za, sa⟩ := ha
  have e : mx_rank n m a = (ls_sq m (fun i => if i < n then mx_rws n a i else fun _ => 0) n).1 := by
    unfold mx_rank
    rw [ls_rst, ls_sq_c (y := fun i => if i < n then mx_rws n a i else fun _ => 0) n (fun i hi => (if_pos hi).symm)]
  have hrow : ∀ i, i < n → mx_rws n a i = ls_row a i := fun i hi => by
    funext j
    unfold mx_rws ls_row
    by_cases e : j < n
    · rw [if_pos e, if_pos (by omega)]
    · rw [if_neg e]
      by_cases e2 : j < 3
      · rw [if_pos e2]
        exact ((za.1 j i e2 (by omega) (by omega)).2).symm
      · rw [if_neg e2]
  have hrow0 : ∀ i, n ≤ i → i < 3 → ∀ j, ls_row a i j = 0 := fun i hi hi3 j => by
    unfold ls_row
    by_cases e2 : j < 3
    · rw [if_pos e2]
      exact (za.1 i j hi3 e2 hi).1
    · rw [if_neg e2]
  have ox : ∀ i, mx_ok m ((fun i => if i < n then mx_rws n a i else fun _ => 0) i) := fun i => by
    have h3 := ls_3 hm
    by_cases e : i < n
    · try dsimp only
      rw [if_pos e]
      intro k hk
      unfold mx_rws
      by_cases e2 : k < n
      · rw [if_pos e2]; exact oa _ (by omega)
      · rw [if_neg e2]; omega
    · try dsimp only
      rw [if_neg e]
      intro k hk
      try dsimp only
      omega
  rw [e]
  have hP := fun P (hP : ls_lc m P) => ls_sq_P hP (x := fun i => if i < n then mx_rws n a i else fun _ => 0) n
  refine ⟨_, ls_ld_in hm (ls_sq_ld hm ox n), fun i hi => ?_, fun P h g => (hP P h).mp (fun i hi => ?_), ?_⟩
  · by_cases q : i < n
    · have := (hP _ ls_Sp_lc).mpr (fun i hi => ls_Sp_i hi) i q
      try dsimp only at this
      rw [if_pos q, hrow i q] at this
      exact this
    · exact ls_lc_0 ls_Sp_lc (fun j _ => by rw [hrow0 i (by omega) hi]; exact Int.dvd_zero m)
  · try dsimp only
    rw [if_pos hi, hrow i hi]
    exact g i (by omega)
  · rw [← e]
    unfold mx_rank
    have := mx_rst1 (n := n) (m := m) (a := a) n
    omega
def ls_bs (n i : Nat) : Nat → Int := if n = 2 then (if i = 0 then mx_bas 0 0 else if i = 1 then mx_bas 0 1 else mx_bas 1 1) else (if i = 0 then mx_bas 0 0 else if i = 1 then mx_bas 0 1 else if i = 2 then mx_bas 0 2 else if i = 3 then mx_bas 1 1 else if i = 4 then mx_bas 1 2 else mx_bas 2 2)
theorem ls_pou {n : Nat} (hn : n = 2 ∨ n = 3) {m : Int} {f : (Nat → Int) → (Nat → Int)} : mx_pou n m f n = ls_sq m (fun i => f (ls_bs n i)) (n * (n + 1) / 2) := by
  rcases hn with rfl | rfl <;> rfl
theorem ls_bas_V {n : Nat} {m : Int} (hm : 3 ≤ m) {r c : Nat} (hn : n ≤ 3) (hr : r < n) (hc : c < n) : mx_V n m (mx_bas r c) := by
  refine ⟨fun k _ => ?_, ⟨fun i j hi hj h => ?_, fun k hk => ?_⟩, fun i j hi hj => ?_⟩
  · unfold mx_bas
    split <;> omega
  · unfold mx_bas
    rw [if_neg (by omega), if_neg (by omega)]
    exact ⟨rfl, rfl⟩
  · unfold mx_bas
    rw [if_neg (by omega)]
  · unfold mx_bas
    by_cases e : 3 * i + j = 3 * r + c ∨ 3 * i + j = 3 * c + r
    · rw [if_pos e, if_pos (by omega)]
    · rw [if_neg e, if_neg (by omega)]
theorem ls_bs_V {n : Nat} (hn : n = 2 ∨ n = 3) {m : Int} (hm : 3 ≤ m) (i : Nat) : mx_V n m (ls_bs n i) := by
  rcases hn with rfl | rfl
  · unfold ls_bs
    rw [if_pos rfl]
    split
    · exact ls_bas_V hm (by decide) (by decide) (by decide)
    · split <;> exact ls_bas_V hm (by decide) (by decide) (by decide)
  · unfold ls_bs
    rw [if_neg (by decide)]
    split
    · exact ls_bas_V hm (by decide) (by decide) (by decide)
    · split
      · exact ls_bas_V hm (by decide) (by decide) (by decide)
      · split
        · exact ls_bas_V hm (by decide) (by decide) (by decide)
        · split
          · exact ls_bas_V hm (by decide) (by decide) (by decide)
          · split <;> exact ls_bas_V hm (by decide) (by decide) (by decide)
theorem ls_bs_in {n : Nat} (hn : n = 2 ∨ n = 3) {m : Int} : ls_in m (ls_bs n) (n * (n + 1) / 2) := by
  intro c hc i hi
  rcases hn with rfl | rfl
  · have h0 := hc 0 (by decide)
    have h1 := hc 1 (by decide)
    have h4 := hc 4 (by decide)
    simp [ls_su, ls_bs, mx_bas] at h0 h1 h4
    rcases (show i = 0 ∨ i = 1 ∨ i = 2 by omega) with rfl | rfl | rfl
    · exact h0
    · exact h1
    · exact h4
  · have h0 := hc 0 (by decide)
    have h1 := hc 1 (by decide)
    have h2 := hc 2 (by decide)
    have h4 := hc 4 (by decide)
    have h5 := hc 5 (by decide)
    have h8 := hc 8 (by decide)
    simp [ls_su, ls_bs, mx_bas] at h0 h1 h2 h4 h5 h8
    rcases (show i = 0 ∨ i = 1 ∨ i = 2 ∨ i = 3 ∨ i = 4 ∨ i = 5 by omega) with rfl | rfl | rfl | rfl | rfl | rfl
    · exact h0
    · exact h1
    · exact h2
    · exact h4
    · exact h5
    · exact h8
/-- the rows of e and of what is left aren't more than the size -/
theorem ls_lcG {m : Int} {G : Nat → Int} {t0 : Int} : ls_lc m (fun z => (∀ j, j < 3 → m ∣ z 0 * G j + z 1 * G (3 + j) + z 2 * G (6 + j) - t0 * z j) ∧ ∀ j, 3 ≤ j → j < 9 → m ∣ z j) := by
  refine ⟨⟨fun j _ => ⟨0, by grind⟩, fun j _ _ => Int.dvd_zero m⟩, fun x y z s t hx hy hz => ⟨fun j hj => ?_, fun j hj hj9 => ?_⟩⟩
  · obtain ⟨p, hp⟩ := hx.1 j hj
    obtain ⟨r, hr⟩ := hy.1 j hj
    obtain ⟨z0, e0⟩ := hz 0 (by omega)
    obtain ⟨z1, e1⟩ := hz 1 (by omega)
    obtain ⟨z2, e2⟩ := hz 2 (by omega)
    obtain ⟨zj, ej⟩ := hz j (by omega)
    have e0 : z 0 = s * x 0 + t * y 0 + m * z0 := by omega
    have e1 : z 1 = s * x 1 + t * y 1 + m * z1 := by omega
    have e2 : z 2 = s * x 2 + t * y 2 + m * z2 := by omega
    have ej : z j = s * x j + t * y j + m * zj := by omega
    refine ⟨s * p + t * r + z0 * G j + z1 * G (3 + j) + z2 * G (6 + j) - t0 * zj, ?_⟩
    have g1 : s * (x 0 * G j + x 1 * G (3 + j) + x 2 * G (6 + j) - t0 * x j) = s * (m * p) := by rw [hp]
    have g2 : t * (y 0 * G j + y 1 * G (3 + j) + y 2 * G (6 + j) - t0 * y j) = t * (m * r) := by rw [hr]
    rw [ej, e0, e1, e2]
    clear e0 e1 e2 ej hp hr hx hy hz
    grind
  · obtain ⟨p, hp⟩ := hx.2 j hj hj9
    obtain ⟨r, hr⟩ := hy.2 j hj hj9
    obtain ⟨zj, ej⟩ := hz j hj9
    exact ⟨s * p + t * r + zj, by grind⟩
theorem ls_two {m : Int} {G : Nat → Int} {R R' : Nat → Nat → Int} {r r' : Nat} (h1 : ls_in m R r) (h2 : ls_in m R' r') (g1 : ∀ i, i < r → (∀ j, j < 3 → m ∣ R i 0 * G j + R i 1 * G (3 + j) + R i 2 * G (6 + j) - 1 * R i j) ∧ ∀ j, 3 ≤ j → j < 9 → m ∣ R i j) (g2 : ∀ i, i < r' → (∀ j, j < 3 → m ∣ R' i 0 * G j + R' i 1 * G (3 + j) + R' i 2 * G (6 + j) - 0 * R' i j) ∧ ∀ j, 3 ≤ j → j < 9 → m ∣ R' i j) : ls_in m (fun i => if i < r then R i else R' (i - r)) (r + r') := by
  intro c hc
  have hx := ls_lc_su (ls_lcG (m := m) (G := G) (t0 := 1)) (R := R) c r g1
  have hy := ls_lc_su (ls_lcG (m := m) (G := G) (t0 := 0)) (R := R') (fun i => c (r + i)) r' g2
  have hs : ∀ j, j < 9 → m ∣ ls_su (fun i => c i * R i j) r + ls_su (fun i => c (r + i) * R' i j) r' := fun j hj => by
    have h := hc j hj
    rw [ls_su_app] at h
    have e1 : ls_su (fun i => c i * (fun i => if i < r then R i else R' (i - r)) i j) r = ls_su (fun i => c i * R i j) r := ls_su_c _ (fun i hi => by try dsimp only; rw [if_pos hi])
    have e2 : ls_su (fun i => c (r + i) * (fun i => if i < r then R i else R' (i - r)) (r + i) j) r' = ls_su (fun i => c (r + i) * R' i j) r' := ls_su_c _ (fun i hi => by try dsimp only; rw [if_neg (by omega), show r + i - r = i by omega])
    rw [← e1, ← e2]
    exact h
  generalize hX : (fun j => ls_su (fun i => c i * R i j) r) = X at hx
  generalize hY : (fun j => ls_su (fun i => c (r + i) * R' i j) r') = Y at hy
  try dsimp only at hx hy
  have eX : ∀ j, ls_su (fun i => c i * R i j) r = X j := fun j => congrFun hX j
  have eY : ∀ j, ls_su (fun i => c (r + i) * R' i j) r' = Y j := fun j => congrFun hY j
  simp only [eX, eY] at hs
  have hX0 : ∀ j, j < 9 → m ∣ X j := fun j hj => by
    by_cases e : j < 3
    · obtain ⟨a, ha⟩ := hx.1 j e
      obtain ⟨b, hb⟩ := hy.1 j e
      obtain ⟨p0, q0⟩ := hs 0 (by decide)
      obtain ⟨p1, q1⟩ := hs 1 (by decide)
      obtain ⟨p2, q2⟩ := hs 2 (by decide)
      have q0 : Y 0 = m * p0 - X 0 := by omega
      have q1 : Y 1 = m * p1 - X 1 := by omega
      have q2 : Y 2 = m * p2 - X 2 := by omega
      rw [q0, q1, q2] at hb
      refine ⟨p0 * G j + p1 * G (3 + j) + p2 * G (6 + j) - a - b, ?_⟩
      clear q0 q1 q2 hs eX eY hX hY hc g1 g2 h1 h2 hx hy
      grind
    · exact hx.2 j (by omega) hj
  have hY0 : ∀ j, j < 9 → m ∣ Y j := fun j hj => by
    obtain ⟨p, hp⟩ := hs j hj
    obtain ⟨q, hq⟩ := hX0 j hj
    exact ⟨p - q, by rw [Int.mul_sub]; omega⟩
  intro i hi
  by_cases e : i < r
  · exact h1 c (fun j hj => by rw [eX]; exact hX0 j hj) i e
  · have := h2 (fun i => c (r + i)) (fun j hj => by rw [eY]; exact hY0 j hj) (i - r) (by omega)
    try dsimp only at this
    rwa [show r + (i - r) = i by omega] at this
/-- three families beside one another -/
theorem ls_join {m : Int} {S1 S2 S3 : Nat → Nat → Int} {a b c : Nat} {x y z w : Nat → Int} (h1 : ls_Sp m S1 a x) (h2 : ls_Sp m S2 b y) (h3 : ls_Sp m S3 c z) (h : ∀ j, j < 9 → m ∣ w j - (x j + y j + z j)) : ls_Sp m (fun i => if i < a then S1 i else if i < a + b then S2 (i - a) else S3 (i - (a + b))) (a + b + c) w := by
  have k1 := ls_Sp_P (m := m) (ls_Sp_lc (R := fun i => if i < a then S1 i else if i < a + b then S2 (i - a) else S3 (i - (a + b))) (k := a + b + c)) h1 (fun i hi => by
    have := ls_Sp_i (m := m) (R := fun i => if i < a then S1 i else if i < a + b then S2 (i - a) else S3 (i - (a + b))) (k := a + b + c) (i := i) (by omega)
    try dsimp only at this
    rwa [if_pos hi] at this)
  have k2 := ls_Sp_P (m := m) (ls_Sp_lc (R := fun i => if i < a then S1 i else if i < a + b then S2 (i - a) else S3 (i - (a + b))) (k := a + b + c)) h2 (fun i hi => by
    have := ls_Sp_i (m := m) (R := fun i => if i < a then S1 i else if i < a + b then S2 (i - a) else S3 (i - (a + b))) (k := a + b + c) (i := a + i) (by omega)
    try dsimp only at this
    rwa [if_neg (by omega), if_pos (by omega), show a + i - a = i by omega] at this)
  have k3 := ls_Sp_P (m := m) (ls_Sp_lc (R := fun i => if i < a then S1 i else if i < a + b then S2 (i - a) else S3 (i - (a + b))) (k := a + b + c)) h3 (fun i hi => by
    have := ls_Sp_i (m := m) (R := fun i => if i < a then S1 i else if i < a + b then S2 (i - a) else S3 (i - (a + b))) (k := a + b + c) (i := a + b + i) (by omega)
    try dsimp only at this
    rwa [if_neg (by omega), if_neg (by omega), show a + b + i - (a + b) = i by omega] at this)
  have k12 := ls_Sp_lc.2 x y (fun j => x j + y j) 1 1 k1 k2 (fun j _ => ⟨0, by grind⟩)
  exact ls_Sp_lc.2 (fun j => x j + y j) z w 1 1 k12 k3 (fun j hj => by
    obtain ⟨p, hp⟩ := h j hj
    exact ⟨p, by grind⟩)
