/-! the determinant by the pivots -/
def ls_d3 (x y z : Nat → Int) : Int := x 0 * (y 1 * z 2 - y 2 * z 1) - x 1 * (y 0 * z 2 - y 2 * z 0) + x 2 * (y 0 * z 1 - y 1 * z 0)
def ls_D (n : Nat) (R : Nat → Nat → Int) : Int := if n = 2 then R 0 0 * R 1 1 - R 0 1 * R 1 0 else ls_d3 (R 0) (R 1) (R 2)
theorem ls_d3_c {m : Int} {x y z x' y' z' : Nat → Int} (hx : ∀ j, j < 3 → m ∣ x j - x' j) (hy : ∀ j, j < 3 → m ∣ y j - y' j) (hz : ∀ j, j < 3 → m ∣ z j - z' j) : m ∣ ls_d3 x y z - ls_d3 x' y' z' := by
  obtain ⟨a0, x0⟩ := hx 0 (by decide)
  obtain ⟨a1, x1⟩ := hx 1 (by decide)
  obtain ⟨a2, x2⟩ := hx 2 (by decide)
  obtain ⟨b0, y0⟩ := hy 0 (by decide)
  obtain ⟨b1, y1⟩ := hy 1 (by decide)
  obtain ⟨b2, y2⟩ := hy 2 (by decide)
  obtain ⟨c0, z0⟩ := hz 0 (by decide)
  obtain ⟨c1, z1⟩ := hz 1 (by decide)
  obtain ⟨c2, z2⟩ := hz 2 (by decide)
  have e1 : m ∣ (x 0 - x' 0) * (y 1 * z 2 - y 2 * z 1) - (x 1 - x' 1) * (y 0 * z 2 - y 2 * z 0) + (x 2 - x' 2) * (y 0 * z 1 - y 1 * z 0) := by
    rw [x0, x1, x2]
    exact ⟨a0 * (y 1 * z 2 - y 2 * z 1) - a1 * (y 0 * z 2 - y 2 * z 0) + a2 * (y 0 * z 1 - y 1 * z 0), by grind⟩
  have e2 : m ∣ x' 0 * ((y 1 - y' 1) * z 2 - (y 2 - y' 2) * z 1) - x' 1 * ((y 0 - y' 0) * z 2 - (y 2 - y' 2) * z 0) + x' 2 * ((y 0 - y' 0) * z 1 - (y 1 - y' 1) * z 0) := by
    rw [y0, y1, y2]
    exact ⟨x' 0 * (b1 * z 2 - b2 * z 1) - x' 1 * (b0 * z 2 - b2 * z 0) + x' 2 * (b0 * z 1 - b1 * z 0), by grind⟩
  have e3 : m ∣ x' 0 * (y' 1 * (z 2 - z' 2) - y' 2 * (z 1 - z' 1)) - x' 1 * (y' 0 * (z 2 - z' 2) - y' 2 * (z 0 - z' 0)) + x' 2 * (y' 0 * (z 1 - z' 1) - y' 1 * (z 0 - z' 0)) := by
    rw [z0, z1, z2]
    exact ⟨x' 0 * (y' 1 * c2 - y' 2 * c1) - x' 1 * (y' 0 * c2 - y' 2 * c0) + x' 2 * (y' 0 * c1 - y' 1 * c0), by grind⟩
  have e := Int.dvd_add (Int.dvd_add e1 e2) e3
  have q : ls_d3 x y z - ls_d3 x' y' z' = (x 0 - x' 0) * (y 1 * z 2 - y 2 * z 1) - (x 1 - x' 1) * (y 0 * z 2 - y 2 * z 0) + (x 2 - x' 2) * (y 0 * z 1 - y 1 * z 0) + (x' 0 * ((y 1 - y' 1) * z 2 - (y 2 - y' 2) * z 1) - x' 1 * ((y 0 - y' 0) * z 2 - (y 2 - y' 2) * z 0) + x' 2 * ((y 0 - y' 0) * z 1 - (y 1 - y' 1) * z 0)) + (x' 0 * (y' 1 * (z 2 - z' 2) - y' 2 * (z 1 - z' 1)) - x' 1 * (y' 0 * (z 2 - z' 2) - y' 2 * (z 0 - z' 0)) + x' 2 * (y' 0 * (z 1 - z' 1) - y' 1 * (z 0 - z' 0))) := by
    unfold ls_d3
    grind
  rw [q]
  exact e
/-- the size 2 as one of the size 3 -/
def ls_e (n : Nat) (R : Nat → Nat → Int) (i : Nat) : Nat → Int := if n = 2 then (if i = 2 then (fun j => if j = 2 then 1 else 0) else fun j => if j = 2 then 0 else R i j) else R i
theorem ls_De {n : Nat} (hn : n = 2 ∨ n = 3) {R : Nat → Nat → Int} : ls_D n R = ls_d3 (ls_e n R 0) (ls_e n R 1) (ls_e n R 2) := by
  rcases hn with rfl | rfl
  · simp [ls_D, ls_e, ls_d3]
  · simp [ls_D, ls_e]
theorem ls_D_ex {n : Nat} (hn : n = 2 ∨ n = 3) {R : Nat → Nat → Int} {a b : Nat} (ha : a < n) (hb : b < n) : ls_D n (rr_ex R a b) = if a = b then ls_D n R else - ls_D n R := by
  rcases hn with rfl | rfl
  · rcases (show a = 0 ∨ a = 1 by omega) with rfl | rfl <;> rcases (show b = 0 ∨ b = 1 by omega) with rfl | rfl <;> simp [ls_D, rr_ex] <;> grind
  · rcases (show a = 0 ∨ a = 1 ∨ a = 2 by omega) with rfl | rfl | rfl <;> rcases (show b = 0 ∨ b = 1 ∨ b = 2 by omega) with rfl | rfl | rfl <;> simp [ls_D, rr_ex, ls_d3] <;> grind
theorem ls_D_one {n : Nat} (hn : n = 2 ∨ n = 3) {m : Int} {S : Nat → Nat → Int} {d c : Nat} (hd : d < n) : m ∣ ls_D n (rr_one m S d c) - rr_iv (S d c) m (m.toNat - 1) * ls_D n S := by
  have ne : ∀ i, i ≠ d → rr_one m S d c i = S i := fun i hi => by
    unfold rr_one
    rw [if_neg hi]
  have de : ∀ j, j < 9 → rr_one m S d c d j = S d j * rr_iv (S d c) m (m.toNat - 1) % m := fun j hj => by
    unfold rr_one
    rw [if_pos rfl, if_pos hj]
  generalize rr_iv (S d c) m (m.toNat - 1) = w at de ⊢
  have hde : ∀ j, j < 9 → m ∣ rr_one m S d c d j - S d j * w := fun j hj => by
    rw [de j hj]
    exact ls_em
  have r0 : ∀ j, m ∣ S 0 j - S 0 j := fun j => ⟨0, by omega⟩
  have r1 : ∀ j, m ∣ S 1 j - S 1 j := fun j => ⟨0, by omega⟩
  have r2 : ∀ j, m ∣ S 2 j - S 2 j := fun j => ⟨0, by omega⟩
  rcases hn with rfl | rfl
  · unfold ls_D
    rw [if_pos rfl, if_pos rfl]
    rcases (show d = 0 ∨ d = 1 by omega) with rfl | rfl
    · rw [ne 1 (by decide)]
      obtain ⟨p, hp⟩ := hde 0 (by decide)
      obtain ⟨q, hq⟩ := hde 1 (by decide)
      exact ⟨p * S 1 1 - q * S 1 0, by grind⟩
    · rw [ne 0 (by decide)]
      obtain ⟨p, hp⟩ := hde 0 (by decide)
      obtain ⟨q, hq⟩ := hde 1 (by decide)
      exact ⟨S 0 0 * q - S 0 1 * p, by grind⟩
  · unfold ls_D
    rw [if_neg (by decide), if_neg (by decide)]
    rcases (show d = 0 ∨ d = 1 ∨ d = 2 by omega) with rfl | rfl | rfl
    · have h := ls_d3_c (m := m) (x := rr_one m S 0 c 0) (x' := fun j => S 0 j * w) (fun j hj => hde j (by omega)) (fun j _ => r1 j) (fun j _ => r2 j)
      rw [ne 1 (by decide), ne 2 (by decide), show w * ls_d3 (S 0) (S 1) (S 2) = ls_d3 (fun j => S 0 j * w) (S 1) (S 2) by unfold ls_d3; grind]
      exact h
    · have h := ls_d3_c (m := m) (y := rr_one m S 1 c 1) (y' := fun j => S 1 j * w) (fun j _ => r0 j) (fun j hj => hde j (by omega)) (fun j _ => r2 j)
      rw [ne 0 (by decide), ne 2 (by decide), show w * ls_d3 (S 0) (S 1) (S 2) = ls_d3 (S 0) (fun j => S 1 j * w) (S 2) by unfold ls_d3; grind]
      exact h
    · have h := ls_d3_c (m := m) (z := rr_one m S 2 c 2) (z' := fun j => S 2 j * w) (fun j _ => r0 j) (fun j _ => r1 j) (fun j hj => hde j (by omega))
      rw [ne 0 (by decide), ne 1 (by decide), show w * ls_d3 (S 0) (S 1) (S 2) = ls_d3 (S 0) (S 1) (fun j => S 2 j * w) by unfold ls_d3; grind]
      exact h
theorem ls_D_clr {n : Nat} (hn : n = 2 ∨ n = 3) {m : Int} {S : Nat → Nat → Int} {d c : Nat} (hd : d < n) : m ∣ ls_D n (rr_clr m S d c) - ls_D n S := by
  have cd : rr_clr m S d c d = S d := by
    unfold rr_clr
    rw [if_pos rfl]
  have ce : ∀ i, i ≠ d → ∀ j, j < 9 → m ∣ rr_clr m S d c i j - (S i j - S i c * S d j) := fun i hi j hj => by
    have : rr_clr m S d c i j = (S i j - S i c * S d j) % m := by
      unfold rr_clr
      rw [if_neg hi, if_pos hj]
    rw [this]
    exact ls_em
  have r0 : ∀ j, m ∣ S d j - S d j := fun j => ⟨0, by omega⟩
  rcases hn with rfl | rfl
  · unfold ls_D
    rw [if_pos rfl, if_pos rfl]
    rcases (show d = 0 ∨ d = 1 by omega) with rfl | rfl
    · rw [cd]
      obtain ⟨p, hp⟩ := ce 1 (by decide) 0 (by decide)
      obtain ⟨q, hq⟩ := ce 1 (by decide) 1 (by decide)
      exact ⟨S 0 0 * q - S 0 1 * p, by grind⟩
    · rw [cd]
      obtain ⟨p, hp⟩ := ce 0 (by decide) 0 (by decide)
      obtain ⟨q, hq⟩ := ce 0 (by decide) 1 (by decide)
      exact ⟨p * S 1 1 - q * S 1 0, by grind⟩
  · unfold ls_D
    rw [if_neg (by decide), if_neg (by decide)]
    rcases (show d = 0 ∨ d = 1 ∨ d = 2 by omega) with rfl | rfl | rfl
    · have h := ls_d3_c (m := m) (x := S 0) (x' := S 0) (y' := fun j => S 1 j - S 1 c * S 0 j) (z' := fun j => S 2 j - S 2 c * S 0 j) (fun j _ => r0 j) (fun j hj => ce 1 (by decide) j (by omega)) (fun j hj => ce 2 (by decide) j (by omega))
      rw [cd, show ls_d3 (S 0) (S 1) (S 2) = ls_d3 (S 0) (fun j => S 1 j - S 1 c * S 0 j) (fun j => S 2 j - S 2 c * S 0 j) by unfold ls_d3; grind]
      exact h
    · have h := ls_d3_c (m := m) (y := S 1) (y' := S 1) (x' := fun j => S 0 j - S 0 c * S 1 j) (z' := fun j => S 2 j - S 2 c * S 1 j) (fun j hj => ce 0 (by decide) j (by omega)) (fun j _ => r0 j) (fun j hj => ce 2 (by decide) j (by omega))
      rw [cd, show ls_d3 (S 0) (S 1) (S 2) = ls_d3 (fun j => S 0 j - S 0 c * S 1 j) (S 1) (fun j => S 2 j - S 2 c * S 1 j) by unfold ls_d3; grind]
      exact h
    · have h := ls_d3_c (m := m) (z := S 2) (z' := S 2) (x' := fun j => S 0 j - S 0 c * S 2 j) (y' := fun j => S 1 j - S 1 c * S 2 j) (fun j hj => ce 0 (by decide) j (by omega)) (fun j hj => ce 1 (by decide) j (by omega)) (fun j _ => r0 j)
      rw [cd, show ls_d3 (S 0) (S 1) (S 2) = ls_d3 (fun j => S 0 j - S 0 c * S 2 j) (fun j => S 1 j - S 1 c * S 2 j) (S 2) by unfold ls_d3; grind]
      exact h
/-- the pivots times the determinant that is left -/
theorem ls_det_run {n : Nat} (hn : n = 2 ∨ n = 3) {m : Int} (hm : ls_p m) {R0 : Nat → Nat → Int} (ok : rr_ok m R0) (hz : ∀ i, n ≤ i → i < 4 → ∀ j, R0 i j = 0) : ∀ c, c ≤ 9 → ∀ q, rr_run m (R0, 1, 0) c q → (∀ i, n ≤ i → i < 4 → ∀ j, q.1 i j = 0) ∧ q.2.2 ≤ n ∧ ¬ m ∣ q.2.1 ∧ m ∣ q.2.1 * ls_D n q.1 - ls_D n R0
  | 0, _, q, hq => by
    have hq : q = (R0, 1, 0) := hq
    subst hq
    exact ⟨hz, Nat.zero_le _, ls_ndvd1 hm, ⟨0, by dsimp only; omega⟩⟩
  | c + 1, hc, q, hq => by
    obtain ⟨p, h1, f, hf, h2⟩ := hq
    obtain ⟨a1, a2, a3, a4⟩ := ls_det_run hn hm ok hz c (by omega) p h1
    have hrun := ls_run hm ok c (by omega) p h1
    rcases h2 with ⟨h3, h4⟩ | ⟨h3, h4⟩
    · subst h4
      exact ⟨a1, a2, a3, a4⟩
    · subst h4
      have hfn : f < n := by
        rcases Nat.lt_or_ge f n with h | h
        · exact h
        · exact absurd (a1 f h h3 c) (hf.2.2.2 h3)
      have hdn : p.2.2 < n := by have := hf.1; omega
      have hn4 : n < 4 := by omega
      have hE := rr_ex_ok hrun.2.2.1 h3 (show p.2.2 < 4 by omega)
      have hex : ∀ j, rr_ex p.1 f p.2.2 p.2.2 j = p.1 f j := fun j => by
        unfold rr_ex
        by_cases e : p.2.2 = f
        · rw [if_pos e, e]
        · rw [if_neg e, if_pos rfl]
      have hpb : 0 < rr_ex p.1 f p.2.2 p.2.2 c ∧ rr_ex p.1 f p.2.2 p.2.2 c < m := by
        have b := (hE p.2.2 (by omega)).1 c (by omega)
        have := hf.2.2.2 h3
        rw [hex] at b ⊢
        omega
      have hw := ls_iv hm hpb
      have k1 := ls_D_ex hn (R := p.1) hfn hdn
      have k2 := ls_D_one hn (m := m) (S := rr_ex p.1 f p.2.2) (d := p.2.2) (c := c) hdn
      have k3 := ls_D_clr hn (m := m) (S := rr_one m (rr_ex p.1 f p.2.2) p.2.2 c) (d := p.2.2) (c := c) hdn
      have hzz : ∀ i, n ≤ i → i < 4 → ∀ j, rr_clr m (rr_one m (rr_ex p.1 f p.2.2) p.2.2 c) p.2.2 c i j = 0 := fun i hi hi4 j => by
        have e1 : ∀ j, rr_one m (rr_ex p.1 f p.2.2) p.2.2 c i j = 0 := fun j => by
          unfold rr_one rr_ex
          rw [if_neg (by omega), if_neg (by omega), if_neg (by omega)]
          exact a1 i hi hi4 j
        unfold rr_clr
        rw [if_neg (by omega)]
        skip
        rw [e1, e1, Int.zero_mul]
        simp
      refine ⟨hzz, by show p.2.2 + 1 ≤ n; omega, ?_, ?_⟩
      · show ¬ m ∣ (if f = p.2.2 then p.2.1 else -p.2.1) * rr_ex p.1 f p.2.2 p.2.2 c % m
        intro h
        have h5 : m ∣ (if f = p.2.2 then p.2.1 else -p.2.1) * rr_ex p.1 f p.2.2 p.2.2 c := by
          obtain ⟨x, hx⟩ := h
          obtain ⟨y, hy⟩ := @ls_em' m ((if f = p.2.2 then p.2.1 else -p.2.1) * rr_ex p.1 f p.2.2 p.2.2 c)
          exact ⟨x + y, by rw [Int.mul_add]; omega⟩
        refine ls_ndm hm (fun q => a3 ?_) (fun q => ?_) h5
        · split at q
          · exact q
          · exact (Int.dvd_neg).mp q
        · have := ls_r0 ⟨by omega, hpb.2⟩ q
          omega
      · show m ∣ (if f = p.2.2 then p.2.1 else -p.2.1) * rr_ex p.1 f p.2.2 p.2.2 c % m * ls_D n (rr_clr m (rr_one m (rr_ex p.1 f p.2.2) p.2.2 c) p.2.2 c) - ls_D n R0
        generalize ls_D n (rr_clr m (rr_one m (rr_ex p.1 f p.2.2) p.2.2 c) p.2.2 c) = D3 at k3 ⊢
        generalize ls_D n (rr_one m (rr_ex p.1 f p.2.2) p.2.2 c) = D2 at k2 k3
        have k1' : (if f = p.2.2 then p.2.1 else -p.2.1) * ls_D n (rr_ex p.1 f p.2.2) = p.2.1 * ls_D n p.1 := by
          rw [k1]
          split <;> grind
        generalize ls_D n (rr_ex p.1 f p.2.2) = D1 at k1' k2
        generalize rr_ex p.1 f p.2.2 p.2.2 c = v at hw k2 ⊢
        generalize rr_iv v m (m.toNat - 1) = w at hw k2
        generalize (if f = p.2.2 then p.2.1 else -p.2.1) = s at k1' ⊢
        obtain ⟨x1, g1⟩ := a4
        obtain ⟨x2, g2⟩ := k2
        obtain ⟨x3, g3⟩ := k3
        obtain ⟨x4, g4⟩ := @ls_em m (s * v)
        obtain ⟨x5, g5⟩ := @ls_em' m (v * w)
        rw [hw] at g5
        generalize s * v % m = sv at g4 ⊢
        exact ⟨x1 + s * v * x2 + s * v * x3 + x4 * D3 + s * D1 * x5, by grind⟩
