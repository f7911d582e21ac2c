/-- the first place that is not 0, 9 if there is none -/
def mx_lda (x : Nat → Int) : Nat → Nat → Nat
  | 0, k => k
  | f + 1, k => if x k = 0 then mx_lda x f (k + 1) else k
def mx_ld (x : Nat → Int) : Nat := mx_lda x 9 0
theorem mx_lda_s {x : Nat → Int} : ∀ f k, k ≤ mx_lda x f k ∧ mx_lda x f k ≤ k + f ∧ (∀ j, k ≤ j → j < mx_lda x f k → x j = 0) ∧ (mx_lda x f k < k + f → x (mx_lda x f k) ≠ 0)
  | 0, k => ⟨Nat.le_refl _, Nat.le_refl _, fun j h1 h2 => by simp only [mx_lda] at h2; omega, fun h => by simp only [mx_lda] at h; omega⟩
  | f + 1, k => by
    by_cases e : x k = 0
    · have h := mx_lda_s (x := x) f (k + 1)
      have he : mx_lda x (f + 1) k = mx_lda x f (k + 1) := if_pos e
      rw [he]
      refine ⟨by omega, by omega, fun j h1 h2 => ?_, fun q => h.2.2.2 (by omega)⟩
      by_cases e2 : j = k
      · rw [e2]; exact e
      · exact h.2.2.1 j (by omega) h2
    · have he : mx_lda x (f + 1) k = k := if_neg e
      rw [he]
      exact ⟨Nat.le_refl _, by omega, fun j h1 h2 => absurd h2 (by omega), fun _ => e⟩
theorem mx_ld_s (x : Nat → Int) : mx_ld x ≤ 9 ∧ (∀ j, j < mx_ld x → x j = 0) ∧ (mx_ld x < 9 → x (mx_ld x) ≠ 0) := by
  have h := mx_lda_s (x := x) 9 0
  exact ⟨by unfold mx_ld; omega, fun j hj => h.2.2.1 j (by omega) hj, fun q => h.2.2.2 (by unfold mx_ld at q; omega)⟩
theorem mx_ld_u {x : Nat → Int} {k : Nat} (h1 : k ≤ 9) (h2 : ∀ j, j < k → x j = 0) (h3 : k < 9 → x k ≠ 0) : k = mx_ld x := by
  obtain ⟨g1, g2, g3⟩ := mx_ld_s x
  rcases Nat.lt_trichotomy k (mx_ld x) with h | h | h
  · exact absurd (g2 k h) (h3 (by omega))
  · exact h
  · exact absurd (h2 _ h) (g3 (by omega))
/-- a row less multiples of the rows that are there -/
def mx_red (m : Int) (R : Nat → Nat → Int) (x : Nat → Int) : Nat → Nat → Int
  | 0 => x
  | k + 1 => fun j => if j < 9 then (mx_red m R x k j - mx_red m R x k (mx_ld (R k)) * mx_ov (R k (mx_ld (R k))) m (m.toNat - 1) % m * R k j) % m else 0
/-- rows that are there, and another one comes -/
def mx_nw (m : Int) (s : Nat × (Nat → Nat → Int)) (x : Nat → Int) : Nat × (Nat → Nat → Int) :=
  (if mx_ld (mx_red m s.2 x s.1) < 9 then s.1 + 1 else s.1, fun i => if i = s.1 then mx_red m s.2 x s.1 else s.2 i)
theorem mx_red_ok {m : Int} (h : 3 ≤ m) {R : Nat → Nat → Int} {x : Nat → Int} (ox : mx_ok m x) : ∀ k, mx_ok m (mx_red m R x k)
  | 0 => ox
  | k + 1 => fun j hj => by
    show 0 ≤ (if j < 9 then _ else _) ∧ (if j < 9 then _ else _) < m
    rw [if_pos hj]
    exact mx_md h _
theorem mx_red_f {m : Int} {R R' : Nat → Nat → Int} {x : Nat → Int} : ∀ k, (∀ i, i < k → R i = R' i) → mx_red m R x k = mx_red m R' x k
  | 0, _ => rfl
  | k + 1, h => by
    show (fun j => if j < 9 then _ else _) = (fun j => if j < 9 then _ else _)
    rw [mx_red_f k (fun i hi => h i (by omega)), h k (by omega)]
theorem mx_red_9 {m : Int} {R : Nat → Nat → Int} {x : Nat → Int} (hx : ∀ j, 9 ≤ j → x j = 0) : ∀ k j, 9 ≤ j → mx_red m R x k j = 0
  | 0, j, hj => hx j hj
  | k + 1, j, hj => if_neg (by omega)
