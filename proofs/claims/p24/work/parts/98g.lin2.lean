/-! the reference's rows: independent, of the same span -/
theorem ls_3 {m : Int} (hm : ls_p m) : 3 ≤ m := by rcases hm with h | h | h | h <;> omega
theorem ls_em {m x : Int} : m ∣ x % m - x := ⟨-(x / m), by rw [Int.emod_def, Int.mul_neg]; omega⟩
theorem ls_em' {m x : Int} : m ∣ x - x % m := ⟨x / m, by rw [Int.emod_def]; omega⟩
/-- a number in range that m divides is 0 -/
theorem ls_r0 {m x : Int} (h : 0 ≤ x ∧ x < m) (hd : m ∣ x) : x = 0 := by
  rw [← Int.emod_eq_of_lt h.1 h.2]
  exact Int.emod_eq_zero_of_dvd hd
def ls_sq (m : Int) (x : Nat → Nat → Int) : Nat → Nat × (Nat → Nat → Int)
  | 0 => (0, fun _ _ => 0)
  | k + 1 => mx_nw m (ls_sq m x k) (x k)
/-- leads of the rows, each 0 in the rows behind it -/
def ls_ld (m : Int) (s : Nat × (Nat → Nat → Int)) : Prop := (∀ i, i < s.1 → mx_ok m (s.2 i) ∧ mx_ld (s.2 i) < 9) ∧ ∀ i p, i < p → p < s.1 → s.2 p (mx_ld (s.2 i)) = 0
theorem ls_red_0 {m : Int} (hm : ls_p m) {R : Nat → Nat → Int} {x : Nat → Int} : ∀ k, (∀ i, i < k → mx_ok m (R i) ∧ mx_ld (R i) < 9) → (∀ i p, i < p → p < k → R p (mx_ld (R i)) = 0) → ∀ i, i < k → mx_red m R x k (mx_ld (R i)) = 0
  | 0, _, _, i, hi => absurd hi (by omega)
  | k + 1, h1, h2, i, hi => by
    have hl := (h1 i hi).2
    show (if mx_ld (R i) < 9 then (mx_red m R x k (mx_ld (R i)) - mx_red m R x k (mx_ld (R k)) * mx_ov (R k (mx_ld (R k))) m (m.toNat - 1) % m * R k (mx_ld (R i))) % m else 0) = 0
    rw [if_pos hl]
    by_cases e : i = k
    · subst e
      have hb := (h1 i hi).1 _ hl
      have hz := (mx_ld_s (R i)).2.2 hl
      have ho := mx_ov_1 hm (d := R i (mx_ld (R i))) (by omega)
      generalize mx_ov (R i (mx_ld (R i))) m (m.toNat - 1) = w at ho ⊢
      generalize R i (mx_ld (R i)) = d at ho ⊢
      generalize mx_red m R x i (mx_ld (R i)) = y
      apply Int.emod_eq_zero_of_dvd
      obtain ⟨p, hp⟩ := @ls_em' m (d * w)
      rw [ho] at hp
      obtain ⟨q, hq⟩ := @ls_em m (y * w)
      exact ⟨- (y * p) - q * d, by grind⟩
    · rw [ls_red_0 hm k (fun i hi => h1 i (by omega)) (fun i p a b => h2 i p a (by omega)) i (by omega), h2 i k (by omega) (by omega), Int.mul_zero]
      rfl
theorem ls_red_P {m : Int} {P : (Nat → Int) → Prop} (h : ls_lc m P) {R : Nat → Nat → Int} {x : Nat → Int} : ∀ k, (∀ i, i < k → P (R i)) → (P x ↔ P (mx_red m R x k))
  | 0, _ => Iff.rfl
  | k + 1, g => by
    rw [ls_red_P h k (fun i hi => g i (by omega))]
    have gk := g k (by omega)
    generalize hq : mx_red m R x k (mx_ld (R k)) * mx_ov (R k (mx_ld (R k))) m (m.toNat - 1) % m = q
    have e : ∀ j, j < 9 → mx_red m R x (k + 1) j = (mx_red m R x k j - q * R k j) % m := fun j hj => by
      rw [← hq]
      exact if_pos hj
    constructor
    · intro hp
      refine h.2 _ _ _ 1 (-q) hp gk (fun j hj => ?_)
      rw [e j hj]
      obtain ⟨p, hp⟩ := @ls_em m (mx_red m R x k j - q * R k j)
      exact ⟨p, by grind⟩
    · intro hp
      refine h.2 _ _ _ 1 q hp gk (fun j hj => ?_)
      rw [e j hj]
      obtain ⟨p, hp⟩ := @ls_em m (mx_red m R x k j - q * R k j)
      exact ⟨-p, by grind⟩
theorem ls_sq_ld {m : Int} (hm : ls_p m) {x : Nat → Nat → Int} (ox : ∀ i, mx_ok m (x i)) : ∀ k, ls_ld m (ls_sq m x k)
  | 0 => ⟨fun i hi => absurd hi (by simp [ls_sq]), fun i p _ hp => absurd hp (by simp [ls_sq])⟩
  | k + 1 => by
    obtain ⟨h1, h2⟩ := ls_sq_ld hm ox k
    generalize hs : ls_sq m x k = s at h1 h2
    have h0 := ls_red_0 hm (R := s.2) (x := x k) s.1 h1 h2
    have hr := mx_red_ok (ls_3 hm) (R := s.2) (ox k) s.1
    show ls_ld m (mx_nw m (ls_sq m x k) (x k))
    rw [hs]
    have low : ∀ i, i < s.1 → (mx_nw m s (x k)).2 i = s.2 i := fun i hi => if_neg (by omega)
    have top : (mx_nw m s (x k)).2 s.1 = mx_red m s.2 (x k) s.1 := if_pos rfl
    by_cases e : mx_ld (mx_red m s.2 (x k) s.1) < 9
    · have hn : (mx_nw m s (x k)).1 = s.1 + 1 := if_pos e
      refine ⟨fun i hi => ?_, fun i p hip hp => ?_⟩
      · rw [hn] at hi
        by_cases q : i = s.1
        · rw [q, top]
          exact ⟨hr, e⟩
        · rw [low i (by omega)]
          exact h1 i (by omega)
      · rw [hn] at hp
        rw [low i (by omega)]
        by_cases q : p = s.1
        · rw [q, top]
          exact h0 i (by omega)
        · rw [low p (by omega)]
          exact h2 i p hip (by omega)
    · have hn : (mx_nw m s (x k)).1 = s.1 := if_neg e
      refine ⟨fun i hi => ?_, fun i p hip hp => ?_⟩
      · rw [hn] at hi
        rw [low i hi]
        exact h1 i hi
      · rw [hn] at hp
        rw [low i (by omega), low p (by omega)]
        exact h2 i p hip hp
theorem ls_sq_P {m : Int} {P : (Nat → Int) → Prop} (h : ls_lc m P) {x : Nat → Nat → Int} : ∀ k, (∀ i, i < k → P (x i)) ↔ ∀ i, i < (ls_sq m x k).1 → P ((ls_sq m x k).2 i)
  | 0 => ⟨fun _ i hi => absurd hi (by simp [ls_sq]), fun _ i hi => absurd hi (by omega)⟩
  | k + 1 => by
    have ih := ls_sq_P h (x := x) k
    show _ ↔ ∀ i, i < (mx_nw m (ls_sq m x k) (x k)).1 → P ((mx_nw m (ls_sq m x k) (x k)).2 i)
    generalize ls_sq m x k = s at ih ⊢
    have low : ∀ i, i < s.1 → (mx_nw m s (x k)).2 i = s.2 i := fun i hi => if_neg (by omega)
    have top : (mx_nw m s (x k)).2 s.1 = mx_red m s.2 (x k) s.1 := if_pos rfl
    have key : (∀ i, i < s.1 → P (s.2 i)) → (P (x k) ↔ P (mx_red m s.2 (x k) s.1)) := fun g => ls_red_P h s.1 g
    by_cases e : mx_ld (mx_red m s.2 (x k) s.1) < 9
    · have hn : (mx_nw m s (x k)).1 = s.1 + 1 := if_pos e
      rw [hn]
      constructor
      · intro g i hi
        have g1 := ih.mp (fun i hi => g i (by omega))
        by_cases q : i = s.1
        · rw [q, top]
          exact (key g1).mp (g k (by omega))
        · rw [low i (by omega)]
          exact g1 i (by omega)
      · intro g i hi
        have g1 : ∀ i, i < s.1 → P (s.2 i) := fun i hi => by
          have := g i (by omega)
          rwa [low i hi] at this
        by_cases q : i = k
        · rw [q]
          have := g s.1 (by omega)
          rw [top] at this
          exact (key g1).mpr this
        · exact ih.mpr g1 i (by omega)
    · have hn : (mx_nw m s (x k)).1 = s.1 := if_neg e
      rw [hn]
      have hz : P (mx_red m s.2 (x k) s.1) := ls_lc_0 h (fun j hj => by
        have h9 := mx_ld_s (mx_red m s.2 (x k) s.1)
        rw [h9.2.1 j (by omega)]
        exact Int.dvd_zero m)
      constructor
      · intro g i hi
        rw [low i hi]
        exact ih.mp (fun i hi => g i (by omega)) i hi
      · intro g i hi
        have g1 : ∀ i, i < s.1 → P (s.2 i) := fun i hi => by
          have := g i hi
          rwa [low i hi] at this
        by_cases q : i = k
        · rw [q]
          exact (key g1).mpr hz
        · exact ih.mpr g1 i (by omega)
theorem ls_ld_in {m : Int} (hm : ls_p m) {s : Nat × (Nat → Nat → Int)} (h : ls_ld m s) : ls_in m s.2 s.1 := by
  intro c hc i
  induction i using Nat.strongRecOn with
  | ind i ih =>
    intro hi
    obtain ⟨ho, hl⟩ := h.1 i hi
    have hnd : ¬ m ∣ s.2 i (mx_ld (s.2 i)) := fun q => (mx_ld_s (s.2 i)).2.2 hl (ls_r0 (ho _ hl) q)
    have h1 := hc _ hl
    have h2 : m ∣ ls_su (fun p => c p * s.2 p (mx_ld (s.2 i)) - (if p = i then c i * s.2 i (mx_ld (s.2 i)) else 0)) s.1 := ls_su_dvd _ (fun p hp => by
      rcases Nat.lt_trichotomy p i with q | q | q
      · rw [if_neg (by omega), Int.sub_zero]
        exact Int.dvd_mul_of_dvd_left (ih p q hp)
      · rw [if_pos q, q, Int.sub_self]
        exact Int.dvd_zero m
      · rw [if_neg (by omega), Int.sub_zero, h.2 i p q hp, Int.mul_zero]
        exact Int.dvd_zero m)
    have h3 := ls_su_add (fun p => c p * s.2 p (mx_ld (s.2 i)) - (if p = i then c i * s.2 i (mx_ld (s.2 i)) else 0)) (fun p => if p = i then c i * s.2 i (mx_ld (s.2 i)) else 0) s.1
    have h4 : ls_su (fun p => if p = i then c i * s.2 i (mx_ld (s.2 i)) else 0) s.1 = c i * s.2 i (mx_ld (s.2 i)) := by
      rw [ls_su_one (j := i) s.1 hi (fun p _ hp => if_neg hp)]
      exact if_pos rfl
    have h5 := ls_su_c (f := fun p => c p * s.2 p (mx_ld (s.2 i)) - (if p = i then c i * s.2 i (mx_ld (s.2 i)) else 0) + (if p = i then c i * s.2 i (mx_ld (s.2 i)) else 0)) (g := fun p => c p * s.2 p (mx_ld (s.2 i))) s.1 (fun p _ => by omega)
    rw [h5, h4] at h3
    obtain ⟨a, ha⟩ := h1
    obtain ⟨b, hb⟩ := h2
    exact ls_can hm hnd ⟨a - b, by rw [Int.mul_comm, Int.mul_sub]; omega⟩
/-- the reference's count of a sequence, by any rows of the same span that are independent -/
theorem ls_sq_n {m : Int} (hm : ls_p m) {x : Nat → Nat → Int} (ox : ∀ i, mx_ok m (x i)) {k d : Nat} {R : Nat → Nat → Int} (hi : ls_in m R d) (h1 : ∀ i, i < d → ls_Sp m x k (R i)) (h2 : ∀ i, i < k → ls_Sp m R d (x i)) : (ls_sq m x k).1 = d := by
  have hl := ls_ld_in hm (ls_sq_ld hm ox k)
  have a1 : ∀ i, i < k → ls_Sp m (ls_sq m x k).2 (ls_sq m x k).1 (x i) := (ls_sq_P ls_Sp_lc k).mpr (fun i hi => ls_Sp_i hi)
  have a2 : d ≤ (ls_sq m x k).1 := ls_st hm hi (fun i hi => ls_Sp_P ls_Sp_lc (h1 i hi) a1)
  have a3 : (ls_sq m x k).1 ≤ d := ls_st hm hl ((ls_sq_P ls_Sp_lc k).mp h2)
  omega
theorem ls_sq_le {m : Int} (hm : ls_p m) {x : Nat → Nat → Int} (ox : ∀ i, mx_ok m (x i)) {k d : Nat} {R : Nat → Nat → Int} (h2 : ∀ i, i < k → ls_Sp m R d (x i)) : (ls_sq m x k).1 ≤ d := ls_st hm (ls_ld_in hm (ls_sq_ld hm ox k)) ((ls_sq_P ls_Sp_lc k).mp h2)
