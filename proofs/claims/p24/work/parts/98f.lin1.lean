/-! sums, divisibility, linear combinations of rows of nine numbers -/
def ls_su (f : Nat → Int) : Nat → Int
  | 0 => 0
  | k + 1 => ls_su f k + f k
theorem ls_su_c {f g : Nat → Int} : ∀ n, (∀ i, i < n → f i = g i) → ls_su f n = ls_su g n
  | 0, _ => rfl
  | n + 1, h => by
    show ls_su f n + f n = ls_su g n + g n
    rw [ls_su_c n (fun i hi => h i (by omega)), h n (by omega)]
theorem ls_su_add (f g : Nat → Int) : ∀ n, ls_su (fun i => f i + g i) n = ls_su f n + ls_su g n
  | 0 => rfl
  | n + 1 => by
    show ls_su (fun i => f i + g i) n + (f n + g n) = ls_su f n + f n + (ls_su g n + g n)
    rw [ls_su_add f g n]
    omega
theorem ls_su_mul (c : Int) (f : Nat → Int) : ∀ n, ls_su (fun i => c * f i) n = c * ls_su f n
  | 0 => (Int.mul_zero c).symm
  | n + 1 => by
    show ls_su (fun i => c * f i) n + c * f n = c * (ls_su f n + f n)
    rw [ls_su_mul c f n, Int.mul_add]
theorem ls_su_mulr (c : Int) (f : Nat → Int) (n : Nat) : ls_su (fun i => f i * c) n = ls_su f n * c := by
  rw [Int.mul_comm, ← ls_su_mul]
  exact ls_su_c n (fun i _ => Int.mul_comm _ _)
theorem ls_su_0 : ∀ n, ls_su (fun _ => 0) n = 0
  | 0 => rfl
  | n + 1 => by
    show ls_su (fun _ => 0) n + 0 = 0
    rw [ls_su_0 n]
    rfl
theorem ls_su_one {f : Nat → Int} {j : Nat} : ∀ n, j < n → (∀ i, i < n → i ≠ j → f i = 0) → ls_su f n = f j
  | 0, h, _ => absurd h (by omega)
  | n + 1, h, g => by
    show ls_su f n + f n = f j
    by_cases e : j = n
    · rw [ls_su_c (g := fun _ => 0) n (fun i hi => g i (by omega) (by omega)), ls_su_0, e, Int.zero_add]
    · rw [ls_su_one n (by omega) (fun i hi => g i (by omega)), g n (by omega) (fun q => e q.symm), Int.add_zero]
theorem ls_su_dvd {m : Int} {f : Nat → Int} : ∀ n, (∀ i, i < n → m ∣ f i) → m ∣ ls_su f n
  | 0, _ => Int.dvd_zero m
  | n + 1, h => Int.dvd_add (ls_su_dvd n (fun i hi => h i (by omega))) (h n (by omega))
theorem ls_su_sw (f : Nat → Nat → Int) (b : Nat) : ∀ a, ls_su (fun i => ls_su (fun j => f i j) b) a = ls_su (fun j => ls_su (fun i => f i j) a) b
  | 0 => (ls_su_0 b).symm
  | a + 1 => by
    show ls_su (fun i => ls_su (fun j => f i j) b) a + ls_su (fun j => f a j) b = ls_su (fun j => ls_su (fun i => f i j) a + f a j) b
    rw [ls_su_sw f b a, ls_su_add]
theorem ls_su_hole {f : Nat → Int} {r : Nat} : ∀ n, r ≤ n → ls_su f (n + 1) = f r + ls_su (fun i => f (if i < r then i else i + 1)) n
  | 0, h => by
    have : r = 0 := by omega
    subst this
    show 0 + f 0 = f 0 + 0
    omega
  | n + 1, h => by
    by_cases e : r = n + 1
    · subst e
      show ls_su f (n + 1) + f (n + 1) = _
      rw [Int.add_comm]
      congr 1
      exact ls_su_c _ (fun i hi => by rw [if_pos hi])
    · show ls_su f (n + 1) + f (n + 1) = f r + (ls_su (fun i => f (if i < r then i else i + 1)) n + f (if n < r then n else n + 1))
      rw [ls_su_hole (r := r) n (by omega), if_neg (show ¬ n < r by omega)]
      omega
/-- modulo m, a prime number -/
def ls_p (m : Int) : Prop := m = 3 ∨ m = 5 ∨ m = 7 ∨ m = 11
theorem ls_inv {m d : Int} (hm : ls_p m) (hd : ¬ m ∣ d) : ∃ w, m ∣ d * w - 1 := by
  have h0 : 0 < d % m ∧ d % m < m := by
    have h1 := mx_md (m := m) (by rcases hm with h | h | h | h <;> omega) d
    have h2 : d % m ≠ 0 := fun e => hd (Int.dvd_of_emod_eq_zero e)
    omega
  have h := mx_ov_1 hm h0
  refine ⟨mx_ov (d % m) m (m.toNat - 1), ?_⟩
  apply Int.dvd_of_emod_eq_zero
  rw [Int.sub_emod]
  rw [Int.mul_emod, Int.emod_emod_of_dvd _ (Int.dvd_refl m), ← Int.mul_emod] at h
  rw [h]
  rcases hm with rfl | rfl | rfl | rfl <;> decide
theorem ls_ndvd1 {m : Int} (hm : ls_p m) : ¬ m ∣ 1 := by
  rcases hm with rfl | rfl | rfl | rfl <;> decide
theorem ls_can {m d x : Int} (hm : ls_p m) (hd : ¬ m ∣ d) (h : m ∣ d * x) : m ∣ x := by
  obtain ⟨w, k, hw⟩ := ls_inv hm hd
  obtain ⟨l, hl⟩ := h
  exact ⟨w * l - k * x, by grind⟩
theorem ls_ndm {m x y : Int} (hm : ls_p m) (hx : ¬ m ∣ x) (hy : ¬ m ∣ y) : ¬ m ∣ x * y := fun h => hy (ls_can hm hx h)
/-- what is in the span of the first k rows -/
def ls_Sp (m : Int) (R : Nat → Nat → Int) (k : Nat) (x : Nat → Int) : Prop := ∃ c : Nat → Int, ∀ j, j < 9 → m ∣ x j - ls_su (fun i => c i * R i j) k
/-- the first k rows are no sums of one another -/
def ls_in (m : Int) (R : Nat → Nat → Int) (k : Nat) : Prop := ∀ c : Nat → Int, (∀ j, j < 9 → m ∣ ls_su (fun i => c i * R i j) k) → ∀ i, i < k → m ∣ c i
/-- closed under linear combinations -/
def ls_lc (m : Int) (P : (Nat → Int) → Prop) : Prop := P (fun _ => 0) ∧ ∀ (x y z : Nat → Int) (s t : Int), P x → P y → (∀ j, j < 9 → m ∣ z j - (s * x j + t * y j)) → P z
theorem ls_Sp_lc {m : Int} {R : Nat → Nat → Int} {k : Nat} : ls_lc m (ls_Sp m R k) := by
  refine ⟨⟨fun _ => 0, fun j _ => ?_⟩, fun x y z s t hx hy h => ?_⟩
  · rw [ls_su_c (g := fun _ => 0) k (fun i _ => Int.zero_mul _), ls_su_0]
    exact Int.dvd_zero m
  · obtain ⟨c, hc⟩ := hx
    obtain ⟨d, hd⟩ := hy
    refine ⟨fun i => s * c i + t * d i, fun j hj => ?_⟩
    obtain ⟨p, hp⟩ := hc j hj
    obtain ⟨q, hq⟩ := hd j hj
    obtain ⟨r, hr⟩ := h j hj
    have e : ls_su (fun i => (s * c i + t * d i) * R i j) k = s * ls_su (fun i => c i * R i j) k + t * ls_su (fun i => d i * R i j) k := by
      rw [← ls_su_mul, ← ls_su_mul, ← ls_su_add]
      exact ls_su_c k (fun i _ => by grind)
    rw [e]
    exact ⟨r + s * p + t * q, by grind⟩
theorem ls_lc_0 {m : Int} {P : (Nat → Int) → Prop} (h : ls_lc m P) {z : Nat → Int} (hz : ∀ j, j < 9 → m ∣ z j) : P z :=
  h.2 _ _ z 0 0 h.1 h.1 (fun j hj => by
    obtain ⟨k, hk⟩ := hz j hj
    exact ⟨k, by grind⟩)
theorem ls_lc_e {m : Int} {P : (Nat → Int) → Prop} (h : ls_lc m P) {x z : Nat → Int} (hx : P x) (hz : ∀ j, j < 9 → m ∣ z j - x j) : P z :=
  h.2 x x z 1 0 hx hx (fun j hj => by
    obtain ⟨k, hk⟩ := hz j hj
    exact ⟨k, by grind⟩)
theorem ls_lc_su {m : Int} {P : (Nat → Int) → Prop} (h : ls_lc m P) {R : Nat → Nat → Int} (c : Nat → Int) : ∀ k, (∀ i, i < k → P (R i)) → P (fun j => ls_su (fun i => c i * R i j) k)
  | 0, _ => h.1
  | k + 1, g => h.2 _ _ _ 1 (c k) (ls_lc_su h c k (fun i hi => g i (by omega))) (g k (by omega)) (fun j _ => by
    show m ∣ ls_su (fun i => c i * R i j) k + c k * R k j - _
    exact ⟨0, by grind⟩)
theorem ls_Sp_P {m : Int} {P : (Nat → Int) → Prop} (h : ls_lc m P) {R : Nat → Nat → Int} {k : Nat} {x : Nat → Int} (hx : ls_Sp m R k x) (g : ∀ i, i < k → P (R i)) : P x := by
  obtain ⟨c, hc⟩ := hx
  exact ls_lc_e h (ls_lc_su h c k g) hc
theorem ls_Sp_i {m : Int} {R : Nat → Nat → Int} {k i : Nat} (hi : i < k) : ls_Sp m R k (R i) := by
  refine ⟨fun j => if j = i then 1 else 0, fun j _ => ?_⟩
  rw [ls_su_one (j := i) k hi (fun p _ hp => by simp [hp])]
  simp
/-- one unknown number more than equations -/
theorem ls_hom {m : Int} (hm : ls_p m) : ∀ (l : Nat) (A : Nat → Nat → Int), ∃ c : Nat → Int, (∃ i, i < l + 1 ∧ ¬ m ∣ c i) ∧ ∀ j, j < l → m ∣ ls_su (fun i => c i * A i j) (l + 1)
  | 0, A => ⟨fun _ => 1, ⟨0, by omega, ls_ndvd1 hm⟩, fun j hj => absurd hj (by omega)⟩
  | l + 1, A => by
    by_cases h : ∃ r, r < l + 2 ∧ ¬ m ∣ A r l
    · obtain ⟨r, hr, hd⟩ := h
      obtain ⟨w, p, hw⟩ := ls_inv hm hd
      have hs : ∀ i, (if i < r then i else i + 1) ≠ r := fun i => by split <;> omega
      obtain ⟨c, ⟨i0, h0, h1⟩, hc⟩ := ls_hom hm l (fun i j => A (if i < r then i else i + 1) j - A (if i < r then i else i + 1) l * w * A r j)
      refine ⟨fun i => if i = r then - ls_su (fun k => c k * (A (if k < r then k else k + 1) l * w)) (l + 1) else if i < r then c i else c (i - 1), ⟨if i0 < r then i0 else i0 + 1, by split <;> omega, ?_⟩, fun j hj => ?_⟩
      · show ¬ m ∣ (if (if i0 < r then i0 else i0 + 1) = r then _ else _)
        rw [if_neg (hs i0)]
        by_cases e : i0 < r
        · rw [if_pos e, if_pos e]
          exact h1
        · rw [if_neg e, if_neg (by omega)]
          exact h1
      · rw [ls_su_hole (r := r) (l + 1) (by omega)]
        dsimp only
        rw [if_pos rfl]
        have e1 : ls_su (fun i => ((if (if i < r then i else i + 1) = r then - ls_su (fun k => c k * (A (if k < r then k else k + 1) l * w)) (l + 1) else if (if i < r then i else i + 1) < r then c (if i < r then i else i + 1) else c ((if i < r then i else i + 1) - 1)) * A (if i < r then i else i + 1) j)) (l + 1) = ls_su (fun i => c i * A (if i < r then i else i + 1) j) (l + 1) := ls_su_c _ (fun i _ => by
          show (if (if i < r then i else i + 1) = r then _ else _) * _ = _
          rw [if_neg (hs i)]
          by_cases e : i < r
          · rw [if_pos e, if_pos e]
          · rw [if_neg e, if_neg (by omega)]
            rfl)
        rw [e1, Int.neg_mul, ← ls_su_mulr]
        have e2 : -ls_su (fun i => c i * (A (if i < r then i else i + 1) l * w) * A r j) (l + 1) + ls_su (fun i => c i * A (if i < r then i else i + 1) j) (l + 1) = ls_su (fun i => c i * (A (if i < r then i else i + 1) j - A (if i < r then i else i + 1) l * w * A r j)) (l + 1) := by
          have := ls_su_add (fun i => c i * (A (if i < r then i else i + 1) l * w) * A r j) (fun i => c i * (A (if i < r then i else i + 1) j - A (if i < r then i else i + 1) l * w * A r j)) (l + 1)
          have e3 := ls_su_c (f := fun i => c i * (A (if i < r then i else i + 1) l * w) * A r j + c i * (A (if i < r then i else i + 1) j - A (if i < r then i else i + 1) l * w * A r j)) (g := fun i => c i * A (if i < r then i else i + 1) j) (l + 1) (fun i _ => by grind)
          omega
        rw [e2]
        by_cases e : j < l
        · exact hc j e
        · have : j = l := by omega
          subst this
          refine ls_su_dvd _ (fun i _ => ?_)
          generalize A (if i < r then i else i + 1) j = y
          exact ⟨- (c i * y * p), by grind⟩
    · obtain ⟨c, ⟨i0, h0, h1⟩, hc⟩ := ls_hom hm l A
      refine ⟨fun i => if i = l + 1 then 0 else c i, ⟨i0, by omega, by dsimp only; rw [if_neg (by omega)]; exact h1⟩, fun j hj => ?_⟩
      show m ∣ ls_su (fun i => (if i = l + 1 then 0 else c i) * A i j) (l + 1) + (if l + 1 = l + 1 then 0 else c (l + 1)) * A (l + 1) j
      rw [if_pos rfl, Int.zero_mul, Int.add_zero]
      by_cases e : j < l
      · rw [ls_su_c (g := fun i => c i * A i j) (l + 1) (fun i hi => by rw [if_neg (by omega)])]
        exact hc j e
      · have : j = l := by omega
        subst this
        refine ls_su_dvd _ (fun i hi => ?_)
        have : m ∣ A i j := by
          by_cases q : m ∣ A i j
          · exact q
          · exact absurd ⟨i, by omega, q⟩ h
        exact Int.dvd_mul_of_dvd_right this
/-- rows that are no sums of one another aren't more than those of which they are sums -/
theorem ls_st {m : Int} (hm : ls_p m) {R S : Nat → Nat → Int} {k l : Nat} (hi : ls_in m R k) (hs : ∀ i, i < k → ls_Sp m S l (R i)) : k ≤ l := by
  by_cases hlt : k ≤ l
  · exact hlt
  · exfalso
    have hc : ∀ i, ∃ c : Nat → Int, i < k → ∀ j, j < 9 → m ∣ R i j - ls_su (fun p => c p * S p j) l := fun i => by
      by_cases h : i < k
      · obtain ⟨c, hc⟩ := hs i h
        exact ⟨c, fun _ => hc⟩
      · exact ⟨fun _ => 0, fun q => absurd q h⟩
    obtain ⟨A, hA⟩ := Classical.axiomOfChoice hc
    obtain ⟨c, ⟨i0, h0, h1⟩, h2⟩ := ls_hom hm l A
    have ext : ∀ (g : Nat → Int) (n : Nat), ls_su (fun i => (if i < l + 1 then c i else 0) * g i) (l + 1 + n) = ls_su (fun i => c i * g i) (l + 1) := fun g n => by
      induction n with
      | zero => exact ls_su_c _ (fun i hi => by rw [if_pos (show i < l + 1 by omega)])
      | succ n ih =>
        show ls_su (fun i => (if i < l + 1 then c i else 0) * g i) (l + 1 + n) + (if l + 1 + n < l + 1 then c (l + 1 + n) else 0) * g (l + 1 + n) = _
        rw [ih, if_neg (by omega), Int.zero_mul, Int.add_zero]
    have := hi (fun i => if i < l + 1 then c i else 0) (fun j hj => by
      have e := ext (fun i => R i j) (k - (l + 1))
      rw [show l + 1 + (k - (l + 1)) = k by omega] at e
      rw [e]
      have e1 : m ∣ ls_su (fun i => c i * (R i j - ls_su (fun p => A i p * S p j) l)) (l + 1) := ls_su_dvd _ (fun i hi => Int.dvd_mul_of_dvd_right (hA i (by omega) j hj))
      have e2 : ls_su (fun i => ls_su (fun p => c i * A i p * S p j) l) (l + 1) = ls_su (fun p => ls_su (fun i => c i * A i p) (l + 1) * S p j) l := by
        rw [ls_su_sw]
        exact ls_su_c _ (fun p _ => ls_su_mulr _ _ _)
      have e3 : m ∣ ls_su (fun p => ls_su (fun i => c i * A i p) (l + 1) * S p j) l := ls_su_dvd _ (fun p hp => Int.dvd_mul_of_dvd_left (h2 p hp))
      have e4 := ls_su_add (fun i => c i * (R i j - ls_su (fun p => A i p * S p j) l)) (fun i => ls_su (fun p => c i * A i p * S p j) l) (l + 1)
      have e5 := ls_su_c (f := fun i => c i * (R i j - ls_su (fun p => A i p * S p j) l) + ls_su (fun p => c i * A i p * S p j) l) (g := fun i => c i * R i j) (l + 1) (fun i _ => by
        have e6 : ls_su (fun p => c i * A i p * S p j) l = c i * ls_su (fun p => A i p * S p j) l := by
          rw [← ls_su_mul]
          exact ls_su_c _ (fun p _ => Int.mul_assoc _ _ _)
        show c i * (R i j - ls_su (fun p => A i p * S p j) l) + ls_su (fun p => c i * A i p * S p j) l = _
        rw [e6, Int.mul_sub]
        omega)
      rw [← e5, e4, e2]
      exact Int.dvd_add e1 e3) i0 (by omega)
    simp only [show i0 < l + 1 from h0, if_true] at this
    exact h1 this
