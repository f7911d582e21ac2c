/-- of a kind -/
def zs_kind (s : sp_S) (w : Int) (a : Nat → Int) : Prop :=
  if w = 0 then zs_sq s a else if w = 1 then mx_det (zs_nn s) (s.1 82) a ≠ 0 else if w = 2 then ∃ k, k < 10 ∧ zs_po s a a k = fun _ => 0 else zs_prod s a a = zs_el s.1 9
/-- so many below N with P -/
def mx_cnt (P : Nat → Prop) : Nat → Int → Prop
  | 0, z => z = 0
  | k + 1, z => ∃ y, mx_cnt P k y ∧ ((P k ∧ z = y + 1) ∨ (¬ P k ∧ z = y))
theorem mx_cnt_b {P : Nat → Prop} : ∀ k z, mx_cnt P k z → 0 ≤ z ∧ z ≤ k
  | 0, z, h => by
    have : z = 0 := h
    omega
  | k + 1, z, h => by
    obtain ⟨y, h1, h2⟩ := h
    have := mx_cnt_b k y h1
    rcases h2 with ⟨-, h2⟩ | ⟨-, h2⟩ <;> omega
theorem mx_cnt_u {P : Nat → Prop} : ∀ k z w, mx_cnt P k z → mx_cnt P k w → z = w
  | 0, z, w, h, g => by
    have h1 : z = 0 := h
    have g1 : w = 0 := g
    rw [h1, g1]
  | k + 1, z, w, h, g => by
    obtain ⟨y, h1, h2⟩ := h
    obtain ⟨x, g1, g2⟩ := g
    have e := mx_cnt_u k y x h1 g1
    subst e
    rcases h2 with ⟨a, h2⟩ | ⟨a, h2⟩ <;> rcases g2 with ⟨b, g2⟩ | ⟨b, g2⟩
    · rw [h2, g2]
    · exact absurd a b
    · exact absurd b a
    · rw [h2, g2]
/-- the element of a number -/
def mx_vec (q k : Nat) : Nat → Int := fun i => if i = 0 then ((k % q : Nat) : Int) else if i = 1 ∨ i = 3 then ((k / q % q : Nat) : Int) else if i = 4 then ((k / q / q : Nat) : Int) else 0
def sp_many (s : sp_S) (w : Int) (z : Int) : Prop :=
  if 0 ≤ w ∧ w ≤ 3 then (if s.1 81 = 3 then z = -5 else mx_cnt (fun k => zs_kind s w (mx_vec (s.1 82).toNat k)) ((s.1 82).toNat * (s.1 82).toNat * (s.1 82).toNat) z) else z = -2
theorem mx_mn (k q : Nat) : ((k : Int)).tmod (q : Int) = ((k % q : Nat) : Int) := by
  rw [gx_tmod (by omega)]
  rfl
theorem mx_dn (k q : Nat) : ((k : Int)).tdiv (q : Int) = ((k / q : Nat) : Int) := by
  rw [gx_tdiv (by omega)]
  rfl
