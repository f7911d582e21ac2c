theorem zs_m {Z : Nat → Int} (h : zs_ok Z) : 3 ≤ Z 82 ∧ Z 82 ≤ 11 := by
  have := h.2.1
  omega
def zs_nn (s : sp_S) : Nat := (s.1 81).toNat
abbrev zs_mm (s : sp_S) : Int := s.1 82
def sp_entry (s : sp_S) (r i j : Int) (z : Int) : Prop :=
  if (0 ≤ r ∧ r ≤ 9) ∧ (0 ≤ i ∧ i < s.1 81 ∧ 0 ≤ j ∧ j < s.1 81) then z = zs_el s.1 r.toNat (3 * i.toNat + j.toNat) else z = -1
def sp_same (s : sp_S) (r q : Int) (z : Int) : Prop :=
  if (0 ≤ r ∧ r ≤ 7) ∧ (0 ≤ q ∧ q ≤ 7) then (z = 0 ∨ z = 1) ∧ (z = 1 ↔ zs_el s.1 r.toNat = zs_el s.1 q.toNat) else z = -1
/-- the product of a desk -/
def zs_prod (s : sp_S) (a b : Nat → Int) : Nat → Int := mx_prod (zs_nn s) (s.1 82) (zs_el s.1 8) a b
def zs_oper (s : sp_S) (a b : Nat → Int) : Nat → Int := mx_oper (zs_nn s) (s.1 82) (zs_el s.1 8) a b
def zs_po (s : sp_S) (a b : Nat → Int) : Nat → Nat → Int := mx_po (zs_nn s) (s.1 82) (zs_el s.1 8) a b
def sp_power (s : sp_S) (r k i j : Int) (z : Int) : Prop :=
  if (0 ≤ r ∧ r ≤ 7) ∧ (0 ≤ i ∧ i < s.1 81 ∧ 0 ≤ j ∧ j < s.1 81) then (if 0 ≤ k ∧ k ≤ 2000 then z = zs_po s (zs_el s.1 r.toNat) (zs_el s.1 9) k.toNat (3 * i.toNat + j.toNat) else z = -2) else z = -1
def sp_rule (s : sp_S) (a b c w : Int) (z : Int) : Prop :=
  if (0 ≤ a ∧ a ≤ 7) ∧ (0 ≤ b ∧ b ≤ 7) ∧ (0 ≤ c ∧ c ≤ 7) then (if 0 ≤ w ∧ w ≤ 1 then
    (if w = 1 then z = mx_tr (s.1 82) (zs_oper s (zs_oper s (zs_el s.1 a.toNat) (zs_el s.1 b.toNat)) (zs_el s.1 c.toNat))
     else (z = 0 ∨ z = 1) ∧ (z = 1 ↔ zs_oper s (zs_oper s (zs_el s.1 a.toNat) (zs_el s.1 b.toNat)) (zs_el s.1 c.toNat) = zs_oper s (zs_el s.1 a.toNat) (zs_oper s (zs_el s.1 b.toNat) (zs_oper s (zs_el s.1 a.toNat) (zs_el s.1 c.toNat)))))
    else z = -2) else z = -1
theorem mx_ok_e {m : Int} {f g : Nat → Int} (e : g = f) (h : mx_ok m f) : mx_ok m g := by rw [e]; exact h
