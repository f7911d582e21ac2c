/-! WHAT THE CALLS ANSWER: for each call, from a desk s with its arguments, the answer z and the desk behind it -/
def sp_undo (s : sp_S) (z : Int) (s' : sp_S) : Prop :=
  if s.2.1.1 = 0 then z = -5 ∧ s' = s else z = (s.2.1.1 : Int) - 1 ∧ s' = (s.2.1.2 (s.2.1.1 - 1), (s.2.1.1 - 1, s.2.1.2), s.2.2.1, s.2.2.2)
def sp_save (s : sp_S) (j : Int) (z : Int) (s' : sp_S) : Prop :=
  if 0 ≤ j ∧ j ≤ 1 then z = s.1 81 ∧ s' = (s.1, s.2.1, (fun (i : Nat) => if (i : Int) = j then 1 else s.2.2.1.1 i, fun (i : Nat) => if (i : Int) = j then s.1 else s.2.2.1.2 i), s.2.2.2) else z = -2 ∧ s' = s
def sp_restore (s : sp_S) (j : Int) (z : Int) (s' : sp_S) : Prop :=
  if 0 ≤ j ∧ j ≤ 1 then (if s.2.2.1.1 j.toNat = 1 then z = s.2.2.1.2 j.toNat 81 ∧ s' = sp_push s (s.2.2.1.2 j.toNat) else z = -5 ∧ s' = s) else z = -2 ∧ s' = s
def sp_begin (s : sp_S) (a b : Int) (z : Int) (s' : sp_S) : Prop :=
  if (a = 2 ∨ a = 3) ∧ (b = 3 ∨ b = 5 ∨ b = 7 ∨ b = 11) then z = s.1 81 ∧ s' = sp_push s (zs_new a b) else z = -2 ∧ s' = s
/-- a number of a register changed, and the one across -/
def zs_set (Z : Nat → Int) (r i j : Nat) (v : Int) : Nat → Int := fun k => if k = 9 * r + 3 * j + i then v else if k = 9 * r + 3 * i + j then v else Z k
def sp_set (s : sp_S) (r i j v : Int) (z : Int) (s' : sp_S) : Prop :=
  if (0 ≤ r ∧ r ≤ 7) ∧ (0 ≤ i ∧ i < s.1 81 ∧ 0 ≤ j ∧ j < s.1 81) then (if 0 ≤ v ∧ v < s.1 82 then z = mx_of s.1 (9 * r.toNat) (3 * i.toNat + j.toNat) ∧ s' = sp_push s (zs_set s.1 r.toNat i.toNat j.toNat v) else z = -2 ∧ s' = s) else z = -1 ∧ s' = s
def mx_id (n : Int) : Nat → Int := fun k => if k % 4 = 0 ∧ ((k / 4 : Nat) : Int) < n then 1 else 0
def zs_put (Z : Nat → Int) (o : Nat) (f : Nat → Int) : Nat → Int := fun k => if o ≤ k ∧ k < o + 9 then f (k - o) else Z k
def sp_bel (s : sp_S) (r : Int) : Nat → Int := if r = -6 then mx_id (s.1 81) else mx_of s.1 (9 * r.toNat)
def sp_base (s : sp_S) (r : Int) (z : Int) (s' : sp_S) : Prop :=
  if r = -6 ∨ (0 ≤ r ∧ r ≤ 7) then (if mx_det (s.1 81).toNat (s.1 82) (sp_bel s r) = 0 then z = -5 ∧ s' = s else z = mx_det (s.1 81).toNat (s.1 82) (sp_bel s r) ∧ s' = sp_push s (zs_put s.1 72 (sp_bel s r))) else z = -1 ∧ s' = s
theorem sm_Rp {s : sp_S} {Z : Nat → Int} {M M1 : gx_M} (h : sm_R (sp_push s s.1) M) (h1 : ∀ k, k < 83 → M1 1 k = Z k) (h2 : ∀ c, c ≠ 1 → (c ≤ 5) → M1 c = M c) : sm_R (sp_push s Z) M1 := by
  obtain ⟨a1, a2, a3, a4, a5, a6, a7⟩ := h
  exact ⟨h1, by rw [h2 0 (by decide) (by decide)]; exact a2, fun i k hi hk => by rw [h2 2 (by decide) (by decide)]; exact a3 i k hi hk, fun j hj => by rw [h2 4 (by decide) (by decide)]; exact a4 j hj, fun j k hj hs hk => by rw [h2 3 (by decide) (by decide)]; exact a5 j k hj hs hk, by rw [h2 0 (by decide) (by decide)]; exact a6, fun i hi => by rw [h2 5 (by decide) (by decide)]; exact a7 i hi⟩
theorem gx_b0 {M : gx_M} {c n k : Nat} {f : Nat → Int} (h : k < n) : gx_blk M c 0 n f c k = f k := by
  have := gx_blk_in (M := M) (c := c) (o := 0) (n := n) (k := k) (f := f) h
  rwa [Nat.zero_add] at this
