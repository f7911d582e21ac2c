theorem gx_lcast {p : Program} {l : Launch} {e : Env} {R : Room} {s : State} {m : MethodId} {args : Array Value} {below : List Frame} {meth : Method} {c : Code} {cells slots : Nat} {Q : State → Prop} {nL : Nat} {D : va_G} {tc : Nat → ClassId} {ad : Nat → Nat} {La : List gx_K} {A : Nat → Prop} {H0 : Heap} {pc : Nat} {L L' st : List gx_V} {M : gx_M} (h : L = L') (k : gx_G p l e R s m args below meth c cells slots Q nL D tc ad La A H0 pc L' st M) : gx_G p l e R s m args below meth c cells slots Q nL D tc ad La A H0 pc L st M := by
  rw [h]
  exact k
/-- 0 or 1 by whether all is 0 -/
def mx_nz (f : Nat → Int) (q : Int) : Prop := (f = (fun _ => 0) ∧ q = 0) ∨ (¬ f = (fun _ => 0) ∧ q = 1)
def zs_part (s : sp_S) (e b : Nat → Int) (w : Int) : Nat → Int := mx_part (zs_nn s) (s.1 82) (zs_el s.1 8) (zs_el s.1 9) e b w
/-- the first k parts stored -/
def zs_sp (s : sp_S) (e b : Nat → Int) (t : Nat) : Nat → Nat → Int
  | 0 => s.1
  | k + 1 => zs_put (zs_sp s e b t k) (9 * (t + k)) (zs_part s e b (2 - (k : Int)))
def zs_cn (s : sp_S) (e b : Nat → Int) : Nat → Int → Prop
  | 0, z => z = 0
  | k + 1, z => ∃ y q, zs_cn s e b k y ∧ mx_nz (zs_part s e b (2 - (k : Int))) q ∧ z = y + q
def sp_split (s : sp_S) (a b t : Int) (z : Int) (s' : sp_S) : Prop :=
  if (0 ≤ a ∧ a ≤ 7) ∧ (0 ≤ b ∧ b ≤ 7) ∧ (0 ≤ t ∧ t ≤ 5) then
    (zs_sq s (zs_el s.1 a.toNat) → zs_cn s (zs_el s.1 a.toNat) (zs_el s.1 b.toNat) 3 z ∧ s' = sp_push s (zs_sp s (zs_el s.1 a.toNat) (zs_el s.1 b.toNat) t.toNat 3)) ∧ (¬ zs_sq s (zs_el s.1 a.toNat) → z = -5 ∧ s' = s)
  else z = -1 ∧ s' = s
theorem mx_part_ok {n : Nat} {m : Int} (h : 3 ≤ m) {u v e b : Nat → Int} {w : Int} : mx_ok m (mx_part n m u v e b w) := by
  unfold mx_part
  split
  · exact mx_mul_ok h _ _
  · split
    · exact mx_lin_ok h _ _ _ _
    · exact mx_mul_ok h _ _
theorem zs_cnb {s : sp_S} {e b : Nat → Int} : ∀ k z, zs_cn s e b k z → 0 ≤ z ∧ z ≤ k
  | 0, z, h => by
    have : z = 0 := h
    omega
  | k + 1, z, h => by
    obtain ⟨y, q, h1, h2, h3⟩ := h
    have := zs_cnb k y h1
    rcases h2 with ⟨-, h2⟩ | ⟨-, h2⟩ <;> omega
/-- a basis of the elements, place by place -/
def mx_bas (r c : Nat) : Nat → Int := fun k => if k = 3 * r + c ∨ k = 3 * c + r then 1 else 0
/-- the rows of the parts of those in the row r, from the place r on -/
def mx_pin (m : Int) (f : (Nat → Int) → (Nat → Int)) (r : Nat) (s : Nat × (Nat → Nat → Int)) : Nat → Nat × (Nat → Nat → Int)
  | 0 => s
  | j + 1 => mx_nw m (mx_pin m f r s j) (f (mx_bas r (r + j)))
def mx_pou (n : Nat) (m : Int) (f : (Nat → Int) → (Nat → Int)) : Nat → Nat × (Nat → Nat → Int)
  | 0 => (0, fun _ _ => 0)
  | r + 1 => mx_pin m f r (mx_pou n m f r) (n - r)
def sp_psize (s : sp_S) (r w : Int) (z : Int) : Prop :=
  if 0 ≤ r ∧ r ≤ 7 then (if 0 ≤ w ∧ w ≤ 2 then (zs_sq s (zs_el s.1 r.toNat) → z = (mx_pou (zs_nn s) (s.1 82) (fun b => zs_part s (zs_el s.1 r.toNat) b w) (zs_nn s)).1) ∧ (¬ zs_sq s (zs_el s.1 r.toNat) → z = -5) else z = -2) else z = -1
theorem mx_pin1 {m : Int} {f : (Nat → Int) → (Nat → Int)} {r : Nat} {s : Nat × (Nat → Nat → Int)} : ∀ j, (mx_pin m f r s j).1 ≤ s.1 + j
  | 0 => Nat.le_refl _
  | j + 1 => by
    have h1 := mx_pin1 (m := m) (f := f) (r := r) (s := s) j
    have h2 := mx_nw1 m (mx_pin m f r s j) (f (mx_bas r (r + j)))
    show (mx_nw m (mx_pin m f r s j) (f (mx_bas r (r + j)))).1 ≤ s.1 + (j + 1)
    omega
theorem mx_pou1 {n : Nat} (hn : n ≤ 3) {m : Int} {f : (Nat → Int) → (Nat → Int)} : ∀ r, r ≤ 3 → (mx_pou n m f r).1 ≤ 3 * r
  | 0, _ => Nat.le_refl _
  | r + 1, h => by
    have h1 := mx_pou1 hn (m := m) (f := f) r (by omega)
    have h2 := mx_pin1 (m := m) (f := f) (r := r) (s := mx_pou n m f r) (n - r)
    show (mx_pin m f r (mx_pou n m f r) (n - r)).1 ≤ 3 * (r + 1)
    omega
theorem mx_pou2 {n : Nat} (hn : n ≤ 3) {m : Int} {f : (Nat → Int) → (Nat → Int)} {r : Nat} (hr : r < n) {j : Nat} (hj : j ≤ n - r) : (mx_pin m f r (mx_pou n m f r) j).1 ≤ 8 := by
  have h2 := mx_pin1 (m := m) (f := f) (r := r) (s := mx_pou n m f r) j
  rcases (show r = 0 ∨ r = 1 ∨ r = 2 by omega) with rfl | rfl | rfl
  · have : (mx_pou n m f 0).1 = 0 := rfl
    omega
  · have := mx_pou1 hn (m := m) (f := f) 1 (by omega)
    omega
  · have := mx_pou1 hn (m := m) (f := f) 2 (by omega)
    omega
