section
/-! A LAYER OVER THE KIT'S ROWS: a heap of a fixed shape, whose numbers are a function of cell and place; values are integers. -/
abbrev gx_V : Type := Int ⊕ Nat ⊕ Int64 ⊕ Unit
abbrev gx_I (z : Int) : gx_V := Sum.inl z
abbrev gx_R (c : Nat) : gx_V := Sum.inr (Sum.inl c)
abbrev gx_J (x : Int64) : gx_V := Sum.inr (Sum.inr (Sum.inl x))
abbrev gx_U : gx_V := Sum.inr (Sum.inr (Sum.inr ()))
abbrev gx_M : Type := Nat → Nat → Int
abbrev gx_K : Type := (Nat × List (Option Nat)) ⊕ (Nat × Nat × Nat × Nat)
def gx_i (z : Int) : Int32 := Int32.ofInt z
def gx_T (ad : Nat → Nat) : gx_V → Value
  | .inl z => .int (gx_i z)
  | .inr (.inl c) => .ref (ad c)
  | .inr (.inr (.inl x)) => .long x
  | .inr (.inr (.inr _)) => .null
/-- the range of an int -/
def gx_3 (z : Int) : Prop := -2147483648 ≤ z ∧ z < 2147483648
theorem gx_toInt {z : Int} (h : gx_3 z) : (gx_i z).toInt = z := Int32.toInt_ofInt_of_le (by simpa using h.1) (by simpa using h.2)
theorem gx_add (x y : Int) : gx_i x + gx_i y = gx_i (x + y) := (Int32.ofInt_add x y).symm
theorem gx_sub (x y : Int) : gx_i x - gx_i y = gx_i (x - y) := (Int32.ofInt_sub x y).symm
theorem gx_mul (x y : Int) : gx_i x * gx_i y = gx_i (x * y) := (Int32.ofInt_mul x y).symm
theorem gx_neg (x : Int) : -gx_i x = gx_i (-x) := (Int32.ofInt_neg x).symm
theorem gx_lt {x y : Int} (hx : gx_3 x) (hy : gx_3 y) : gx_i x < gx_i y ↔ x < y := by rw [Int32.lt_iff_toInt_lt, gx_toInt hx, gx_toInt hy]
theorem gx_le {x y : Int} (hx : gx_3 x) (hy : gx_3 y) : gx_i x ≤ gx_i y ↔ x ≤ y := by rw [Int32.le_iff_toInt_le, gx_toInt hx, gx_toInt hy]
theorem gx_eq {x y : Int} (hx : gx_3 x) (hy : gx_3 y) : gx_i x = gx_i y ↔ x = y := by rw [← Int32.toInt_inj, gx_toInt hx, gx_toInt hy]
theorem gx_i0 : (0 : Int32) = gx_i 0 := rfl
theorem gx_30 : gx_3 0 := ⟨by decide, by decide⟩
theorem gx_ne0 {y : Int} (hy : gx_3 y) (h : y ≠ 0) : ¬ gx_i y = 0 := fun e => h ((gx_eq hy gx_30).mp (e.trans gx_i0))
theorem gx_nat {z : Int} (h : gx_3 z) : (gx_i z).toNatClampNeg = z.toNat := by rw [← Int32.toNat_toInt, gx_toInt h]
theorem gx_in {z : Int} {n : Nat} (h : gx_3 z) (h0 : 0 ≤ z) (hn : z < n) : vp_in (gx_i z) n := by
  intro q
  rcases q with q | q
  · exact absurd ((gx_lt (y := 0) h gx_30).mp q) (by omega)
  · rw [gx_nat h] at q
    omega
theorem gx_div {x y : Int} (hx : gx_3 x) (hy : gx_3 y) (h0 : y ≠ 0) : gx_i x / gx_i y = gx_i (x.tdiv y) := by
  refine (Int32.ofInt_tdiv ?_ ?_ ?_ ?_).symm
  all_goals first | exact hx.1 | exact hy.1 | (have := hx.2; show _ ≤ (2147483647 : Int); omega) | (have := hy.2; show _ ≤ (2147483647 : Int); omega)
theorem gx_rem {x y : Int} (hx : gx_3 x) (hy : gx_3 y) (h0 : y ≠ 0) : gx_i x - gx_i x / gx_i y * gx_i y = gx_i (x.tmod y) := by
  rw [gx_div hx hy h0, gx_mul, gx_sub]
  congr 1
  rw [Int.tmod_def, Int.mul_comm y]
theorem gx_tmod {x y : Int} (h : 0 ≤ x) : x.tmod y = x % y := Int.tmod_eq_emod_of_nonneg h
theorem gx_tdiv {x y : Int} (h : 0 ≤ x) : x.tdiv y = x / y := Int.tdiv_eq_ediv_of_nonneg h
/-- locals: what is listed, at its place -/
def gx_l (ad : Nat → Nat) : Nat → List gx_V → List (Nat × Value)
  | _, [] => []
  | i, v :: vs => match v with
    | .inr (.inr (.inr _)) => gx_l ad (i + 1) vs
    | v => (i, gx_T ad v) :: gx_l ad (i + 1) vs
theorem gx_l_in {ad : Nat → Nat} : ∀ (L : List gx_V) (i k : Nat) (v : gx_V), L[k]? = some v → v ≠ gx_U → (i + k, gx_T ad v) ∈ gx_l ad i L
  | [], _, _, _, h, _ => by simp at h
  | v0 :: vs, i, 0, v, h, hv => by
    simp at h
    subst h
    match v0, hv with
    | .inl z, _ => exact List.mem_cons_self
    | .inr (.inl z), _ => exact List.mem_cons_self
    | .inr (.inr (.inl z)), _ => exact List.mem_cons_self
    | .inr (.inr (.inr ())), hv => exact absurd rfl hv
  | v0 :: vs, i, k + 1, v, h, hv => by
    have h1 := gx_l_in (ad := ad) vs (i + 1) k v (by simpa using h) hv
    rw [show i + 1 + k = i + (k + 1) by omega] at h1
    match v0 with
    | .inl z => exact List.mem_cons_of_mem _ h1
    | .inr (.inl z) => exact List.mem_cons_of_mem _ h1
    | .inr (.inr (.inl z)) => exact List.mem_cons_of_mem _ h1
    | .inr (.inr (.inr ())) => exact h1
theorem gx_l_of {ad : Nat → Nat} : ∀ (L : List gx_V) (i : Nat) (q : Nat × Value), q ∈ gx_l ad i L → ∃ (k : Nat) (v : gx_V), q = (i + k, gx_T ad v) ∧ L[k]? = some v ∧ v ≠ gx_U
  | [], _, _, h => by simp [gx_l] at h
  | v0 :: vs, i, q, h => by
    have tail : q ∈ gx_l ad (i + 1) vs → ∃ (k : Nat) (v : gx_V), q = (i + k, gx_T ad v) ∧ (v0 :: vs)[k]? = some v ∧ v ≠ gx_U := fun h1 => by
      obtain ⟨k, v, e1, e2, e3⟩ := gx_l_of vs (i + 1) q h1
      exact ⟨k + 1, v, by rw [e1, show i + 1 + k = i + (k + 1) by omega], by simpa using e2, e3⟩
    match v0, h with
    | .inl z, h =>
      rcases List.mem_cons.mp h with e | e
      · exact ⟨0, _, e, rfl, by simp⟩
      · exact tail e
    | .inr (.inl z), h =>
      rcases List.mem_cons.mp h with e | e
      · exact ⟨0, _, e, rfl, by simp⟩
      · exact tail e
    | .inr (.inr (.inl z)), h =>
      rcases List.mem_cons.mp h with e | e
      · exact ⟨0, _, e, rfl, by simp⟩
      · exact tail e
    | .inr (.inr (.inr ())), h => exact tail h
theorem gx_lat {ad : Nat → Nat} {ls : Array Slot} {nL : Nat} {L : List gx_V} (h : lv_has ls nL (gx_l ad 0 L)) {k : Nat} {v : gx_V} (hk : L[k]? = some v) (hv : v ≠ gx_U) : ls[k]? = some (.val (gx_T ad v)) := by
  have := h.2.2 _ (gx_l_in (ad := ad) L 0 k v hk hv)
  simpa using this
theorem gx_lmono {ad : Nat → Nat} {ls : Array Slot} {nL : Nat} {L : List gx_V} {l : List (Nat × Value)} (h : lv_has ls nL l) (hk : ∀ (k : Nat) (v : gx_V), L[k]? = some v → v ≠ gx_U → (k, gx_T ad v) ∈ l) : lv_has ls nL (gx_l ad 0 L) := by
  refine ⟨h.1, h.2.1, fun q hq => ?_⟩
  obtain ⟨k, v, e1, e2, e3⟩ := gx_l_of L 0 q hq
  rw [e1, Nat.zero_add]
  exact h.2.2 _ (hk k v e2 e3)
/-- the place before is no long -/
def gx_ok (L : List gx_V) : Nat → Bool
  | 0 => true
  | k + 1 => match L[k]? with
    | some (.inr (.inr (.inl _))) => false
    | _ => true
theorem gx_cat {ad : Nat → Nat} {v : gx_V} (h : (gx_T ad v).category = 2) : ∃ x, v = gx_J x := by
  match v with
  | .inl z => exact absurd h (by simp [gx_T, Value.category])
  | .inr (.inl z) => exact absurd h (by simp [gx_T, Value.category])
  | .inr (.inr (.inl z)) => exact ⟨z, rfl⟩
  | .inr (.inr (.inr ())) => exact absurd h (by simp [gx_T, Value.category])
theorem gx_b1 {a b : Bool} (h : (a && b) = false) : (!a) = true ∨ (!b) = true := by cases a <;> cases b <;> simp_all
theorem gx_lset {ad : Nat → Nat} {ls : Array Slot} {nL i : Nat} {L : List gx_V} {v : gx_V} (hok : gx_ok L i = true) (h : lv_has ls nL ((i, gx_T ad v) :: (gx_l ad 0 L).filter (fun q => !(q.1 == i) && !(q.1 + 1 == i && q.2.category == 2)))) : lv_has ls nL (gx_l ad 0 (L.set i v)) := by
  refine gx_lmono h (fun k w hk hw => ?_)
  by_cases e : i = k
  · subst e
    rw [List.getElem?_set] at hk
    simp at hk
    rw [hk.2]
    exact List.mem_cons_self
  · rw [List.getElem?_set_ne e] at hk
    refine List.mem_cons_of_mem _ (List.mem_filter.mpr ⟨by simpa using gx_l_in (ad := ad) L 0 k w hk hw, ?_⟩)
    have h1 : (k == i) = false := by simp; omega
    have h2 : (k + 1 == i && (gx_T ad w).category == 2) = false := by
      by_cases e1 : k + 1 = i
      · subst e1
        have : ¬ (gx_T ad w).category = 2 := fun hc => by
          obtain ⟨x, rfl⟩ := gx_cat hc
          simp [gx_ok, hk] at hok
        simp [this]
      · simp [e1]
    rw [show (!(k == i)) = true by simp [h1], Bool.true_and, show (!(k + 1 == i && (gx_T ad w).category == 2)) = true by rw [h2]; rfl]
theorem gx_lset2 {ad : Nat → Nat} {ls : Array Slot} {nL i : Nat} {L : List gx_V} {v : gx_V} (hok : gx_ok L i = true) (h : lv_has ls nL ((i, gx_T ad v) :: (gx_l ad 0 L).filter (fun q => !(q.1 == i) && (!(q.1 == i + 1) && !(q.1 + 1 == i && q.2.category == 2))))) : lv_has ls nL (gx_l ad 0 ((L.set i v).set (i + 1) gx_U)) := by
  refine gx_lmono h (fun k w hk hw => ?_)
  by_cases e2 : i + 1 = k
  · subst e2
    rw [List.getElem?_set] at hk
    simp at hk
    exact absurd hk.2.symm hw
  rw [List.getElem?_set_ne e2] at hk
  by_cases e : i = k
  · subst e
    rw [List.getElem?_set] at hk
    simp at hk
    rw [hk.2]
    exact List.mem_cons_self
  · rw [List.getElem?_set_ne e] at hk
    refine List.mem_cons_of_mem _ (List.mem_filter.mpr ⟨by simpa using gx_l_in (ad := ad) L 0 k w hk hw, ?_⟩)
    have h1 : (k == i) = false := by simp; omega
    have h3 : (k == i + 1) = false := by simp; omega
    have h2 : (k + 1 == i && (gx_T ad w).category == 2) = false := by
      by_cases e1 : k + 1 = i
      · subst e1
        have : ¬ (gx_T ad w).category = 2 := fun hc => by
          obtain ⟨x, rfl⟩ := gx_cat hc
          simp [gx_ok, hk] at hok
        simp [this]
      · simp [e1]
    rw [show (!(k == i)) = true by simp [h1], show (!(k == i + 1)) = true by simp [h3], Bool.true_and, Bool.true_and, show (!(k + 1 == i && (gx_T ad w).category == 2)) = true by rw [h2]; rfl]
/-- fewer values are known -/
def gx_sub' : List gx_V → List gx_V → Prop
  | [], _ => True
  | u :: us, [] => u = gx_U ∧ gx_sub' us []
  | u :: us, v :: vs => (u = gx_U ∨ u = v) ∧ gx_sub' us vs
theorem gx_sub_at : ∀ (L' L : List gx_V), gx_sub' L' L → ∀ (k : Nat) (v : gx_V), L'[k]? = some v → v ≠ gx_U → L[k]? = some v
  | [], _, _, _, _, h, _ => by simp at h
  | u :: us, [], hs, 0, v, h, hv => by
    simp at h
    exact absurd (h ▸ hs.1) hv
  | u :: us, [], hs, k + 1, v, h, hv => gx_sub_at us [] hs.2 k v (by simpa using h) hv
  | u :: us, w :: ws, hs, 0, v, h, hv => by
    simp at h
    subst h
    rcases hs.1 with e | e
    · exact absurd e hv
    · simp [e]
  | u :: us, w :: ws, hs, k + 1, v, h, hv => by
    have := gx_sub_at us ws hs.2 k v (by simpa using h) hv
    simpa using this
theorem gx_lsub {ad : Nat → Nat} {ls : Array Slot} {nL : Nat} {L L' : List gx_V} (hs : gx_sub' L' L) (h : lv_has ls nL (gx_l ad 0 L)) : lv_has ls nL (gx_l ad 0 L') :=
  gx_lmono h (fun k v hk hv => by simpa using gx_l_in (ad := ad) L 0 k v (gx_sub_at L' L hs k v hk hv) hv)
/-! the heap -/
def gx_F (ad : Nat → Nat) (f : Nat → Int) (j : Nat) : Option Nat → Value
  | none => .int (gx_i (f j))
  | some r => .ref (ad r)
def gx_a (ad : Nat → Nat) (f : Nat → Int) (k b st : Nat) : (Nat → Int32) ⊕ (Nat → Int64) ⊕ (Nat → UInt32) ⊕ (Nat → UInt64) ⊕ (Nat → Option Nat) :=
  if k < 3 then .inl (fun i => gx_i (f i)) else .inr (.inr (.inr (.inr (fun i => some (ad (b + st * i))))))
def gx_E (tc : Nat → ClassId) (ad : Nat → Nat) (f : Nat → Int) : gx_K → va_E
  | .inl (ci, fs) => .inr (ci, fs.mapIdx (gx_F ad f))
  | .inr (k, n, b, st) => .inl (tc k, n, gx_a ad f k b st)
def gx_w (La : List gx_K) (tc : Nat → ClassId) (ad : Nat → Nat) (M : gx_M) : va_W := (List.range La.length).map (fun c => (ad c, gx_E tc ad (M c) (La.getD c (.inl (0, [])))))
theorem gx_at {La : List gx_K} {tc : Nat → ClassId} {ad : Nat → Nat} {M : gx_M} {c : Nat} {k : gx_K} (h : La[c]? = some k) : (gx_w La tc ad M)[c]? = some (ad c, gx_E tc ad (M c) k) := by
  have hc : c < La.length := (List.getElem?_eq_some_iff.mp h).1
  unfold gx_w
  rw [List.getElem?_map, List.getElem?_range hc]
  simp [h]
theorem gx_len {La : List gx_K} {tc : Nat → ClassId} {ad : Nat → Nat} {M : gx_M} : (gx_w La tc ad M).length = La.length := by simp [gx_w]
theorem gx_of {La : List gx_K} {tc : Nat → ClassId} {ad : Nat → Nat} {M : gx_M} {c : Nat} {q : Nat × va_E} (h : (gx_w La tc ad M)[c]? = some q) : c < La.length ∧ q.1 = ad c := by
  have hc : c < La.length := by
    have := (List.getElem?_eq_some_iff.mp h).1
    rwa [gx_len] at this
  unfold gx_w at h
  rw [List.getElem?_map, List.getElem?_range hc] at h
  simp at h
  exact ⟨hc, by rw [← h]⟩
theorem gx_set {La : List gx_K} {tc : Nat → ClassId} {ad : Nat → Nat} {M : gx_M} {c : Nat} {k : gx_K} {f : Nat → Int} (h : La[c]? = some k) : (gx_w La tc ad M).set c (ad c, gx_E tc ad f k) = gx_w La tc ad (fun c' => if c' = c then f else M c') := by
  have hc : c < La.length := (List.getElem?_eq_some_iff.mp h).1
  refine List.ext_getElem? (fun i => ?_)
  by_cases e : c = i
  · subst e
    rw [List.getElem?_set_self (by rw [gx_len]; exact hc), gx_at h]
    simp
  · rw [List.getElem?_set_ne e]
    by_cases hi : i < La.length
    · have h2 : La[i]? = some La[i] := List.getElem?_eq_getElem hi
      rw [gx_at h2, gx_at h2]
      simp [show ¬ i = c from fun q => e q.symm]
    · rw [List.getElem?_eq_none (by rw [gx_len]; omega), List.getElem?_eq_none (by rw [gx_len]; omega)]
/-- one number changed -/
def gx_u (M : gx_M) (c j : Nat) (v : Int) : gx_M := fun c' => if c' = c then (fun j' => if j' = j then v else M c j') else M c'
theorem gx_u_eq (M : gx_M) (c j : Nat) (v : Int) : gx_u M c j v c j = v := by simp [gx_u]
theorem gx_u_ne {M : gx_M} {c j c' j' : Nat} {v : Int} (h : ¬ (c' = c ∧ j' = j)) : gx_u M c j v c' j' = M c' j' := by
  unfold gx_u
  by_cases e : c' = c
  · subst e
    by_cases e2 : j' = j
    · exact absurd ⟨rfl, e2⟩ h
    · simp [e2]
  · simp [e]
theorem gx_u_nc {M : gx_M} {c j c' : Nat} {v : Int} (h : c' ≠ c) : gx_u M c j v c' = M c' := by simp [gx_u, h]
theorem gx_u_at (M : gx_M) (c j c' j' : Nat) (v : Int) : gx_u M c j v c' j' = if c' = c ∧ j' = j then v else M c' j' := by
  by_cases h : c' = c ∧ j' = j
  · rw [if_pos h, h.1, h.2, gx_u_eq]
  · rw [if_neg h, gx_u_ne h]
def gx_tys (tc : Nat → ClassId) : List (ClassId × FieldType) := [(tc 0, .int), (tc 1, .char), (tc 2, .boolean), (tc 3, .array .int), (tc 4, .object "PeirceDesk$State"), (tc 5, .object "PeirceDesk$Frame")]
def gx_A (ad : Nat → Nat) (n sz : Nat) : Nat → Prop := fun q => (∃ c, c < n ∧ q = ad c) ∨ sz ≤ q
end
section
/-! rows of nine numbers: elements, as functions that are 0 from 9 on -/
def mx_of (f : Nat → Int) (o : Nat) : Nat → Int := fun k => if k < 9 then f (o + k) else 0
def mx_ok (m : Int) (a : Nat → Int) : Prop := ∀ k, k < 9 → 0 ≤ a k ∧ a k < m
/-- sums of the usual product -/
def mx_ps (a b : Nat → Int) (r c : Nat) : Nat → Int
  | 0 => 0
  | k + 1 => mx_ps a b r c k + a (3 * r + k) * b (3 * k + c)
/-- the usual product -/
def mx_mul (n : Nat) (m : Int) (a b : Nat → Int) : Nat → Int := fun k => if k < 9 ∧ k / 3 < n ∧ k % 3 < n then mx_ps a b (k / 3) (k % 3) n % m else 0
def mx_lin (m : Int) (a : Nat → Int) (x : Int) (b : Nat → Int) (y : Int) : Nat → Int := fun k => if k < 9 then (a k * x + b k * y) % m else 0
theorem mx_of_at {f : Nat → Int} {o k : Nat} (h : k < 9) : mx_of f o k = f (o + k) := if_pos h
theorem mx_of_ext {f g : Nat → Int} {o q : Nat} (h : ∀ k, k < 9 → f (o + k) = g (q + k)) : mx_of f o = mx_of g q := by
  funext k
  unfold mx_of
  by_cases e : k < 9
  · rw [if_pos e, if_pos e, h k e]
  · rw [if_neg e, if_neg e]
theorem mx_pr {m x y : Int} (h : m ≤ 11) (hx : 0 ≤ x ∧ x < m) (hy : 0 ≤ y ∧ y < m) : 0 ≤ x * y ∧ x * y ≤ 100 := by
  refine ⟨Int.mul_nonneg hx.1 hy.1, ?_⟩
  have h1 : x * y ≤ 10 * y := Int.mul_le_mul_of_nonneg_right (by omega) hy.1
  omega
theorem mx_md {m : Int} (h : 3 ≤ m) (x : Int) : 0 ≤ x % m ∧ x % m < m := ⟨Int.emod_nonneg _ (by omega), Int.emod_lt_of_pos _ (by omega)⟩
theorem mx_psb {m : Int} (h : m ≤ 11) {a b : Nat → Int} (ha : mx_ok m a) (hb : mx_ok m b) {r c : Nat} (hr : r < 3) (hc : c < 3) : ∀ k, k ≤ 3 → 0 ≤ mx_ps a b r c k ∧ mx_ps a b r c k ≤ 100 * k
  | 0, _ => by simp [mx_ps]
  | k + 1, hk => by
    have h1 := mx_psb h ha hb hr hc k (by omega)
    have h2 := mx_pr h (ha (3 * r + k) (by omega)) (hb (3 * k + c) (by omega))
    show 0 ≤ mx_ps a b r c k + a (3 * r + k) * b (3 * k + c) ∧ mx_ps a b r c k + a (3 * r + k) * b (3 * k + c) ≤ 100 * ((k + 1 : Nat) : Int)
    omega
theorem mx_mul_ok {n : Nat} {m : Int} (h : 3 ≤ m) (a b : Nat → Int) : mx_ok m (mx_mul n m a b) := by
  intro k hk
  unfold mx_mul
  split
  · exact mx_md h _
  · omega
theorem mx_lin_ok {m : Int} (h : 3 ≤ m) (a b : Nat → Int) (x y : Int) : mx_ok m (mx_lin m a x b y) := by
  intro k hk
  unfold mx_lin
  rw [if_pos hk]
  exact mx_md h _
/-- a block of a cell's numbers written anew -/
def gx_blk (M : gx_M) (c o n : Nat) (f : Nat → Int) : gx_M := fun c' => if c' = c then (fun j => if o ≤ j ∧ j < o + n then f (j - o) else M c j) else M c'
theorem gx_blk_nc {M : gx_M} {c o n c' : Nat} {f : Nat → Int} (h : c' ≠ c) : gx_blk M c o n f c' = M c' := by simp [gx_blk, h]
theorem gx_blk_in {M : gx_M} {c o n k : Nat} {f : Nat → Int} (h : k < n) : gx_blk M c o n f c (o + k) = f k := by
  have : o ≤ o + k ∧ o + k < o + n := by omega
  simp [gx_blk, h]
theorem gx_blk_out {M : gx_M} {c o n j : Nat} {f : Nat → Int} (h : j < o ∨ o + n ≤ j) : gx_blk M c o n f c j = M c j := by
  have : ¬ (o ≤ j ∧ j < o + n) := by omega
  simp [gx_blk, this]
theorem gx_blk_0 {M : gx_M} {c o : Nat} {f : Nat → Int} : gx_blk M c o 0 f = M := by
  funext c' j
  unfold gx_blk
  by_cases e : c' = c
  · subst e
    rw [if_pos rfl]
    exact if_neg (by omega)
  · rw [if_neg e]
theorem gx_blk_s {M : gx_M} {c o n : Nat} {f : Nat → Int} {v : Int} (h : v = f n) : gx_u (gx_blk M c o n f) c (o + n) v = gx_blk M c o (n + 1) f := by
  subst h
  funext c' j
  rw [gx_u_at]
  unfold gx_blk
  by_cases e : c' = c
  · subst e
    by_cases e2 : j = o + n
    · subst e2
      simp
    · by_cases e3 : o ≤ j ∧ j < o + n
      · have : o ≤ j ∧ j < o + (n + 1) := by omega
        simp [e2, e3, this]
      · have : ¬ (o ≤ j ∧ j < o + (n + 1)) := by omega
        simp [e2, e3, this]
  · simp [e]
theorem gx_blk_f {M : gx_M} {c o n : Nat} {f g : Nat → Int} (h : ∀ k, k < n → f k = g k) : gx_blk M c o n f = gx_blk M c o n g := by
  funext c' j
  unfold gx_blk
  by_cases e : c' = c
  · subst e
    by_cases e3 : o ≤ j ∧ j < o + n
    · simp [e3, h (j - o) (by omega)]
    · simp [e3]
  · simp [e]
theorem gx_blk_u {M : gx_M} {c o n k : Nat} {f : Nat → Int} {v : Int} (h : k < n) : gx_u (gx_blk M c o n f) c (o + k) v = gx_blk M c o n (fun i => if i = k then v else f i) := by
  funext c' j
  rw [gx_u_at]
  unfold gx_blk
  by_cases e : c' = c
  · subst e
    by_cases e2 : j = o + k
    · subst e2
      have : o ≤ o + k ∧ o + k < o + n := by omega
      simp [h]
    · by_cases e3 : o ≤ j ∧ j < o + n
      · have : ¬ (j - o = k) := by omega
        simp [e2, e3, this]
      · simp [e2, e3]
  · simp [e]
theorem mx_of_blk {M : gx_M} {c o : Nat} {f : Nat → Int} : mx_of (gx_blk M c o 9 f c) o = fun k => if k < 9 then f k else 0 := by
  funext k
  unfold mx_of
  by_cases e : k < 9
  · rw [if_pos e, if_pos e, gx_blk_in e]
  · rw [if_neg e, if_neg e]
theorem mx_of_blo {M : gx_M} {c o q : Nat} {f : Nat → Int} (h : q + 9 ≤ o ∨ o + 9 ≤ q) : mx_of (gx_blk M c o 9 f c) q = mx_of (M c) q :=
  mx_of_ext (fun k hk => gx_blk_out (by omega))
theorem mx_cut {f : Nat → Int} (h : ∀ k, 9 ≤ k → f k = 0) : (fun k => if k < 9 then f k else 0) = f := by
  funext k
  by_cases e : k < 9
  · rw [if_pos e]
  · rw [if_neg e, h k (by omega)]
theorem mx_mul_9 {n : Nat} {m : Int} {a b : Nat → Int} : ∀ k, 9 ≤ k → mx_mul n m a b k = 0 := fun k hk => if_neg (by omega)
theorem mx_lin_9 {m : Int} {a b : Nat → Int} {x y : Int} : ∀ k, 9 ≤ k → mx_lin m a x b y k = 0 := fun k hk => if_neg (by omega)
/-- the reference's cells -/
def gm_L : List gx_K := [.inl (8, [some 1, some 2, some 3, some 4, none, some 5, none, some 6, some 7, none, some 8, some 9, some 10, some 11, none, none, none, none, none, none]), .inr (0, 83, 0, 0), .inr (0, 498, 0, 0), .inr (0, 166, 0, 0), .inr (2, 2, 0, 0), .inr (1, 60, 0, 0), .inr (0, 1926, 0, 0), .inr (0, 90, 0, 0), .inr (0, 64, 0, 0), .inr (0, 64, 0, 0), .inr (0, 64, 0, 0), .inr (0, 64, 0, 0)]
def gm_H (La : List gx_K) : Prop := ∀ c, c < 12 → La[c]? = gm_L[c]?
theorem gm_0 {La : List gx_K} (h : gm_H La) : La[0]? = some (.inl (8, [some 1, some 2, some 3, some 4, none, some 5, none, some 6, some 7, none, some 8, some 9, some 10, some 11, none, none, none, none, none, none])) := h 0 (by decide)
theorem gm_1 {La : List gx_K} (h : gm_H La) : La[1]? = some (.inr (0, 83, 0, 0)) := h 1 (by decide)
theorem gm_2 {La : List gx_K} (h : gm_H La) : La[2]? = some (.inr (0, 498, 0, 0)) := h 2 (by decide)
theorem gm_3 {La : List gx_K} (h : gm_H La) : La[3]? = some (.inr (0, 166, 0, 0)) := h 3 (by decide)
theorem gm_4 {La : List gx_K} (h : gm_H La) : La[4]? = some (.inr (2, 2, 0, 0)) := h 4 (by decide)
theorem gm_5 {La : List gx_K} (h : gm_H La) : La[5]? = some (.inr (1, 60, 0, 0)) := h 5 (by decide)
theorem gm_6 {La : List gx_K} (h : gm_H La) : La[6]? = some (.inr (0, 1926, 0, 0)) := h 6 (by decide)
theorem gm_7 {La : List gx_K} (h : gm_H La) : La[7]? = some (.inr (0, 90, 0, 0)) := h 7 (by decide)
theorem gm_8 {La : List gx_K} (h : gm_H La) : La[8]? = some (.inr (0, 64, 0, 0)) := h 8 (by decide)
theorem gm_9 {La : List gx_K} (h : gm_H La) : La[9]? = some (.inr (0, 64, 0, 0)) := h 9 (by decide)
theorem gm_10 {La : List gx_K} (h : gm_H La) : La[10]? = some (.inr (0, 64, 0, 0)) := h 10 (by decide)
theorem gm_11 {La : List gx_K} (h : gm_H La) : La[11]? = some (.inr (0, 64, 0, 0)) := h 11 (by decide)
/-- the reference's size and modulus -/
def gm_Z (M : gx_M) (n : Nat) (m : Int) : Prop := M 1 81 = n ∧ M 1 82 = m ∧ (n = 2 ∨ n = 3) ∧ (m = 3 ∨ m = 5 ∨ m = 7 ∨ m = 11)
theorem mx_sm {x y : Int} (hx : 0 ≤ x ∧ x ≤ 10) (hy : -10 ≤ y ∧ y ≤ 10) : -100 ≤ x * y ∧ x * y ≤ 100 := by
  have h1 : x * y ≤ x * 10 := Int.mul_le_mul_of_nonneg_left hy.2 hx.1
  have h2 : x * (-10) ≤ x * y := Int.mul_le_mul_of_nonneg_left hy.1 hx.1
  omega
theorem mx_all {P : Nat → Prop} {k : Nat} : (∀ j, j < k + 1 → P j) ↔ (∀ j, j < k → P j) ∧ P k :=
  ⟨fun h => ⟨fun j hj => h j (by omega), h k (by omega)⟩, fun h j hj => by
    rcases (show j < k ∨ j = k by omega) with q | q
    · exact h.1 j q
    · rw [q]; exact h.2⟩
theorem mx_9 {f g : Nat → Int} {a b : Nat} (h : ∀ j, j < 9 → mx_of f a j = mx_of g b j) : mx_of f a = mx_of g b := by
  funext k
  by_cases e : k < 9
  · exact h k e
  · unfold mx_of
    rw [if_neg e, if_neg e]
theorem mx_90 {f : Nat → Int} {a : Nat} (h : ∀ j, j < 9 → mx_of f a j = 0) : mx_of f a = fun _ => 0 := by
  funext k
  by_cases e : k < 9
  · exact h k e
  · unfold mx_of
    rw [if_neg e]

/-! THE REFERENCE: its small methods -/
theorem mx_wi {v m : Int} (h : 0 < m) : (v.tmod m + m).tmod m = v % m := by
  have h1 := Int.lt_tmod_of_pos v h
  rw [gx_tmod (by omega), Int.add_emod_right, Int.tmod_def, Int.sub_mul_emod_self_left]
theorem gm_rd {M : gx_M} {a j : Nat} {i : Int} (hi : i = ((a + j : Nat) : Int)) (hj : j < 9) : M 6 i.toNat = mx_of (M 6) a j := by
  rw [mx_of_at hj, hi]
  rfl
theorem gm_rdb {M : gx_M} {a j t n : Nat} {f : Nat → Int} {i : Int} (hd : a + 9 ≤ t ∨ t + n ≤ a) (hi : i = ((a + j : Nat) : Int)) (hj : j < 9) : gx_blk M 6 t n f 6 i.toNat = mx_of (M 6) a j := by
  rw [mx_of_at hj, hi]
  exact gx_blk_out (by show a + j < t ∨ _; omega)
theorem gm_sz {M : gx_M} {n : Nat} {m : Int} (h : gm_Z M n m) : gx_3 n ∧ gx_3 m := by
  obtain ⟨-, -, h1, h2⟩ := h
  unfold gx_3
  omega
/-- the greatest number below k that gives 1 with v, 1 if there is none -/
def mx_ov (v m : Int) : Nat → Int
  | 0 => 1
  | k + 1 => if v * (k + 1 : Nat) % m = 1 then ((k + 1 : Nat) : Int) else mx_ov v m k
theorem mx_ovb {v m : Int} : ∀ k, 1 ≤ mx_ov v m k ∧ (mx_ov v m k ≤ k ∨ mx_ov v m k = 1)
  | 0 => by simp [mx_ov]
  | k + 1 => by
    have := mx_ovb (v := v) (m := m) k
    unfold mx_ov
    split <;> omega

theorem gm_Zb {M : gx_M} {n : Nat} {m : Int} {t k : Nat} {f : Nat → Int} (h : gm_Z M n m) : gm_Z (gx_blk M 6 t k f) n m := ⟨by rw [gx_blk_nc (by decide)]; exact h.1, by rw [gx_blk_nc (by decide)]; exact h.2.1, h.2.2⟩
theorem gm_Zm {M : gx_M} {n : Nat} {m : Int} (h : gm_Z M n m) : 3 ≤ m ∧ m ≤ 11 ∧ n ≤ 3 ∧ 2 ≤ n := by
  obtain ⟨-, -, h1, h2⟩ := h
  omega
theorem mx_of_mul {M : gx_M} {t n : Nat} {m : Int} {a b : Nat → Int} : mx_of (gx_blk M 6 t 9 (mx_mul n m a b) 6) t = mx_mul n m a b := by rw [mx_of_blk, mx_cut mx_mul_9]
theorem mx_of_lin {M : gx_M} {t : Nat} {m x y : Int} {a b : Nat → Int} : mx_of (gx_blk M 6 t 9 (mx_lin m a x b y) 6) t = mx_lin m a x b y := by rw [mx_of_blk, mx_cut mx_lin_9]
theorem mx_of_of {M : gx_M} {t q : Nat} {f : Nat → Int} : mx_of (gx_blk M 6 t 9 (mx_of f q) 6) t = mx_of f q := by rw [mx_of_blk, mx_cut (f := mx_of f q) (fun k hk => if_neg (by omega))]
/-! determinants and inverses, as the reference has them -/
def mx_at (a : Nat → Int) (r c : Nat) : Int := a (3 * (r % 3) + c % 3)
def mx_d3s (a : Nat → Int) : Nat → Int
  | 0 => 0
  | k + 1 => mx_d3s a k + mx_at a 0 k * (mx_at a 1 (k + 1) * mx_at a 2 (k + 2) - mx_at a 1 (k + 2) * mx_at a 2 (k + 1))
def mx_det (n : Nat) (m : Int) (a : Nat → Int) : Int := (if n = 2 then a 0 * a 4 - a 1 * a 3 else mx_d3s a 3) % m
def mx_min (a : Nat → Int) (k : Nat) : Int := mx_at a (k % 3 + 1) (k / 3 + 1) * mx_at a (k % 3 + 2) (k / 3 + 2) - mx_at a (k % 3 + 1) (k / 3 + 2) * mx_at a (k % 3 + 2) (k / 3 + 1)
def mx_inv (n : Nat) (m : Int) (a : Nat → Int) : Nat → Int := fun k =>
  if n = 2 then (if k = 0 then a 4 * mx_ov (mx_det n m a) m (m.toNat - 1) % m else if k = 1 then -a 1 * mx_ov (mx_det n m a) m (m.toNat - 1) % m else if k = 3 then -a 3 * mx_ov (mx_det n m a) m (m.toNat - 1) % m else if k = 4 then a 0 * mx_ov (mx_det n m a) m (m.toNat - 1) % m else 0)
  else if k < 9 then mx_min a k % m * mx_ov (mx_det n m a) m (m.toNat - 1) % m else 0
theorem mx_inv_9 {n : Nat} {m : Int} {a : Nat → Int} : ∀ k, 9 ≤ k → mx_inv n m a k = 0 := fun k hk => by
  unfold mx_inv
  split
  · rw [if_neg (by omega), if_neg (by omega), if_neg (by omega), if_neg (by omega)]
  · rw [if_neg (by omega)]
theorem mx_inv_ok {n : Nat} {m : Int} (h : 3 ≤ m) (a : Nat → Int) : mx_ok m (mx_inv n m a) := by
  intro k hk
  have h1 := mx_md h
  unfold mx_inv
  split
  · split
    · exact h1 _
    · split
      · exact h1 _
      · split
        · exact h1 _
        · split
          · exact h1 _
          · omega
  · exact h1 _
theorem mx_det_b {n : Nat} {m : Int} (h : 3 ≤ m) (a : Nat → Int) : 0 ≤ mx_det n m a ∧ mx_det n m a < m := mx_md h _
theorem mx_of_inv {M : gx_M} {t n : Nat} {m : Int} {a : Nat → Int} : mx_of (gx_blk M 6 t 9 (mx_inv n m a) 6) t = mx_inv n m a := by rw [mx_of_blk, mx_cut mx_inv_9]
theorem mx_pr2 {x y : Int} (hx : -100 ≤ x ∧ x ≤ 100) (hy : 0 ≤ y ∧ y ≤ 100) : -10000 ≤ x * y ∧ x * y ≤ 10000 := by
  have h1 : x * y ≤ 100 * y := Int.mul_le_mul_of_nonneg_right hx.2 hy.1
  have h2 : (-100) * y ≤ x * y := Int.mul_le_mul_of_nonneg_right hx.1 hy.1
  omega
theorem mx_mb {a : Nat → Int} {m : Int} (hm : m ≤ 11) (oa : mx_ok m a) (r c r' c' s d s' d' : Nat) : -100 ≤ mx_at a r c * mx_at a r' c' - mx_at a s d * mx_at a s' d' ∧ mx_at a r c * mx_at a r' c' - mx_at a s d * mx_at a s' d' ≤ 100 := by
  have h1 := mx_pr hm (oa (3 * (r % 3) + c % 3) (by omega)) (oa (3 * (r' % 3) + c' % 3) (by omega))
  have h2 := mx_pr hm (oa (3 * (s % 3) + d % 3) (by omega)) (oa (3 * (s' % 3) + d' % 3) (by omega))
  unfold mx_at
  omega
theorem mx_d3b {a : Nat → Int} {m : Int} (hm : m ≤ 11) (oa : mx_ok m a) : ∀ k, k ≤ 3 → -10000 * k ≤ mx_d3s a k ∧ mx_d3s a k ≤ 10000 * k
  | 0, _ => by simp [mx_d3s]
  | k + 1, hk => by
    have h1 := mx_d3b hm oa k (by omega)
    have h2 := mx_mb hm oa 1 (k + 1) 2 (k + 2) 1 (k + 2) 2 (k + 1)
    have h3 := oa (3 * (0 % 3) + k % 3) (by omega)
    have h4 := mx_pr2 h2 (y := mx_at a 0 k) (by unfold mx_at; omega)
    rw [Int.mul_comm] at h4
    show _ ≤ mx_d3s a k + mx_at a 0 k * (mx_at a 1 (k + 1) * mx_at a 2 (k + 2) - mx_at a 1 (k + 2) * mx_at a 2 (k + 1)) ∧ mx_d3s a k + mx_at a 0 k * (mx_at a 1 (k + 1) * mx_at a 2 (k + 2) - mx_at a 1 (k + 2) * mx_at a 2 (k + 1)) ≤ _
    omega
theorem mx_3 (k : Nat) : ((k : Int)).tmod 3 = ((k % 3 : Nat) : Int) := by
  rw [gx_tmod (by omega)]
  omega

theorem mx_ok_of {m : Int} {f g : Nat → Int} (h : mx_ok m f) (e : g = f) : mx_ok m g := by rw [e]; exact h
theorem gx_blk_v {M : gx_M} {c o : Nat} {f g : Nat → Int} (h : ∀ k, k < 9 → f k = g k) : gx_blk M c o 9 f = gx_blk M c o 9 g := gx_blk_f h
/-- register, base or unit -/
def gm_el (M : gx_M) (n : Nat) (m : Int) (r : Nat) : Nat → Int := if r < 8 then mx_of (M 1) (9 * r) else if r = 8 then mx_of (M 1) 72 else mx_inv n m (mx_of (M 1) 72)
theorem gm_el_9 {M : gx_M} {n : Nat} {m : Int} {r : Nat} : ∀ k, 9 ≤ k → gm_el M n m r k = 0 := fun k hk => by
  unfold gm_el
  split
  · exact if_neg (by omega)
  · split
    · exact if_neg (by omega)
    · exact mx_inv_9 k hk
theorem mx_of_el {M M0 : gx_M} {t n r : Nat} {m : Int} : mx_of (gx_blk M 6 t 9 (gm_el M0 n m r) 6) t = gm_el M0 n m r := by rw [mx_of_blk, mx_cut gm_el_9]

/-- only numbers of the work row have changed, and of these only such -/
def gm_E (S : Nat → Prop) (M M' : gx_M) : Prop := (∀ c, c ≠ 6 → M' c = M c) ∧ ∀ j, ¬ S j → M' 6 j = M 6 j
theorem gm_Er (S : Nat → Prop) (M : gx_M) : gm_E S M M := ⟨fun _ _ => rfl, fun _ _ => rfl⟩
theorem gm_Et {S : Nat → Prop} {M M1 M2 : gx_M} (h1 : gm_E S M M1) (h2 : gm_E S M1 M2) : gm_E S M M2 := ⟨fun c hc => (h2.1 c hc).trans (h1.1 c hc), fun j hj => (h2.2 j hj).trans (h1.2 j hj)⟩
theorem gm_Ew {S S' : Nat → Prop} {M M1 : gx_M} (h1 : gm_E S M M1) (h : ∀ j, S j → S' j) : gm_E S' M M1 := ⟨h1.1, fun j hj => h1.2 j (fun q => hj (h j q))⟩
theorem gm_Eb {S : Nat → Prop} {M : gx_M} {t n : Nat} {f : Nat → Int} (h : ∀ j, t ≤ j → j < t + n → S j) : gm_E S M (gx_blk M 6 t n f) := ⟨fun c hc => gx_blk_nc hc, fun j hj => gx_blk_out (by
  by_cases h1 : t ≤ j
  · by_cases h2 : j < t + n
    · exact absurd (h j h1 h2) hj
    · omega
  · omega)⟩
theorem gm_Eo {S : Nat → Prop} {M M1 : gx_M} {a : Nat} (h : gm_E S M M1) (ha : ∀ j, a ≤ j → j < a + 9 → ¬ S j) : mx_of (M1 6) a = mx_of (M 6) a := mx_of_ext (fun k hk => h.2 _ (ha _ (by omega) (by omega)))
theorem gm_Ez {S : Nat → Prop} {M M1 : gx_M} {n : Nat} {m : Int} (h : gm_E S M M1) (hz : gm_Z M n m) : gm_Z M1 n m := by
  unfold gm_Z
  rw [h.1 1 (by decide)]
  exact hz
/-- the operations, as the reference has them -/
def mx_prod (n : Nat) (m : Int) (u a b : Nat → Int) : Nat → Int := mx_lin m (mx_mul n m (mx_mul n m a u) b) ((m + 1) / 2) (mx_mul n m (mx_mul n m b u) a) ((m + 1) / 2)
def mx_oper (n : Nat) (m : Int) (u a b : Nat → Int) : Nat → Int := mx_mul n m (mx_mul n m (mx_mul n m (mx_mul n m a u) b) u) a
def mx_trip (n : Nat) (m : Int) (u a b c : Nat → Int) : Nat → Int := mx_lin m (mx_mul n m (mx_mul n m (mx_mul n m (mx_mul n m a u) b) u) c) ((m + 1) / 2) (mx_mul n m (mx_mul n m (mx_mul n m (mx_mul n m c u) b) u) a) ((m + 1) / 2)
def gm_S (t : Nat) : Nat → Prop := fun j => (45 ≤ j ∧ j < 81) ∨ (t ≤ j ∧ j < t + 9)
theorem mx_half {m : Int} (h : 3 ≤ m ∧ m ≤ 11) : -10 ≤ (m + 1) / 2 ∧ (m + 1) / 2 ≤ 10 := by omega

/-- the first place that is not 0, 9 if there is none -/
def mx_lda (x : Nat → Int) : Nat → Nat → Nat
  | 0, k => k
  | f + 1, k => if x k = 0 then mx_lda x f (k + 1) else k
def mx_ld (x : Nat → Int) : Nat := mx_lda x 9 0
theorem mx_lda_s {x : Nat → Int} : ∀ f k, k ≤ mx_lda x f k ∧ mx_lda x f k ≤ k + f ∧ (∀ j, k ≤ j → j < mx_lda x f k → x j = 0) ∧ (mx_lda x f k < k + f → x (mx_lda x f k) ≠ 0)
  | 0, k => ⟨Nat.le_refl _, Nat.le_refl _, fun j h1 h2 => by simp only [mx_lda] at h2; omega, fun h => by simp only [mx_lda] at h; omega⟩
  | f + 1, k => by
    by_cases e : x k = 0
    · have h := mx_lda_s (x := x) f (k + 1)
      have he : mx_lda x (f + 1) k = mx_lda x f (k + 1) := if_pos e
      rw [he]
      refine ⟨by omega, by omega, fun j h1 h2 => ?_, fun q => h.2.2.2 (by omega)⟩
      by_cases e2 : j = k
      · rw [e2]; exact e
      · exact h.2.2.1 j (by omega) h2
    · have he : mx_lda x (f + 1) k = k := if_neg e
      rw [he]
      exact ⟨Nat.le_refl _, by omega, fun j h1 h2 => absurd h2 (by omega), fun _ => e⟩
theorem mx_ld_s (x : Nat → Int) : mx_ld x ≤ 9 ∧ (∀ j, j < mx_ld x → x j = 0) ∧ (mx_ld x < 9 → x (mx_ld x) ≠ 0) := by
  have h := mx_lda_s (x := x) 9 0
  exact ⟨by unfold mx_ld; omega, fun j hj => h.2.2.1 j (by omega) hj, fun q => h.2.2.2 (by unfold mx_ld at q; omega)⟩
theorem mx_ld_u {x : Nat → Int} {k : Nat} (h1 : k ≤ 9) (h2 : ∀ j, j < k → x j = 0) (h3 : k < 9 → x k ≠ 0) : k = mx_ld x := by
  obtain ⟨g1, g2, g3⟩ := mx_ld_s x
  rcases Nat.lt_trichotomy k (mx_ld x) with h | h | h
  · exact absurd (g2 k h) (h3 (by omega))
  · exact h
  · exact absurd (h2 _ h) (g3 (by omega))
/-- a row less multiples of the rows that are there -/
def mx_red (m : Int) (R : Nat → Nat → Int) (x : Nat → Int) : Nat → Nat → Int
  | 0 => x
  | k + 1 => fun j => if j < 9 then (mx_red m R x k j - mx_red m R x k (mx_ld (R k)) * mx_ov (R k (mx_ld (R k))) m (m.toNat - 1) % m * R k j) % m else 0
/-- rows that are there, and another one comes -/
def mx_nw (m : Int) (s : Nat × (Nat → Nat → Int)) (x : Nat → Int) : Nat × (Nat → Nat → Int) :=
  (if mx_ld (mx_red m s.2 x s.1) < 9 then s.1 + 1 else s.1, fun i => if i = s.1 then mx_red m s.2 x s.1 else s.2 i)
theorem mx_red_ok {m : Int} (h : 3 ≤ m) {R : Nat → Nat → Int} {x : Nat → Int} (ox : mx_ok m x) : ∀ k, mx_ok m (mx_red m R x k)
  | 0 => ox
  | k + 1 => fun j hj => by
    show 0 ≤ (if j < 9 then _ else _) ∧ (if j < 9 then _ else _) < m
    rw [if_pos hj]
    exact mx_md h _
theorem mx_red_f {m : Int} {R R' : Nat → Nat → Int} {x : Nat → Int} : ∀ k, (∀ i, i < k → R i = R' i) → mx_red m R x k = mx_red m R' x k
  | 0, _ => rfl
  | k + 1, h => by
    show (fun j => if j < 9 then _ else _) = (fun j => if j < 9 then _ else _)
    rw [mx_red_f k (fun i hi => h i (by omega)), h k (by omega)]
theorem mx_red_9 {m : Int} {R : Nat → Nat → Int} {x : Nat → Int} (hx : ∀ j, 9 ≤ j → x j = 0) : ∀ k j, 9 ≤ j → mx_red m R x k j = 0
  | 0, j, hj => hx j hj
  | k + 1, j, hj => if_neg (by omega)
/-- the reference's rows -/
def gm_W (M : gx_M) (m : Int) (s : Nat × (Nat → Nat → Int)) : Prop := M 0 9 = s.1 ∧ ∀ i, i < s.1 → mx_of (M 7) (9 * i) = s.2 i ∧ mx_ok m (s.2 i) ∧ mx_ld (s.2 i) < 9
/-- only what is worked with has changed -/
def gm_Y (M M' : gx_M) : Prop := (∀ c, c ≠ 0 → c ≠ 6 → c ≠ 7 → M' c = M c) ∧ ∀ j, j ≠ 9 → M' 0 j = M 0 j
theorem gm_Yt {M M1 M2 : gx_M} (h1 : gm_Y M M1) (h2 : gm_Y M1 M2) : gm_Y M M2 := ⟨fun c a b d => (h2.1 c a b d).trans (h1.1 c a b d), fun j hj => (h2.2 j hj).trans (h1.2 j hj)⟩
theorem gm_Yr (M : gx_M) : gm_Y M M := ⟨fun _ _ _ _ => rfl, fun _ _ => rfl⟩
theorem gm_YE {S : Nat → Prop} {M M' : gx_M} (h : gm_E S M M') : gm_Y M M' := ⟨fun c _ h6 _ => h.1 c h6, fun j _ => by rw [h.1 0 (by decide)]⟩
theorem gm_Yz {M M1 : gx_M} {n : Nat} {m : Int} (h : gm_Y M M1) (hz : gm_Z M n m) : gm_Z M1 n m := by
  unfold gm_Z
  rw [h.1 1 (by decide) (by decide) (by decide)]
  exact hz
theorem gm_7b {M : gx_M} {o : Nat} {f : Nat → Int} {q j : Nat} (h : q + 9 ≤ o ∨ o + 9 ≤ q) (hj : j < 9) : gx_blk M 7 o 9 f 7 (q + j) = mx_of (M 7) q j := by
  rw [mx_of_at hj]
  exact gx_blk_out (by omega)

/-- the rows of an element -/
def mx_rws (n : Nat) (a : Nat → Int) (r : Nat) : Nat → Int := fun c => if c < n then a (3 * r + c) else 0
def mx_rst (n : Nat) (m : Int) (a : Nat → Int) : Nat → Nat × (Nat → Nat → Int)
  | 0 => (0, fun _ _ => 0)
  | r + 1 => mx_nw m (mx_rst n m a r) (mx_rws n a r)
theorem mx_nw1 (m : Int) (s : Nat × (Nat → Nat → Int)) (x : Nat → Int) : s.1 ≤ (mx_nw m s x).1 ∧ (mx_nw m s x).1 ≤ s.1 + 1 := by
  unfold mx_nw
  simp only
  split <;> omega
theorem mx_rst1 {n : Nat} {m : Int} {a : Nat → Int} : ∀ r, (mx_rst n m a r).1 ≤ r
  | 0 => Nat.le_refl _
  | r + 1 => by
    have h1 := mx_rst1 (n := n) (m := m) (a := a) r
    have h2 := mx_nw1 m (mx_rst n m a r) (mx_rws n a r)
    show (mx_nw m (mx_rst n m a r) (mx_rws n a r)).1 ≤ r + 1
    omega
def mx_rank (n : Nat) (m : Int) (a : Nat → Int) : Nat := (mx_rst n m a n).1
theorem gm_Y6 {M : gx_M} {t n : Nat} {f : Nat → Int} : gm_Y M (gx_blk M 6 t n f) := ⟨fun c _ h6 _ => gx_blk_nc h6, fun j _ => by rw [gx_blk_nc (by decide)]⟩
theorem gm_Wb {M : gx_M} {m : Int} {s : Nat × (Nat → Nat → Int)} {t n : Nat} {f : Nat → Int} (h : gm_W M m s) : gm_W (gx_blk M 6 t n f) m s := ⟨by rw [gx_blk_nc (by decide)]; exact h.1, fun i hi => by rw [gx_blk_nc (by decide)]; exact h.2 i hi⟩
theorem gm_WE {S : Nat → Prop} {M M' : gx_M} {m : Int} {s : Nat × (Nat → Nat → Int)} (h : gm_W M m s) (hE : gm_E S M M') : gm_W M' m s := ⟨by rw [hE.1 0 (by decide)]; exact h.1, fun i hi => by rw [hE.1 7 (by decide)]; exact h.2 i hi⟩
theorem gm_W0 {M : gx_M} {m : Int} {R : Nat → Nat → Int} (h : M 0 9 = 0) : gm_W M m (0, R) := ⟨by rw [h]; rfl, fun i hi => absurd hi (by simp)⟩
theorem gm_Yu {M : gx_M} {v : Int} : gm_Y M (gx_u M 0 9 v) := ⟨fun c h0 _ _ => gx_u_nc h0, fun j hj => gx_u_ne (by omega)⟩
/-- a times itself k times more -/
def mx_po (n : Nat) (m : Int) (u a : Nat → Int) (b : Nat → Int) : Nat → Nat → Int
  | 0 => b
  | k + 1 => mx_prod n m u (mx_po n m u a b k) a
theorem mx_po_ok {n : Nat} {m : Int} (h : 3 ≤ m) {u a b : Nat → Int} (ob : mx_ok m b) : ∀ k, mx_ok m (mx_po n m u a b k)
  | 0 => ob
  | k + 1 => mx_lin_ok h _ _ _ _
/-- the least place below N with P, counted from 1; -6 if there is none -/
def mx_fst (P : Nat → Prop) (N : Nat) (z : Int) : Prop := (∃ k, k < N ∧ P k ∧ (∀ j, j < k → ¬ P j) ∧ z = (k : Int) + 1) ∨ ((∀ j, j < N → ¬ P j) ∧ z = -6)
theorem mx_fst_u {P : Nat → Prop} {N : Nat} {z w : Int} (h1 : mx_fst P N z) (h2 : mx_fst P N w) : z = w := by
  rcases h1 with ⟨k, a1, a2, a3, a4⟩ | ⟨a1, a2⟩ <;> rcases h2 with ⟨j, b1, b2, b3, b4⟩ | ⟨b1, b2⟩
  · rcases Nat.lt_trichotomy k j with h | h | h
    · exact absurd a2 (b3 k h)
    · rw [a4, b4, h]
    · exact absurd b2 (a3 j h)
  · exact absurd a2 (b1 k a1)
  · exact absurd b2 (a1 j b1)
  · rw [a2, b2]
def gm_S2 : Nat → Prop := fun j => (45 ≤ j ∧ j < 81) ∨ (108 ≤ j ∧ j < 117)
/-- the rows of the powers -/
def mx_dst (n : Nat) (m : Int) (u a v : Nat → Int) : Nat → Nat × (Nat → Nat → Int)
  | 0 => (0, fun _ _ => 0)
  | k + 1 => mx_nw m (mx_dst n m u a v k) (mx_po n m u a v k)
def mx_tr (m : Int) (a : Nat → Int) : Int := (a 0 + a 4 + a 8) % m
/-- a part of b by e -/
def mx_part (n : Nat) (m : Int) (u v e b : Nat → Int) (w : Int) : Nat → Int :=
  if w = 0 then mx_oper n m u (mx_lin m v 1 e (-1)) b else if w = 1 then mx_lin m b 1 (mx_lin m (mx_oper n m u e b) 1 (mx_oper n m u (mx_lin m v 1 e (-1)) b) 1) (-1) else mx_oper n m u e b

/-! WHAT A DESK IS: 83 numbers (the registers, the base, size, modulus), the history, the slots, the pad -/
abbrev sp_S : Type := (Nat → Int) × (Nat × (Nat → Nat → Int)) × ((Nat → Int) × (Nat → Nat → Int)) × (Nat × (Nat → Int))
/-- a state of the registers is as it should be -/
def zs_ok (Z : Nat → Int) : Prop := (Z 81 = 2 ∨ Z 81 = 3) ∧ (Z 82 = 3 ∨ Z 82 = 5 ∨ Z 82 = 7 ∨ Z 82 = 11) ∧ (∀ r, r < 9 → mx_ok (Z 82) (mx_of Z (9 * r)) ∧ (∀ i j, i < 3 → j < 3 → mx_of Z (9 * r) (3 * i + j) = mx_of Z (9 * r) (3 * j + i)) ∧ ∀ i j, i < 3 → j < 3 → (Z 81).toNat ≤ i → mx_of Z (9 * r) (3 * i + j) = 0) ∧ mx_det (Z 81).toNat (Z 82) (mx_of Z 72) ≠ 0
def sp_ok (s : sp_S) : Prop := zs_ok s.1 ∧ s.2.1.1 ≤ 6 ∧ (∀ i, i < s.2.1.1 → zs_ok (s.2.1.2 i)) ∧ (∀ j, j < 2 → (s.2.2.1.1 j = 0 ∨ s.2.2.1.1 j = 1)) ∧ (∀ j, j < 2 → s.2.2.1.1 j = 1 → zs_ok (s.2.2.1.2 j)) ∧ s.2.2.2.1 ≤ 60 ∧ ∀ i, i < s.2.2.2.1 → 33 ≤ s.2.2.2.2 i ∧ s.2.2.2.2 i ≤ 126
/-- a change is recorded -/
def sp_h (s : sp_S) : Nat := if s.2.1.1 = 6 then 5 else s.2.1.1
def sp_push (s : sp_S) (Z : Nat → Int) : sp_S := (Z, (sp_h s + 1, fun i => if i = sp_h s then s.1 else if s.2.1.1 = 6 then s.2.1.2 (i + 1) else s.2.1.2 i), s.2.2.1, s.2.2.2)
/-- the reference's numbers are this desk -/
def sm_R (s : sp_S) (M : gx_M) : Prop :=
  (∀ k, k < 83 → M 1 k = s.1 k) ∧ M 0 4 = s.2.1.1 ∧ (∀ i k, i < s.2.1.1 → k < 83 → M 2 (83 * i + k) = s.2.1.2 i k) ∧ (∀ j, j < 2 → M 4 j = s.2.2.1.1 j) ∧ (∀ j k, j < 2 → s.2.2.1.1 j = 1 → k < 83 → M 3 (83 * j + k) = s.2.2.1.2 j k) ∧ M 0 6 = s.2.2.2.1 ∧ ∀ i, i < s.2.2.2.1 → M 5 i = s.2.2.2.2 i
def sm_Q (s : sp_S) (M M' : gx_M) : Prop := sm_R s M' ∧ ∀ c, 12 ≤ c → M' c = M c
/-- scratch alone has changed -/
def gm_X (M M' : gx_M) : Prop := (∀ c, (1 ≤ c ∧ c ≤ 5) ∨ 12 ≤ c → M' c = M c) ∧ M' 0 4 = M 0 4 ∧ M' 0 6 = M 0 6
theorem gm_Xr (M : gx_M) : gm_X M M := ⟨fun _ _ => rfl, rfl, rfl⟩
theorem gm_Xt {M M1 M2 : gx_M} (h1 : gm_X M M1) (h2 : gm_X M1 M2) : gm_X M M2 := ⟨fun c h => (h2.1 c h).trans (h1.1 c h), h2.2.1.trans h1.2.1, h2.2.2.trans h1.2.2⟩
theorem gm_XY {M M' : gx_M} (h : gm_Y M M') : gm_X M M' := ⟨fun c hc => h.1 c (by omega) (by omega) (by omega), h.2 4 (by decide), h.2 6 (by decide)⟩
theorem gm_XE {S : Nat → Prop} {M M' : gx_M} (h : gm_E S M M') : gm_X M M' := gm_XY (gm_YE h)
theorem gm_Xb {M : gx_M} {t n : Nat} {f : Nat → Int} : gm_X M (gx_blk M 6 t n f) := gm_XY gm_Y6
theorem sm_X {s : sp_S} {M M' : gx_M} (h : sm_R s M) (hX : gm_X M M') : sm_R s M' := by
  obtain ⟨h1, h2, h3, h4, h5, h6, h7⟩ := h
  obtain ⟨x1, x2, x3⟩ := hX
  have c1 := x1 1 (by omega)
  have c2 := x1 2 (by omega)
  have c3 := x1 3 (by omega)
  have c4 := x1 4 (by omega)
  have c5 := x1 5 (by omega)
  exact ⟨fun k hk => by rw [c1]; exact h1 k hk, x2.trans h2, fun i k hi hk => by rw [c2]; exact h3 i k hi hk, fun j hj => by rw [c4]; exact h4 j hj, fun j k hj hs hk => by rw [c3]; exact h5 j k hj hs hk, x3.trans h6, fun i hi => by rw [c5]; exact h7 i hi⟩
theorem sm_XQ {s : sp_S} {M M' : gx_M} (h : sm_R s M) (hX : gm_X M M') : sm_Q s M M' := ⟨sm_X h hX, fun c hc => hX.1 c (Or.inr hc)⟩
theorem sm_n {s : sp_S} (hs : sp_ok s) : s.1 81 = ((s.1 81).toNat : Int) := by
  have := hs.1.1
  omega
theorem sm_Z {s : sp_S} {M : gx_M} (hs : sp_ok s) (h : sm_R s M) : gm_Z M (s.1 81).toNat (s.1 82) := ⟨by rw [h.1 81 (by omega)]; exact sm_n hs, h.1 82 (by omega), by have := hs.1.1; omega, hs.1.2.1⟩
theorem sm_el {s : sp_S} {M : gx_M} (h : sm_R s M) {r : Nat} (hr : r < 9) : mx_of (M 1) (9 * r) = mx_of s.1 (9 * r) := mx_of_ext (fun k hk => h.1 _ (by omega))
theorem sm_el72 {s : sp_S} {M : gx_M} (h : sm_R s M) : mx_of (M 1) 72 = mx_of s.1 72 := sm_el h (r := 8) (by omega)
theorem sm_ou {s : sp_S} {M : gx_M} (hs : sp_ok s) (h : sm_R s M) : mx_ok (s.1 82) (mx_of (M 1) 72) := by rw [sm_el72 h]; exact (hs.1.2.2.1 8 (by omega)).1
/-- register, base or unit of a state -/
def zs_el (Z : Nat → Int) (r : Nat) : Nat → Int := if r < 9 then mx_of Z (9 * r) else mx_inv (Z 81).toNat (Z 82) (mx_of Z 72)
theorem sm_gel {s : sp_S} {M : gx_M} (h : sm_R s M) {r : Nat} (hr : r < 10) : gm_el M (s.1 81).toNat (s.1 82) r = zs_el s.1 r := by
  unfold gm_el zs_el
  by_cases h1 : r < 8
  · rw [if_pos h1, if_pos (by omega), sm_el h (by omega)]
  · rw [if_neg h1]
    by_cases h2 : r = 8
    · subst h2
      rw [if_pos rfl, if_pos (by omega), sm_el72 h]
    · rw [if_neg h2, if_neg (by omega), sm_el72 h]
theorem zs_el_ok {Z : Nat → Int} (h : zs_ok Z) {r : Nat} : r < 10 → mx_ok (Z 82) (zs_el Z r) := fun hr => by
  unfold zs_el
  split
  · exact (h.2.2.1 r (by omega)).1
  · exact mx_inv_ok (by have := h.2.1; omega) _
/-- all 0, the base the identity matrix -/
def zs_new (n m : Int) : Nat → Int := fun k => if k = 81 then n else if k = 82 then m else if 72 ≤ k ∧ (k - 72) % 4 = 0 ∧ (((k - 72) / 4 : Nat) : Int) < n then 1 else 0

/-! WHAT THE CALLS ANSWER: for each call, from a desk s with its arguments, the answer z and the desk behind it -/
def sp_undo (s : sp_S) (z : Int) (s' : sp_S) : Prop :=
  if s.2.1.1 = 0 then z = -5 ∧ s' = s else z = (s.2.1.1 : Int) - 1 ∧ s' = (s.2.1.2 (s.2.1.1 - 1), (s.2.1.1 - 1, s.2.1.2), s.2.2.1, s.2.2.2)
def sp_save (s : sp_S) (j : Int) (z : Int) (s' : sp_S) : Prop :=
  if 0 ≤ j ∧ j ≤ 1 then z = s.1 81 ∧ s' = (s.1, s.2.1, (fun (i : Nat) => if (i : Int) = j then 1 else s.2.2.1.1 i, fun (i : Nat) => if (i : Int) = j then s.1 else s.2.2.1.2 i), s.2.2.2) else z = -2 ∧ s' = s
def sp_restore (s : sp_S) (j : Int) (z : Int) (s' : sp_S) : Prop :=
  if 0 ≤ j ∧ j ≤ 1 then (if s.2.2.1.1 j.toNat = 1 then z = s.2.2.1.2 j.toNat 81 ∧ s' = sp_push s (s.2.2.1.2 j.toNat) else z = -5 ∧ s' = s) else z = -2 ∧ s' = s
def sp_begin (s : sp_S) (a b : Int) (z : Int) (s' : sp_S) : Prop :=
  if (a = 2 ∨ a = 3) ∧ (b = 3 ∨ b = 5 ∨ b = 7 ∨ b = 11) then z = s.1 81 ∧ s' = sp_push s (zs_new a b) else z = -2 ∧ s' = s
/-- a number of a register changed, and the one across -/
def zs_set (Z : Nat → Int) (r i j : Nat) (v : Int) : Nat → Int := fun k => if k = 9 * r + 3 * j + i then v else if k = 9 * r + 3 * i + j then v else Z k
def sp_set (s : sp_S) (r i j v : Int) (z : Int) (s' : sp_S) : Prop :=
  if (0 ≤ r ∧ r ≤ 7) ∧ (0 ≤ i ∧ i < s.1 81 ∧ 0 ≤ j ∧ j < s.1 81) then (if 0 ≤ v ∧ v < s.1 82 then z = mx_of s.1 (9 * r.toNat) (3 * i.toNat + j.toNat) ∧ s' = sp_push s (zs_set s.1 r.toNat i.toNat j.toNat v) else z = -2 ∧ s' = s) else z = -1 ∧ s' = s
def mx_id (n : Int) : Nat → Int := fun k => if k % 4 = 0 ∧ ((k / 4 : Nat) : Int) < n then 1 else 0
def zs_put (Z : Nat → Int) (o : Nat) (f : Nat → Int) : Nat → Int := fun k => if o ≤ k ∧ k < o + 9 then f (k - o) else Z k
def sp_bel (s : sp_S) (r : Int) : Nat → Int := if r = -6 then mx_id (s.1 81) else mx_of s.1 (9 * r.toNat)
def sp_base (s : sp_S) (r : Int) (z : Int) (s' : sp_S) : Prop :=
  if r = -6 ∨ (0 ≤ r ∧ r ≤ 7) then (if mx_det (s.1 81).toNat (s.1 82) (sp_bel s r) = 0 then z = -5 ∧ s' = s else z = mx_det (s.1 81).toNat (s.1 82) (sp_bel s r) ∧ s' = sp_push s (zs_put s.1 72 (sp_bel s r))) else z = -1 ∧ s' = s
theorem sm_Rp {s : sp_S} {Z : Nat → Int} {M M1 : gx_M} (h : sm_R (sp_push s s.1) M) (h1 : ∀ k, k < 83 → M1 1 k = Z k) (h2 : ∀ c, c ≠ 1 → (c ≤ 5) → M1 c = M c) : sm_R (sp_push s Z) M1 := by
  obtain ⟨a1, a2, a3, a4, a5, a6, a7⟩ := h
  exact ⟨h1, by rw [h2 0 (by decide) (by decide)]; exact a2, fun i k hi hk => by rw [h2 2 (by decide) (by decide)]; exact a3 i k hi hk, fun j hj => by rw [h2 4 (by decide) (by decide)]; exact a4 j hj, fun j k hj hs hk => by rw [h2 3 (by decide) (by decide)]; exact a5 j k hj hs hk, by rw [h2 0 (by decide) (by decide)]; exact a6, fun i hi => by rw [h2 5 (by decide) (by decide)]; exact a7 i hi⟩
theorem gx_b0 {M : gx_M} {c n k : Nat} {f : Nat → Int} (h : k < n) : gx_blk M c 0 n f c k = f k := by
  have := gx_blk_in (M := M) (c := c) (o := 0) (n := n) (k := k) (f := f) h
  rwa [Nat.zero_add] at this

theorem mx_id_at (n : Int) (k : Nat) : mx_id n k = if k % 4 = 0 ∧ ((k / 4 : Nat) : Int) < n then 1 else 0 := rfl
theorem sp_bel_ok {s : sp_S} (hs : sp_ok s) {r : Int} (hr : r = -6 ∨ (0 ≤ r ∧ r ≤ 7)) : mx_ok (s.1 82) (sp_bel s r) := by
  have hm := hs.1.2.1
  intro k hk
  unfold sp_bel
  split
  · rw [mx_id_at]
    split <;> omega
  · exact (hs.1.2.2.1 r.toNat (by omega)).1 k hk
theorem mx_det_c {n : Nat} {m : Int} {a b : Nat → Int} (h : ∀ k, k < 9 → a k = b k) : mx_det n m a = mx_det n m b := by
  unfold mx_det
  simp only [mx_d3s, mx_at, h 0 (by omega), h 1 (by omega), h 2 (by omega), h 3 (by omega), h 4 (by omega), h 5 (by omega), h 6 (by omega), h 7 (by omega), h 8 (by omega), Nat.reduceMod, Nat.reduceMul, Nat.reduceAdd]
/-- what a load leaves in the work row -/
def gm_E3 : Nat → Prop := fun j => 27 ≤ j ∧ j < 45
theorem gm_ld {M M' : gx_M} {n r t : Nat} {m : Int} (h : M' = gx_blk (gx_blk (gx_blk M 6 27 9 (mx_of (M 1) 72)) 6 36 9 (mx_inv n m (mx_of (M 1) 72))) 6 t 9 (gm_el M n m r)) (hd : t + 9 ≤ 27 ∨ 45 ≤ t) : mx_of (M' 6) t = gm_el M n m r ∧ mx_of (M' 6) 27 = mx_of (M 1) 72 ∧ mx_of (M' 6) 36 = mx_inv n m (mx_of (M 1) 72) ∧ gm_E (fun j => (27 ≤ j ∧ j < 45) ∨ (t ≤ j ∧ j < t + 9)) M M' := by
  refine ⟨by rw [h]; exact mx_of_el, by rw [h, mx_of_blo (by omega), mx_of_blo (by omega)]; exact mx_of_of, by rw [h, mx_of_blo (by omega)]; exact mx_of_inv, ?_⟩
  rw [h]
  refine gm_Et (gm_Et (gm_Eb (fun j h1 h2 => Or.inl (by omega))) (gm_Eb (fun j h1 h2 => Or.inl (by omega)))) (gm_Eb (fun j h1 h2 => Or.inr (by omega)))

theorem gm_X6 {S : Nat → Prop} {M M' : gx_M} (h : gm_E S M M') : gm_X M M' := gm_XE h
theorem zs_m {Z : Nat → Int} (h : zs_ok Z) : 3 ≤ Z 82 ∧ Z 82 ≤ 11 := by
  have := h.2.1
  omega
def zs_nn (s : sp_S) : Nat := (s.1 81).toNat
abbrev zs_mm (s : sp_S) : Int := s.1 82
def sp_entry (s : sp_S) (r i j : Int) (z : Int) : Prop :=
  if (0 ≤ r ∧ r ≤ 9) ∧ (0 ≤ i ∧ i < s.1 81 ∧ 0 ≤ j ∧ j < s.1 81) then z = zs_el s.1 r.toNat (3 * i.toNat + j.toNat) else z = -1
def sp_same (s : sp_S) (r q : Int) (z : Int) : Prop :=
  if (0 ≤ r ∧ r ≤ 7) ∧ (0 ≤ q ∧ q ≤ 7) then (z = 0 ∨ z = 1) ∧ (z = 1 ↔ zs_el s.1 r.toNat = zs_el s.1 q.toNat) else z = -1
/-- the product of a desk -/
def zs_prod (s : sp_S) (a b : Nat → Int) : Nat → Int := mx_prod (zs_nn s) (s.1 82) (zs_el s.1 8) a b
def zs_oper (s : sp_S) (a b : Nat → Int) : Nat → Int := mx_oper (zs_nn s) (s.1 82) (zs_el s.1 8) a b
def zs_po (s : sp_S) (a b : Nat → Int) : Nat → Nat → Int := mx_po (zs_nn s) (s.1 82) (zs_el s.1 8) a b
def sp_power (s : sp_S) (r k i j : Int) (z : Int) : Prop :=
  if (0 ≤ r ∧ r ≤ 7) ∧ (0 ≤ i ∧ i < s.1 81 ∧ 0 ≤ j ∧ j < s.1 81) then (if 0 ≤ k ∧ k ≤ 2000 then z = zs_po s (zs_el s.1 r.toNat) (zs_el s.1 9) k.toNat (3 * i.toNat + j.toNat) else z = -2) else z = -1
def sp_rule (s : sp_S) (a b c w : Int) (z : Int) : Prop :=
  if (0 ≤ a ∧ a ≤ 7) ∧ (0 ≤ b ∧ b ≤ 7) ∧ (0 ≤ c ∧ c ≤ 7) then (if 0 ≤ w ∧ w ≤ 1 then
    (if w = 1 then z = mx_tr (s.1 82) (zs_oper s (zs_oper s (zs_el s.1 a.toNat) (zs_el s.1 b.toNat)) (zs_el s.1 c.toNat))
     else (z = 0 ∨ z = 1) ∧ (z = 1 ↔ zs_oper s (zs_oper s (zs_el s.1 a.toNat) (zs_el s.1 b.toNat)) (zs_el s.1 c.toNat) = zs_oper s (zs_el s.1 a.toNat) (zs_oper s (zs_el s.1 b.toNat) (zs_oper s (zs_el s.1 a.toNat) (zs_el s.1 c.toNat)))))
    else z = -2) else z = -1
theorem mx_ok_e {m : Int} {f g : Nat → Int} (e : g = f) (h : mx_ok m f) : mx_ok m g := by rw [e]; exact h

theorem gx_sh1 : ∀ r : Fin 8, gx_i 1 <<< (gx_i (r.val : Int) &&& 31) = gx_i ((2 ^ r.val : Nat) : Int) := by decide +kernel
set_option maxRecDepth 100000 in
theorem gx_or1 : ∀ r : Fin 8, ∀ x : Fin 256, x.val < 2 ^ r.val → gx_i (x.val : Int) ||| gx_i ((2 ^ r.val : Nat) : Int) = gx_i (((x.val + 2 ^ r.val : Nat) : Int)) := by decide +kernel
set_option maxRecDepth 100000 in
theorem gx_or0 : ∀ x : Fin 256, gx_i (x.val : Int) ||| gx_i 0 = gx_i (x.val : Int) := by decide +kernel
/-- the set of the numbers below N with P, as a number -/
def mx_bit (P : Nat → Prop) : Nat → Int → Prop
  | 0, z => z = 0
  | k + 1, z => ∃ y, mx_bit P k y ∧ ((P k ∧ z = y + ((2 ^ k : Nat) : Int)) ∨ (¬ P k ∧ z = y))
theorem mx_bit_b {P : Nat → Prop} : ∀ k z, mx_bit P k z → 0 ≤ z ∧ z < ((2 ^ k : Nat) : Int)
  | 0, z, h => by
    have : z = 0 := h
    subst this
    decide
  | k + 1, z, h => by
    obtain ⟨y, h1, h2⟩ := h
    have h3 := mx_bit_b k y h1
    have : ((2 ^ (k + 1) : Nat) : Int) = ((2 ^ k : Nat) : Int) + ((2 ^ k : Nat) : Int) := by rw [Nat.pow_succ]; omega
    rcases h2 with ⟨-, h2⟩ | ⟨-, h2⟩ <;> omega
theorem mx_bit_u {P : Nat → Prop} : ∀ k z w, mx_bit P k z → mx_bit P k w → z = w
  | 0, z, w, h, g => by
    have h1 : z = 0 := h
    have g1 : w = 0 := g
    rw [h1, g1]
  | k + 1, z, w, h, g => by
    obtain ⟨y, h1, h2⟩ := h
    obtain ⟨x, g1, g2⟩ := g
    have e := mx_bit_u k y x h1 g1
    subst e
    rcases h2 with ⟨a, h2⟩ | ⟨a, h2⟩ <;> rcases g2 with ⟨b, g2⟩ | ⟨b, g2⟩
    · rw [h2, g2]
    · exact absurd a b
    · exact absurd b a
    · rw [h2, g2]
/-- its own square -/
def zs_sq (s : sp_S) (a : Nat → Int) : Prop := zs_prod s a a = a
def sp_count (s : sp_S) (w : Int) (z : Int) : Prop :=
  if w = 0 then z = s.1 81 else if w = 1 then z = s.1 82 else if w = 2 then mx_bit (fun r => ¬ zs_el s.1 r = fun _ => 0) 8 z else if w = 3 then mx_bit (fun r => zs_sq s (zs_el s.1 r)) 8 z else if w = 4 then z = s.2.2.2.1 else if w = 5 then z = s.2.1.1 else z = -2

def sp_deg (s : sp_S) (a : Nat → Int) (K : Nat) : Prop := K ≤ 8 ∧ (∀ k, k ≤ K → (mx_dst (zs_nn s) (s.1 82) (zs_el s.1 8) a (zs_el s.1 9) k).1 = k) ∧ (mx_dst (zs_nn s) (s.1 82) (zs_el s.1 8) a (zs_el s.1 9) (K + 1)).1 = K
def sp_of (s : sp_S) (r w : Int) (z : Int) : Prop :=
  if 0 ≤ r ∧ r ≤ 9 then
    (if w = 0 then z = mx_tr (s.1 82) (zs_el s.1 r.toNat) else if w = 1 then z = mx_det (zs_nn s) (s.1 82) (zs_el s.1 r.toNat)
     else if w = 2 then z = mx_rank (zs_nn s) (s.1 82) (zs_el s.1 r.toNat) else if w = 3 then (z = 0 ∨ z = 1) ∧ (z = 1 ↔ zs_sq s (zs_el s.1 r.toNat))
     else if w = 4 then (z = 0 ∨ z = 1) ∧ (z = 0 ↔ mx_det (zs_nn s) (s.1 82) (zs_el s.1 r.toNat) = 0)
     else if w = 5 then mx_fst (fun k => zs_po s (zs_el s.1 r.toNat) (zs_el s.1 r.toNat) k = zs_el s.1 9) 2000 z
     else if w = 6 then ∃ K : Nat, sp_deg s (zs_el s.1 r.toNat) K ∧ z = K
     else if w = 7 then mx_fst (fun k => zs_po s (zs_el s.1 r.toNat) (zs_el s.1 r.toNat) k = fun _ => 0) 10 z else z = -2) else z = -1

/-- 0 or 1 by whether all is 0 -/
def mx_nz (f : Nat → Int) (q : Int) : Prop := (f = (fun _ => 0) ∧ q = 0) ∨ (¬ f = (fun _ => 0) ∧ q = 1)
def zs_part (s : sp_S) (e b : Nat → Int) (w : Int) : Nat → Int := mx_part (zs_nn s) (s.1 82) (zs_el s.1 8) (zs_el s.1 9) e b w
/-- the first k parts stored -/
def zs_sp (s : sp_S) (e b : Nat → Int) (t : Nat) : Nat → Nat → Int
  | 0 => s.1
  | k + 1 => zs_put (zs_sp s e b t k) (9 * (t + k)) (zs_part s e b (2 - (k : Int)))
def zs_cn (s : sp_S) (e b : Nat → Int) : Nat → Int → Prop
  | 0, z => z = 0
  | k + 1, z => ∃ y q, zs_cn s e b k y ∧ mx_nz (zs_part s e b (2 - (k : Int))) q ∧ z = y + q
def sp_split (s : sp_S) (a b t : Int) (z : Int) (s' : sp_S) : Prop :=
  if (0 ≤ a ∧ a ≤ 7) ∧ (0 ≤ b ∧ b ≤ 7) ∧ (0 ≤ t ∧ t ≤ 5) then
    (zs_sq s (zs_el s.1 a.toNat) → zs_cn s (zs_el s.1 a.toNat) (zs_el s.1 b.toNat) 3 z ∧ s' = sp_push s (zs_sp s (zs_el s.1 a.toNat) (zs_el s.1 b.toNat) t.toNat 3)) ∧ (¬ zs_sq s (zs_el s.1 a.toNat) → z = -5 ∧ s' = s)
  else z = -1 ∧ s' = s
theorem mx_part_ok {n : Nat} {m : Int} (h : 3 ≤ m) {u v e b : Nat → Int} {w : Int} : mx_ok m (mx_part n m u v e b w) := by
  unfold mx_part
  split
  · exact mx_mul_ok h _ _
  · split
    · exact mx_lin_ok h _ _ _ _
    · exact mx_mul_ok h _ _
theorem zs_cnb {s : sp_S} {e b : Nat → Int} : ∀ k z, zs_cn s e b k z → 0 ≤ z ∧ z ≤ k
  | 0, z, h => by
    have : z = 0 := h
    omega
  | k + 1, z, h => by
    obtain ⟨y, q, h1, h2, h3⟩ := h
    have := zs_cnb k y h1
    rcases h2 with ⟨-, h2⟩ | ⟨-, h2⟩ <;> omega
/-- a basis of the elements, place by place -/
def mx_bas (r c : Nat) : Nat → Int := fun k => if k = 3 * r + c ∨ k = 3 * c + r then 1 else 0
/-- the rows of the parts of those in the row r, from the place r on -/
def mx_pin (m : Int) (f : (Nat → Int) → (Nat → Int)) (r : Nat) (s : Nat × (Nat → Nat → Int)) : Nat → Nat × (Nat → Nat → Int)
  | 0 => s
  | j + 1 => mx_nw m (mx_pin m f r s j) (f (mx_bas r (r + j)))
def mx_pou (n : Nat) (m : Int) (f : (Nat → Int) → (Nat → Int)) : Nat → Nat × (Nat → Nat → Int)
  | 0 => (0, fun _ _ => 0)
  | r + 1 => mx_pin m f r (mx_pou n m f r) (n - r)
def sp_psize (s : sp_S) (r w : Int) (z : Int) : Prop :=
  if 0 ≤ r ∧ r ≤ 7 then (if 0 ≤ w ∧ w ≤ 2 then (zs_sq s (zs_el s.1 r.toNat) → z = (mx_pou (zs_nn s) (s.1 82) (fun b => zs_part s (zs_el s.1 r.toNat) b w) (zs_nn s)).1) ∧ (¬ zs_sq s (zs_el s.1 r.toNat) → z = -5) else z = -2) else z = -1
theorem mx_pin1 {m : Int} {f : (Nat → Int) → (Nat → Int)} {r : Nat} {s : Nat × (Nat → Nat → Int)} : ∀ j, (mx_pin m f r s j).1 ≤ s.1 + j
  | 0 => Nat.le_refl _
  | j + 1 => by
    have h1 := mx_pin1 (m := m) (f := f) (r := r) (s := s) j
    have h2 := mx_nw1 m (mx_pin m f r s j) (f (mx_bas r (r + j)))
    show (mx_nw m (mx_pin m f r s j) (f (mx_bas r (r + j)))).1 ≤ s.1 + (j + 1)
    omega
theorem mx_pou1 {n : Nat} (hn : n ≤ 3) {m : Int} {f : (Nat → Int) → (Nat → Int)} : ∀ r, r ≤ 3 → (mx_pou n m f r).1 ≤ 3 * r
  | 0, _ => Nat.le_refl _
  | r + 1, h => by
    have h1 := mx_pou1 hn (m := m) (f := f) r (by omega)
    have h2 := mx_pin1 (m := m) (f := f) (r := r) (s := mx_pou n m f r) (n - r)
    show (mx_pin m f r (mx_pou n m f r) (n - r)).1 ≤ 3 * (r + 1)
    omega
theorem mx_pou2 {n : Nat} (hn : n ≤ 3) {m : Int} {f : (Nat → Int) → (Nat → Int)} {r : Nat} (hr : r < n) {j : Nat} (hj : j ≤ n - r) : (mx_pin m f r (mx_pou n m f r) j).1 ≤ 8 := by
  have h2 := mx_pin1 (m := m) (f := f) (r := r) (s := mx_pou n m f r) j
  rcases (show r = 0 ∨ r = 1 ∨ r = 2 by omega) with rfl | rfl | rfl
  · have : (mx_pou n m f 0).1 = 0 := rfl
    omega
  · have := mx_pou1 hn (m := m) (f := f) 1 (by omega)
    omega
  · have := mx_pou1 hn (m := m) (f := f) 2 (by omega)
    omega

/-- of a kind -/
def zs_kind (s : sp_S) (w : Int) (a : Nat → Int) : Prop :=
  if w = 0 then zs_sq s a else if w = 1 then mx_det (zs_nn s) (s.1 82) a ≠ 0 else if w = 2 then ∃ k, k < 10 ∧ zs_po s a a k = fun _ => 0 else zs_prod s a a = zs_el s.1 9
/-- so many below N with P -/
def mx_cnt (P : Nat → Prop) : Nat → Int → Prop
  | 0, z => z = 0
  | k + 1, z => ∃ y, mx_cnt P k y ∧ ((P k ∧ z = y + 1) ∨ (¬ P k ∧ z = y))
theorem mx_cnt_b {P : Nat → Prop} : ∀ k z, mx_cnt P k z → 0 ≤ z ∧ z ≤ k
  | 0, z, h => by
    have : z = 0 := h
    omega
  | k + 1, z, h => by
    obtain ⟨y, h1, h2⟩ := h
    have := mx_cnt_b k y h1
    rcases h2 with ⟨-, h2⟩ | ⟨-, h2⟩ <;> omega
theorem mx_cnt_u {P : Nat → Prop} : ∀ k z w, mx_cnt P k z → mx_cnt P k w → z = w
  | 0, z, w, h, g => by
    have h1 : z = 0 := h
    have g1 : w = 0 := g
    rw [h1, g1]
  | k + 1, z, w, h, g => by
    obtain ⟨y, h1, h2⟩ := h
    obtain ⟨x, g1, g2⟩ := g
    have e := mx_cnt_u k y x h1 g1
    subst e
    rcases h2 with ⟨a, h2⟩ | ⟨a, h2⟩ <;> rcases g2 with ⟨b, g2⟩ | ⟨b, g2⟩
    · rw [h2, g2]
    · exact absurd a b
    · exact absurd b a
    · rw [h2, g2]
/-- the element of a number -/
def mx_vec (q k : Nat) : Nat → Int := fun i => if i = 0 then ((k % q : Nat) : Int) else if i = 1 ∨ i = 3 then ((k / q % q : Nat) : Int) else if i = 4 then ((k / q / q : Nat) : Int) else 0
def sp_many (s : sp_S) (w : Int) (z : Int) : Prop :=
  if 0 ≤ w ∧ w ≤ 3 then (if s.1 81 = 3 then z = -5 else mx_cnt (fun k => zs_kind s w (mx_vec (s.1 82).toNat k)) ((s.1 82).toNat * (s.1 82).toNat * (s.1 82).toNat) z) else z = -2
def gm_S3 : Nat → Prop := fun j => (45 ≤ j ∧ j < 90) ∨ (108 ≤ j ∧ j < 117)
theorem mx_mn (k q : Nat) : ((k : Int)).tmod (q : Int) = ((k % q : Nat) : Int) := by
  rw [gx_tmod (by omega)]
  rfl
theorem mx_dn (k q : Nat) : ((k : Int)).tdiv (q : Int) = ((k / q : Nat) : Int) := by
  rw [gx_tdiv (by omega)]
  rfl

/-! READING A TEXT: a machine of depth, what is wanted, kinds of text; the stop, whether it works; letters, sums, factors, places by depth; the sums' values, the left side -/
abbrev pm_S : Type := (Nat × Nat × Int × Int) × (Int × Int) × ((Nat → Int) × (Nat → Nat) × (Nat → Int) × (Nat → Nat)) × ((Nat → Nat → Nat → Int) × (Nat → Int))
abbrev pm_d (t : pm_S) : Nat := t.1.1
abbrev pm_w (t : pm_S) : Nat := t.1.2.1
abbrev pm_f (t : pm_S) : Int := t.1.2.2.1
abbrev pm_e (t : pm_S) : Int := t.1.2.2.2
abbrev pm_stop (t : pm_S) : Int := t.2.1.1
abbrev pm_on (t : pm_S) : Int := t.2.1.2
abbrev pm_let (t : pm_S) : Nat → Int := t.2.2.1.1
abbrev pm_sm (t : pm_S) : Nat → Nat := t.2.2.1.2.1
abbrev pm_of (t : pm_S) : Nat → Int := t.2.2.1.2.2.1
abbrev pm_pl (t : pm_S) : Nat → Nat := t.2.2.1.2.2.2
abbrev pm_P (t : pm_S) : Nat → Nat → Nat → Int := t.2.2.2.1
abbrev pm_L (t : pm_S) : Nat → Int := t.2.2.2.2
/-- f, but v at i -/
def fn_up {α : Type} (f : Nat → α) (i : Nat) (v : α) : Nat → α := fun j => if j = i then v else f j
theorem fn_up_eq {α : Type} (f : Nat → α) (i : Nat) (v : α) : fn_up f i v i = v := if_pos rfl
theorem fn_up_ne {α : Type} {f : Nat → α} {i j : Nat} {v : α} (h : j ≠ i) : fn_up f i v j = f j := if_neg h
abbrev pm_one (c : Int) : Prop := (65 ≤ c ∧ c ≤ 72) ∨ c = 105
abbrev pm_ltr (c : Int) : Prop := c = 112 ∨ c = 117 ∨ c = 116 ∨ c = 118
def pm_arg (c : Int) : Nat := if c = 116 then 3 else if c = 112 ∨ c = 117 then 2 else 1
theorem pm_arg_b (c : Int) : 1 ≤ pm_arg c ∧ pm_arg c ≤ 3 := by
  unfold pm_arg
  split
  · omega
  · split <;> omega
/-- a factor's value comes to the sum at hand -/
def pm_cnt (m : Int) (t : pm_S) (v : Nat → Int) : pm_S :=
  ((pm_d t, 4, pm_f t, pm_e t), t.2.1, t.2.2.1, (if pm_on t = 1 then fn_up (pm_P t) (pm_d t) (fn_up (pm_P t (pm_d t)) (pm_sm t (pm_d t)) (mx_lin m (pm_P t (pm_d t) (pm_sm t (pm_d t))) 1 v (pm_of t (pm_d t)))) else pm_P t, pm_L t))
/-- a bracket begins -/
def pm_opn (t : pm_S) (c : Int) (k w : Nat) : pm_S :=
  ((pm_d t + 1, w, pm_f t, pm_e t), t.2.1, (fn_up (pm_let t) (pm_d t + 1) c, fn_up (pm_sm t) (pm_d t + 1) 0, fn_up (pm_of t) (pm_d t + 1) 1, fn_up (pm_pl t) (pm_d t + 1) k), (fn_up (pm_P t) (pm_d t + 1) (fn_up (pm_P t (pm_d t + 1)) 0 (fun _ => 0)), pm_L t))
/-- what the bracket at hand gives -/
def pm_val (s : sp_S) (t : pm_S) : Nat → Int :=
  if pm_let t (pm_d t) = 112 then zs_prod s (pm_P t (pm_d t) 0) (pm_P t (pm_d t) (pm_sm t (pm_d t)))
  else if pm_let t (pm_d t) = 117 then zs_oper s (pm_P t (pm_d t) 0) (pm_P t (pm_d t) (pm_sm t (pm_d t)))
  else if pm_let t (pm_d t) = 116 then mx_trip (zs_nn s) (s.1 82) (zs_el s.1 8) (pm_P t (pm_d t) 0) (pm_P t (pm_d t) 1) (pm_P t (pm_d t) (pm_sm t (pm_d t)))
  else if pm_let t (pm_d t) = 118 then mx_mul (zs_nn s) (s.1 82) (mx_mul (zs_nn s) (s.1 82) (zs_el s.1 9) (mx_inv (zs_nn s) (s.1 82) (pm_P t (pm_d t) (pm_sm t (pm_d t))))) (zs_el s.1 9)
  else pm_P t (pm_d t) (pm_sm t (pm_d t))
/-- a bracket ends -/
def pm_cls (s : sp_S) (t : pm_S) : pm_S :=
  pm_cnt (s.1 82) ((pm_d t - 1, pm_w t, pm_f t, pm_e t), (if pm_on t = 1 ∧ pm_let t (pm_d t) = 118 ∧ mx_det (zs_nn s) (s.1 82) (pm_P t (pm_d t) (pm_sm t (pm_d t))) = 0 then ((pm_pl t (pm_d t) : Int), 0) else t.2.1), t.2.2) (pm_val s t)
/-- the machine in the reference's numbers -/
def pr_R (m : Int) (t : pm_S) (M : gx_M) : Prop :=
  M 0 14 = pm_d t ∧ M 0 15 = pm_w t ∧ (M 0 16 = pm_f t ∧ M 0 17 = pm_e t ∧ (pm_f t = 0 ∨ pm_f t = 1) ∧ (pm_e t = 0 ∨ pm_e t = 1)) ∧ (M 0 18 = pm_stop t ∧ M 0 19 = pm_on t ∧ (pm_on t = 0 ∨ pm_on t = 1) ∧ gx_3 (pm_stop t)) ∧
  (∀ i, 1 ≤ i → i ≤ pm_d t → M 8 i = pm_let t i ∧ M 11 i = pm_pl t i ∧ gx_3 (pm_let t i) ∧ pm_pl t i < 60 ∧ pm_sm t i < pm_arg (pm_let t i)) ∧
  (∀ i, i ≤ pm_d t → M 9 i = pm_sm t i ∧ M 10 i = pm_of t i ∧ (pm_sm t i ≤ 2 ∧ -9 ≤ pm_of t i ∧ pm_of t i ≤ 9) ∧ ∀ k, k ≤ pm_sm t i → mx_of (M 6) (144 + 27 * i + 9 * k) = pm_P t i k ∧ mx_ok m (pm_P t i k)) ∧
  ((pm_f t = 1 ∨ pm_e t = 1) → mx_of (M 6) 126 = pm_L t ∧ mx_ok m (pm_L t)) ∧ pm_sm t 0 = 0 ∧ (pm_w t = 0 ∨ pm_w t = 3 → pm_of t (pm_d t) = 1 ∨ pm_of t (pm_d t) = -1)
/-- the reading's own numbers have changed alone -/
def pr_X (M M' : gx_M) : Prop := gm_X M M' ∧ M' 7 = M 7
theorem pr_Rb {m : Int} {t : pm_S} {M : gx_M} {o : Nat} {f : Nat → Int} (h : pr_R m t M) (ho : o + 9 ≤ 126 ∨ o = 135) : pr_R m t (gx_blk M 6 o 9 f) := by
  obtain ⟨h1, h2, h3, h4, h5, h6, h7, h8, h9⟩ := h
  have f0 : ∀ c, c ≠ 6 → gx_blk M 6 o 9 f c = M c := fun c hc => gx_blk_nc hc
  refine ⟨by rw [f0 0 (by decide)]; exact h1, by rw [f0 0 (by decide)]; exact h2, by rw [f0 0 (by decide)]; exact h3, by rw [f0 0 (by decide)]; exact h4, fun i a b => by rw [f0 8 (by decide), f0 11 (by decide)]; exact h5 i a b, fun i a => ?_, fun a => ?_, h8, h9⟩
  · rw [f0 9 (by decide), f0 10 (by decide)]
    obtain ⟨q1, q2, q3, q4⟩ := h6 i a
    exact ⟨q1, q2, q3, fun k hk => by rw [mx_of_blo (by omega)]; exact q4 k hk⟩
  · rw [mx_of_blo (by omega)]
    exact h7 a
theorem pr_RE {m : Int} {S : Nat → Prop} {t : pm_S} {M M' : gx_M} (h : pr_R m t M) (hE : gm_E S M M') (hS : ∀ j, S j → j < 126 ∨ (135 ≤ j ∧ j < 144)) : pr_R m t M' := by
  obtain ⟨h1, h2, h3, h4, h5, h6, h7, h8, h9⟩ := h
  have f0 := hE.1
  refine ⟨by rw [f0 0 (by decide)]; exact h1, by rw [f0 0 (by decide)]; exact h2, by rw [f0 0 (by decide)]; exact h3, by rw [f0 0 (by decide)]; exact h4, fun i a b => by rw [f0 8 (by decide), f0 11 (by decide)]; exact h5 i a b, fun i a => ?_, fun a => ?_, h8, h9⟩
  · rw [f0 9 (by decide), f0 10 (by decide)]
    obtain ⟨q1, q2, q3, q4⟩ := h6 i a
    exact ⟨q1, q2, q3, fun k hk => by rw [gm_Eo hE (fun j a b q => by have := hS j q; omega)]; exact q4 k hk⟩
  · rw [gm_Eo hE (fun j a b q => by have := hS j q; omega)]
    exact h7 a
theorem gm_X0 {M : gx_M} {j : Nat} {v : Int} (h : j ≠ 4 ∧ j ≠ 6) : gm_X M (gx_u M 0 j v) := ⟨fun c hc => gx_u_nc (by omega), gx_u_ne (by omega), gx_u_ne (by omega)⟩
theorem gm_Xu {M : gx_M} {c j : Nat} {v : Int} (h : 6 ≤ c ∧ c ≤ 11) : gm_X M (gx_u M c j v) := ⟨fun c' hc => gx_u_nc (by omega), by rw [gx_u_nc (by omega)], by rw [gx_u_nc (by omega)]⟩
theorem gm_XZ {M M1 : gx_M} {n : Nat} {m : Int} (h : gm_X M M1) (hz : gm_Z M n m) : gm_Z M1 n m := by
  unfold gm_Z
  rw [h.1 1 (by omega)]
  exact hz

def pr_U (s : sp_S) (M : gx_M) : Prop := mx_of (M 6) 27 = zs_el s.1 8 ∧ mx_of (M 6) 36 = zs_el s.1 9
theorem pr_UE {s : sp_S} {S : Nat → Prop} {M M' : gx_M} (h : pr_U s M) (hE : gm_E S M M') (hS : ∀ j, S j → j < 27 ∨ 45 ≤ j) : pr_U s M' := ⟨by rw [gm_Eo hE (fun j a b q => by have := hS j q; omega)]; exact h.1, by rw [gm_Eo hE (fun j a b q => by have := hS j q; omega)]; exact h.2⟩
theorem pr_U6 {s : sp_S} {M M' : gx_M} (h : pr_U s M) (h6 : M' 6 = M 6) : pr_U s M' := by
  unfold pr_U
  rw [h6]
  exact h
theorem pm_val_ok {s : sp_S} (hs : sp_ok s) {t : pm_S} (h : ∀ k, k ≤ pm_sm t (pm_d t) → mx_ok (s.1 82) (pm_P t (pm_d t) k)) : mx_ok (s.1 82) (pm_val s t) := by
  have hm := zs_m hs.1
  unfold pm_val
  split
  · exact mx_lin_ok hm.1 _ _ _ _
  · split
    · exact mx_mul_ok hm.1 _ _
    · split
      · exact mx_lin_ok hm.1 _ _ _ _
      · split
        · exact mx_mul_ok hm.1 _ _
        · exact h _ (Nat.le_refl _)

/-- hidden from arithmetic -/
def gx_hid (P : Prop) : Prop := P
theorem gx_3b {z : Int} (h : z = 0 ∨ z = 1) : gx_3 z := by
  unfold gx_3
  omega
/-- one step of the reading: a sign c at the place k; p0 is the first sign of the text -/
def pm_fac (s : sp_S) (t : pm_S) (c : Int) (k : Nat) : Option pm_S :=
  if pm_one c then some (pm_cnt (s.1 82) t (zs_el s.1 (if c = 105 then 9 else (c - 65).toNat))) else if c = 40 ∨ pm_ltr c then some (pm_opn t c k (if c = 40 then 0 else 3)) else none
def pm_sgn (t : pm_S) (c : Int) : pm_S := ((pm_d t, 0, pm_f t, pm_e t), t.2.1, (pm_let t, pm_sm t, fn_up (pm_of t) (pm_d t) (if c = 43 then 1 else -1), pm_pl t), t.2.2.2)
def pm_com (t : pm_S) : pm_S := ((pm_d t, 0, pm_f t, pm_e t), t.2.1, (pm_let t, fn_up (pm_sm t) (pm_d t) (pm_sm t (pm_d t) + 1), fn_up (pm_of t) (pm_d t) 1, pm_pl t), (fn_up (pm_P t) (pm_d t) (fn_up (pm_P t (pm_d t)) (pm_sm t (pm_d t) + 1) (fun _ => 0)), pm_L t))
def pm_hd (t : pm_S) (f e : Int) : pm_S := ((pm_d t, 0, f, e), t.2.1, (pm_let t, pm_sm t, fn_up (pm_of t) 0 1, pm_pl t), (fn_up (pm_P t) 0 (fn_up (pm_P t 0) 0 (fun _ => 0)), pm_P t 0 0))
def pm_beh (s : sp_S) (t : pm_S) (p0 c : Int) (k : Nat) : Option pm_S :=
  if c = 43 ∨ c = 45 then some (pm_sgn t c)
  else if c = 44 ∧ pm_d t ≠ 0 ∧ pm_sm t (pm_d t) + 1 ≠ pm_arg (pm_let t (pm_d t)) then some (pm_com t)
  else if c = 41 ∧ pm_d t ≠ 0 ∧ pm_sm t (pm_d t) + 1 = pm_arg (pm_let t (pm_d t)) then some (pm_cls s t)
  else if c = 58 ∧ k = 1 ∧ p0 ≠ 105 ∧ pm_one p0 then some (pm_hd t 1 0)
  else if c = 61 ∧ pm_d t = 0 ∧ pm_f t = 0 ∧ pm_e t = 0 then some (pm_hd t 0 1) else none
def pm_dig (t : pm_S) (c : Int) : pm_S := ((pm_d t, 1, pm_f t, pm_e t), t.2.1, (pm_let t, pm_sm t, fn_up (pm_of t) (pm_d t) (pm_of t (pm_d t) * (c - 48)), pm_pl t), t.2.2.2)
def pm_ww (t : pm_S) (w : Nat) : pm_S := ((pm_d t, w, pm_f t, pm_e t), t.2)
def pm_step (s : sp_S) (t : pm_S) (p0 c : Int) (k : Nat) : Option pm_S :=
  if pm_w t = 0 then (if 48 ≤ c ∧ c ≤ 57 then some (pm_dig t c) else pm_fac s t c k)
  else if pm_w t = 1 then (if c = 42 then some (pm_ww t 2) else none)
  else if pm_w t = 2 then pm_fac s t c k
  else if pm_w t = 3 then (if c = 40 then some (pm_ww t 0) else none)
  else pm_beh s t p0 c k
/-- what a step answers, and leaves -/
def pr_S (s : sp_S) (M : gx_M) (o : Option pm_S) (z : Int) (M' : gx_M) : Prop :=
  (match o with | some t' => z = 1 ∧ pr_R (s.1 82) t' M' ∧ (pm_w t' = 4 → pr_U s M') | none => z = 0) ∧ gm_X M M'
theorem pr_Sz {s : sp_S} {M M' : gx_M} {o : Option pm_S} {z : Int} (h : pr_S s M o z M') : z = 0 ∨ z = 1 := by
  cases o with
  | none => exact Or.inl h.1
  | some t' => exact Or.inr h.1.1

/-- changes of what is wanted alone -/
theorem pr_Rw {m : Int} {t : pm_S} {M : gx_M} (h : pr_R m t M) {w : Nat} (hw : w = 0 ∨ w = 3 → pm_w t = 0 ∨ pm_w t = 3) : pr_R m (pm_ww t w) (gx_u M 0 15 w) := by
  obtain ⟨h1, h2, h3, h4, h5, h6, h7, h8, h9⟩ := h
  have k0 : ∀ j, j ≠ 15 → gx_u M 0 15 (w : Int) 0 j = M 0 j := fun j a => gx_u_ne (by omega)
  have kc : ∀ c', c' ≠ 0 → gx_u M 0 15 (w : Int) c' = M c' := fun c' a => gx_u_nc a
  exact ⟨by rw [k0 14 (by decide)]; exact h1, gx_u_eq _ _ _ _, by rw [k0 16 (by decide), k0 17 (by decide)]; exact h3, by rw [k0 18 (by decide), k0 19 (by decide)]; exact h4, fun i a b => by rw [kc 8 (by decide), kc 11 (by decide)]; exact h5 i a b, fun i a => by rw [kc 9 (by decide), kc 10 (by decide), kc 6 (by decide)]; exact h6 i a, fun a => by rw [kc 6 (by decide)]; exact h7 a, h8, fun q => h9 (hw q)⟩
/-- the reading, from its start -/
def pm_t0 : pm_S := ((0, 0, 0, 0), (-6, 1), (fun _ => 0, fun _ => 0, fun _ => 1, fun _ => 0), (fun _ _ _ => 0, fun _ => 0))
def pm_run (s : sp_S) : Nat → Option pm_S
  | 0 => some pm_t0
  | k + 1 => (pm_run s k).bind (fun t => pm_step s t (s.2.2.2.2 0) (s.2.2.2.2 k) k)
theorem pm_fac_d {s : sp_S} {t t' : pm_S} {c : Int} {k : Nat} (h : pm_fac s t c k = some t') : pm_d t' ≤ pm_d t + 1 ∧ pm_w t' ≤ 4 := by
  unfold pm_fac at h
  split at h
  · cases h
    exact ⟨Nat.le_succ _, Nat.le_refl _⟩
  · split at h
    · cases h
      refine ⟨Nat.le_refl _, ?_⟩
      show (if c = 40 then 0 else 3) ≤ 4
      split <;> omega
    · cases h
theorem pm_step_d {s : sp_S} {t t' : pm_S} {p0 c : Int} {k : Nat} (h : pm_step s t p0 c k = some t') : pm_d t' ≤ pm_d t + 1 ∧ pm_w t' ≤ 4 := by
  unfold pm_step at h
  split at h
  · split at h
    · cases h
      exact ⟨Nat.le_succ _, by show 1 ≤ 4; omega⟩
    · exact pm_fac_d h
  · split at h
    · split at h
      · cases h
        exact ⟨Nat.le_succ _, by show 2 ≤ 4; omega⟩
      · cases h
    · split at h
      · exact pm_fac_d h
      · split at h
        · split at h
          · cases h
            exact ⟨Nat.le_succ _, by show 0 ≤ 4; omega⟩
          · cases h
        · unfold pm_beh at h
          split at h
          · cases h
            exact ⟨Nat.le_succ _, by show 0 ≤ 4; omega⟩
          · split at h
            · cases h
              exact ⟨Nat.le_succ _, by show 0 ≤ 4; omega⟩
            · split at h
              · cases h
                exact ⟨by show pm_d t - 1 ≤ pm_d t + 1; omega, Nat.le_refl _⟩
              · split at h
                · cases h
                  exact ⟨Nat.le_succ _, by show 0 ≤ 4; omega⟩
                · split at h
                  · cases h
                    exact ⟨Nat.le_succ _, by show 0 ≤ 4; omega⟩
                  · cases h
theorem pm_run_d {s : sp_S} : ∀ k t, pm_run s k = some t → pm_d t ≤ k ∧ pm_w t ≤ 4
  | 0, t, h => by
    have h : some pm_t0 = some t := h
    cases h
    exact ⟨Nat.le_refl _, Nat.zero_le _⟩
  | k + 1, t, h => by
    have h : (pm_run s k).bind (fun t => pm_step s t (s.2.2.2.2 0) (s.2.2.2.2 k) k) = some t := h
    cases e : pm_run s k with
    | none => rw [e] at h; cases h
    | some u =>
      rw [e] at h
      have h1 := pm_run_d k u e
      have h2 := pm_step_d (show pm_step s u (s.2.2.2.2 0) (s.2.2.2.2 k) k = some t from h)
      exact ⟨by omega, h2.2⟩
theorem pm_run_1 {s : sp_S} {t : pm_S} (h : pm_run s 1 = some t) (h1 : pm_one (s.2.2.2.2 0)) : pm_d t = 0 := by
  have h : pm_step s pm_t0 (s.2.2.2.2 0) (s.2.2.2.2 0) 0 = some t := h
  unfold pm_step at h
  rw [if_pos (show pm_w pm_t0 = 0 from rfl), if_neg (by omega)] at h
  unfold pm_fac at h
  rw [if_pos h1] at h
  cases h
  rfl
def pm_good (t : pm_S) : Prop := pm_w t = 4 ∧ pm_d t = 0 ∧ (pm_f t = 1 ∨ pm_e t = 1)
/-- the fault of the text, -6 if there is none -/
def pm_flt (s : sp_S) (z : Int) : Prop :=
  (∃ k t, k < s.2.2.2.1 ∧ pm_run s k = some t ∧ pm_run s (k + 1) = none ∧ z = (k : Int)) ∨ (∃ t, pm_run s s.2.2.2.1 = some t ∧ ((pm_good t ∧ z = -6) ∨ (¬ pm_good t ∧ z = s.2.2.2.1)))

theorem pm_flt_u {s : sp_S} {z w : Int} (h : pm_flt s z) (g : pm_flt s w) : z = w := by
  have up : ∀ k, pm_run s k = none → pm_run s (k + 1) = none := fun k hk => by
    show (pm_run s k).bind _ = none
    rw [hk]
    rfl
  have upn : ∀ j k, pm_run s k = none → pm_run s (k + j) = none := fun j => by
    induction j with
    | zero => exact fun k hk => hk
    | succ j ih => exact fun k hk => up _ (ih k hk)
  rcases h with ⟨k, t, h1, h2, h3, h4⟩ | ⟨t, h1, h2⟩ <;> rcases g with ⟨j, u, g1, g2, g3, g4⟩ | ⟨u, g1, g2⟩
  · rcases Nat.lt_trichotomy k j with q | q | q
    · have := upn (j - (k + 1)) (k + 1) h3
      rw [show k + 1 + (j - (k + 1)) = j by omega, g2] at this
      cases this
    · rw [h4, g4, q]
    · have := upn (k - (j + 1)) (j + 1) g3
      rw [show j + 1 + (k - (j + 1)) = k by omega, h2] at this
      cases this
  · have := upn (s.2.2.2.1 - (k + 1)) (k + 1) h3
    rw [show k + 1 + (s.2.2.2.1 - (k + 1)) = s.2.2.2.1 by omega, g1] at this
    cases this
  · have := upn (s.2.2.2.1 - (j + 1)) (j + 1) g3
    rw [show j + 1 + (s.2.2.2.1 - (j + 1)) = s.2.2.2.1 by omega, h1] at this
    cases this
  · rw [h1] at g1
    cases g1
    rcases h2 with ⟨a, h2⟩ | ⟨a, h2⟩ <;> rcases g2 with ⟨b, g2⟩ | ⟨b, g2⟩
    · rw [h2, g2]
    · exact absurd a b
    · exact absurd b a
    · rw [h2, g2]
/-- the text has no fault: its reading -/
def pm_fin (s : sp_S) (t : pm_S) : Prop := pm_run s s.2.2.2.1 = some t ∧ pm_good t
theorem pm_flt_f {s : sp_S} {t : pm_S} (h : pm_fin s t) : pm_flt s (-6) := Or.inr ⟨t, h.1, Or.inl ⟨h.2, rfl⟩⟩
def sp_emp (s : sp_S) : sp_S := (s.1, s.2.1, s.2.2.1, (0, s.2.2.2.2))
def sp_run (s : sp_S) (z : Int) (s' : sp_S) : Prop :=
  (¬ pm_flt s (-6) ∧ z = -3 ∧ s' = s) ∨ ∃ t, pm_fin s t ∧ (if pm_f t = 1 ∧ pm_stop t = -6 then z = s.2.2.2.2 0 - 65 ∧ s' = sp_emp (sp_push s (zs_put s.1 (9 * (s.2.2.2.2 0 - 65).toNat) (pm_P t 0 0))) else z = -5 ∧ s' = s)
def sp_holds (s : sp_S) (z : Int) : Prop :=
  (¬ pm_flt s (-6) ∧ z = -3) ∨ ∃ t, pm_fin s t ∧ (if pm_f t = 1 ∨ pm_stop t ≠ -6 then z = -5 else (z = 0 ∨ z = 1) ∧ (z = 1 ↔ pm_L t = pm_P t 0 0))
def sp_stops (s : sp_S) (z : Int) : Prop :=
  (¬ pm_flt s (-6) ∧ z = -3) ∨ ∃ t, pm_fin s t ∧ z = pm_stop t
theorem pm_no {s : sp_S} {z : Int} (h : pm_flt s z) (hz : z ≠ -6) : ¬ pm_flt s (-6) := fun g => hz (pm_flt_u h g)
theorem pm_flt_3 {s : sp_S} (hs : sp_ok s) {z : Int} (h : pm_flt s z) : gx_3 z := by
  have := hs.2.2.2.2.2.1
  unfold gx_3
  rcases h with ⟨k, t, h1, h2, h3, h4⟩ | ⟨t, h1, ⟨h2, h3⟩ | ⟨h2, h3⟩⟩ <;> omega
/-- a formula begins with a register's letter -/
theorem pm_beh_f {s : sp_S} {t t' : pm_S} {p0 c : Int} {k : Nat} (h : pm_step s t p0 c k = some t') : pm_f t' = pm_f t ∨ pm_f t' = 0 ∨ (p0 ≠ 105 ∧ pm_one p0) := by
  have hfac : ∀ {t t' : pm_S}, pm_fac s t c k = some t' → pm_f t' = pm_f t := fun {t t'} h => by
    unfold pm_fac at h
    split at h
    · cases h; rfl
    · split at h
      · cases h; rfl
      · cases h
  unfold pm_step at h
  split at h
  · split at h
    · cases h; exact Or.inl rfl
    · exact Or.inl (hfac h)
  · split at h
    · split at h
      · cases h; exact Or.inl rfl
      · cases h
    · split at h
      · exact Or.inl (hfac h)
      · split at h
        · split at h
          · cases h; exact Or.inl rfl
          · cases h
        · unfold pm_beh at h
          split at h
          · cases h; exact Or.inl rfl
          · split at h
            · cases h; exact Or.inl rfl
            · split at h
              · cases h; exact Or.inl rfl
              · split at h
                · next q => exact Or.inr (Or.inr ⟨q.2.2.1, q.2.2.2⟩)
                · split at h
                  · cases h; exact Or.inr (Or.inl rfl)
                  · cases h
theorem pm_run_f {s : sp_S} : ∀ k t, pm_run s k = some t → pm_f t = 1 → s.2.2.2.2 0 ≠ 105 ∧ pm_one (s.2.2.2.2 0)
  | 0, t, h, hf => by
    have h : some pm_t0 = some t := h
    cases h
    exact absurd (show (0 : Int) = 1 from hf) (by decide)
  | k + 1, t, h, hf => by
    have h : (pm_run s k).bind (fun t => pm_step s t (s.2.2.2.2 0) (s.2.2.2.2 k) k) = some t := h
    cases e : pm_run s k with
    | none => rw [e] at h; cases h
    | some u =>
      rw [e] at h
      rcases pm_beh_f (show pm_step s u (s.2.2.2.2 0) (s.2.2.2.2 k) k = some t from h) with q | q | q
      · exact pm_run_f k u e (by rw [← q]; exact hf)
      · omega
      · exact q
def sp_wipe (s : sp_S) (z : Int) (s' : sp_S) : Prop := z = s.2.2.2.1 ∧ s' = sp_emp s

/-- a long by its 64 bits -/
def gl_l (N : Nat) : Int64 := (UInt64.ofNat N).toInt64
theorem gl_of (x : Int64) : ∃ N, N < 18446744073709551616 ∧ x = gl_l N := ⟨x.toUInt64.toNat, x.toUInt64.toNat_lt, by
  unfold gl_l
  rw [UInt64.ofNat_toNat]
  rfl⟩
theorem gl_sh0 : ∀ k : Fin 64, (gx_i (k.val : Int)).toInt64.toUInt64 &&& Int64.toUInt64 63 = UInt64.ofNat k.val := by decide +kernel
theorem gl_sh {N k : Nat} (hN : N < 18446744073709551616) (hk : k < 64) : ((gl_l N).toUInt64 >>> ((gx_i (k : Int)).toInt64.toUInt64 &&& Int64.toUInt64 63)).toInt64 = gl_l (N / 2 ^ k) := by
  rw [gl_sh0 ⟨k, hk⟩]
  unfold gl_l
  congr 1
  apply UInt64.toNat_inj.mp
  rw [UInt64.toNat_shiftRight, UInt64.toUInt64_toInt64, UInt64.toNat_ofNat', UInt64.toNat_ofNat', UInt64.toNat_ofNat']
  have h1 : N / 2 ^ k ≤ N := Nat.div_le_self _ _
  show (N % 18446744073709551616) >>> (k % 18446744073709551616 % 64) = N / 2 ^ k % 18446744073709551616
  rw [Nat.mod_eq_of_lt hN, Nat.mod_eq_of_lt (show k < 18446744073709551616 by omega), Nat.mod_eq_of_lt hk, Nat.mod_eq_of_lt (show N / 2 ^ k < 18446744073709551616 by omega), Nat.shiftRight_eq_div_pow]
theorem gl_and {N : Nat} (hN : N < 18446744073709551616) : gl_l N &&& 255 = gl_l (N % 256) := by
  apply Int64.toBitVec_inj.mp
  show (BitVec.ofNat 64 N &&& 255#64) = BitVec.ofNat 64 (N % 256)
  apply BitVec.eq_of_toNat_eq
  rw [BitVec.toNat_and, BitVec.toNat_ofNat, BitVec.toNat_ofNat]
  have h1 : N % 256 < 18446744073709551616 := by omega
  show N % 18446744073709551616 &&& 255 = N % 256 % 18446744073709551616
  rw [Nat.mod_eq_of_lt hN, Nat.mod_eq_of_lt h1]
  exact Nat.and_two_pow_sub_one_eq_mod N 8
theorem gl_i0 : ∀ b : Fin 256, (gl_l b.val).toInt32 = gx_i (b.val : Int) := by decide +kernel
theorem gl_c0 : ∀ b : Fin 256, ((gx_i (b.val : Int)).toUInt32 % 65536).toInt32 = gx_i (b.val : Int) := by decide +kernel
theorem gl_cmp {N : Nat} (hN : N < 18446744073709551616) : ∃ z : Int, lg_cmp (gl_l N) (Int64.ofNat 0) = gx_i z ∧ -1 ≤ z ∧ z ≤ 1 ∧ (z = 0 ↔ N = 0) := by
  have h0 : gl_l N = Int64.ofNat 0 ↔ N = 0 := by
    constructor
    · intro h
      have h1 : (UInt64.ofNat N) = UInt64.ofNat 0 := congrArg Int64.toUInt64 h
      have h2 := congrArg UInt64.toNat h1
      rw [UInt64.toNat_ofNat', UInt64.toNat_ofNat'] at h2
      have h2 : N % 18446744073709551616 = 0 := h2
      omega
    · rintro rfl
      rfl
  unfold lg_cmp
  by_cases h1 : gl_l N > Int64.ofNat 0
  · rw [if_pos h1]
    refine ⟨1, rfl, by decide, by decide, ⟨fun h => absurd h (by decide), fun h => ?_⟩⟩
    rw [h0.mpr h] at h1
    exact absurd h1 (by decide)
  · rw [if_neg h1]
    by_cases h2 : gl_l N = Int64.ofNat 0
    · rw [if_pos h2]
      exact ⟨0, rfl, by decide, by decide, ⟨fun _ => h0.mp h2, fun _ => rfl⟩⟩
    · rw [if_neg h2]
      exact ⟨-1, rfl, by decide, by decide, ⟨fun h => absurd h (by decide), fun h => absurd (h0.mpr h) h2⟩⟩
/-- the sign at the place j from the right -/
def pt_b (N j : Nat) : Nat := N / 256 ^ j % 256
/-- a number of n signs -/
def pt_ok (N n : Nat) : Prop := 1 ≤ n ∧ n ≤ 8 ∧ N / 256 ^ n = 0 ∧ ∀ j, j < n → 33 ≤ pt_b N j ∧ pt_b N j ≤ 126
theorem pt_ok_u {N n k : Nat} (h : pt_ok N n) (g : pt_ok N k) : n = k := by
  have key : ∀ {n k : Nat}, pt_ok N n → pt_ok N k → n ≤ k := fun {n k} h g => by
    rcases Nat.lt_or_ge k n with q | q
    · exfalso
      have h1 := (h.2.2.2 k q).1
      unfold pt_b at h1
      rw [g.2.2.1] at h1
      omega
    · exact q
  exact Nat.le_antisymm (key h g) (key g h)
def sp_put (s : sp_S) (N : Nat) (z : Int) (s' : sp_S) : Prop :=
  (∃ n, pt_ok N n ∧ (if 60 < s.2.2.2.1 + n then z = -4 ∧ s' = s else z = ((s.2.2.2.1 + n : Nat) : Int) ∧ s' = (s.1, s.2.1, s.2.2.1, (s.2.2.2.1 + n, fun i => if i < s.2.2.2.1 then s.2.2.2.2 i else ((pt_b N (n - 1 - (i - s.2.2.2.1)) : Nat) : Int))))) ∨ ((¬ ∃ n, pt_ok N n) ∧ z = -2 ∧ s' = s)
theorem pt_div {N k : Nat} : N / 256 ^ k / 256 = N / 256 ^ (k + 1) := by rw [Nat.div_div_eq_div_mul, Nat.pow_succ]
theorem pt_2 (k : Nat) : (2 : Nat) ^ (8 * k) = 256 ^ k := by rw [Nat.pow_mul]
theorem pt_no {N j : Nat} (h : N / 256 ^ j ≠ 0) (hb : ¬(33 ≤ pt_b N j ∧ pt_b N j ≤ 126)) : ¬ ∃ n, pt_ok N n := fun ⟨n, g⟩ => by
  rcases Nat.lt_or_ge j n with q | q
  · exact hb (g.2.2.2 j q)
  · have h1 : N / 256 ^ j ≤ N / 256 ^ n := Nat.div_le_div_left (Nat.pow_le_pow_right (by decide) q) (Nat.pow_pos (by decide))
    rw [g.2.2.1] at h1
    exact h (Nat.le_zero.mp h1)

/-! THE CLASS: its cells, from 12 on -/
def gd_L : List gx_K := [.inl (7, [some 13, some 14, some 15, some 16, some 17, some 18]), .inl (0, [some 46, some 19, some 25, some 29, some 30, some 31, some 32, some 33, some 34, some 35, some 36]), .inl (3, [some 41, none, some 42, none, none, none, none]), .inl (4, [some 43, none, some 44]), .inl (2, [some 45, none, none]), .inr (4, 2, 58, 12), .inr (2, 2, 0, 0), .inl (5, [some 20, none, none]), .inr (3, 4, 21, 1), .inr (0, 9, 0, 0), .inr (0, 9, 0, 0), .inr (0, 9, 0, 0), .inr (0, 9, 0, 0), .inr (3, 3, 26, 1), .inr (0, 9, 0, 0), .inr (0, 9, 0, 0), .inr (0, 9, 0, 0), .inr (0, 9, 0, 0), .inr (0, 9, 0, 0), .inr (0, 9, 0, 0), .inr (0, 9, 0, 0), .inr (0, 9, 0, 0), .inr (0, 9, 0, 0), .inr (0, 9, 0, 0), .inr (3, 4, 37, 1), .inr (0, 9, 0, 0), .inr (0, 9, 0, 0), .inr (0, 9, 0, 0), .inr (0, 9, 0, 0), .inr (1, 60, 0, 0), .inr (0, 60, 0, 0), .inr (5, 30, 154, 4), .inr (0, 9, 0, 0), .inr (4, 6, 82, 12), .inl (6, [none, none, some 47]), .inr (3, 10, 48, 1), .inr (0, 9, 0, 0), .inr (0, 9, 0, 0), .inr (0, 9, 0, 0), .inr (0, 9, 0, 0), .inr (0, 9, 0, 0), .inr (0, 9, 0, 0), .inr (0, 9, 0, 0), .inr (0, 9, 0, 0), .inr (0, 9, 0, 0), .inr (0, 9, 0, 0), .inl (6, [none, none, some 59]), .inr (3, 10, 60, 1), .inr (0, 9, 0, 0), .inr (0, 9, 0, 0), .inr (0, 9, 0, 0), .inr (0, 9, 0, 0), .inr (0, 9, 0, 0), .inr (0, 9, 0, 0), .inr (0, 9, 0, 0), .inr (0, 9, 0, 0), .inr (0, 9, 0, 0), .inr (0, 9, 0, 0), .inl (6, [none, none, some 71]), .inr (3, 10, 72, 1), .inr (0, 9, 0, 0), .inr (0, 9, 0, 0), .inr (0, 9, 0, 0), .inr (0, 9, 0, 0), .inr (0, 9, 0, 0), .inr (0, 9, 0, 0), .inr (0, 9, 0, 0), .inr (0, 9, 0, 0), .inr (0, 9, 0, 0), .inr (0, 9, 0, 0), .inl (6, [none, none, some 83]), .inr (3, 10, 84, 1), .inr (0, 9, 0, 0), .inr (0, 9, 0, 0), .inr (0, 9, 0, 0), .inr (0, 9, 0, 0), .inr (0, 9, 0, 0), .inr (0, 9, 0, 0), .inr (0, 9, 0, 0), .inr (0, 9, 0, 0), .inr (0, 9, 0, 0), .inr (0, 9, 0, 0), .inl (6, [none, none, some 95]), .inr (3, 10, 96, 1), .inr (0, 9, 0, 0), .inr (0, 9, 0, 0), .inr (0, 9, 0, 0), .inr (0, 9, 0, 0), .inr (0, 9, 0, 0), .inr (0, 9, 0, 0), .inr (0, 9, 0, 0), .inr (0, 9, 0, 0), .inr (0, 9, 0, 0), .inr (0, 9, 0, 0), .inl (6, [none, none, some 107]), .inr (3, 10, 108, 1), .inr (0, 9, 0, 0), .inr (0, 9, 0, 0), .inr (0, 9, 0, 0), .inr (0, 9, 0, 0), .inr (0, 9, 0, 0), .inr (0, 9, 0, 0), .inr (0, 9, 0, 0), .inr (0, 9, 0, 0), .inr (0, 9, 0, 0), .inr (0, 9, 0, 0), .inl (6, [none, none, some 119]), .inr (3, 10, 120, 1), .inr (0, 9, 0, 0), .inr (0, 9, 0, 0), .inr (0, 9, 0, 0), .inr (0, 9, 0, 0), .inr (0, 9, 0, 0), .inr (0, 9, 0, 0), .inr (0, 9, 0, 0), .inr (0, 9, 0, 0), .inr (0, 9, 0, 0), .inr (0, 9, 0, 0), .inl (6, [none, none, some 131]), .inr (3, 10, 132, 1), .inr (0, 9, 0, 0), .inr (0, 9, 0, 0), .inr (0, 9, 0, 0), .inr (0, 9, 0, 0), .inr (0, 9, 0, 0), .inr (0, 9, 0, 0), .inr (0, 9, 0, 0), .inr (0, 9, 0, 0), .inr (0, 9, 0, 0), .inr (0, 9, 0, 0), .inl (6, [none, none, some 143]), .inr (3, 10, 144, 1), .inr (0, 9, 0, 0), .inr (0, 9, 0, 0), .inr (0, 9, 0, 0), .inr (0, 9, 0, 0), .inr (0, 9, 0, 0), .inr (0, 9, 0, 0), .inr (0, 9, 0, 0), .inr (0, 9, 0, 0), .inr (0, 9, 0, 0), .inr (0, 9, 0, 0), .inl (1, [some 155, some 156, some 157, none, none, none, none, none]), .inr (0, 9, 0, 0), .inr (0, 9, 0, 0), .inr (0, 9, 0, 0), .inl (1, [some 159, some 160, some 161, none, none, none, none, none]), .inr (0, 9, 0, 0), .inr (0, 9, 0, 0), .inr (0, 9, 0, 0), .inl (1, [some 163, some 164, some 165, none, none, none, none, none]), .inr (0, 9, 0, 0), .inr (0, 9, 0, 0), .inr (0, 9, 0, 0), .inl (1, [some 167, some 168, some 169, none, none, none, none, none]), .inr (0, 9, 0, 0), .inr (0, 9, 0, 0), .inr (0, 9, 0, 0), .inl (1, [some 171, some 172, some 173, none, none, none, none, none]), .inr (0, 9, 0, 0), .inr (0, 9, 0, 0), .inr (0, 9, 0, 0), .inl (1, [some 175, some 176, some 177, none, none, none, none, none]), .inr (0, 9, 0, 0), .inr (0, 9, 0, 0), .inr (0, 9, 0, 0), .inl (1, [some 179, some 180, some 181, none, none, none, none, none]), .inr (0, 9, 0, 0), .inr (0, 9, 0, 0), .inr (0, 9, 0, 0), .inl (1, [some 183, some 184, some 185, none, none, none, none, none]), .inr (0, 9, 0, 0), .inr (0, 9, 0, 0), .inr (0, 9, 0, 0), .inl (1, [some 187, some 188, some 189, none, none, none, none, none]), .inr (0, 9, 0, 0), .inr (0, 9, 0, 0), .inr (0, 9, 0, 0), .inl (1, [some 191, some 192, some 193, none, none, none, none, none]), .inr (0, 9, 0, 0), .inr (0, 9, 0, 0), .inr (0, 9, 0, 0), .inl (1, [some 195, some 196, some 197, none, none, none, none, none]), .inr (0, 9, 0, 0), .inr (0, 9, 0, 0), .inr (0, 9, 0, 0), .inl (1, [some 199, some 200, some 201, none, none, none, none, none]), .inr (0, 9, 0, 0), .inr (0, 9, 0, 0), .inr (0, 9, 0, 0), .inl (1, [some 203, some 204, some 205, none, none, none, none, none]), .inr (0, 9, 0, 0), .inr (0, 9, 0, 0), .inr (0, 9, 0, 0), .inl (1, [some 207, some 208, some 209, none, none, none, none, none]), .inr (0, 9, 0, 0), .inr (0, 9, 0, 0), .inr (0, 9, 0, 0), .inl (1, [some 211, some 212, some 213, none, none, none, none, none]), .inr (0, 9, 0, 0), .inr (0, 9, 0, 0), .inr (0, 9, 0, 0), .inl (1, [some 215, some 216, some 217, none, none, none, none, none]), .inr (0, 9, 0, 0), .inr (0, 9, 0, 0), .inr (0, 9, 0, 0), .inl (1, [some 219, some 220, some 221, none, none, none, none, none]), .inr (0, 9, 0, 0), .inr (0, 9, 0, 0), .inr (0, 9, 0, 0), .inl (1, [some 223, some 224, some 225, none, none, none, none, none]), .inr (0, 9, 0, 0), .inr (0, 9, 0, 0), .inr (0, 9, 0, 0), .inl (1, [some 227, some 228, some 229, none, none, none, none, none]), .inr (0, 9, 0, 0), .inr (0, 9, 0, 0), .inr (0, 9, 0, 0), .inl (1, [some 231, some 232, some 233, none, none, none, none, none]), .inr (0, 9, 0, 0), .inr (0, 9, 0, 0), .inr (0, 9, 0, 0), .inl (1, [some 235, some 236, some 237, none, none, none, none, none]), .inr (0, 9, 0, 0), .inr (0, 9, 0, 0), .inr (0, 9, 0, 0), .inl (1, [some 239, some 240, some 241, none, none, none, none, none]), .inr (0, 9, 0, 0), .inr (0, 9, 0, 0), .inr (0, 9, 0, 0), .inl (1, [some 243, some 244, some 245, none, none, none, none, none]), .inr (0, 9, 0, 0), .inr (0, 9, 0, 0), .inr (0, 9, 0, 0), .inl (1, [some 247, some 248, some 249, none, none, none, none, none]), .inr (0, 9, 0, 0), .inr (0, 9, 0, 0), .inr (0, 9, 0, 0), .inl (1, [some 251, some 252, some 253, none, none, none, none, none]), .inr (0, 9, 0, 0), .inr (0, 9, 0, 0), .inr (0, 9, 0, 0), .inl (1, [some 255, some 256, some 257, none, none, none, none, none]), .inr (0, 9, 0, 0), .inr (0, 9, 0, 0), .inr (0, 9, 0, 0), .inl (1, [some 259, some 260, some 261, none, none, none, none, none]), .inr (0, 9, 0, 0), .inr (0, 9, 0, 0), .inr (0, 9, 0, 0), .inl (1, [some 263, some 264, some 265, none, none, none, none, none]), .inr (0, 9, 0, 0), .inr (0, 9, 0, 0), .inr (0, 9, 0, 0), .inl (1, [some 267, some 268, some 269, none, none, none, none, none]), .inr (0, 9, 0, 0), .inr (0, 9, 0, 0), .inr (0, 9, 0, 0), .inl (1, [some 271, some 272, some 273, none, none, none, none, none]), .inr (0, 9, 0, 0), .inr (0, 9, 0, 0), .inr (0, 9, 0, 0)]

theorem mx_rem {x m : Int} (hm : 0 < m) : (if x.tmod m < 0 then x.tmod m + m else x.tmod m) = x % m := by
  have h1 := Int.lt_tmod_of_pos x hm
  have h2 := Int.tmod_lt_of_pos x hm
  have h3 : (x.tmod m) % m = x % m := by rw [Int.tmod_def, Int.sub_mul_emod_self_left]
  split
  · rw [← h3, ← Int.add_emod_right, Int.emod_eq_of_lt (by omega) (by omega)]
  · rw [← h3, Int.emod_eq_of_lt (by omega) h2]
theorem mx_of_0 {M : gx_M} {b k : Nat} (hk : k < 9) : M b (((k : Int)).toNat) = mx_of (M b) 0 k := by
  rw [mx_of_at hk, Nat.zero_add]
  rfl
def mx_pe (w r t : Int) : Int := if w = 1 then r * t else if w = 2 then r * (r + 1) / 2 else t * (t + 1) / 2

/-- the cells of a state alone have changed -/
def gd_O (c : Nat) (M M' : gx_M) : Prop := ∀ c', (c' < c ∨ c + 12 ≤ c') → M' c' = M c'
theorem mx_id_9 {n : Int} (hn : n ≤ 3) : ∀ k, 9 ≤ k → mx_id n k = 0 := fun k hk => by
  rw [mx_id_at, if_neg (by omega)]
theorem mx_of_id {M : gx_M} {b : Nat} {n : Int} (hn : n ≤ 3) : mx_of (gx_blk M b 0 9 (mx_id n) b) 0 = mx_id n := by rw [mx_of_blk, mx_cut (mx_id_9 hn)]

/-- a row of the rows -/
def rw_of (M : gx_M) (i : Nat) : Nat → Int := mx_of (M (21 + 1 * i)) 0
theorem rw_at {M : gx_M} {i k : Nat} (hk : k < 9) : M (21 + 1 * i) k = rw_of M i k := by
  unfold rw_of
  rw [mx_of_at hk, Nat.zero_add]
theorem rw_nat {M : gx_M} {i k : Nat} (hk : k < 9) : M (21 + 1 * i) (((k : Int)).toNat) = rw_of M i k := rw_at hk
/-- a row written anew -/
def rw_set (M : gx_M) (i : Nat) (f : Nat → Int) : gx_M := gx_blk M (21 + 1 * i) 0 9 f
theorem rw_set_eq {M : gx_M} {i : Nat} {f : Nat → Int} (h : ∀ k, 9 ≤ k → f k = 0) : rw_of (rw_set M i f) i = f := by
  unfold rw_of rw_set
  rw [mx_of_blk, mx_cut h]
theorem rw_set_ne {M : gx_M} {i j : Nat} {f : Nat → Int} (h : j ≠ i) : rw_of (rw_set M i f) j = rw_of M j := by
  unfold rw_of rw_set
  rw [gx_blk_nc (by omega)]
/-- a row of an element, and one of the identity matrix -/
def rw_ld (n : Int) (a : Nat → Int) (r : Nat) : Nat → Int := fun k => if k < 3 then a (3 * r + k) else if k < 6 then (if r = k - 3 ∧ (r : Int) < n then 1 else 0) else 0
theorem rw_ld_9 {n : Int} {a : Nat → Int} {r : Nat} : ∀ k, 9 ≤ k → rw_ld n a r k = 0 := fun k hk => by
  unfold rw_ld
  rw [if_neg (by omega), if_neg (by omega)]
theorem gx_u_blk {M : gx_M} {c k : Nat} {v : Int} {f : Nat → Int} (hk : k < 9) : gx_u (gx_blk M c 0 9 f) c k v = gx_blk M c 0 9 (fun i => if i = k then v else f i) := by
  have := gx_blk_u (M := M) (c := c) (o := 0) (f := f) (v := v) hk
  rwa [Nat.zero_add] at this
theorem gx_blk_self {M : gx_M} {c : Nat} : gx_blk M c 0 9 (mx_of (M c) 0) = M := by
  funext c' j
  unfold gx_blk
  by_cases e : c' = c
  · subst e
    rw [if_pos rfl]
    by_cases e2 : 0 ≤ j ∧ j < 0 + 9
    · show (if 0 ≤ j ∧ j < 0 + 9 then _ else _) = _
      rw [if_pos e2, mx_of_at (by omega), Nat.zero_add, Nat.sub_zero]
    · show (if 0 ≤ j ∧ j < 0 + 9 then _ else _) = _
      rw [if_neg e2]
  · rw [if_neg e]
theorem gx_blk_blk {M : gx_M} {c : Nat} {f g : Nat → Int} : gx_blk (gx_blk M c 0 9 f) c 0 9 g = gx_blk M c 0 9 g := by
  funext c' j
  by_cases e : c' = c
  · subst e
    by_cases e2 : j < 9
    · rw [gx_b0 e2, gx_b0 e2]
    · rw [gx_blk_out (by omega), gx_blk_out (by omega), gx_blk_out (by omega)]
  · rw [gx_blk_nc e, gx_blk_nc e, gx_blk_nc e]

/-- the rows, their modulus, the product of the pivots -/
def rr_R (m : Int) (q : (Nat → Nat → Int) × Int) (M : gx_M) : Prop := M 19 1 = m ∧ M 19 2 = q.2 ∧ ∀ i, i < 4 → rw_of M i = q.1 i
theorem gx_u_com {M : gx_M} {a b k : Nat} {v : Int} {f : Nat → Int} (h : a ≠ b) : gx_u (gx_blk M b 0 9 f) a k v = gx_blk (gx_u M a k v) b 0 9 f := by
  funext c' j
  by_cases e : c' = b
  · subst e
    rw [gx_u_nc (Ne.symm h)]
    by_cases e2 : j < 9
    · rw [gx_b0 e2, gx_b0 e2]
    · rw [gx_blk_out (by omega), gx_blk_out (by omega), gx_u_nc (Ne.symm h)]
  · rw [gx_blk_nc e]
    by_cases e3 : c' = a
    · subst e3
      rw [gx_u_at, gx_u_at, gx_blk_nc e]
    · rw [gx_u_nc e3, gx_u_nc e3, gx_blk_nc e]
def rr_O (M M' : gx_M) : Prop := ∀ c', (c' < 19 ∨ 25 ≤ c') → M' c' = M c'
def rr_ok (m : Int) (R : Nat → Nat → Int) : Prop := ∀ i, i < 4 → mx_ok m (R i) ∧ ∀ k, 9 ≤ k → R i k = 0
theorem rr_Ot {M M1 M2 : gx_M} (h1 : rr_O M M1) (h2 : rr_O M1 M2) : rr_O M M2 := fun c h => (h2 c h).trans (h1 c h)
/-- the least row from k on that isn't 0 there, 4 if there is none -/
def rr_fd (R : Nat → Nat → Int) (c a f : Nat) : Prop := a ≤ f ∧ f ≤ 4 ∧ (∀ j, a ≤ j → j < f → R j c = 0) ∧ (f < 4 → R f c ≠ 0)
def rr_ex (R : Nat → Nat → Int) (a b : Nat) : Nat → Nat → Int := fun i => if i = a then R b else if i = b then R a else R i
def rr_iv (p m : Int) : Nat → Int
  | 0 => 0
  | k + 1 => if p * ((k + 1 : Nat) : Int) % m = 1 then ((k + 1 : Nat) : Int) else rr_iv p m k
def rr_one (m : Int) (R : Nat → Nat → Int) (r c : Nat) : Nat → Nat → Int := fun i => if i = r then (fun j => if j < 9 then R r j * rr_iv (R r c) m (m.toNat - 1) % m else 0) else R i
def rr_clr (m : Int) (R : Nat → Nat → Int) (r c : Nat) : Nat → Nat → Int := fun i => if i = r then R r else (fun j => if j < 9 then (R i j - R i c * R r j) % m else 0)
theorem rr_ivb {p m : Int} : ∀ k, 0 ≤ rr_iv p m k ∧ rr_iv p m k ≤ k
  | 0 => by simp [rr_iv]
  | k + 1 => by
    have := rr_ivb (p := p) (m := m) k
    unfold rr_iv
    split <;> omega
theorem rr_R1 {m : Int} {q : (Nat → Nat → Int) × Int} {M : gx_M} (h : rr_R m q M) {i : Nat} (hi : i < 4) {f : Nat → Int} (hf : ∀ k, 9 ≤ k → f k = 0) : rr_R m ((fun j => if j = i then f else q.1 j), q.2) (rw_set M i f) := by
  obtain ⟨h1, h2, h3⟩ := h
  refine ⟨by unfold rw_set; rw [gx_blk_nc (by omega)]; exact h1, by unfold rw_set; rw [gx_blk_nc (by omega)]; exact h2, fun j hj => ?_⟩
  show _ = if j = i then f else q.1 j
  by_cases e : j = i
  · rw [if_pos e, e]
    exact rw_set_eq hf
  · rw [if_neg e, rw_set_ne e]
    exact h3 j hj
theorem rr_O1 {M : gx_M} {i : Nat} (hi : i < 4) {f : Nat → Int} : rr_O M (rw_set M i f) := fun c' hc => by
  unfold rw_set
  rw [gx_blk_nc (by omega)]

/-! the rows brought to their simplest form -/
abbrev rr_S : Type := (Nat → Nat → Int) × Int × Nat
/-- one column -/
def rr_st (m : Int) (q : rr_S) (c : Nat) (q' : rr_S) : Prop :=
  ∃ f, rr_fd q.1 c q.2.2 f ∧ ((f = 4 ∧ q' = q) ∨ (f < 4 ∧ q' = (rr_clr m (rr_one m (rr_ex q.1 f q.2.2) q.2.2 c) q.2.2 c, (if f = q.2.2 then q.2.1 else -q.2.1) * rr_ex q.1 f q.2.2 q.2.2 c % m, q.2.2 + 1)))
def rr_run (m : Int) (q : rr_S) : Nat → rr_S → Prop
  | 0, q' => q' = q
  | k + 1, q' => ∃ p, rr_run m q k p ∧ rr_st m p k q'
theorem rr_st4 {m : Int} {q : rr_S} {c : Nat} (h : q.2.2 = 4) : rr_st m q c q := ⟨4, ⟨by omega, Nat.le_refl _, fun j a b => absurd a (by omega), fun h => absurd h (by omega)⟩, Or.inl ⟨rfl, rfl⟩⟩
theorem rr_run4 {m : Int} {q0 q : rr_S} {k : Nat} (h : q.2.2 = 4) (hr : rr_run m q0 k q) : ∀ j, rr_run m q0 (k + j) q
  | 0 => hr
  | j + 1 => ⟨q, rr_run4 h hr j, rr_st4 h⟩
theorem rr_ex_ok {m : Int} {R : Nat → Nat → Int} (h : rr_ok m R) {a b : Nat} (ha : a < 4) (hb : b < 4) : rr_ok m (rr_ex R a b) := fun i hi => by
  unfold rr_ex
  by_cases e : i = a
  · rw [if_pos e]; exact h b hb
  · rw [if_neg e]
    by_cases e2 : i = b
    · rw [if_pos e2]; exact h a ha
    · rw [if_neg e2]; exact h i hi
theorem rr_one_ok {m : Int} (hm : 3 ≤ m) {R : Nat → Nat → Int} (h : rr_ok m R) {r c : Nat} : rr_ok m (rr_one m R r c) := fun i hi => by
  unfold rr_one
  by_cases e : i = r
  · rw [if_pos e]
    exact ⟨fun k hk => by
      show 0 ≤ (if k < 9 then _ else (0 : Int)) ∧ (if k < 9 then _ else (0 : Int)) < m
      rw [if_pos hk]; exact mx_md hm _, fun k hk => if_neg (by omega)⟩
  · rw [if_neg e]; exact h i hi
theorem rr_clr_ok {m : Int} (hm : 3 ≤ m) {R : Nat → Nat → Int} (h : rr_ok m R) {r c : Nat} (hr : r < 4) : rr_ok m (rr_clr m R r c) := fun i hi => by
  unfold rr_clr
  by_cases e : i = r
  · rw [if_pos e]; exact h r hr
  · rw [if_neg e]
    exact ⟨fun k hk => by
      show 0 ≤ (if k < 9 then _ else (0 : Int)) ∧ (if k < 9 then _ else (0 : Int)) < m
      rw [if_pos hk]; exact mx_md hm _, fun k hk => if_neg (by omega)⟩

theorem mx_mul3_at {m : Int} {a b : Nat → Int} {r c : Nat} (hr : r < 3) (hc : c < 3) : mx_mul 3 m a b (3 * r + c) = mx_ps a b r c 3 % m := by
  unfold mx_mul
  rw [if_pos (by omega), show (3 * r + c) / 3 = r by omega, show (3 * r + c) % 3 = c by omega]
theorem mx_of_mul3 {M : gx_M} {t : Nat} {m : Int} {a b : Nat → Int} : mx_of (gx_blk M t 0 9 (mx_mul 3 m a b) t) 0 = mx_mul 3 m a b := by rw [mx_of_blk, mx_cut mx_mul_9]
/-- half of a matrix and its transpose -/
def mx_sym (m : Int) (x : Nat → Int) : Nat → Int := fun k => if k < 9 then (if (x k + x (3 * (k % 3) + k / 3)) % 2 = 0 then x k + x (3 * (k % 3) + k / 3) else x k + x (3 * (k % 3) + k / 3) + m) / 2 % m else 0
theorem mx_sym_9 {m : Int} {x : Nat → Int} : ∀ k, 9 ≤ k → mx_sym m x k = 0 := fun k hk => if_neg (by omega)
theorem mx_sym_ok {m : Int} (h : 3 ≤ m) (x : Nat → Int) : mx_ok m (mx_sym m x) := fun k hk => by
  unfold mx_sym
  rw [if_pos hk]
  exact mx_md h _
theorem mx_of_sym {M : gx_M} {t : Nat} {m : Int} {x : Nat → Int} : mx_of (gx_blk M t 0 9 (mx_sym m x) t) 0 = mx_sym m x := by rw [mx_of_blk, mx_cut mx_sym_9]

/-! the operations, as the class has them -/
def mc_prod (m : Int) (u a b : Nat → Int) : Nat → Int := mx_sym m (mx_mul 3 m (mx_mul 3 m a u) b)
def mc_trip (m : Int) (u a b c : Nat → Int) : Nat → Int := mx_sym m (mx_mul 3 m (mx_mul 3 m (mx_mul 3 m (mx_mul 3 m a u) b) u) c)
def ga_O (t : Nat) (M M' : gx_M) : Prop := ∀ c, c ≠ 31 → c ≠ 32 → c ≠ t → M' c = M c

def rr_ld (n : Int) (a : Nat → Int) : Nat → Nat → Int := fun r => if r < 3 then rw_ld n a r else fun _ => 0
theorem rr_ld_ok {n m : Int} (hm : 3 ≤ m) {a : Nat → Int} (oa : mx_ok m a) : rr_ok m (rr_ld n a) := fun i hi => by
  unfold rr_ld
  by_cases e : i < 3
  · rw [if_pos e]
    refine ⟨fun k hk => ?_, rw_ld_9⟩
    unfold rw_ld
    by_cases e2 : k < 3
    · rw [if_pos e2]; exact oa _ (by omega)
    · rw [if_neg e2]
      split
      · split <;> omega
      · omega
  · rw [if_neg e]
    exact ⟨fun k _ => by show 0 ≤ (0 : Int) ∧ (0 : Int) < m; omega, fun _ _ => rfl⟩
theorem rr_ldr {M : gx_M} {n : Int} {a : Nat → Int} (p2 : ∀ r, r < 3 → rw_of M r = rw_ld n a r) (p3 : rw_of M 3 = fun _ => 0) : ∀ i, i < 4 → rw_of M i = rr_ld n a i := fun i hi => by
  unfold rr_ld
  by_cases e : i < 3
  · rw [if_pos e]; exact p2 i e
  · rw [if_neg e, show i = 3 by omega]; exact p3
/-- an element brought to its simplest form in the rows -/
def gr_D (m n : Int) (a : Nat → Int) (M M' : gx_M) (q : rr_S) : Prop := rr_run m (rr_ld n a, 1, 0) 3 q ∧ q.2.2 ≤ 4 ∧ rr_ok m q.1 ∧ rr_R m (q.1, q.2.1) M' ∧ (-11 ≤ q.2.1 ∧ q.2.1 ≤ 11) ∧ rr_O M M'
/-- the usual inverse that the rows hold -/
def rr_inv (R : Nat → Nat → Int) : Nat → Int := fun k => if k < 9 then R (k / 3) (3 + k % 3) else 0
theorem rr_inv_at {R : Nat → Nat → Int} {r c : Nat} (hr : r < 3) (hc : c < 3) : rr_inv R (3 * r + c) = R r (3 + c) := by
  unfold rr_inv
  rw [if_pos (by omega), show (3 * r + c) / 3 = r by omega, show (3 * r + c) % 3 = c by omega]
theorem rr_inv_9 {R : Nat → Nat → Int} : ∀ k, 9 ≤ k → rr_inv R k = 0 := fun k hk => if_neg (by omega)
theorem rr_inv_ok {m : Int} {R : Nat → Nat → Int} (h : rr_ok m R) : mx_ok m (rr_inv R) := fun k hk => by
  unfold rr_inv
  rw [if_pos hk]
  exact (h (k / 3) (by omega)).1 (3 + k % 3) (by omega)
theorem mx_of_rinv {M : gx_M} {t : Nat} {R : Nat → Nat → Int} : mx_of (gx_blk M t 0 9 (rr_inv R) t) 0 = rr_inv R := by rw [mx_of_blk, mx_cut rr_inv_9]
theorem mx_of_cp {M : gx_M} {a b : Nat} : mx_of (gx_blk M b 0 9 (mx_of (M a) 0) b) 0 = mx_of (M a) 0 := by
  rw [mx_of_blk, mx_cut (f := mx_of (M a) 0) (fun k hk => if_neg (by omega))]

theorem gx_bvn {x : Nat} (h : x < 2 ^ 31) : (gx_i (x : Int)).toBitVec.toNat = x := by
  show (BitVec.ofInt 32 (x : Int)).toNat = x
  rw [BitVec.toNat_ofInt]
  omega
theorem gx_shr {x : Nat} (h : x ≤ 2000) : ∀ k : Nat, k < 11 → gx_i (x : Int) >>> (gx_i (k : Int) &&& 31) = gx_i ((x / 2 ^ k : Nat) : Int) := fun k hk => by
  have h1 : ∀ j : Fin 11, ((gx_i (j.val : Int) &&& 31).toBitVec.smod 32).toNat = j.val := by decide +kernel
  apply Int32.toBitVec_inj.1
  apply BitVec.eq_of_toNat_eq
  show (BitVec.sshiftRight (gx_i (x : Int)).toBitVec ((gx_i (k : Int) &&& 31).toBitVec.smod 32).toNat).toNat = _
  rw [h1 ⟨k, hk⟩, BitVec.sshiftRight_eq_of_msb_false, BitVec.toNat_ushiftRight, gx_bvn (by omega), Nat.shiftRight_eq_div_pow, gx_bvn]
  · exact Nat.lt_of_le_of_lt (Nat.div_le_self _ _) (by omega)
  · rw [BitVec.msb_eq_false_iff_two_mul_lt, gx_bvn (by omega)]
    omega
theorem gx_and1 {x : Nat} (h : x ≤ 2000) : gx_i (x : Int) &&& gx_i 1 = gx_i ((x % 2 : Nat) : Int) := by
  apply Int32.toBitVec_inj.1
  apply BitVec.eq_of_toNat_eq
  rw [Int32.toBitVec_and, BitVec.toNat_and, gx_bvn (by omega), gx_bvn (by omega)]
  show x &&& 1 = x % 2
  exact Nat.and_one_is_mod x
/-- the algebra's size and modulus, its base and its unit -/
def ga_A (n m : Int) (U V : Nat → Int) (M : gx_M) : Prop := M 46 0 = n ∧ M 46 1 = m ∧ mx_of (M 56) 0 = U ∧ mx_of (M 57) 0 = V ∧ (n = 2 ∨ n = 3) ∧ (3 ≤ m ∧ m ≤ 11) ∧ mx_ok m U ∧ mx_ok m V
theorem ga_Af {n m : Int} {U V : Nat → Int} {M M' : gx_M} (h : ga_A n m U V M) (e : ∀ c, c = 46 ∨ c = 56 ∨ c = 57 → M' c = M c) : ga_A n m U V M' := by
  unfold ga_A
  rw [e 46 (by omega), e 56 (by omega), e 57 (by omega)]
  exact h
theorem mc_prod_ok {m : Int} (h : 3 ≤ m) (u a b : Nat → Int) : mx_ok m (mc_prod m u a b) := mx_sym_ok h _
theorem mc_trip_ok {m : Int} (h : 3 ≤ m) (u a b c : Nat → Int) : mx_ok m (mc_trip m u a b c) := mx_sym_ok h _
/-- the class's powers -/
def mc_po (m : Int) (u a b : Nat → Int) : Nat → Nat → Int
  | 0 => b
  | k + 1 => mc_prod m u (mc_po m u a b k) a
theorem mc_po_ok {m : Int} (h : 3 ≤ m) {u a b : Nat → Int} (ob : mx_ok m b) : ∀ k, mx_ok m (mc_po m u a b k)
  | 0 => ob
  | _ + 1 => mc_prod_ok h _ _ _
/-- powers by squares -/
def mc_rs (m : Int) (u v a : Nat → Int) (N : Nat) : Nat → (Nat → Int) × (Nat → Int)
  | 0 => (v, a)
  | k + 1 => (if N / 2 ^ k % 2 = 1 then mc_prod m u (mc_rs m u v a N k).1 (mc_rs m u v a N k).2 else (mc_rs m u v a N k).1, mc_prod m u (mc_rs m u v a N k).2 (mc_rs m u v a N k).2)
theorem mc_rs_ok {m : Int} (h : 3 ≤ m) {u v a : Nat → Int} (ov : mx_ok m v) (oa : mx_ok m a) {N : Nat} : ∀ k, mx_ok m (mc_rs m u v a N k).1 ∧ mx_ok m (mc_rs m u v a N k).2
  | 0 => ⟨ov, oa⟩
  | k + 1 => ⟨by
      show mx_ok m (if N / 2 ^ k % 2 = 1 then _ else _)
      split
      · exact mc_prod_ok h _ _ _
      · exact (mc_rs_ok h ov oa k).1, mc_prod_ok h _ _ _⟩

abbrev mc_oper (m : Int) (u a b : Nat → Int) : Nat → Int := mc_trip m u a b a
theorem mx_at0 {f A : Nat → Int} {k : Nat} (h : mx_of f 0 = A) (hk : k < 9) : f (((k : Int)).toNat) = A k := by
  rw [← h, mx_of_at hk, Nat.zero_add]
  rfl
/-- the three parts -/
def mc_sub (m : Int) (a b : Nat → Int) : Nat → Int := fun k => if k < 9 then (a k - b k) % m else 0
def mc_sb2 (m : Int) (a b c : Nat → Int) : Nat → Int := fun k => if k < 9 then (a k - b k - c k) % m else 0
theorem mc_sub_ok {m : Int} (h : 3 ≤ m) (a b : Nat → Int) : mx_ok m (mc_sub m a b) := fun k hk => by
  unfold mc_sub
  rw [if_pos hk]
  exact mx_md h _
theorem mc_sub_9 {m : Int} {a b : Nat → Int} : ∀ k, 9 ≤ k → mc_sub m a b k = 0 := fun k hk => if_neg (by omega)
theorem mc_sb2_9 {m : Int} {a b c : Nat → Int} : ∀ k, 9 ≤ k → mc_sb2 m a b c k = 0 := fun k hk => if_neg (by omega)

theorem rr_fd_u {R : Nat → Nat → Int} {c a f g : Nat} (h : rr_fd R c a f) (k : rr_fd R c a g) : f = g := by
  obtain ⟨h1, h2, h3, h4⟩ := h
  obtain ⟨k1, k2, k3, k4⟩ := k
  rcases Nat.lt_trichotomy f g with e | e | e
  · exact absurd (k3 f h1 e) (h4 (by omega))
  · exact e
  · exact absurd (h3 g k1 e) (k4 (by omega))
theorem rr_st_u {m : Int} {q a b : rr_S} {c : Nat} (h : rr_st m q c a) (k : rr_st m q c b) : a = b := by
  obtain ⟨f, h1, h2⟩ := h
  obtain ⟨g, k1, k2⟩ := k
  have e := rr_fd_u h1 k1
  subst e
  rcases h2 with ⟨x, h2⟩ | ⟨x, h2⟩ <;> rcases k2 with ⟨y, k2⟩ | ⟨y, k2⟩
  · rw [h2, k2]
  · omega
  · omega
  · rw [h2, k2]
theorem rr_run_u {m : Int} {q : rr_S} : ∀ k a b, rr_run m q k a → rr_run m q k b → a = b
  | 0, a, b, h, g => by
    have h1 : a = q := h
    have g1 : b = q := g
    rw [h1, g1]
  | k + 1, a, b, h, g => by
    obtain ⟨x, h1, h2⟩ := h
    obtain ⟨y, g1, g2⟩ := g
    have e := rr_run_u k x y h1 g1
    subst e
    exact rr_st_u h2 g2
/-- the first powers as rows -/
def mc_pr (m : Int) (u v a : Nat → Int) (K : Nat) : Nat → Nat → Int := fun i => if i < K + 1 then mc_po m u a v i else fun _ => 0
theorem mc_po_9 {m : Int} {u a b : Nat → Int} (hb : ∀ k, 9 ≤ k → b k = 0) : ∀ j k, 9 ≤ k → mc_po m u a b j k = 0
  | 0, k, hk => hb k hk
  | _ + 1, k, hk => mx_sym_9 k hk
theorem mc_pr_ok {m : Int} (h : 3 ≤ m) {u v a : Nat → Int} (ov : mx_ok m v) (h9 : ∀ k, 9 ≤ k → v k = 0) {K : Nat} : rr_ok m (mc_pr m u v a K) := fun i hi => by
  unfold mc_pr
  by_cases e : i < K + 1
  · rw [if_pos e]
    exact ⟨mc_po_ok h ov i, mc_po_9 h9 i⟩
  · rw [if_neg e]
    exact ⟨fun k _ => by show 0 ≤ (0 : Int) ∧ (0 : Int) < m; omega, fun _ _ => rfl⟩
def mc_dg (m : Int) (u v a : Nat → Int) (K r : Nat) : Prop := ∃ q, rr_run m (mc_pr m u v a K, 1, 0) 9 q ∧ q.2.2 = r
/-- is of a kind, for the class -/
def mc_kd (m n : Int) (U V : Nat → Int) (w : Int) (C : Nat → Int) : Prop :=
  if w = 1 then ∃ q, rr_run m (rr_ld n C, 1, 0) 3 q ∧ (if (q.2.2 : Int) = n then q.2.1 % m else 0) ≠ 0 else if w = 2 then mc_prod m U C C = fun _ => 0 else mc_prod m U C C = if w = 0 then C else V

/-- the candidates, in the class's order -/
def mc_vec (q k : Nat) : Nat → Int := fun i => if i = 0 then ((k / q / q : Nat) : Int) else if i = 1 ∨ i = 3 then ((k / q % q : Nat) : Int) else if i = 4 then ((k % q : Nat) : Int) else 0

/-! the pad's reading -/
abbrev pd_S : Type := (Nat × Int × Int × Int) × (Nat → Int)
def pd_ok (t : pd_S) : Prop := t.1.1 ≤ 60 ∧ (0 ≤ t.1.2.1 ∧ t.1.2.1 ≤ 2) ∧ (0 ≤ t.1.2.2.1 ∧ t.1.2.2.1 ≤ 4) ∧ (t.1.2.2.2 = 0 ∨ t.1.2.2.2 = 1) ∧ ∀ i, i < t.1.1 → 0 ≤ t.2 i ∧ t.2 i ≤ 2
def pd_R (t : pd_S) (M : gx_M) : Prop := M 14 3 = (t.1.1 : Int) ∧ M 14 4 = t.1.2.1 ∧ M 14 5 = t.1.2.2.1 ∧ M 14 6 = t.1.2.2.2 ∧ ∀ i, i < t.1.1 → M 42 i = t.2 i
def pd_F (M M' : gx_M) : Prop := (∀ c, c ≠ 14 → c ≠ 42 → M' c = M c) ∧ M' 14 1 = M 14 1
theorem pd_Fr (M : gx_M) : pd_F M M := ⟨fun _ _ _ => rfl, rfl⟩
theorem pd_Ft {M M1 M2 : gx_M} (h : pd_F M M1) (g : pd_F M1 M2) : pd_F M M2 := ⟨fun c a b => (g.1 c a b).trans (h.1 c a b), g.2.trans h.2⟩
theorem pd_Fu {M : gx_M} {k : Nat} {v : Int} (h : k ≠ 1) : pd_F M (gx_u M 14 k v) := ⟨fun c a _ => gx_u_nc a, gx_u_ne (by omega)⟩
theorem pd_Fc {M : gx_M} {k : Nat} {v : Int} : pd_F M (gx_u M 42 k v) := ⟨fun c _ b => gx_u_nc b, by rw [gx_u_nc (by decide)]⟩
/-- what a step leaves -/
def pd_P (M : gx_M) (o : Option pd_S) (z : Int) (M' : gx_M) : Prop := pd_F M M' ∧ ((∃ t, o = some t ∧ z = 1 ∧ pd_R t M' ∧ pd_ok t) ∨ (o = none ∧ z = 0))
theorem pd_aw {t : pd_S} {M : gx_M} {v : Int} (h : pd_R t M) (k : pd_ok t) (hv : 0 ≤ v ∧ v ≤ 4) : pd_R ((t.1.1, t.1.2.1, v, t.1.2.2.2), t.2) (gx_u M 14 5 v) ∧ pd_ok ((t.1.1, t.1.2.1, v, t.1.2.2.2), t.2) :=
  ⟨⟨by rw [gx_u_ne (by decide)]; exact h.1, by rw [gx_u_ne (by decide)]; exact h.2.1, gx_u_eq _ _ _ _, by rw [gx_u_ne (by decide)]; exact h.2.2.2.1, fun i hi => by rw [gx_u_nc (by decide)]; exact h.2.2.2.2 i hi⟩, ⟨k.1, k.2.1, hv, k.2.2.2⟩⟩
theorem pd_nx {t : pd_S} {M : gx_M} {v : Int} (h : pd_R t M) (k : pd_ok t) (hv : 0 ≤ v ∧ v ≤ 2) : pd_R ((t.1.1, v, t.1.2.2.1, t.1.2.2.2), t.2) (gx_u M 14 4 v) ∧ pd_ok ((t.1.1, v, t.1.2.2.1, t.1.2.2.2), t.2) :=
  ⟨⟨by rw [gx_u_ne (by decide)]; exact h.1, gx_u_eq _ _ _ _, by rw [gx_u_ne (by decide)]; exact h.2.2.1, by rw [gx_u_ne (by decide)]; exact h.2.2.2.1, fun i hi => by rw [gx_u_nc (by decide)]; exact h.2.2.2.2 i hi⟩, ⟨k.1, hv, k.2.2⟩⟩
theorem pd_dv {t : pd_S} {M : gx_M} {v : Int} (h : pd_R t M) (k : pd_ok t) (hv : v = 0 ∨ v = 1) : pd_R ((t.1.1, t.1.2.1, t.1.2.2.1, v), t.2) (gx_u M 14 6 v) ∧ pd_ok ((t.1.1, t.1.2.1, t.1.2.2.1, v), t.2) :=
  ⟨⟨by rw [gx_u_ne (by decide)]; exact h.1, by rw [gx_u_ne (by decide)]; exact h.2.1, by rw [gx_u_ne (by decide)]; exact h.2.2.1, gx_u_eq _ _ _ _, fun i hi => by rw [gx_u_nc (by decide)]; exact h.2.2.2.2 i hi⟩, ⟨k.1, k.2.1, k.2.2.1, hv, k.2.2.2.2⟩⟩
def pd_dig (t : pd_S) (c : Int) : Option pd_S := if 48 ≤ c ∧ c ≤ 57 then some ((t.1.1, t.1.2.1, 1, t.1.2.2.2), t.2) else none
def pd_bra (t : pd_S) : Option pd_S := if t.1.1 = 60 then none else some ((t.1.1 + 1, t.1.2.1, 0, t.1.2.2.2), fn_up t.2 t.1.1 t.1.2.1)
def pd_nc (c : Int) : Int := if c = 116 then 2 else if c = 112 ∨ c = 117 then 1 else 0
def pd_fac (t : pd_S) (c : Int) : Option pd_S := if c = 105 ∨ (65 ≤ c ∧ c ≤ 72) then some ((t.1.1, t.1.2.1, 4, t.1.2.2.2), t.2) else if c = 40 then pd_bra ((t.1.1, 0, t.1.2.2.1, t.1.2.2.2), t.2) else if c = 116 ∨ c = 112 ∨ c = 117 ∨ c = 118 then some ((t.1.1, pd_nc c, 3, t.1.2.2.2), t.2) else none
def pd_sgn (t : pd_S) (c : Int) : Option pd_S := if c = 43 ∨ c = 45 then some ((t.1.1, t.1.2.1, 0, t.1.2.2.2), t.2) else none
def pd_ins (t : pd_S) (c : Int) : Option pd_S := if c = 41 ∧ t.2 (t.1.1 - 1) = 0 then some ((t.1.1 - 1, t.1.2.1, t.1.2.2.1, t.1.2.2.2), t.2) else if c = 44 ∧ 0 < t.2 (t.1.1 - 1) then some ((t.1.1, t.1.2.1, 0, t.1.2.2.2), fn_up t.2 (t.1.1 - 1) (t.2 (t.1.1 - 1) - 1)) else pd_sgn t c
def pd_out (t : pd_S) (c : Int) (k : Nat) (p0 : Int) : Option pd_S := if (c = 61 ∨ (c = 58 ∧ k = 1 ∧ 65 ≤ p0 ∧ p0 ≤ 72)) ∧ t.1.2.2.2 = 0 then some ((t.1.1, t.1.2.1, 0, 1), t.2) else pd_sgn t c
def pd_tk (t : pd_S) (c : Int) (k : Nat) (p0 : Int) : Option pd_S := if t.1.2.2.1 = 0 then (if 48 ≤ c ∧ c ≤ 57 then pd_dig t c else pd_fac t c) else if t.1.2.2.1 = 1 then (if c = 42 then some ((t.1.1, t.1.2.1, 2, t.1.2.2.2), t.2) else none) else if t.1.2.2.1 = 2 then pd_fac t c else if t.1.2.2.1 = 3 then (if c = 40 then pd_bra t else none) else if 0 < t.1.1 then pd_ins t c else pd_out t c k p0

theorem pd_Pz {M M' : gx_M} {o : Option pd_S} {z : Int} (h : pd_P M o z M') : z = 0 ∨ z = 1 := by
  rcases h.2 with ⟨_, _, h, _⟩ | ⟨_, h⟩ <;> omega

def pd_0 : pd_S := ((0, 0, 0, 0), fun _ => 0)
/-- the text read up to a place -/
def pd_go (p : Nat → Int) : Nat → Option pd_S
  | 0 => some pd_0
  | k + 1 => (pd_go p k).bind (fun t => pd_tk t (p k) k (p 0))
def pd_flt (p : Nat → Int) (tn : Nat) (z : Int) : Prop := (∃ k, k < tn ∧ (∃ t, pd_go p k = some t) ∧ pd_go p (k + 1) = none ∧ z = (k : Int)) ∨ (∃ t, pd_go p tn = some t ∧ z = if t.1.2.2.1 = 4 ∧ t.1.1 = 0 ∧ t.1.2.2.2 = 1 then -6 else (tn : Int))
/-- the pad's text -/
def pd_T (p : Nat → Int) (tn : Nat) (M : gx_M) : Prop := M 14 1 = (tn : Int) ∧ tn ≤ 60 ∧ ∀ i, i < tn → M 41 i = p i ∧ 33 ≤ p i ∧ p i ≤ 126
theorem pd_TF {p : Nat → Int} {tn : Nat} {M M' : gx_M} (h : pd_T p tn M) (f : pd_F M M') : pd_T p tn M' := by
  unfold pd_T
  rw [f.2, f.1 41 (by decide) (by decide)]
  exact h
def pd_tg (p : Nat → Int) (tn : Nat) : Int := if 1 < tn ∧ p 1 = 58 ∧ 65 ≤ p 0 ∧ p 0 ≤ 72 then p 0 - 65 else -6

abbrev fr_S : Type := ((Nat → Int) × (Nat → Int) × (Nat → Int)) × (Nat × Int × Int × Int × Int)
/-- sum, first, second; arguments, kind, place, sign, times -/
def fr_R (f : fr_S) (c : Nat) (M : gx_M) : Prop := mx_of (M (c + 1)) 0 = f.1.1 ∧ mx_of (M (c + 2)) 0 = f.1.2.1 ∧ mx_of (M (c + 3)) 0 = f.1.2.2 ∧ M c 3 = (f.2.1 : Int) ∧ M c 4 = f.2.2.1 ∧ M c 5 = f.2.2.2.1 ∧ M c 6 = f.2.2.2.2.1 ∧ M c 7 = f.2.2.2.2.2
def fr_O (c : Nat) (M M' : gx_M) : Prop := ∀ c', (c' < c ∨ c + 4 ≤ c') → M' c' = M c'
def fr_st (f : fr_S) : fr_S := ((fun _ => 0, f.1.2.1, f.1.2.2), (f.2.1, f.2.2.1, f.2.2.2.1, 1, 1))
def fr_ad (m : Int) (f : fr_S) (e : Nat → Int) : fr_S := ((fun k => if k < 9 then (f.1.1 k + f.2.2.2.2.1 * f.2.2.2.2.2 * e k) % m else 0, f.1.2.1, f.1.2.2), (f.2.1, f.2.2.1, f.2.2.2.1, f.2.2.2.2.1, 1))
def fr_kp (f : fr_S) : fr_S := ((fun _ => 0, if f.2.1 = 0 then f.1.1 else f.1.2.1, if f.2.1 = 0 then f.1.2.2 else f.1.1), (f.2.1 + 1, f.2.2.1, f.2.2.2.1, 1, 1))

/-- what a bracket makes of its arguments -/
def fr_fn (m n : Int) (U V : Nat → Int) (f : fr_S) (o : Option (Nat → Int)) : Prop :=
  if f.2.2.1 = 112 then o = some (mc_prod m U f.1.2.1 f.1.1) else if f.2.2.1 = 117 then o = some (mc_oper m U f.1.2.1 f.1.1) else if f.2.2.1 = 116 then o = some (mc_trip m U f.1.2.1 f.1.2.2 f.1.1) else if f.2.2.1 = 118 then ∃ q, rr_run m (rr_ld n f.1.1, 1, 0) 3 q ∧ o = if (q.2.2 : Int) = n then some (mx_mul 3 m (mx_mul 3 m V (rr_inv q.1)) V) else none else o = some f.1.1
def fr_G (c : Nat) (M M' : gx_M) : Prop := ∀ c', c' ≠ c + 1 → (c' < 19 ∨ 25 ≤ c') → c' ≠ 31 → c' ≠ 32 → M' c' = M c'

def fr_rd (m : Int) (El : Nat → Nat → Int) (V : Nat → Int) (f : fr_S) (c : Int) : fr_S := if 65 ≤ c ∧ c ≤ 72 then fr_ad m f (El (c - 65).toNat) else if c = 105 then fr_ad m f V else if 48 ≤ c ∧ c ≤ 57 then (f.1, (f.2.1, f.2.2.1, f.2.2.2.1, f.2.2.2.2.1, c - 48)) else if c = 43 ∨ c = 45 then (f.1, (f.2.1, f.2.2.1, f.2.2.2.1, if c = 43 then 1 else -1, f.2.2.2.2.2)) else if c = 44 then fr_kp f else if c = 61 then fr_st f else f
theorem fr_Rf {f : fr_S} {c : Nat} {M M' : gx_M} (h : fr_R f c M) (e : ∀ c', c ≤ c' → c' < c + 4 → M' c' = M c') : fr_R f c M' := by
  unfold fr_R
  rw [e c (by omega) (by omega), e (c + 1) (by omega) (by omega), e (c + 2) (by omega) (by omega), e (c + 3) (by omega) (by omega)]
  exact h

/-! the desk -/
def sd_st (Z : Nat → Int) (c : Nat) (M : gx_M) : Prop := M c 0 = Z 81 ∧ M c 1 = Z 82 ∧ ∀ r, r < 10 → mx_of (M (c + 2 + r)) 0 = zs_el Z r
/-- the class's numbers are this desk -/
def sd_R (s : sp_S) (M : gx_M) : Prop :=
  sd_st s.1 46 M ∧ (M 16 2 = (s.2.1.1 : Int) ∧ ∃ nx : Nat, nx < 6 ∧ M 16 1 = (nx : Int) ∧ ∀ i, i < s.2.1.1 → sd_st (s.2.1.2 i) (82 + 12 * ((nx + 6 - s.2.1.1 + i) % 6)) M) ∧ (∀ j, j < 2 → M 18 j = s.2.2.1.1 j) ∧ (∀ j, j < 2 → s.2.2.1.1 j = 1 → sd_st (s.2.2.1.2 j) (58 + 12 * j) M) ∧ (M 14 1 = (s.2.2.2.1 : Int) ∧ ∀ i, i < s.2.2.2.1 → M 41 i = s.2.2.2.2 i) ∧ ∀ k, k < 9 → k ≠ 0 → k ≠ 1 → k ≠ 3 → k ≠ 4 → M 35 k = 0
def sd_Q (s : sp_S) (M M' : gx_M) : Prop := sd_R s M' ∧ ∀ c, c < 12 → M' c = M c
theorem sd_stf {Z : Nat → Int} {c : Nat} {M M' : gx_M} (h : sd_st Z c M) (e : ∀ c', c ≤ c' → c' < c + 12 → M' c' = M c') : sd_st Z c M' := by
  refine ⟨by rw [e c (by omega) (by omega)]; exact h.1, by rw [e c (by omega) (by omega)]; exact h.2.1, fun r hr => by rw [e _ (by omega) (by omega)]; exact h.2.2 r hr⟩
/-- scratch alone has changed -/
def sd_X (M M' : gx_M) : Prop := (∀ c, (c < 14 ∨ (15 < c ∧ c < 19) ∨ c = 41 ∨ (46 ≤ c ∧ c < 154)) → M' c = M c) ∧ M' 14 1 = M 14 1 ∧ ∀ k, k < 9 → k ≠ 0 → k ≠ 1 → k ≠ 3 → k ≠ 4 → M' 35 k = M 35 k
theorem sd_Xr (M : gx_M) : sd_X M M := ⟨fun _ _ => rfl, rfl, fun _ _ _ _ _ _ => rfl⟩
theorem sd_Xt {M M1 M2 : gx_M} (h : sd_X M M1) (g : sd_X M1 M2) : sd_X M M2 := ⟨fun c hc => (g.1 c hc).trans (h.1 c hc), g.2.1.trans h.2.1, fun k a b c d e => (g.2.2 k a b c d e).trans (h.2.2 k a b c d e)⟩
theorem sd_XR {s : sp_S} {M M' : gx_M} (h : sd_R s M) (x : sd_X M M') : sd_R s M' := by
  obtain ⟨h1, ⟨h2, nx, h3, h4, h5⟩, h6, h7, ⟨h8, h9⟩, h10⟩ := h
  obtain ⟨x1, x2, x3⟩ := x
  exact ⟨sd_stf h1 (fun c a b => x1 c (by omega)), ⟨by rw [x1 16 (by omega)]; exact h2, nx, h3, by rw [x1 16 (by omega)]; exact h4, fun i hi => sd_stf (h5 i hi) (fun c a b => x1 c (by omega))⟩, fun j hj => by rw [x1 18 (by omega)]; exact h6 j hj, fun j hj e => sd_stf (h7 j hj e) (fun c a b => x1 c (by omega)), ⟨by rw [x2]; exact h8, fun i hi => by rw [x1 41 (by omega)]; exact h9 i hi⟩, fun k a b c d e => by rw [x3 k a b c d e]; exact h10 k a b c d e⟩
theorem sd_XQ {s : sp_S} {M M' : gx_M} (h : sd_R s M) (x : sd_X M M') : sd_Q s M M' := ⟨sd_XR h x, fun c hc => x.1 c (by omega)⟩
theorem sd_el {s : sp_S} {M : gx_M} (h : sd_R s M) {r : Nat} (hr : r < 10) : mx_of (M (48 + 1 * r)) 0 = zs_el s.1 r := by
  have := h.1.2.2 r hr
  rwa [show 46 + 2 + r = 48 + 1 * r by omega] at this

theorem sd_cp {Z : Nat → Int} {c d : Nat} {M M' : gx_M} (h : sd_st Z c M) (g : M' d 0 = M c 0 ∧ M' d 1 = M c 1 ∧ ∀ r, r < 10 → mx_of (M' (d + 2 + r)) 0 = mx_of (M (c + 2 + r)) 0) : sd_st Z d M' :=
  ⟨g.1.trans h.1, g.2.1.trans h.2.1, fun r hr => (g.2.2 r hr).trans (h.2.2 r hr)⟩
/-- the present state and scratch alone have changed -/
def sd_Y (M M' : gx_M) : Prop := (∀ c, (c < 14 ∨ (15 < c ∧ c < 19) ∨ c = 41 ∨ (58 ≤ c ∧ c < 154)) → M' c = M c) ∧ M' 14 1 = M 14 1 ∧ ∀ k, k < 9 → k ≠ 0 → k ≠ 1 → k ≠ 3 → k ≠ 4 → M' 35 k = M 35 k
theorem sd_Yo {M M' : gx_M} (h : gd_O 46 M M') : sd_Y M M' := ⟨fun c hc => h c (by omega), by rw [h 14 (by omega)], fun k _ _ _ _ _ => by rw [h 35 (by omega)]⟩
theorem sd_push {s : sp_S} (hs : s.2.1.1 ≤ 6) {M M1 M2 : gx_M} (hR : sd_R s M) {nx : Nat} (h3 : nx < 6) (h5 : ∀ i, i < s.2.1.1 → sd_st (s.2.1.2 i) (82 + 12 * ((nx + 6 - s.2.1.1 + i) % 6)) M) (r1 : M1 16 1 = ((if nx = 5 then 0 else nx + 1 : Nat) : Int)) (r2 : M1 16 2 = ((if s.2.1.1 = 6 then 6 else s.2.1.1 + 1 : Nat) : Int)) (r3 : M1 (82 + 12 * nx) 0 = M 46 0 ∧ M1 (82 + 12 * nx) 1 = M 46 1 ∧ ∀ r, r < 10 → mx_of (M1 (82 + 12 * nx + 2 + r)) 0 = mx_of (M (46 + 2 + r)) 0) (r4 : ∀ c', c' ≠ 16 → (c' < 82 + 12 * nx ∨ 82 + 12 * nx + 12 ≤ c') → M1 c' = M c') {Z : Nat → Int} (y : sd_Y M1 M2) (z : sd_st Z 46 M2) : sd_Q (sp_push s Z) M M2 := by
  obtain ⟨g1, _, g6, g7, ⟨g8, g9⟩, g10⟩ := hR
  obtain ⟨y1, y2, y3⟩ := y
  have hh : sp_h s + 1 = if s.2.1.1 = 6 then 6 else s.2.1.1 + 1 := by unfold sp_h; split <;> rfl
  have e : ∀ c, (c < 14 ∨ (16 < c ∧ c < 19) ∨ c = 41 ∨ (58 ≤ c ∧ c < 82)) → M2 c = M c := fun c hc => by rw [y1 c (by omega), r4 c (by omega) (by omega)]
  refine ⟨⟨z, ⟨by rw [y1 16 (by omega), r2, ← hh]; rfl, (if nx = 5 then 0 else nx + 1), by split <;> omega, by rw [y1 16 (by omega)]; exact r1, fun i hi => ?_⟩, fun j hj => by rw [e 18 (by omega)]; exact g6 j hj, fun j hj e1 => sd_stf (g7 j hj e1) (fun c a b => e c (by omega)), ⟨by rw [y2, r4 14 (by omega) (by omega)]; exact g8, fun i hi => by rw [e 41 (by omega)]; exact g9 i hi⟩, fun k a b c d e1 => by rw [y3 k a b c d e1, r4 35 (by omega) (by omega)]; exact g10 k a b c d e1⟩, fun c hc => e c (by omega)⟩
  have hi : i < sp_h s + 1 := hi
  have hnew : sd_st s.1 (82 + 12 * nx) M2 := sd_stf (sd_cp g1 r3) (fun c a b => y1 c (by omega))
  have hold : ∀ k, k < s.2.1.1 → (nx + 6 - s.2.1.1 + k) % 6 ≠ nx → sd_st (s.2.1.2 k) (82 + 12 * ((nx + 6 - s.2.1.1 + k) % 6)) M2 := fun k hk hne => by
    have h6 : (nx + 6 - s.2.1.1 + k) % 6 < 6 := Nat.mod_lt _ (by decide)
    exact sd_stf (h5 k hk) (fun c a b => by rw [y1 c (by omega), r4 c (by omega) (by omega)])
  show sd_st (if i = sp_h s then s.1 else if s.2.1.1 = 6 then s.2.1.2 (i + 1) else s.2.1.2 i) (82 + 12 * (((if nx = 5 then 0 else nx + 1) + 6 - (sp_h s + 1) + i) % 6)) M2
  by_cases h6 : s.2.1.1 = 6
  · have hp : sp_h s = 5 := if_pos h6
    rw [hp] at hi ⊢
    by_cases ei : i = 5
    · rw [if_pos ei, show ((if nx = 5 then 0 else nx + 1) + 6 - (5 + 1) + i) % 6 = nx by split <;> omega]
      exact hnew
    · rw [if_neg ei, if_pos h6]
      have := hold (i + 1) (by omega) (by omega)
      rw [show (nx + 6 - s.2.1.1 + (i + 1)) % 6 = ((if nx = 5 then 0 else nx + 1) + 6 - (5 + 1) + i) % 6 by split <;> omega] at this
      exact this
  · have hp : sp_h s = s.2.1.1 := if_neg h6
    rw [hp] at hi ⊢
    by_cases ei : i = s.2.1.1
    · rw [if_pos ei, show ((if nx = 5 then 0 else nx + 1) + 6 - (s.2.1.1 + 1) + i) % 6 = nx by split <;> omega]
      exact hnew
    · rw [if_neg ei, if_neg h6]
      have := hold i (by omega) (by omega)
      rw [show (nx + 6 - s.2.1.1 + i) % 6 = ((if nx = 5 then 0 else nx + 1) + 6 - (s.2.1.1 + 1) + i) % 6 by split <;> omega] at this
      exact this
theorem zs_new_el {n m : Int} (hn : n = 2 ∨ n = 3) {r : Nat} (hr : r < 9) : zs_el (zs_new n m) r = if r = 8 then mx_id n else fun _ => 0 := by
  unfold zs_el
  rw [if_pos hr]
  funext k
  by_cases h9 : k < 9
  · rw [mx_of_at h9]
    unfold zs_new
    rw [if_neg (by omega), if_neg (by omega)]
    by_cases e : r = 8
    · rw [if_pos e]
      unfold mx_id
      subst e
      rw [show 9 * 8 + k - 72 = k by omega]
      by_cases e2 : k % 4 = 0 ∧ ((k / 4 : Nat) : Int) < n
      · rw [if_pos e2, if_pos ⟨by omega, e2⟩]
      · rw [if_neg e2, if_neg (fun h => e2 h.2)]
    · rw [if_neg e, if_neg (by omega)]
  · unfold mx_of
    rw [if_neg h9]
    by_cases e : r = 8
    · rw [if_pos e]
      exact (mx_id_9 (by omega) k (by omega)).symm
    · rw [if_neg e]


set_option maxRecDepth 100000 in
theorem mx_inv_id {n m : Int} (hn : n = 2 ∨ n = 3) (hm : m = 3 ∨ m = 5 ∨ m = 7 ∨ m = 11) : mx_inv n.toNat m (mx_id n) = mx_id n := by
  have key : ∀ k : Fin 9, mx_inv n.toNat m (mx_id n) k.val = mx_id n k.val := by
    rcases hn with rfl | rfl <;> rcases hm with rfl | rfl | rfl | rfl <;> decide +kernel
  funext k
  by_cases h : k < 9
  · exact key ⟨k, h⟩
  · rw [mx_id_9 (by omega) k (by omega)]
    exact mx_inv_9 k (by omega)

/-! sums of products: the three columns of a small element, its transpose -/
def mx_z (n : Nat) (a : Nat → Int) : Prop := (∀ i j, i < 3 → j < 3 → n ≤ i → a (3 * i + j) = 0 ∧ a (3 * j + i) = 0) ∧ ∀ k, 9 ≤ k → a k = 0
def mx_s (a : Nat → Int) : Prop := ∀ i j, i < 3 → j < 3 → a (3 * i + j) = a (3 * j + i)
theorem mx_ps_z {n : Nat} (hn : n = 2 ∨ n = 3) {a b : Nat → Int} (ha : mx_z n a) {r c : Nat} (hr : r < 3) : mx_ps a b r c 3 = mx_ps a b r c n := by
  rcases hn with rfl | rfl
  · show mx_ps a b r c 2 + a (3 * r + 2) * b (3 * 2 + c) = _
    rw [(ha.1 2 r (by omega) hr (by omega)).2, Int.zero_mul, Int.add_zero]
  · rfl
theorem mx_ps_0 {n : Nat} {a b : Nat → Int} (ha : mx_z n a) {r c : Nat} (hr : r < 3) (h : n ≤ r) : ∀ k, k ≤ 3 → mx_ps a b r c k = 0
  | 0, _ => rfl
  | k + 1, hk => by
    show mx_ps a b r c k + a (3 * r + k) * b (3 * k + c) = 0
    rw [mx_ps_0 ha hr h k (by omega), (ha.1 r k hr (by omega) h).1, Int.zero_mul, Int.add_zero]
theorem mx_ps_1 {n : Nat} {a b : Nat → Int} (hb : mx_z n b) {r c : Nat} (hc : c < 3) (h : n ≤ c) : ∀ k, k ≤ 3 → mx_ps a b r c k = 0
  | 0, _ => rfl
  | k + 1, hk => by
    show mx_ps a b r c k + a (3 * r + k) * b (3 * k + c) = 0
    rw [mx_ps_1 hb hc h k (by omega), (hb.1 c k hc (by omega) h).2, Int.mul_zero, Int.add_zero]
/-- three rows of products are as good as n -/
theorem mx_mul3 {n : Nat} (hn : n = 2 ∨ n = 3) {m : Int} {a b : Nat → Int} (ha : mx_z n a) (hb : mx_z n b) : mx_mul 3 m a b = mx_mul n m a b := by
  funext k
  unfold mx_mul
  by_cases h9 : k < 9
  · rw [if_pos (by omega)]
    by_cases h : k / 3 < n ∧ k % 3 < n
    · rw [if_pos ⟨h9, h⟩, mx_ps_z hn ha (by omega)]
    · rw [if_neg (fun g => h g.2)]
      rcases (show n ≤ k / 3 ∨ n ≤ k % 3 by omega) with g | g
      · rw [mx_ps_0 ha (by omega) g 3 (by omega)]
        rfl
      · rw [mx_ps_1 hb (by omega) g 3 (by omega)]
        rfl
  · rw [if_neg (by omega), if_neg (by omega)]
theorem mx_mul_z {n : Nat} {m : Int} {a b : Nat → Int} : mx_z n (mx_mul n m a b) := by
  refine ⟨fun i j hi hj h => ⟨?_, ?_⟩, mx_mul_9⟩
  · unfold mx_mul
    exact if_neg (by omega)
  · unfold mx_mul
    exact if_neg (by omega)


/-! products: associative, turned round by transposing -/
def mx_t (a : Nat → Int) : Nat → Int := fun k => a (3 * (k % 3) + k / 3)
theorem mx_t_at {a : Nat → Int} {r c : Nat} (hc : c < 3) : mx_t a (3 * r + c) = a (3 * c + r) := by
  unfold mx_t
  rw [show (3 * r + c) % 3 = c by omega, show (3 * r + c) / 3 = r by omega]
theorem mx_ps_t {a b : Nat → Int} {r c : Nat} (hr : r < 3) (hc : c < 3) : ∀ k, k ≤ 3 → mx_ps a b c r k = mx_ps (mx_t b) (mx_t a) r c k
  | 0, _ => rfl
  | k + 1, hk => by
    show mx_ps a b c r k + a (3 * c + k) * b (3 * k + r) = mx_ps (mx_t b) (mx_t a) r c k + mx_t b (3 * r + k) * mx_t a (3 * k + c)
    rw [mx_ps_t hr hc k (by omega), mx_t_at (by omega), mx_t_at hc, Int.mul_comm]
theorem mx_ps_c {a b a' b' : Nat → Int} (h : ∀ k, k < 9 → a k = a' k) (g : ∀ k, k < 9 → b k = b' k) {r c : Nat} (hr : r < 3) (hc : c < 3) : ∀ k, k ≤ 3 → mx_ps a b r c k = mx_ps a' b' r c k
  | 0, _ => rfl
  | k + 1, hk => by
    show mx_ps a b r c k + a (3 * r + k) * b (3 * k + c) = mx_ps a' b' r c k + a' (3 * r + k) * b' (3 * k + c)
    rw [mx_ps_c h g hr hc k (by omega), h _ (by omega), g _ (by omega)]
theorem mx_mul_c {m : Int} {a b a' b' : Nat → Int} (h : ∀ k, k < 9 → a k = a' k) (g : ∀ k, k < 9 → b k = b' k) : mx_mul 3 m a b = mx_mul 3 m a' b' := by
  funext k
  unfold mx_mul
  by_cases e : k < 9
  · rw [if_pos (by omega), if_pos (by omega), mx_ps_c h g (by omega) (by omega) 3 (by omega)]
  · rw [if_neg (by omega), if_neg (by omega)]
theorem mx_mul_t {m : Int} {a b : Nat → Int} {k : Nat} (hk : k < 9) : mx_t (mx_mul 3 m a b) k = mx_mul 3 m (mx_t b) (mx_t a) k := by
  have h := @mx_t_at (mx_mul 3 m a b) (k / 3) (k % 3) (by omega)
  rw [show 3 * (k / 3) + k % 3 = k by omega] at h
  rw [h, mx_mul3_at (by omega) (by omega)]
  have g := @mx_mul3_at m (mx_t b) (mx_t a) (k / 3) (k % 3) (by omega) (by omega)
  rw [show 3 * (k / 3) + k % 3 = k by omega] at g
  rw [g, mx_ps_t (by omega) (by omega) 3 (by omega)]
theorem mx_e3 {m x y z p q r : Int} : (x % m * p + y % m * q + z % m * r) % m = (x * p + y * q + z * r) % m := by
  have h : x % m * p + y % m * q + z % m * r = (x * p + y * q + z * r) - m * (x / m * p + y / m * q + z / m * r) := by
    rw [Int.emod_def, Int.emod_def, Int.emod_def, Int.sub_mul, Int.sub_mul, Int.sub_mul, Int.mul_assoc m, Int.mul_assoc m, Int.mul_assoc m, Int.mul_add, Int.mul_add]
    omega
  rw [h, Int.sub_mul_emod_self_left]
theorem mx_ps3 {a b : Nat → Int} {r c : Nat} : mx_ps a b r c 3 = a (3 * r) * b c + a (3 * r + 1) * b (3 + c) + a (3 * r + 2) * b (6 + c) := by
  show 0 + a (3 * r + 0) * b (3 * 0 + c) + a (3 * r + 1) * b (3 * 1 + c) + a (3 * r + 2) * b (3 * 2 + c) = _
  rw [Int.zero_add, Nat.add_zero, show 3 * 0 + c = c by omega]
theorem mx_mul_a {m : Int} {a b c : Nat → Int} : mx_mul 3 m (mx_mul 3 m a b) c = mx_mul 3 m a (mx_mul 3 m b c) := by
  funext k
  by_cases e : k < 9
  · have hr : k / 3 < 3 := by omega
    have hc : k % 3 < 3 := by omega
    generalize k / 3 = r at hr
    rw [show k = 3 * (k / 3) + k % 3 by omega]
    have hr : k / 3 < 3 := by omega
    generalize k / 3 = r at hr ⊢
    generalize k % 3 = t at hc ⊢
    rw [mx_mul3_at hr hc, mx_mul3_at hr hc, mx_ps3, mx_ps3]
    have e0 := @mx_mul3_at m a b r 0 hr (by omega)
    have e1 := @mx_mul3_at m a b r 1 hr (by omega)
    have e2 := @mx_mul3_at m a b r 2 hr (by omega)
    have f0 := @mx_mul3_at m b c 0 t (by omega) hc
    have f1 := @mx_mul3_at m b c 1 t (by omega) hc
    have f2 := @mx_mul3_at m b c 2 t (by omega) hc
    rw [Nat.add_zero] at e0
    rw [show 3 * 0 + t = t by omega] at f0
    rw [show 3 * 1 + t = 3 + t by omega] at f1
    rw [show 3 * 2 + t = 6 + t by omega] at f2
    rw [e0, e1, e2, f0, f1, f2, mx_e3, Int.mul_comm (a (3 * r)), Int.mul_comm (a (3 * r + 1)), Int.mul_comm (a (3 * r + 2)), mx_e3]
    congr 1
    rw [mx_ps3, mx_ps3, mx_ps3, mx_ps3, mx_ps3, mx_ps3]
    simp only [Int.add_mul, Nat.mul_zero, Nat.zero_add, Nat.mul_one, Nat.reduceMul, Nat.reduceAdd, Nat.add_zero]
    simp only [Int.mul_assoc, Int.mul_comm, Int.mul_left_comm]
    omega
  · rw [mx_mul_9 k (by omega), mx_mul_9 k (by omega)]
theorem mx_s_t {a : Nat → Int} (h : mx_s a) : ∀ k, k < 9 → mx_t a k = a k := fun k hk => by
  have := h (k % 3) (k / 3) (by omega) (by omega)
  unfold mx_t
  rw [this, show 3 * (k / 3) + k % 3 = k by omega]
/-- the usual product of three, turned round -/
theorem mx_mul_t3 {m : Int} {a u b : Nat → Int} (ha : mx_s a) (hu : mx_s u) (hb : mx_s b) {k : Nat} (hk : k < 9) : mx_t (mx_mul 3 m (mx_mul 3 m a u) b) k = mx_mul 3 m (mx_mul 3 m b u) a k := by
  rw [mx_mul_t hk, mx_mul_a]
  have h1 : ∀ k, k < 9 → mx_t (mx_mul 3 m a u) k = mx_mul 3 m u a k := fun k hk => by
    rw [mx_mul_t hk, mx_mul_c (mx_s_t hu) (mx_s_t ha)]
  rw [mx_mul_c (mx_s_t hb) h1]
theorem mx_half_s {m x y : Int} (hm : m = 3 ∨ m = 5 ∨ m = 7 ∨ m = 11) (hx : 0 ≤ x ∧ x < m) (hy : 0 ≤ y ∧ y < m) : (if (x + y) % 2 = 0 then x + y else x + y + m) / 2 % m = (x * ((m + 1) / 2) + y * ((m + 1) / 2)) % m := by
  rcases hm with rfl | rfl | rfl | rfl <;> split <;> omega
/-- half of a product and of the one turned round -/
theorem mx_sym_lin {m : Int} (hm : m = 3 ∨ m = 5 ∨ m = 7 ∨ m = 11) {x y : Nat → Int} (ox : mx_ok m x) (h : ∀ k, k < 9 → mx_t x k = y k) : mx_sym m x = mx_lin m x ((m + 1) / 2) y ((m + 1) / 2) := by
  funext k
  unfold mx_sym mx_lin
  by_cases e : k < 9
  · rw [if_pos e, if_pos e, ← h k e]
    exact mx_half_s hm (ox k e) (ox (3 * (k % 3) + k / 3) (by omega))
  · rw [if_neg e, if_neg e]
/-- the class's product is the reference's -/
theorem mc_prod_eq {n : Nat} (hn : n = 2 ∨ n = 3) {m : Int} (hm : m = 3 ∨ m = 5 ∨ m = 7 ∨ m = 11) {a u b : Nat → Int} (za : mx_z n a) (zu : mx_z n u) (zb : mx_z n b) (sa : mx_s a) (su : mx_s u) (sb : mx_s b) : mc_prod m u a b = mx_prod n m u a b := by
  unfold mc_prod mx_prod
  rw [mx_sym_lin hm (mx_mul_ok (by omega) _ _) (fun k hk => mx_mul_t3 sa su sb hk), mx_mul3 hn za zu, mx_mul3 hn mx_mul_z zb, mx_mul3 hn zb zu, mx_mul3 hn mx_mul_z za]


/-- an element: in range, symmetric, 0 outside the size -/
def mx_V (n : Nat) (m : Int) (a : Nat → Int) : Prop := mx_ok m a ∧ mx_z n a ∧ mx_s a
theorem mx_sym_at {m : Int} {x : Nat → Int} {i j : Nat} (hi : i < 3) (hj : j < 3) : mx_sym m x (3 * i + j) = (if (x (3 * i + j) + x (3 * j + i)) % 2 = 0 then x (3 * i + j) + x (3 * j + i) else x (3 * i + j) + x (3 * j + i) + m) / 2 % m := by
  unfold mx_sym
  rw [if_pos (show 3 * i + j < 9 by omega), show 3 * ((3 * i + j) % 3) + (3 * i + j) / 3 = 3 * j + i by omega]
theorem mx_sym_s {m : Int} {x : Nat → Int} : mx_s (mx_sym m x) := fun i j hi hj => by
  rw [mx_sym_at hi hj, mx_sym_at hj hi, Int.add_comm (x (3 * j + i))]
theorem mx_sym_z {n : Nat} {m : Int} {x : Nat → Int} (h : mx_z n x) : mx_z n (mx_sym m x) := by
  have key : ∀ i j, i < 3 → j < 3 → n ≤ i → mx_sym m x (3 * i + j) = 0 := fun i j hi hj hn => by
    unfold mx_sym
    rw [if_pos (by omega), show 3 * ((3 * i + j) % 3) + (3 * i + j) / 3 = 3 * j + i by omega, (h.1 i j hi hj hn).1, (h.1 i j hi hj hn).2]
    rfl
  refine ⟨fun i j hi hj hn => ⟨key i j hi hj hn, ?_⟩, mx_sym_9⟩
  rw [mx_sym_s j i hj hi]
  exact key i j hi hj hn
theorem mc_prod_V {n : Nat} (hn : n = 2 ∨ n = 3) {m : Int} (hm : 3 ≤ m) {a u b : Nat → Int} (za : mx_z n a) (zu : mx_z n u) (zb : mx_z n b) : mx_V n m (mc_prod m u a b) := by
  refine ⟨mx_sym_ok hm _, ?_, mx_sym_s⟩
  unfold mc_prod
  rw [mx_mul3 hn za zu, mx_mul3 hn mx_mul_z zb]
  exact mx_sym_z mx_mul_z
theorem mc_trip_V {n : Nat} (hn : n = 2 ∨ n = 3) {m : Int} (hm : 3 ≤ m) {a u b c : Nat → Int} (za : mx_z n a) (zu : mx_z n u) (zb : mx_z n b) (zc : mx_z n c) : mx_V n m (mc_trip m u a b c) := by
  refine ⟨mx_sym_ok hm _, ?_, mx_sym_s⟩
  unfold mc_trip
  rw [mx_mul3 hn za zu, mx_mul3 hn mx_mul_z zb, mx_mul3 hn mx_mul_z zu, mx_mul3 hn mx_mul_z zc]
  exact mx_sym_z mx_mul_z
theorem mx_mul_t5 {m : Int} {a u b c : Nat → Int} (ha : mx_s a) (hu : mx_s u) (hb : mx_s b) (hc : mx_s c) {k : Nat} (hk : k < 9) : mx_t (mx_mul 3 m (mx_mul 3 m (mx_mul 3 m (mx_mul 3 m a u) b) u) c) k = mx_mul 3 m (mx_mul 3 m (mx_mul 3 m (mx_mul 3 m c u) b) u) a k := by
  have h1 : ∀ k, k < 9 → mx_t (mx_mul 3 m (mx_mul 3 m (mx_mul 3 m a u) b) u) k = mx_mul 3 m u (mx_mul 3 m (mx_mul 3 m b u) a) k := fun k hk => by
    rw [mx_mul_t hk, mx_mul_c (mx_s_t hu) (fun k hk => mx_mul_t3 ha hu hb hk)]
  rw [mx_mul_t hk, mx_mul_c (mx_s_t hc) h1, ← mx_mul_a, ← mx_mul_a, ← mx_mul_a]
theorem mc_trip_eq {n : Nat} (hn : n = 2 ∨ n = 3) {m : Int} (hm : m = 3 ∨ m = 5 ∨ m = 7 ∨ m = 11) {a u b c : Nat → Int} (za : mx_z n a) (zu : mx_z n u) (zb : mx_z n b) (zc : mx_z n c) (sa : mx_s a) (su : mx_s u) (sb : mx_s b) (sc : mx_s c) : mc_trip m u a b c = mx_trip n m u a b c := by
  unfold mc_trip mx_trip
  rw [mx_sym_lin hm (mx_mul_ok (by omega) _ _) (fun k hk => mx_mul_t5 sa su sb sc hk), mx_mul3 hn za zu, mx_mul3 hn mx_mul_z zb, mx_mul3 hn mx_mul_z zu, mx_mul3 hn mx_mul_z zc, mx_mul3 hn zc zu, mx_mul3 hn mx_mul_z zb, mx_mul3 hn mx_mul_z zu, mx_mul3 hn mx_mul_z za]
/-- half of a symmetric matrix and itself is itself -/
theorem mx_sym_self {m : Int} (hm : m = 3 ∨ m = 5 ∨ m = 7 ∨ m = 11) {x : Nat → Int} (ox : mx_ok m x) (h9 : ∀ k, 9 ≤ k → x k = 0) (h : ∀ k, k < 9 → mx_t x k = x k) : mx_sym m x = x := by
  funext k
  unfold mx_sym
  by_cases e : k < 9
  · have h1 : x (3 * (k % 3) + k / 3) = x k := h k e
    have o := ox k e
    rw [if_pos e, h1, if_pos (by omega), show (x k + x k) / 2 = x k by omega, Int.emod_eq_of_lt o.1 o.2]
  · rw [if_neg e, h9 k (by omega)]
theorem mc_oper_eq {n : Nat} (hn : n = 2 ∨ n = 3) {m : Int} (hm : m = 3 ∨ m = 5 ∨ m = 7 ∨ m = 11) {a u b : Nat → Int} (za : mx_z n a) (zu : mx_z n u) (zb : mx_z n b) (sa : mx_s a) (su : mx_s u) (sb : mx_s b) : mc_oper m u a b = mx_oper n m u a b := by
  unfold mc_oper mc_trip mx_oper
  rw [mx_sym_self hm (mx_mul_ok (by omega) _ _) mx_mul_9 (fun k hk => mx_mul_t5 sa su sb sa hk), mx_mul3 hn za zu, mx_mul3 hn mx_mul_z zb, mx_mul3 hn mx_mul_z zu, mx_mul3 hn mx_mul_z za]
/-- the elements of a valid desk -/
theorem zs_V {Z : Nat → Int} (h : zs_ok Z) {r : Nat} (hr : r < 9) : mx_V (Z 81).toNat (Z 82) (zs_el Z r) := by
  unfold zs_el
  rw [if_pos hr]
  obtain ⟨h1, h2, h3⟩ := h.2.2.1 r hr
  exact ⟨h1, ⟨fun i j hi hj hn => ⟨h3 i j hi hj hn, by rw [h2 j i hj hi]; exact h3 i j hi hj hn⟩, fun k hk => if_neg (by omega)⟩, h2⟩
theorem zs_n {Z : Nat → Int} (h : zs_ok Z) : (Z 81).toNat = 2 ∨ (Z 81).toNat = 3 := by have := h.1; omega


theorem zs_9ok {Z : Nat → Int} (h : zs_ok Z) : mx_ok (Z 82) (zs_el Z 9) := by
  have hm := h.2.1
  unfold zs_el
  rw [if_neg (by decide)]
  exact mx_inv_ok (by omega) _
theorem sd_A {s : sp_S} (hs : sp_ok s) {M : gx_M} (hR : sd_R s M) : ga_A (s.1 81) (s.1 82) (zs_el s.1 8) (zs_el s.1 9) M := by
  have hZ := hs.1
  have hm := hZ.2.1
  exact ⟨hR.1.1, hR.1.2.1, hR.1.2.2 8 (by decide), hR.1.2.2 9 (by decide), hZ.1, by omega, (zs_V hZ (by decide)).1, zs_9ok hZ⟩
/-- an element of this desk -/
def sp_V (s : sp_S) (a : Nat → Int) : Prop := mx_V (zs_nn s) (s.1 82) a
theorem sp_Vel {s : sp_S} (hs : sp_ok s) {r : Nat} (hr : r < 9) : sp_V s (zs_el s.1 r) := zs_V hs.1 hr
theorem sp_nn {s : sp_S} (hs : sp_ok s) : zs_nn s = 2 ∨ zs_nn s = 3 := zs_n hs.1
theorem sp_Vp {s : sp_S} (hs : sp_ok s) {a b : Nat → Int} (ha : sp_V s a) (hb : sp_V s b) : sp_V s (mc_prod (s.1 82) (zs_el s.1 8) a b) := mc_prod_V (sp_nn hs) (by have := hs.1.2.1; omega) ha.2.1 (sp_Vel hs (by decide)).2.1 hb.2.1
theorem sp_Vt {s : sp_S} (hs : sp_ok s) {a b c : Nat → Int} (ha : sp_V s a) (hb : sp_V s b) (hc : sp_V s c) : sp_V s (mc_trip (s.1 82) (zs_el s.1 8) a b c) := mc_trip_V (sp_nn hs) (by have := hs.1.2.1; omega) ha.2.1 (sp_Vel hs (by decide)).2.1 hb.2.1 hc.2.1
theorem sp_pe {s : sp_S} (hs : sp_ok s) {a b : Nat → Int} (ha : sp_V s a) (hb : sp_V s b) : mc_prod (s.1 82) (zs_el s.1 8) a b = zs_prod s a b := mc_prod_eq (sp_nn hs) hs.1.2.1 ha.2.1 (sp_Vel hs (by decide)).2.1 hb.2.1 ha.2.2 (sp_Vel hs (by decide)).2.2 hb.2.2
theorem sp_oe {s : sp_S} (hs : sp_ok s) {a b : Nat → Int} (ha : sp_V s a) (hb : sp_V s b) : mc_oper (s.1 82) (zs_el s.1 8) a b = zs_oper s a b := mc_oper_eq (sp_nn hs) hs.1.2.1 ha.2.1 (sp_Vel hs (by decide)).2.1 hb.2.1 ha.2.2 (sp_Vel hs (by decide)).2.2 hb.2.2

theorem sd_Yr (M : gx_M) : sd_Y M M := ⟨fun _ _ => rfl, rfl, fun _ _ _ _ _ _ => rfl⟩
/-- a number of a register and the one across, changed -/
theorem zs_set_el {Z : Nat → Int} {r i j : Nat} {v : Int} (hr : r < 8) (hi : i < 3) (hj : j < 3) {q : Nat} (hq : q < 10) : zs_el (zs_set Z r i j v) q = if q = r then (fun k => if k < 9 then (if k = 3 * j + i then v else if k = 3 * i + j then v else zs_el Z r k) else 0) else zs_el Z q := by
  have e72 : mx_of (zs_set Z r i j v) 72 = mx_of Z 72 := mx_of_ext (fun k hk => by
    unfold zs_set
    rw [if_neg (by omega), if_neg (by omega)])
  have e81 : zs_set Z r i j v 81 = Z 81 := by
    unfold zs_set
    rw [if_neg (by omega), if_neg (by omega)]
  have e82 : zs_set Z r i j v 82 = Z 82 := by
    unfold zs_set
    rw [if_neg (by omega), if_neg (by omega)]
  by_cases h9 : q < 9
  · by_cases e : q = r
    · rw [if_pos e, e]
      unfold zs_el
      rw [if_pos (by omega), if_pos (by omega)]
      funext k
      unfold mx_of
      by_cases k9 : k < 9
      · rw [if_pos k9, if_pos k9, if_pos k9]
        unfold zs_set
        by_cases c1 : k = 3 * j + i
        · rw [if_pos c1, if_pos (by omega)]
        · rw [if_neg c1, if_neg (by omega)]
          by_cases c2 : k = 3 * i + j
          · rw [if_pos c2, if_pos (by omega)]
          · rw [if_neg c2, if_neg (by omega)]
      · rw [if_neg k9, if_neg k9]
    · rw [if_neg e]
      unfold zs_el
      rw [if_pos h9, if_pos h9]
      exact mx_of_ext (fun k hk => by
        unfold zs_set
        rw [if_neg (by omega), if_neg (by omega)])
  · rw [if_neg (by omega)]
    unfold zs_el
    rw [if_neg h9, if_neg h9, e72, e81, e82]

/-! the unit is an element -/
theorem mx_min_t {a : Nat → Int} (h : mx_s a) : ∀ k, k < 9 → mx_min a (3 * (k % 3) + k / 3) = mx_min a k := by
  have h1 : a 3 = a 1 := h 1 0 (by decide) (by decide)
  have h2 : a 6 = a 2 := h 2 0 (by decide) (by decide)
  have h3 : a 7 = a 5 := h 2 1 (by decide) (by decide)
  intro k hk
  rcases (show k = 0 ∨ k = 1 ∨ k = 2 ∨ k = 3 ∨ k = 4 ∨ k = 5 ∨ k = 6 ∨ k = 7 ∨ k = 8 by omega) with rfl | rfl | rfl | rfl | rfl | rfl | rfl | rfl | rfl <;> simp [mx_min, mx_at, h1, h2, h3, Int.mul_comm]
theorem mx_inv_V {n : Nat} (hn : n = 2 ∨ n = 3) {m : Int} (hm : 3 ≤ m) {a : Nat → Int} (h : mx_s a) : mx_V n m (mx_inv n m a) := by
  refine ⟨mx_inv_ok hm a, ⟨?_, mx_inv_9⟩, ?_⟩
  · intro i j hi hj hni
    have h2 : n = 2 := by omega
    have h3 : i = 2 := by omega
    subst h2
    subst h3
    rcases (show j = 0 ∨ j = 1 ∨ j = 2 by omega) with rfl | rfl | rfl <;> exact ⟨by simp [mx_inv], by simp [mx_inv]⟩
  · intro i j hi hj
    rcases hn with rfl | rfl
    · have h1 : a 3 = a 1 := h 1 0 (by decide) (by decide)
      rcases (show i = 0 ∨ i = 1 ∨ i = 2 by omega) with rfl | rfl | rfl <;> rcases (show j = 0 ∨ j = 1 ∨ j = 2 by omega) with rfl | rfl | rfl <;> simp [mx_inv, h1]
    · have e := mx_min_t h (3 * i + j) (by omega)
      rw [show 3 * ((3 * i + j) % 3) + (3 * i + j) / 3 = 3 * j + i by omega] at e
      have g : ∀ k, k < 9 → mx_inv 3 m a k = mx_min a k % m * mx_ov (mx_det 3 m a) m (m.toNat - 1) % m := fun k hk => by
        unfold mx_inv
        rw [if_neg (show ¬ 3 = 2 by decide), if_pos hk]
      rw [g _ (by omega), g _ (by omega), e]
theorem sp_V9 {s : sp_S} (hs : sp_ok s) : sp_V s (zs_el s.1 9) := by
  have h8 := sp_Vel hs (r := 8) (by decide)
  have hm := hs.1.2.1
  unfold zs_el at h8 ⊢
  rw [if_pos (by decide)] at h8
  rw [if_neg (by decide)]
  exact mx_inv_V (sp_nn hs) (by omega) h8.2.2


/-! the three parts are the reference's -/
theorem mc_sub_eq {m : Int} {v e : Nat → Int} : mc_sub m v e = mx_lin m v 1 e (-1) := by
  funext k
  unfold mc_sub mx_lin
  by_cases h : k < 9
  · rw [if_pos h, if_pos h, show v k * 1 + e k * (-1) = v k - e k by omega]
  · rw [if_neg h, if_neg h]
theorem mc_sb2_eq {m : Int} {b p q : Nat → Int} : mc_sb2 m b p q = mx_lin m b 1 (mx_lin m p 1 q 1) (-1) := by
  funext k
  unfold mc_sb2 mx_lin
  by_cases h : k < 9
  · rw [if_pos h, if_pos h, if_pos h, show p k * 1 + q k * 1 = p k + q k by omega, Int.emod_def (p k + q k), show b k * 1 + (p k + q k - m * ((p k + q k) / m)) * (-1) = b k - p k - q k + m * ((p k + q k) / m) by omega, Int.add_mul_emod_self_left]
  · rw [if_neg h, if_neg h]
theorem mx_lin_V {n : Nat} {m : Int} (hm : 3 ≤ m) {a b : Nat → Int} (ha : mx_V n m a) (hb : mx_V n m b) {x y : Int} : mx_V n m (mx_lin m a x b y) := by
  refine ⟨mx_lin_ok hm a b x y, ⟨fun i j hi hj h => ?_, mx_lin_9⟩, fun i j hi hj => ?_⟩
  · obtain ⟨a1, a2⟩ := ha.2.1.1 i j hi hj h
    obtain ⟨b1, b2⟩ := hb.2.1.1 i j hi hj h
    unfold mx_lin
    rw [if_pos (by omega), if_pos (by omega), a1, a2, b1, b2]
    simp
  · unfold mx_lin
    rw [if_pos (by omega), if_pos (by omega), ha.2.2 i j hi hj, hb.2.2 i j hi hj]
theorem sp_parts {s : sp_S} (hs : sp_ok s) {e b : Nat → Int} (he : sp_V s e) (hb : sp_V s b) : mc_oper (s.1 82) (zs_el s.1 8) e b = zs_part s e b 2 ∧ mc_oper (s.1 82) (zs_el s.1 8) (mc_sub (s.1 82) (zs_el s.1 9) e) b = zs_part s e b 0 ∧ mc_sb2 (s.1 82) b (mc_oper (s.1 82) (zs_el s.1 8) e b) (mc_oper (s.1 82) (zs_el s.1 8) (mc_sub (s.1 82) (zs_el s.1 9) e) b) = zs_part s e b 1 := by
  have hm := hs.1.2.1
  have hd : sp_V s (mc_sub (s.1 82) (zs_el s.1 9) e) := by
    rw [mc_sub_eq]
    exact mx_lin_V (by omega) (sp_V9 hs) he
  have e1 : mc_oper (s.1 82) (zs_el s.1 8) e b = zs_oper s e b := sp_oe hs he hb
  have e2 : mc_oper (s.1 82) (zs_el s.1 8) (mc_sub (s.1 82) (zs_el s.1 9) e) b = zs_oper s (mc_sub (s.1 82) (zs_el s.1 9) e) b := sp_oe hs hd hb
  unfold zs_part mx_part
  rw [if_neg (by decide), if_neg (by decide), if_pos rfl, if_neg (by decide), if_pos rfl, mc_sb2_eq, e1, e2, mc_sub_eq]
  exact ⟨rfl, rfl, rfl⟩


/-! inverses of numbers -/
theorem mx_ov_1 {m d : Int} (hm : m = 3 ∨ m = 5 ∨ m = 7 ∨ m = 11) (hd : 0 < d ∧ d < m) : d * mx_ov d m (m.toNat - 1) % m = 1 := by
  have k3 : ∀ j : Fin 3, 0 < j.val → (j.val : Int) * mx_ov (j.val : Int) 3 ((3 : Int).toNat - 1) % 3 = 1 := by decide +kernel
  have k5 : ∀ j : Fin 5, 0 < j.val → (j.val : Int) * mx_ov (j.val : Int) 5 ((5 : Int).toNat - 1) % 5 = 1 := by decide +kernel
  have k7 : ∀ j : Fin 7, 0 < j.val → (j.val : Int) * mx_ov (j.val : Int) 7 ((7 : Int).toNat - 1) % 7 = 1 := by decide +kernel
  have k11 : ∀ j : Fin 11, 0 < j.val → (j.val : Int) * mx_ov (j.val : Int) 11 ((11 : Int).toNat - 1) % 11 = 1 := by decide +kernel
  have e : ((d.toNat : Nat) : Int) = d := by omega
  rcases hm with rfl | rfl | rfl | rfl
  · have := k3 ⟨d.toNat, by omega⟩ (by show 0 < d.toNat; omega)
    simp only [e] at this
    exact this
  · have := k5 ⟨d.toNat, by omega⟩ (by show 0 < d.toNat; omega)
    simp only [e] at this
    exact this
  · have := k7 ⟨d.toNat, by omega⟩ (by show 0 < d.toNat; omega)
    simp only [e] at this
    exact this
  · have := k11 ⟨d.toNat, by omega⟩ (by show 0 < d.toNat; omega)
    simp only [e] at this
    exact this


/-! the cofactors' identity -/
theorem mx_cof {a : Nat → Int} {r c : Nat} (hr : r < 3) (hc : c < 3) : mx_ps (mx_min a) a r c 3 = if r = c then mx_d3s a 3 else 0 := by
  rw [mx_ps3]
  rcases (show r = 0 ∨ r = 1 ∨ r = 2 by omega) with rfl | rfl | rfl <;> rcases (show c = 0 ∨ c = 1 ∨ c = 2 by omega) with rfl | rfl | rfl <;> simp [mx_min, mx_at, mx_d3s, Int.sub_mul, Int.mul_sub] <;> simp only [Int.mul_assoc, Int.mul_comm, Int.mul_left_comm] <;> omega


theorem mx_inv3_mul {m : Int} (hm : m = 3 ∨ m = 5 ∨ m = 7 ∨ m = 11) {a : Nat → Int} (hd : mx_det 3 m a ≠ 0) : mx_mul 3 m (mx_inv 3 m a) a = mx_id 3 := by
  funext k
  by_cases h9 : k < 9
  · have hr : k / 3 < 3 := by omega
    have hc : k % 3 < 3 := by omega
    rw [show k = 3 * (k / 3) + k % 3 by omega]
    generalize k / 3 = r at hr ⊢
    generalize k % 3 = c at hc ⊢
    have g : ∀ k, k < 9 → mx_inv 3 m a k = mx_min a k % m * mx_ov (mx_det 3 m a) m (m.toNat - 1) % m := fun k hk => by
      unfold mx_inv
      rw [if_neg (show ¬ 3 = 2 by decide), if_pos hk]
    rw [mx_mul3_at hr hc, mx_ps3, g _ (by omega), g _ (by omega), g _ (by omega), mx_e3, Int.mul_assoc, Int.mul_assoc, Int.mul_assoc, mx_e3]
    generalize hw : mx_ov (mx_det 3 m a) m (m.toNat - 1) = w
    have h1 : mx_min a (3 * r) * (w * a c) + mx_min a (3 * r + 1) * (w * a (3 + c)) + mx_min a (3 * r + 2) * (w * a (6 + c)) = w * mx_ps (mx_min a) a r c 3 := by
      rw [mx_ps3, Int.mul_add, Int.mul_add, Int.mul_left_comm, Int.mul_left_comm (mx_min a (3 * r + 1)), Int.mul_left_comm (mx_min a (3 * r + 2))]
    rw [h1, mx_cof hr hc, mx_id_at]
    by_cases e : r = c
    · have hD : mx_det 3 m a = mx_d3s a 3 % m := by unfold mx_det; rw [if_neg (by decide)]
      have hb := mx_md (m := m) (by omega) (mx_d3s a 3)
      have h2 := mx_ov_1 hm (d := mx_det 3 m a) (by rw [hD] at hd ⊢; omega)
      rw [hw, hD, Int.mul_comm, Int.mul_emod, Int.emod_emod_of_dvd _ (Int.dvd_refl m), ← Int.mul_emod] at h2
      rw [if_pos e, if_pos (by omega)]
      exact h2
    · rw [if_neg e, if_neg (by omega), Int.mul_zero]
      rfl
  · rw [mx_mul_9 k (by omega), mx_id_9 (by decide) k (by omega)]


theorem mx_inv2_mul {m : Int} (hm : m = 3 ∨ m = 5 ∨ m = 7 ∨ m = 11) {a : Nat → Int} (hz : mx_z 2 a) (hd : mx_det 2 m a ≠ 0) : mx_mul 3 m (mx_inv 2 m a) a = mx_id 2 := by
  have hD : mx_det 2 m a = (a 0 * a 4 - a 1 * a 3) % m := by unfold mx_det; rw [if_pos rfl]
  have hb := mx_md (m := m) (by omega) (a 0 * a 4 - a 1 * a 3)
  have h2 := mx_ov_1 hm (d := mx_det 2 m a) (by rw [hD] at hd ⊢; omega)
  generalize hw : mx_ov (mx_det 2 m a) m (m.toNat - 1) = w at h2
  rw [hD, Int.mul_comm, Int.mul_emod, Int.emod_emod_of_dvd _ (Int.dvd_refl m), ← Int.mul_emod] at h2
  have i0 : mx_inv 2 m a 0 = a 4 * w % m := by simp [mx_inv, hw]
  have i1 : mx_inv 2 m a 1 = -a 1 * w % m := by simp [mx_inv, hw]
  have i2 : mx_inv 2 m a 2 = 0 := by simp [mx_inv]
  have i3 : mx_inv 2 m a 3 = -a 3 * w % m := by simp [mx_inv, hw]
  have i4 : mx_inv 2 m a 4 = a 0 * w % m := by simp [mx_inv, hw]
  have i5 : mx_inv 2 m a 5 = 0 := by simp [mx_inv]
  have i6 : mx_inv 2 m a 6 = 0 := by simp [mx_inv]
  have i7 : mx_inv 2 m a 7 = 0 := by simp [mx_inv]
  have i8 : mx_inv 2 m a 8 = 0 := by simp [mx_inv]
  have a2 : a 2 = 0 := (hz.1 2 0 (by decide) (by decide) (by decide)).2
  have a5 : a 5 = 0 := (hz.1 2 1 (by decide) (by decide) (by decide)).2
  have e2 : ∀ x y p q : Int, (x % m * p + y % m * q) % m = (x * p + y * q) % m := fun x y p q => by
    have := @mx_e3 m x y 0 p q 0
    simpa using this
  funext k
  by_cases h9 : k < 9
  · have key : mx_ps (mx_inv 2 m a) a (k / 3) (k % 3) 3 % m = mx_id 2 k := by
      rw [mx_ps3]
      rcases (show k = 0 ∨ k = 1 ∨ k = 2 ∨ k = 3 ∨ k = 4 ∨ k = 5 ∨ k = 6 ∨ k = 7 ∨ k = 8 by omega) with rfl | rfl | rfl | rfl | rfl | rfl | rfl | rfl | rfl
      · show (mx_inv 2 m a 0 * a 0 + mx_inv 2 m a 1 * a 3 + mx_inv 2 m a 2 * a 6) % m = 1
        rw [i0, i1, i2, Int.zero_mul, Int.add_zero, e2, ← h2]
        congr 1
        simp only [Int.mul_sub, Int.neg_mul, Int.mul_neg, Int.mul_assoc, Int.mul_comm, Int.mul_left_comm]
        omega
      · show (mx_inv 2 m a 0 * a 1 + mx_inv 2 m a 1 * a 4 + mx_inv 2 m a 2 * a 7) % m = 0
        rw [i0, i1, i2, Int.zero_mul, Int.add_zero, e2, show a 4 * w * a 1 + -a 1 * w * a 4 = 0 by simp only [Int.neg_mul, Int.mul_neg, Int.mul_assoc, Int.mul_comm, Int.mul_left_comm]; omega]
        rfl
      · show (mx_inv 2 m a 0 * a 2 + mx_inv 2 m a 1 * a 5 + mx_inv 2 m a 2 * a 8) % m = 0
        rw [a2, a5, i2]
        simp
      · show (mx_inv 2 m a 3 * a 0 + mx_inv 2 m a 4 * a 3 + mx_inv 2 m a 5 * a 6) % m = 0
        rw [i3, i4, i5, Int.zero_mul, Int.add_zero, e2, show -a 3 * w * a 0 + a 0 * w * a 3 = 0 by simp only [Int.neg_mul, Int.mul_neg, Int.mul_assoc, Int.mul_comm, Int.mul_left_comm]; omega]
        rfl
      · show (mx_inv 2 m a 3 * a 1 + mx_inv 2 m a 4 * a 4 + mx_inv 2 m a 5 * a 7) % m = 1
        rw [i3, i4, i5, Int.zero_mul, Int.add_zero, e2, ← h2]
        congr 1
        simp only [Int.mul_sub, Int.neg_mul, Int.mul_neg, Int.mul_assoc, Int.mul_comm, Int.mul_left_comm]
        omega
      · show (mx_inv 2 m a 3 * a 2 + mx_inv 2 m a 4 * a 5 + mx_inv 2 m a 5 * a 8) % m = 0
        rw [a2, a5, i5]
        simp
      · show (mx_inv 2 m a 6 * a 0 + mx_inv 2 m a 7 * a 3 + mx_inv 2 m a 8 * a 6) % m = 0
        rw [i6, i7, i8]
        simp
      · show (mx_inv 2 m a 6 * a 1 + mx_inv 2 m a 7 * a 4 + mx_inv 2 m a 8 * a 7) % m = 0
        rw [i6, i7, i8]
        simp
      · show (mx_inv 2 m a 6 * a 2 + mx_inv 2 m a 7 * a 5 + mx_inv 2 m a 8 * a 8) % m = 0
        rw [i6, i7, i8]
        simp
    rw [← key]
    unfold mx_mul
    rw [if_pos (by omega)]
  · rw [mx_mul_9 k (by omega), mx_id_9 (by decide) k (by omega)]


/-- the identity on the left -/
theorem mx_id_mul {n : Nat} (hn : n = 2 ∨ n = 3) {m : Int} {x : Nat → Int} (ox : mx_ok m x) (hz : mx_z n x) : mx_mul 3 m (mx_id (n : Int)) x = x := by
  funext k
  by_cases h9 : k < 9
  · have hr : k / 3 < 3 := by omega
    have hc : k % 3 < 3 := by omega
    have o := ox k h9
    have hk : k = 3 * (k / 3) + k % 3 := by omega
    rw [hk] at o ⊢
    generalize k / 3 = r at hr o ⊢
    generalize k % 3 = c at hc o ⊢
    have hid : ∀ j, mx_id (n : Int) j = if j % 4 = 0 ∧ j / 4 < n then 1 else 0 := fun j => by
      unfold mx_id
      by_cases e : j % 4 = 0 ∧ j / 4 < n
      · rw [if_pos e, if_pos (by omega)]
      · rw [if_neg e, if_neg (by omega)]
    have key : mx_ps (mx_id (n : Int)) x r c 3 = x (3 * r + c) := by
      rw [mx_ps3, hid, hid, hid]
      by_cases e : n ≤ r
      · rw [(hz.1 r c hr hc e).1, if_neg (by omega), if_neg (by omega), if_neg (by omega)]
        simp
      · rcases (show r = 0 ∨ r = 1 ∨ r = 2 by omega) with rfl | rfl | rfl
        · rw [if_pos (by omega), if_neg (by omega), if_neg (by omega)]
          simp
        · rw [if_neg (by omega), if_pos (by omega), if_neg (by omega)]
          simp
        · rw [if_neg (by omega), if_neg (by omega), if_pos (by omega)]
          simp
    rw [mx_mul3_at hr hc, key, Int.emod_eq_of_lt o.1 o.2]
  · rw [mx_mul_9 k (by omega), hz.2 k (by omega)]


/-- the unit times the base is the identity -/
theorem mx_inv_mul {n : Nat} (hn : n = 2 ∨ n = 3) {m : Int} (hm : m = 3 ∨ m = 5 ∨ m = 7 ∨ m = 11) {a : Nat → Int} (hz : mx_z n a) (hd : mx_det n m a ≠ 0) : mx_mul 3 m (mx_inv n m a) a = mx_id (n : Int) := by
  rcases hn with rfl | rfl
  · exact mx_inv2_mul hm hz hd
  · exact mx_inv3_mul hm hd
/-- powers of W before a factor -/
def mx_pw (m : Int) (w v : Nat → Int) : Nat → Nat → Int
  | 0 => v
  | k + 1 => mx_mul 3 m w (mx_pw m w v k)
/-- W = a u; the k-th before v, times u, times the l-th is the (k + l)-th -/
theorem mx_pw_add {n : Nat} (hn : n = 2 ∨ n = 3) {m : Int} {w v u : Nat → Int} (hvu : mx_mul 3 m v u = mx_id (n : Int)) (l : Nat) (ol : mx_ok m (mx_pw m w v l)) (zl : mx_z n (mx_pw m w v l)) : ∀ k, mx_mul 3 m (mx_mul 3 m (mx_pw m w v k) u) (mx_pw m w v l) = mx_pw m w v (k + l)
  | 0 => by
    rw [Nat.zero_add]
    show mx_mul 3 m (mx_mul 3 m v u) (mx_pw m w v l) = _
    rw [hvu, mx_id_mul hn ol zl]
  | k + 1 => by
    have ih := mx_pw_add hn hvu l ol zl k
    rw [show k + 1 + l = (k + l) + 1 by omega]
    show mx_mul 3 m (mx_mul 3 m (mx_mul 3 m w (mx_pw m w v k)) u) (mx_pw m w v l) = mx_mul 3 m w (mx_pw m w v (k + l))
    rw [mx_mul_a (b := mx_pw m w v k), mx_mul_a, ih]


/-! powers: base u, unit v -/
theorem mx_id_s {n : Int} : mx_s (mx_id n) := fun i j hi hj => by
  rw [mx_id_at, mx_id_at]
  by_cases e : i = j
  · rw [e]
  · rw [if_neg (by omega), if_neg (by omega)]
theorem mx_t_fun {m : Int} {a b : Nat → Int} : mx_mul 3 m a b = fun k => if k < 9 then mx_mul 3 m (mx_t b) (mx_t a) (3 * (k % 3) + k / 3) else 0 := by
  funext k
  by_cases h : k < 9
  · rw [if_pos h, ← mx_mul_t (a := a) (b := b) (k := 3 * (k % 3) + k / 3) (by omega)]
    unfold mx_t
    rw [show 3 * ((3 * (k % 3) + k / 3) % 3) + (3 * (k % 3) + k / 3) / 3 = k by omega]
  · rw [if_neg h, mx_mul_9 k (by omega)]
theorem mx_t_back {x : Nat → Int} (hs : mx_s x) (h9 : ∀ k, 9 ≤ k → x k = 0) : (fun k => if k < 9 then x (3 * (k % 3) + k / 3) else 0) = x := by
  funext k
  by_cases h : k < 9
  · rw [if_pos h]
    exact mx_s_t hs k h
  · rw [if_neg h, h9 k (by omega)]
/-- what stands for valid factors in one order, stands in the other, if the product is symmetric -/
theorem mx_mul_sw {m : Int} {a b : Nat → Int} (ha : mx_s a) (hb : mx_s b) (hs : mx_s (mx_mul 3 m a b)) : mx_mul 3 m b a = mx_mul 3 m a b := by
  rw [mx_t_fun (a := b) (b := a), mx_mul_c (mx_s_t ha) (mx_s_t hb)]
  exact mx_t_back hs mx_mul_9
theorem mx_mul_id {n : Nat} (hn : n = 2 ∨ n = 3) {m : Int} {x : Nat → Int} (hx : mx_V n m x) : mx_mul 3 m x (mx_id (n : Int)) = x := by
  have h := mx_id_mul hn hx.1 hx.2.1
  rw [mx_mul_sw mx_id_s hx.2.2 (by rw [h]; exact hx.2.2), h]
theorem mx_pw_1 {n : Nat} (hn : n = 2 ∨ n = 3) {m : Int} {a u v : Nat → Int} (ha : mx_V n m a) (su : mx_s u) (sv : mx_s v) (hvu : mx_mul 3 m v u = mx_id (n : Int)) : mx_pw m (mx_mul 3 m a u) v 1 = a := by
  show mx_mul 3 m (mx_mul 3 m a u) v = a
  rw [mx_mul_a, mx_mul_sw sv su (by rw [hvu]; exact mx_id_s), hvu, mx_mul_id hn ha]
theorem mx_pw_V {n : Nat} (hn : n = 2 ∨ n = 3) {m : Int} (hm : 3 ≤ m) {a u v : Nat → Int} (ha : mx_V n m a) (su : mx_s u) (zu : mx_z n u) (hv : mx_V n m v) (hvu : mx_mul 3 m v u = mx_id (n : Int)) : ∀ k, mx_V n m (mx_pw m (mx_mul 3 m a u) v k)
  | 0 => hv
  | k + 1 => by
    have ih := mx_pw_V hn hm ha su zu hv hvu k
    have h1 := mx_pw_1 hn ha su hv.2.2 hvu
    have h2 := mx_pw_add (w := mx_mul 3 m a u) hn hvu 1 (by rw [h1]; exact ha.1) (by rw [h1]; exact ha.2.1) k
    rw [h1] at h2
    refine ⟨mx_mul_ok hm _ _, ?_, fun i j hi hj => ?_⟩
    · show mx_z n (mx_mul 3 m (mx_mul 3 m a u) (mx_pw m (mx_mul 3 m a u) v k))
      rw [mx_mul3 hn ha.2.1 zu, mx_mul3 hn mx_mul_z (by rw [← mx_mul3 hn ha.2.1 zu]; exact ih.2.1)]
      exact mx_mul_z
    · have h3 := mx_mul_t3 (m := m) ha.2.2 su ih.2.2 (k := 3 * i + j) (by omega)
      rw [h2] at h3
      rw [← h3]
      exact (mx_t_at hj).symm ▸ rfl


theorem mx_pw_prod {n : Nat} (hn : n = 2 ∨ n = 3) {m : Int} (hm : m = 3 ∨ m = 5 ∨ m = 7 ∨ m = 11) {a u v : Nat → Int} (ha : mx_V n m a) (su : mx_s u) (zu : mx_z n u) (hv : mx_V n m v) (hvu : mx_mul 3 m v u = mx_id (n : Int)) (k l : Nat) : mc_prod m u (mx_pw m (mx_mul 3 m a u) v k) (mx_pw m (mx_mul 3 m a u) v l) = mx_pw m (mx_mul 3 m a u) v (k + l) := by
  have hl := mx_pw_V hn (by omega) ha su zu hv hvu l
  have hkl := mx_pw_V hn (by omega) ha su zu hv hvu (k + l)
  unfold mc_prod
  rw [mx_pw_add hn hvu l hl.1 hl.2.1 k]
  exact mx_sym_self hm hkl.1 hkl.2.1.2 (mx_s_t hkl.2.2)
theorem mc_po_pw {n : Nat} (hn : n = 2 ∨ n = 3) {m : Int} (hm : m = 3 ∨ m = 5 ∨ m = 7 ∨ m = 11) {a u v : Nat → Int} (ha : mx_V n m a) (su : mx_s u) (zu : mx_z n u) (hv : mx_V n m v) (hvu : mx_mul 3 m v u = mx_id (n : Int)) : ∀ k, mc_po m u a v k = mx_pw m (mx_mul 3 m a u) v k
  | 0 => rfl
  | k + 1 => by
    have h := mx_pw_prod hn hm ha su zu hv hvu k 1
    rw [mx_pw_1 hn ha su hv.2.2 hvu] at h
    show mc_prod m u (mc_po m u a v k) a = _
    rw [mc_po_pw hn hm ha su zu hv hvu k, h]
/-- powers by squares are the powers -/
theorem mc_rs_pw {n : Nat} (hn : n = 2 ∨ n = 3) {m : Int} (hm : m = 3 ∨ m = 5 ∨ m = 7 ∨ m = 11) {a u v : Nat → Int} (ha : mx_V n m a) (su : mx_s u) (zu : mx_z n u) (hv : mx_V n m v) (hvu : mx_mul 3 m v u = mx_id (n : Int)) {N : Nat} : ∀ k, mc_rs m u v a N k = (mx_pw m (mx_mul 3 m a u) v (N % 2 ^ k), mx_pw m (mx_mul 3 m a u) v (2 ^ k))
  | 0 => by
    show (v, a) = _
    rw [Nat.pow_zero, Nat.mod_one, mx_pw_1 hn ha su hv.2.2 hvu]
    rfl
  | k + 1 => by
    have ih := mc_rs_pw hn hm ha su zu hv hvu (N := N) k
    show (if N / 2 ^ k % 2 = 1 then mc_prod m u (mc_rs m u v a N k).1 (mc_rs m u v a N k).2 else (mc_rs m u v a N k).1, mc_prod m u (mc_rs m u v a N k).2 (mc_rs m u v a N k).2) = _
    rw [ih]
    show (if N / 2 ^ k % 2 = 1 then mc_prod m u (mx_pw m (mx_mul 3 m a u) v (N % 2 ^ k)) (mx_pw m (mx_mul 3 m a u) v (2 ^ k)) else mx_pw m (mx_mul 3 m a u) v (N % 2 ^ k), mc_prod m u (mx_pw m (mx_mul 3 m a u) v (2 ^ k)) (mx_pw m (mx_mul 3 m a u) v (2 ^ k))) = _
    rw [mx_pw_prod hn hm ha su zu hv hvu, mx_pw_prod hn hm ha su zu hv hvu, Nat.mod_pow_succ, show 2 ^ k + 2 ^ k = 2 ^ (k + 1) by rw [Nat.pow_succ]; omega]
    have hlt : N / 2 ^ k % 2 < 2 := Nat.mod_lt _ (by decide)
    by_cases e : N / 2 ^ k % 2 = 1
    · rw [if_pos e, e, Nat.mul_one]
    · rw [if_neg e, show N / 2 ^ k % 2 = 0 by omega, Nat.mul_zero]
      rfl


theorem sp_vu {s : sp_S} (hs : sp_ok s) : mx_mul 3 (s.1 82) (zs_el s.1 9) (zs_el s.1 8) = mx_id ((zs_nn s : Nat) : Int) := by
  have h8 := sp_Vel hs (r := 8) (by decide)
  have h := mx_inv_mul (sp_nn hs) hs.1.2.1 h8.2.1 (by
    unfold zs_el
    rw [if_pos (by decide)]
    exact hs.1.2.2.2)
  have e9 : zs_el s.1 9 = mx_inv (zs_nn s) (s.1 82) (zs_el s.1 8) := by
    unfold zs_el
    rw [if_neg (by decide), if_pos (by decide)]
    rfl
  rw [e9]
  exact h
theorem sp_poV {s : sp_S} (hs : sp_ok s) {a b : Nat → Int} (ha : sp_V s a) (hb : sp_V s b) : ∀ k, mc_po (s.1 82) (zs_el s.1 8) a b k = zs_po s a b k ∧ sp_V s (zs_po s a b k)
  | 0 => ⟨rfl, hb⟩
  | k + 1 => by
    obtain ⟨h1, h2⟩ := sp_poV hs ha hb k
    have h3 : mc_po (s.1 82) (zs_el s.1 8) a b (k + 1) = mc_prod (s.1 82) (zs_el s.1 8) (zs_po s a b k) a := by
      show mc_prod _ _ (mc_po (s.1 82) (zs_el s.1 8) a b k) a = _
      rw [h1]
    have h4 : zs_po s a b (k + 1) = zs_prod s (zs_po s a b k) a := rfl
    refine ⟨by rw [h3, sp_pe hs h2 ha, h4], ?_⟩
    rw [h4, ← sp_pe hs h2 ha]
    exact sp_Vp hs h2 ha
/-- what raise reaches -/
theorem sp_rs {s : sp_S} (hs : sp_ok s) {a : Nat → Int} (ha : sp_V s a) {N : Nat} (hN : N ≤ 2000) : (mc_rs (s.1 82) (zs_el s.1 8) (zs_el s.1 9) a N 11).1 = zs_po s a (zs_el s.1 9) N := by
  have h8 := sp_Vel hs (r := 8) (by decide)
  have h9 := sp_V9 hs
  rw [mc_rs_pw (sp_nn hs) hs.1.2.1 ha h8.2.2 h8.2.1 h9 (sp_vu hs) 11, Nat.mod_eq_of_lt (show N < 2 ^ 11 by omega), ← (sp_poV hs ha h9 N).1, mc_po_pw (sp_nn hs) hs.1.2.1 ha h8.2.2 h8.2.1 h9 (sp_vu hs) N]


theorem zs_put_el {Z : Nat → Int} {r : Nat} {f : Nat → Int} (hr : r < 8) (h9 : ∀ k, 9 ≤ k → f k = 0) {q : Nat} (hq : q < 10) : zs_el (zs_put Z (9 * r) f) q = if q = r then f else zs_el Z q := by
  have e72 : mx_of (zs_put Z (9 * r) f) 72 = mx_of Z 72 := mx_of_ext (fun k hk => by
    unfold zs_put
    rw [if_neg (by omega)])
  have e81 : zs_put Z (9 * r) f 81 = Z 81 := by
    unfold zs_put
    rw [if_neg (by omega)]
  have e82 : zs_put Z (9 * r) f 82 = Z 82 := by
    unfold zs_put
    rw [if_neg (by omega)]
  by_cases h : q < 9
  · unfold zs_el
    rw [if_pos h, if_pos h]
    by_cases e : q = r
    · rw [if_pos e, e]
      funext k
      unfold mx_of
      by_cases k9 : k < 9
      · rw [if_pos k9]
        unfold zs_put
        rw [if_pos (by omega), show 9 * r + k - 9 * r = k by omega]
      · rw [if_neg k9, h9 k (by omega)]
    · rw [if_neg e]
      exact mx_of_ext (fun k hk => by
        unfold zs_put
        rw [if_neg (by omega)])
  · rw [if_neg (by omega)]
    unfold zs_el
    rw [if_neg h, if_neg h, e72, e81, e82]
/-- the parts put, in the spec's order -/
theorem zs_sp_el {s : sp_S} {e b : Nat → Int} {t : Nat} (ht : t ≤ 5) (h9 : ∀ w k, 9 ≤ k → zs_part s e b w k = 0) {q : Nat} (hq : q < 10) : zs_el (zs_sp s e b t 3) q = if q = t + 2 then zs_part s e b 0 else if q = t + 1 then zs_part s e b 1 else if q = t then zs_part s e b 2 else zs_el s.1 q := by
  show zs_el (zs_put (zs_put (zs_put s.1 (9 * (t + 0)) (zs_part s e b (2 - ((0 : Nat) : Int)))) (9 * (t + 1)) (zs_part s e b (2 - ((1 : Nat) : Int)))) (9 * (t + 2)) (zs_part s e b (2 - ((2 : Nat) : Int)))) q = _
  rw [zs_put_el (by omega) (h9 _) hq, zs_put_el (by omega) (h9 _) hq, zs_put_el (by omega) (h9 _) hq]
  rfl
theorem zs_sp_8 {s : sp_S} {e b : Nat → Int} {t : Nat} (ht : t ≤ 5) {k : Nat} (hk : 72 ≤ k) : zs_sp s e b t 3 k = s.1 k := by
  show zs_put (zs_put (zs_put s.1 (9 * (t + 0)) _) (9 * (t + 1)) _) (9 * (t + 2)) _ k = _
  unfold zs_put
  rw [if_neg (by omega), if_neg (by omega), if_neg (by omega)]
theorem zs_part9 {s : sp_S} (hs : sp_ok s) {e b : Nat → Int} (he : sp_V s e) (hb : sp_V s b) {w : Int} : ∀ k, 9 ≤ k → zs_part s e b w k = 0 := fun k hk => by
  obtain ⟨h2, h0, h1⟩ := sp_parts hs he hb
  by_cases e0 : w = 0
  · rw [e0, ← h0]
    exact mx_sym_9 k hk
  · by_cases e1 : w = 1
    · rw [e1, ← h1]
      exact mc_sb2_9 k hk
    · have h : zs_part s e b w = zs_part s e b 2 := by
        unfold zs_part mx_part
        rw [if_neg e0, if_neg e1, if_neg (by decide), if_neg (by decide)]
      rw [h, ← h2]
      exact mx_sym_9 k hk
theorem zs_partok {s : sp_S} (hs : sp_ok s) {e b : Nat → Int} {w : Int} : mx_ok (s.1 82) (zs_part s e b w) := mx_part_ok (by have := hs.1.2.1; omega)
/-- how many of the first parts aren't 0 -/
def zs_c3 (s : sp_S) (e b : Nat → Int) : Nat → Int → Prop
  | 0, y => y = 0
  | k + 1, y => ∃ x q, zs_c3 s e b k x ∧ mx_nz (zs_part s e b (k : Int)) q ∧ y = x + q
theorem zs_c3_cn {s : sp_S} {e b : Nat → Int} {y : Int} (h : zs_c3 s e b 3 y) : zs_cn s e b 3 y := by
  obtain ⟨x2, q2, ⟨x1, q1, ⟨x0, q0, h0, h1, rfl⟩, h2, rfl⟩, h3, rfl⟩ := h
  have h0 : x0 = 0 := h0
  subst h0
  exact ⟨0 + q2 + q1, q0, ⟨0 + q2, q1, ⟨0, q2, rfl, h3, rfl⟩, h2, rfl⟩, h1, by omega⟩
end
section
/-! sums, divisibility, linear combinations of rows of nine numbers -/
def ls_su (f : Nat → Int) : Nat → Int
  | 0 => 0
  | k + 1 => ls_su f k + f k
theorem ls_su_c {f g : Nat → Int} : ∀ n, (∀ i, i < n → f i = g i) → ls_su f n = ls_su g n
  | 0, _ => rfl
  | n + 1, h => by
    show ls_su f n + f n = ls_su g n + g n
    rw [ls_su_c n (fun i hi => h i (by omega)), h n (by omega)]
theorem ls_su_add (f g : Nat → Int) : ∀ n, ls_su (fun i => f i + g i) n = ls_su f n + ls_su g n
  | 0 => rfl
  | n + 1 => by
    show ls_su (fun i => f i + g i) n + (f n + g n) = ls_su f n + f n + (ls_su g n + g n)
    rw [ls_su_add f g n]
    omega
theorem ls_su_mul (c : Int) (f : Nat → Int) : ∀ n, ls_su (fun i => c * f i) n = c * ls_su f n
  | 0 => (Int.mul_zero c).symm
  | n + 1 => by
    show ls_su (fun i => c * f i) n + c * f n = c * (ls_su f n + f n)
    rw [ls_su_mul c f n, Int.mul_add]
theorem ls_su_mulr (c : Int) (f : Nat → Int) (n : Nat) : ls_su (fun i => f i * c) n = ls_su f n * c := by
  rw [Int.mul_comm, ← ls_su_mul]
  exact ls_su_c n (fun i _ => Int.mul_comm _ _)
theorem ls_su_0 : ∀ n, ls_su (fun _ => 0) n = 0
  | 0 => rfl
  | n + 1 => by
    show ls_su (fun _ => 0) n + 0 = 0
    rw [ls_su_0 n]
    rfl
theorem ls_su_one {f : Nat → Int} {j : Nat} : ∀ n, j < n → (∀ i, i < n → i ≠ j → f i = 0) → ls_su f n = f j
  | 0, h, _ => absurd h (by omega)
  | n + 1, h, g => by
    show ls_su f n + f n = f j
    by_cases e : j = n
    · rw [ls_su_c (g := fun _ => 0) n (fun i hi => g i (by omega) (by omega)), ls_su_0, e, Int.zero_add]
    · rw [ls_su_one n (by omega) (fun i hi => g i (by omega)), g n (by omega) (fun q => e q.symm), Int.add_zero]
theorem ls_su_dvd {m : Int} {f : Nat → Int} : ∀ n, (∀ i, i < n → m ∣ f i) → m ∣ ls_su f n
  | 0, _ => Int.dvd_zero m
  | n + 1, h => Int.dvd_add (ls_su_dvd n (fun i hi => h i (by omega))) (h n (by omega))
theorem ls_su_sw (f : Nat → Nat → Int) (b : Nat) : ∀ a, ls_su (fun i => ls_su (fun j => f i j) b) a = ls_su (fun j => ls_su (fun i => f i j) a) b
  | 0 => (ls_su_0 b).symm
  | a + 1 => by
    show ls_su (fun i => ls_su (fun j => f i j) b) a + ls_su (fun j => f a j) b = ls_su (fun j => ls_su (fun i => f i j) a + f a j) b
    rw [ls_su_sw f b a, ls_su_add]
theorem ls_su_hole {f : Nat → Int} {r : Nat} : ∀ n, r ≤ n → ls_su f (n + 1) = f r + ls_su (fun i => f (if i < r then i else i + 1)) n
  | 0, h => by
    have : r = 0 := by omega
    subst this
    show 0 + f 0 = f 0 + 0
    omega
  | n + 1, h => by
    by_cases e : r = n + 1
    · subst e
      show ls_su f (n + 1) + f (n + 1) = _
      rw [Int.add_comm]
      congr 1
      exact ls_su_c _ (fun i hi => by rw [if_pos hi])
    · show ls_su f (n + 1) + f (n + 1) = f r + (ls_su (fun i => f (if i < r then i else i + 1)) n + f (if n < r then n else n + 1))
      rw [ls_su_hole (r := r) n (by omega), if_neg (show ¬ n < r by omega)]
      omega
/-- modulo m, a prime number -/
def ls_p (m : Int) : Prop := m = 3 ∨ m = 5 ∨ m = 7 ∨ m = 11
theorem ls_inv {m d : Int} (hm : ls_p m) (hd : ¬ m ∣ d) : ∃ w, m ∣ d * w - 1 := by
  have h0 : 0 < d % m ∧ d % m < m := by
    have h1 := mx_md (m := m) (by rcases hm with h | h | h | h <;> omega) d
    have h2 : d % m ≠ 0 := fun e => hd (Int.dvd_of_emod_eq_zero e)
    omega
  have h := mx_ov_1 hm h0
  refine ⟨mx_ov (d % m) m (m.toNat - 1), ?_⟩
  apply Int.dvd_of_emod_eq_zero
  rw [Int.sub_emod]
  rw [Int.mul_emod, Int.emod_emod_of_dvd _ (Int.dvd_refl m), ← Int.mul_emod] at h
  rw [h]
  rcases hm with rfl | rfl | rfl | rfl <;> decide
theorem ls_ndvd1 {m : Int} (hm : ls_p m) : ¬ m ∣ 1 := by
  rcases hm with rfl | rfl | rfl | rfl <;> decide
theorem ls_can {m d x : Int} (hm : ls_p m) (hd : ¬ m ∣ d) (h : m ∣ d * x) : m ∣ x := by
  obtain ⟨w, k, hw⟩ := ls_inv hm hd
  obtain ⟨l, hl⟩ := h
  exact ⟨w * l - k * x, by grind⟩
theorem ls_ndm {m x y : Int} (hm : ls_p m) (hx : ¬ m ∣ x) (hy : ¬ m ∣ y) : ¬ m ∣ x * y := fun h => hy (ls_can hm hx h)
/-- what is in the span of the first k rows -/
def ls_Sp (m : Int) (R : Nat → Nat → Int) (k : Nat) (x : Nat → Int) : Prop := ∃ c : Nat → Int, ∀ j, j < 9 → m ∣ x j - ls_su (fun i => c i * R i j) k
/-- the first k rows are no sums of one another -/
def ls_in (m : Int) (R : Nat → Nat → Int) (k : Nat) : Prop := ∀ c : Nat → Int, (∀ j, j < 9 → m ∣ ls_su (fun i => c i * R i j) k) → ∀ i, i < k → m ∣ c i
/-- closed under linear combinations -/
def ls_lc (m : Int) (P : (Nat → Int) → Prop) : Prop := P (fun _ => 0) ∧ ∀ (x y z : Nat → Int) (s t : Int), P x → P y → (∀ j, j < 9 → m ∣ z j - (s * x j + t * y j)) → P z
theorem ls_Sp_lc {m : Int} {R : Nat → Nat → Int} {k : Nat} : ls_lc m (ls_Sp m R k) := by
  refine ⟨⟨fun _ => 0, fun j _ => ?_⟩, fun x y z s t hx hy h => ?_⟩
  · rw [ls_su_c (g := fun _ => 0) k (fun i _ => Int.zero_mul _), ls_su_0]
    exact Int.dvd_zero m
  · obtain ⟨c, hc⟩ := hx
    obtain ⟨d, hd⟩ := hy
    refine ⟨fun i => s * c i + t * d i, fun j hj => ?_⟩
    obtain ⟨p, hp⟩ := hc j hj
    obtain ⟨q, hq⟩ := hd j hj
    obtain ⟨r, hr⟩ := h j hj
    have e : ls_su (fun i => (s * c i + t * d i) * R i j) k = s * ls_su (fun i => c i * R i j) k + t * ls_su (fun i => d i * R i j) k := by
      rw [← ls_su_mul, ← ls_su_mul, ← ls_su_add]
      exact ls_su_c k (fun i _ => by grind)
    rw [e]
    exact ⟨r + s * p + t * q, by grind⟩
theorem ls_lc_0 {m : Int} {P : (Nat → Int) → Prop} (h : ls_lc m P) {z : Nat → Int} (hz : ∀ j, j < 9 → m ∣ z j) : P z :=
  h.2 _ _ z 0 0 h.1 h.1 (fun j hj => by
    obtain ⟨k, hk⟩ := hz j hj
    exact ⟨k, by grind⟩)
theorem ls_lc_e {m : Int} {P : (Nat → Int) → Prop} (h : ls_lc m P) {x z : Nat → Int} (hx : P x) (hz : ∀ j, j < 9 → m ∣ z j - x j) : P z :=
  h.2 x x z 1 0 hx hx (fun j hj => by
    obtain ⟨k, hk⟩ := hz j hj
    exact ⟨k, by grind⟩)
theorem ls_lc_su {m : Int} {P : (Nat → Int) → Prop} (h : ls_lc m P) {R : Nat → Nat → Int} (c : Nat → Int) : ∀ k, (∀ i, i < k → P (R i)) → P (fun j => ls_su (fun i => c i * R i j) k)
  | 0, _ => h.1
  | k + 1, g => h.2 _ _ _ 1 (c k) (ls_lc_su h c k (fun i hi => g i (by omega))) (g k (by omega)) (fun j _ => by
    show m ∣ ls_su (fun i => c i * R i j) k + c k * R k j - _
    exact ⟨0, by grind⟩)
theorem ls_Sp_P {m : Int} {P : (Nat → Int) → Prop} (h : ls_lc m P) {R : Nat → Nat → Int} {k : Nat} {x : Nat → Int} (hx : ls_Sp m R k x) (g : ∀ i, i < k → P (R i)) : P x := by
  obtain ⟨c, hc⟩ := hx
  exact ls_lc_e h (ls_lc_su h c k g) hc
theorem ls_Sp_i {m : Int} {R : Nat → Nat → Int} {k i : Nat} (hi : i < k) : ls_Sp m R k (R i) := by
  refine ⟨fun j => if j = i then 1 else 0, fun j _ => ?_⟩
  rw [ls_su_one (j := i) k hi (fun p _ hp => by simp [hp])]
  simp
/-- one unknown number more than equations -/
theorem ls_hom {m : Int} (hm : ls_p m) : ∀ (l : Nat) (A : Nat → Nat → Int), ∃ c : Nat → Int, (∃ i, i < l + 1 ∧ ¬ m ∣ c i) ∧ ∀ j, j < l → m ∣ ls_su (fun i => c i * A i j) (l + 1)
  | 0, A => ⟨fun _ => 1, ⟨0, by omega, ls_ndvd1 hm⟩, fun j hj => absurd hj (by omega)⟩
  | l + 1, A => by
    by_cases h : ∃ r, r < l + 2 ∧ ¬ m ∣ A r l
    · obtain ⟨r, hr, hd⟩ := h
      obtain ⟨w, p, hw⟩ := ls_inv hm hd
      have hs : ∀ i, (if i < r then i else i + 1) ≠ r := fun i => by split <;> omega
      obtain ⟨c, ⟨i0, h0, h1⟩, hc⟩ := ls_hom hm l (fun i j => A (if i < r then i else i + 1) j - A (if i < r then i else i + 1) l * w * A r j)
      refine ⟨fun i => if i = r then - ls_su (fun k => c k * (A (if k < r then k else k + 1) l * w)) (l + 1) else if i < r then c i else c (i - 1), ⟨if i0 < r then i0 else i0 + 1, by split <;> omega, ?_⟩, fun j hj => ?_⟩
      · show ¬ m ∣ (if (if i0 < r then i0 else i0 + 1) = r then _ else _)
        rw [if_neg (hs i0)]
        by_cases e : i0 < r
        · rw [if_pos e, if_pos e]
          exact h1
        · rw [if_neg e, if_neg (by omega)]
          exact h1
      · rw [ls_su_hole (r := r) (l + 1) (by omega)]
        dsimp only
        rw [if_pos rfl]
        have e1 : ls_su (fun i => ((if (if i < r then i else i + 1) = r then - ls_su (fun k => c k * (A (if k < r then k else k + 1) l * w)) (l + 1) else if (if i < r then i else i + 1) < r then c (if i < r then i else i + 1) else c ((if i < r then i else i + 1) - 1)) * A (if i < r then i else i + 1) j)) (l + 1) = ls_su (fun i => c i * A (if i < r then i else i + 1) j) (l + 1) := ls_su_c _ (fun i _ => by
          show (if (if i < r then i else i + 1) = r then _ else _) * _ = _
          rw [if_neg (hs i)]
          by_cases e : i < r
          · rw [if_pos e, if_pos e]
          · rw [if_neg e, if_neg (by omega)]
            rfl)
        rw [e1, Int.neg_mul, ← ls_su_mulr]
        have e2 : -ls_su (fun i => c i * (A (if i < r then i else i + 1) l * w) * A r j) (l + 1) + ls_su (fun i => c i * A (if i < r then i else i + 1) j) (l + 1) = ls_su (fun i => c i * (A (if i < r then i else i + 1) j - A (if i < r then i else i + 1) l * w * A r j)) (l + 1) := by
          have := ls_su_add (fun i => c i * (A (if i < r then i else i + 1) l * w) * A r j) (fun i => c i * (A (if i < r then i else i + 1) j - A (if i < r then i else i + 1) l * w * A r j)) (l + 1)
          have e3 := ls_su_c (f := fun i => c i * (A (if i < r then i else i + 1) l * w) * A r j + c i * (A (if i < r then i else i + 1) j - A (if i < r then i else i + 1) l * w * A r j)) (g := fun i => c i * A (if i < r then i else i + 1) j) (l + 1) (fun i _ => by grind)
          omega
        rw [e2]
        by_cases e : j < l
        · exact hc j e
        · have : j = l := by omega
          subst this
          refine ls_su_dvd _ (fun i _ => ?_)
          generalize A (if i < r then i else i + 1) j = y
          exact ⟨- (c i * y * p), by grind⟩
    · obtain ⟨c, ⟨i0, h0, h1⟩, hc⟩ := ls_hom hm l A
      refine ⟨fun i => if i = l + 1 then 0 else c i, ⟨i0, by omega, by dsimp only; rw [if_neg (by omega)]; exact h1⟩, fun j hj => ?_⟩
      show m ∣ ls_su (fun i => (if i = l + 1 then 0 else c i) * A i j) (l + 1) + (if l + 1 = l + 1 then 0 else c (l + 1)) * A (l + 1) j
      rw [if_pos rfl, Int.zero_mul, Int.add_zero]
      by_cases e : j < l
      · rw [ls_su_c (g := fun i => c i * A i j) (l + 1) (fun i hi => by rw [if_neg (by omega)])]
        exact hc j e
      · have : j = l := by omega
        subst this
        refine ls_su_dvd _ (fun i hi => ?_)
        have : m ∣ A i j := by
          by_cases q : m ∣ A i j
          · exact q
          · exact absurd ⟨i, by omega, q⟩ h
        exact Int.dvd_mul_of_dvd_right this
/-- rows that are no sums of one another aren't more than those of which they are sums -/
theorem ls_st {m : Int} (hm : ls_p m) {R S : Nat → Nat → Int} {k l : Nat} (hi : ls_in m R k) (hs : ∀ i, i < k → ls_Sp m S l (R i)) : k ≤ l := by
  by_cases hlt : k ≤ l
  · exact hlt
  · exfalso
    have hc : ∀ i, ∃ c : Nat → Int, i < k → ∀ j, j < 9 → m ∣ R i j - ls_su (fun p => c p * S p j) l := fun i => by
      by_cases h : i < k
      · obtain ⟨c, hc⟩ := hs i h
        exact ⟨c, fun _ => hc⟩
      · exact ⟨fun _ => 0, fun q => absurd q h⟩
    obtain ⟨A, hA⟩ := Classical.axiomOfChoice hc
    obtain ⟨c, ⟨i0, h0, h1⟩, h2⟩ := ls_hom hm l A
    have ext : ∀ (g : Nat → Int) (n : Nat), ls_su (fun i => (if i < l + 1 then c i else 0) * g i) (l + 1 + n) = ls_su (fun i => c i * g i) (l + 1) := fun g n => by
      induction n with
      | zero => exact ls_su_c _ (fun i hi => by rw [if_pos (show i < l + 1 by omega)])
      | succ n ih =>
        show ls_su (fun i => (if i < l + 1 then c i else 0) * g i) (l + 1 + n) + (if l + 1 + n < l + 1 then c (l + 1 + n) else 0) * g (l + 1 + n) = _
        rw [ih, if_neg (by omega), Int.zero_mul, Int.add_zero]
    have := hi (fun i => if i < l + 1 then c i else 0) (fun j hj => by
      have e := ext (fun i => R i j) (k - (l + 1))
      rw [show l + 1 + (k - (l + 1)) = k by omega] at e
      rw [e]
      have e1 : m ∣ ls_su (fun i => c i * (R i j - ls_su (fun p => A i p * S p j) l)) (l + 1) := ls_su_dvd _ (fun i hi => Int.dvd_mul_of_dvd_right (hA i (by omega) j hj))
      have e2 : ls_su (fun i => ls_su (fun p => c i * A i p * S p j) l) (l + 1) = ls_su (fun p => ls_su (fun i => c i * A i p) (l + 1) * S p j) l := by
        rw [ls_su_sw]
        exact ls_su_c _ (fun p _ => ls_su_mulr _ _ _)
      have e3 : m ∣ ls_su (fun p => ls_su (fun i => c i * A i p) (l + 1) * S p j) l := ls_su_dvd _ (fun p hp => Int.dvd_mul_of_dvd_left (h2 p hp))
      have e4 := ls_su_add (fun i => c i * (R i j - ls_su (fun p => A i p * S p j) l)) (fun i => ls_su (fun p => c i * A i p * S p j) l) (l + 1)
      have e5 := ls_su_c (f := fun i => c i * (R i j - ls_su (fun p => A i p * S p j) l) + ls_su (fun p => c i * A i p * S p j) l) (g := fun i => c i * R i j) (l + 1) (fun i _ => by
        have e6 : ls_su (fun p => c i * A i p * S p j) l = c i * ls_su (fun p => A i p * S p j) l := by
          rw [← ls_su_mul]
          exact ls_su_c _ (fun p _ => Int.mul_assoc _ _ _)
        show c i * (R i j - ls_su (fun p => A i p * S p j) l) + ls_su (fun p => c i * A i p * S p j) l = _
        rw [e6, Int.mul_sub]
        omega)
      rw [← e5, e4, e2]
      exact Int.dvd_add e1 e3) i0 (by omega)
    simp only [show i0 < l + 1 from h0, if_true] at this
    exact h1 this
end
section
/-! the reference's rows: independent, of the same span -/
theorem ls_3 {m : Int} (hm : ls_p m) : 3 ≤ m := by rcases hm with h | h | h | h <;> omega
theorem ls_em {m x : Int} : m ∣ x % m - x := ⟨-(x / m), by rw [Int.emod_def, Int.mul_neg]; omega⟩
theorem ls_em' {m x : Int} : m ∣ x - x % m := ⟨x / m, by rw [Int.emod_def]; omega⟩
/-- a number in range that m divides is 0 -/
theorem ls_r0 {m x : Int} (h : 0 ≤ x ∧ x < m) (hd : m ∣ x) : x = 0 := by
  rw [← Int.emod_eq_of_lt h.1 h.2]
  exact Int.emod_eq_zero_of_dvd hd
def ls_sq (m : Int) (x : Nat → Nat → Int) : Nat → Nat × (Nat → Nat → Int)
  | 0 => (0, fun _ _ => 0)
  | k + 1 => mx_nw m (ls_sq m x k) (x k)
/-- leads of the rows, each 0 in the rows behind it -/
def ls_ld (m : Int) (s : Nat × (Nat → Nat → Int)) : Prop := (∀ i, i < s.1 → mx_ok m (s.2 i) ∧ mx_ld (s.2 i) < 9) ∧ ∀ i p, i < p → p < s.1 → s.2 p (mx_ld (s.2 i)) = 0
theorem ls_red_0 {m : Int} (hm : ls_p m) {R : Nat → Nat → Int} {x : Nat → Int} : ∀ k, (∀ i, i < k → mx_ok m (R i) ∧ mx_ld (R i) < 9) → (∀ i p, i < p → p < k → R p (mx_ld (R i)) = 0) → ∀ i, i < k → mx_red m R x k (mx_ld (R i)) = 0
  | 0, _, _, i, hi => absurd hi (by omega)
  | k + 1, h1, h2, i, hi => by
    have hl := (h1 i hi).2
    show (if mx_ld (R i) < 9 then (mx_red m R x k (mx_ld (R i)) - mx_red m R x k (mx_ld (R k)) * mx_ov (R k (mx_ld (R k))) m (m.toNat - 1) % m * R k (mx_ld (R i))) % m else 0) = 0
    rw [if_pos hl]
    by_cases e : i = k
    · subst e
      have hb := (h1 i hi).1 _ hl
      have hz := (mx_ld_s (R i)).2.2 hl
      have ho := mx_ov_1 hm (d := R i (mx_ld (R i))) (by omega)
      generalize mx_ov (R i (mx_ld (R i))) m (m.toNat - 1) = w at ho ⊢
      generalize R i (mx_ld (R i)) = d at ho ⊢
      generalize mx_red m R x i (mx_ld (R i)) = y
      apply Int.emod_eq_zero_of_dvd
      obtain ⟨p, hp⟩ := @ls_em' m (d * w)
      rw [ho] at hp
      obtain ⟨q, hq⟩ := @ls_em m (y * w)
      exact ⟨- (y * p) - q * d, by grind⟩
    · rw [ls_red_0 hm k (fun i hi => h1 i (by omega)) (fun i p a b => h2 i p a (by omega)) i (by omega), h2 i k (by omega) (by omega), Int.mul_zero]
      rfl
theorem ls_red_P {m : Int} {P : (Nat → Int) → Prop} (h : ls_lc m P) {R : Nat → Nat → Int} {x : Nat → Int} : ∀ k, (∀ i, i < k → P (R i)) → (P x ↔ P (mx_red m R x k))
  | 0, _ => Iff.rfl
  | k + 1, g => by
    rw [ls_red_P h k (fun i hi => g i (by omega))]
    have gk := g k (by omega)
    generalize hq : mx_red m R x k (mx_ld (R k)) * mx_ov (R k (mx_ld (R k))) m (m.toNat - 1) % m = q
    have e : ∀ j, j < 9 → mx_red m R x (k + 1) j = (mx_red m R x k j - q * R k j) % m := fun j hj => by
      rw [← hq]
      exact if_pos hj
    constructor
    · intro hp
      refine h.2 _ _ _ 1 (-q) hp gk (fun j hj => ?_)
      rw [e j hj]
      obtain ⟨p, hp⟩ := @ls_em m (mx_red m R x k j - q * R k j)
      exact ⟨p, by grind⟩
    · intro hp
      refine h.2 _ _ _ 1 q hp gk (fun j hj => ?_)
      rw [e j hj]
      obtain ⟨p, hp⟩ := @ls_em m (mx_red m R x k j - q * R k j)
      exact ⟨-p, by grind⟩
theorem ls_sq_ld {m : Int} (hm : ls_p m) {x : Nat → Nat → Int} (ox : ∀ i, mx_ok m (x i)) : ∀ k, ls_ld m (ls_sq m x k)
  | 0 => ⟨fun i hi => absurd hi (by simp [ls_sq]), fun i p _ hp => absurd hp (by simp [ls_sq])⟩
  | k + 1 => by
    obtain ⟨h1, h2⟩ := ls_sq_ld hm ox k
    generalize hs : ls_sq m x k = s at h1 h2
    have h0 := ls_red_0 hm (R := s.2) (x := x k) s.1 h1 h2
    have hr := mx_red_ok (ls_3 hm) (R := s.2) (ox k) s.1
    show ls_ld m (mx_nw m (ls_sq m x k) (x k))
    rw [hs]
    have low : ∀ i, i < s.1 → (mx_nw m s (x k)).2 i = s.2 i := fun i hi => if_neg (by omega)
    have top : (mx_nw m s (x k)).2 s.1 = mx_red m s.2 (x k) s.1 := if_pos rfl
    by_cases e : mx_ld (mx_red m s.2 (x k) s.1) < 9
    · have hn : (mx_nw m s (x k)).1 = s.1 + 1 := if_pos e
      refine ⟨fun i hi => ?_, fun i p hip hp => ?_⟩
      · rw [hn] at hi
        by_cases q : i = s.1
        · rw [q, top]
          exact ⟨hr, e⟩
        · rw [low i (by omega)]
          exact h1 i (by omega)
      · rw [hn] at hp
        rw [low i (by omega)]
        by_cases q : p = s.1
        · rw [q, top]
          exact h0 i (by omega)
        · rw [low p (by omega)]
          exact h2 i p hip (by omega)
    · have hn : (mx_nw m s (x k)).1 = s.1 := if_neg e
      refine ⟨fun i hi => ?_, fun i p hip hp => ?_⟩
      · rw [hn] at hi
        rw [low i hi]
        exact h1 i hi
      · rw [hn] at hp
        rw [low i (by omega), low p (by omega)]
        exact h2 i p hip hp
theorem ls_sq_P {m : Int} {P : (Nat → Int) → Prop} (h : ls_lc m P) {x : Nat → Nat → Int} : ∀ k, (∀ i, i < k → P (x i)) ↔ ∀ i, i < (ls_sq m x k).1 → P ((ls_sq m x k).2 i)
  | 0 => ⟨fun _ i hi => absurd hi (by simp [ls_sq]), fun _ i hi => absurd hi (by omega)⟩
  | k + 1 => by
    have ih := ls_sq_P h (x := x) k
    show _ ↔ ∀ i, i < (mx_nw m (ls_sq m x k) (x k)).1 → P ((mx_nw m (ls_sq m x k) (x k)).2 i)
    generalize ls_sq m x k = s at ih ⊢
    have low : ∀ i, i < s.1 → (mx_nw m s (x k)).2 i = s.2 i := fun i hi => if_neg (by omega)
    have top : (mx_nw m s (x k)).2 s.1 = mx_red m s.2 (x k) s.1 := if_pos rfl
    have key : (∀ i, i < s.1 → P (s.2 i)) → (P (x k) ↔ P (mx_red m s.2 (x k) s.1)) := fun g => ls_red_P h s.1 g
    by_cases e : mx_ld (mx_red m s.2 (x k) s.1) < 9
    · have hn : (mx_nw m s (x k)).1 = s.1 + 1 := if_pos e
      rw [hn]
      constructor
      · intro g i hi
        have g1 := ih.mp (fun i hi => g i (by omega))
        by_cases q : i = s.1
        · rw [q, top]
          exact (key g1).mp (g k (by omega))
        · rw [low i (by omega)]
          exact g1 i (by omega)
      · intro g i hi
        have g1 : ∀ i, i < s.1 → P (s.2 i) := fun i hi => by
          have := g i (by omega)
          rwa [low i hi] at this
        by_cases q : i = k
        · rw [q]
          have := g s.1 (by omega)
          rw [top] at this
          exact (key g1).mpr this
        · exact ih.mpr g1 i (by omega)
    · have hn : (mx_nw m s (x k)).1 = s.1 := if_neg e
      rw [hn]
      have hz : P (mx_red m s.2 (x k) s.1) := ls_lc_0 h (fun j hj => by
        have h9 := mx_ld_s (mx_red m s.2 (x k) s.1)
        rw [h9.2.1 j (by omega)]
        exact Int.dvd_zero m)
      constructor
      · intro g i hi
        rw [low i hi]
        exact ih.mp (fun i hi => g i (by omega)) i hi
      · intro g i hi
        have g1 : ∀ i, i < s.1 → P (s.2 i) := fun i hi => by
          have := g i hi
          rwa [low i hi] at this
        by_cases q : i = k
        · rw [q]
          exact (key g1).mpr hz
        · exact ih.mpr g1 i (by omega)
theorem ls_ld_in {m : Int} (hm : ls_p m) {s : Nat × (Nat → Nat → Int)} (h : ls_ld m s) : ls_in m s.2 s.1 := by
  intro c hc i
  induction i using Nat.strongRecOn with
  | ind i ih =>
    intro hi
    obtain ⟨ho, hl⟩ := h.1 i hi
    have hnd : ¬ m ∣ s.2 i (mx_ld (s.2 i)) := fun q => (mx_ld_s (s.2 i)).2.2 hl (ls_r0 (ho _ hl) q)
    have h1 := hc _ hl
    have h2 : m ∣ ls_su (fun p => c p * s.2 p (mx_ld (s.2 i)) - (if p = i then c i * s.2 i (mx_ld (s.2 i)) else 0)) s.1 := ls_su_dvd _ (fun p hp => by
      rcases Nat.lt_trichotomy p i with q | q | q
      · rw [if_neg (by omega), Int.sub_zero]
        exact Int.dvd_mul_of_dvd_left (ih p q hp)
      · rw [if_pos q, q, Int.sub_self]
        exact Int.dvd_zero m
      · rw [if_neg (by omega), Int.sub_zero, h.2 i p q hp, Int.mul_zero]
        exact Int.dvd_zero m)
    have h3 := ls_su_add (fun p => c p * s.2 p (mx_ld (s.2 i)) - (if p = i then c i * s.2 i (mx_ld (s.2 i)) else 0)) (fun p => if p = i then c i * s.2 i (mx_ld (s.2 i)) else 0) s.1
    have h4 : ls_su (fun p => if p = i then c i * s.2 i (mx_ld (s.2 i)) else 0) s.1 = c i * s.2 i (mx_ld (s.2 i)) := by
      rw [ls_su_one (j := i) s.1 hi (fun p _ hp => if_neg hp)]
      exact if_pos rfl
    have h5 := ls_su_c (f := fun p => c p * s.2 p (mx_ld (s.2 i)) - (if p = i then c i * s.2 i (mx_ld (s.2 i)) else 0) + (if p = i then c i * s.2 i (mx_ld (s.2 i)) else 0)) (g := fun p => c p * s.2 p (mx_ld (s.2 i))) s.1 (fun p _ => by omega)
    rw [h5, h4] at h3
    obtain ⟨a, ha⟩ := h1
    obtain ⟨b, hb⟩ := h2
    exact ls_can hm hnd ⟨a - b, by rw [Int.mul_comm, Int.mul_sub]; omega⟩
/-- the reference's count of a sequence, by any rows of the same span that are independent -/
theorem ls_sq_n {m : Int} (hm : ls_p m) {x : Nat → Nat → Int} (ox : ∀ i, mx_ok m (x i)) {k d : Nat} {R : Nat → Nat → Int} (hi : ls_in m R d) (h1 : ∀ i, i < d → ls_Sp m x k (R i)) (h2 : ∀ i, i < k → ls_Sp m R d (x i)) : (ls_sq m x k).1 = d := by
  have hl := ls_ld_in hm (ls_sq_ld hm ox k)
  have a1 : ∀ i, i < k → ls_Sp m (ls_sq m x k).2 (ls_sq m x k).1 (x i) := (ls_sq_P ls_Sp_lc k).mpr (fun i hi => ls_Sp_i hi)
  have a2 : d ≤ (ls_sq m x k).1 := ls_st hm hi (fun i hi => ls_Sp_P ls_Sp_lc (h1 i hi) a1)
  have a3 : (ls_sq m x k).1 ≤ d := ls_st hm hl ((ls_sq_P ls_Sp_lc k).mp h2)
  omega
theorem ls_sq_le {m : Int} (hm : ls_p m) {x : Nat → Nat → Int} (ox : ∀ i, mx_ok m (x i)) {k d : Nat} {R : Nat → Nat → Int} (h2 : ∀ i, i < k → ls_Sp m R d (x i)) : (ls_sq m x k).1 ≤ d := ls_st hm (ls_ld_in hm (ls_sq_ld hm ox k)) ((ls_sq_P ls_Sp_lc k).mp h2)
end
section
/-! the class's rows: independent, of the same span -/
theorem ls_iv {m p : Int} (hm : ls_p m) (hp : 0 < p ∧ p < m) : p * rr_iv p m (m.toNat - 1) % m = 1 := by
  have k3 : ∀ j : Fin 3, 0 < j.val → (j.val : Int) * rr_iv (j.val : Int) 3 ((3 : Int).toNat - 1) % 3 = 1 := by decide +kernel
  have k5 : ∀ j : Fin 5, 0 < j.val → (j.val : Int) * rr_iv (j.val : Int) 5 ((5 : Int).toNat - 1) % 5 = 1 := by decide +kernel
  have k7 : ∀ j : Fin 7, 0 < j.val → (j.val : Int) * rr_iv (j.val : Int) 7 ((7 : Int).toNat - 1) % 7 = 1 := by decide +kernel
  have k11 : ∀ j : Fin 11, 0 < j.val → (j.val : Int) * rr_iv (j.val : Int) 11 ((11 : Int).toNat - 1) % 11 = 1 := by decide +kernel
  have e : ((p.toNat : Nat) : Int) = p := by omega
  rcases hm with rfl | rfl | rfl | rfl
  · have := k3 ⟨p.toNat, by omega⟩ (by show 0 < p.toNat; omega)
    simp only [e] at this
    exact this
  · have := k5 ⟨p.toNat, by omega⟩ (by show 0 < p.toNat; omega)
    simp only [e] at this
    exact this
  · have := k7 ⟨p.toNat, by omega⟩ (by show 0 < p.toNat; omega)
    simp only [e] at this
    exact this
  · have := k11 ⟨p.toNat, by omega⟩ (by show 0 < p.toNat; omega)
    simp only [e] at this
    exact this
/-- so far: pivots in the columns that are done -/
def ls_pv (R : Nat → Nat → Int) (d c : Nat) (pc : Nat → Nat) : Prop := (∀ i, i < d → pc i < c ∧ R i (pc i) = 1 ∧ ∀ p, p < 4 → p ≠ i → R p (pc i) = 0) ∧ (∀ i p, i < p → p < d → pc i < pc p) ∧ ∀ i j, d ≤ i → i < 4 → j < c → R i j = 0
theorem ls_clr_0 {m : Int} {R : Nat → Nat → Int} {r c p j : Nat} (hr : R r j = 0) (h : R p j = 0) : rr_clr m R r c p j = 0 := by
  unfold rr_clr
  by_cases e : p = r
  · rw [if_pos e]; exact hr
  · rw [if_neg e]
    by_cases q : j < 9
    · skip
      rw [if_pos q, hr, h]
      simp
    · skip
      rw [if_neg q]
/-- what a step with a pivot makes -/
theorem ls_pv_s {m : Int} (hm : ls_p m) {R : Nat → Nat → Int} (ok : rr_ok m R) {d c f : Nat} (hc : c < 9) (hf : rr_fd R c d f) (hf4 : f < 4) {pc : Nat → Nat} (h : ls_pv R d c pc) : ls_pv (rr_clr m (rr_one m (rr_ex R f d) d c) d c) (d + 1) (c + 1) (fun i => if i = d then c else pc i) := by
  obtain ⟨h1, h2, h3⟩ := h
  obtain ⟨f1, f2, f3, f4⟩ := hf
  have hd4 : d < 4 := by omega
  have hE := rr_ex_ok ok hf4 hd4
  have hex : ∀ j, rr_ex R f d d j = R f j := fun j => by
    unfold rr_ex
    by_cases e : d = f
    · rw [if_pos e, e]
    · rw [if_neg e, if_pos rfl]
  have hex0 : ∀ j, R f j = 0 → R d j = 0 → ∀ p, R p j = 0 → rr_ex R f d p j = 0 := fun j a b p hp => by
    unfold rr_ex
    by_cases e : p = f
    · rw [if_pos e]; exact b
    · rw [if_neg e]
      by_cases e2 : p = d
      · rw [if_pos e2]; exact a
      · rw [if_neg e2]; exact hp
  have hlow : ∀ p, p < d → ∀ j, rr_ex R f d p j = R p j := fun p hp j => by
    unfold rr_ex
    rw [if_neg (by omega), if_neg (by omega)]
  have hOk := rr_one_ok (ls_3 hm) hE (r := d) (c := c)
  have hone0 : ∀ p j, rr_ex R f d p j = 0 → rr_one m (rr_ex R f d) d c p j = 0 := fun p j hp => by
    unfold rr_one
    by_cases e : p = d
    · rw [if_pos e]
      by_cases q : j < 9
      · skip
        rw [if_pos q, show rr_ex R f d d j = 0 by rw [← hp, e]]
        simp
      · skip
        rw [if_neg q]
    · rw [if_neg e]; exact hp
  have hone1 : ∀ p, p ≠ d → ∀ j, rr_one m (rr_ex R f d) d c p j = rr_ex R f d p j := fun p hp j => by
    unfold rr_one
    rw [if_neg hp]
  have hpiv : rr_one m (rr_ex R f d) d c d c = 1 := by
    unfold rr_one
    rw [if_pos rfl, if_pos hc, hex c]
    have b := (ok f hf4).1 c hc
    have := f4 hf4
    exact ls_iv hm (by omega)
  generalize rr_one m (rr_ex R f d) d c = S at hOk hone0 hone1 hpiv ⊢
  have cd : ∀ j, rr_clr m S d c d j = S d j := fun j => by
    unfold rr_clr
    rw [if_pos rfl]
  have cc : ∀ p, p ≠ d → p < 4 → rr_clr m S d c p c = 0 := fun p hp _ => by
    unfold rr_clr
    rw [if_neg hp, if_pos hc, hpiv, Int.mul_one, Int.sub_self]
    rfl
  have keep : ∀ p j, p < 4 → j < 9 → S d j = 0 → rr_clr m S d c p j = S p j := fun p j hp hj h0 => by
    unfold rr_clr
    by_cases e : p = d
    · rw [if_pos e, e]
    · rw [if_neg e, if_pos hj, h0, Int.mul_zero, Int.sub_zero]
      have b := (hOk p hp).1 j hj
      exact Int.emod_eq_of_lt b.1 b.2
  have hdz : ∀ j, j < c → S d j = 0 := fun j hj => hone0 d j (by rw [hex]; exact h3 f j f1 hf4 hj)
  refine ⟨fun i hi => ?_, fun i p hip hp => ?_, fun i j hi hi4 hj => ?_⟩
  · by_cases e : i = d
    · dsimp only
      rw [if_pos e, e]
      exact ⟨by omega, by rw [cd]; exact hpiv, fun p hp hpd => cc p hpd hp⟩
    · dsimp only
      rw [if_neg e]
      obtain ⟨g1, g2, g3⟩ := h1 i (by omega)
      refine ⟨by omega, ?_, fun p hp hpi => ?_⟩
      · rw [keep i (pc i) (by omega) (by omega) (hdz _ g1), hone1 i e, hlow i (by omega)]
        exact g2
      · rw [keep p (pc i) hp (by omega) (hdz _ g1)]
        exact hone0 p _ (hex0 _ (g3 f hf4 (by omega)) (g3 d hd4 (by omega)) p (g3 p hp hpi))
  · dsimp only
    by_cases e : p = d
    · rw [if_pos e, if_neg (by omega)]
      exact (h1 i (by omega)).1
    · rw [if_neg e, if_neg (by omega)]
      exact h2 i p hip (by omega)
  · by_cases e : j = c
    · rw [e]
      exact cc i (by omega) hi4
    · rw [keep i j hi4 (by omega) (hdz j (by omega)), hone1 i (by omega)]
      exact hex0 j (h3 f j f1 hf4 (by omega)) (h3 d j (Nat.le_refl d) hd4 (by omega)) i (h3 i j (by omega) hi4 (by omega))
theorem ls_pv_n {R : Nat → Nat → Int} {d c : Nat} (hf : rr_fd R c d 4) {pc : Nat → Nat} (h : ls_pv R d c pc) : ls_pv R d (c + 1) pc := by
  obtain ⟨h1, h2, h3⟩ := h
  refine ⟨fun i hi => ⟨by have := (h1 i hi).1; omega, (h1 i hi).2⟩, h2, fun i j hi hi4 hj => ?_⟩
  by_cases e : j = c
  · rw [e]
    exact hf.2.2.1 i hi hi4
  · exact h3 i j hi hi4 (by omega)
theorem ls_clr_P {m : Int} {P : (Nat → Int) → Prop} (h : ls_lc m P) {S : Nat → Nat → Int} {d c : Nat} (hd : d < 4) : (∀ i, i < 4 → P (S i)) ↔ ∀ i, i < 4 → P (rr_clr m S d c i) := by
  have cd : rr_clr m S d c d = S d := by
    unfold rr_clr
    rw [if_pos rfl]
  have ce : ∀ i, i ≠ d → ∀ j, j < 9 → rr_clr m S d c i j = (S i j - S i c * S d j) % m := fun i hi j hj => by
    unfold rr_clr
    rw [if_neg hi, if_pos hj]
  constructor
  · intro g i hi
    by_cases e : i = d
    · rw [e, cd]; exact g d hd
    · refine h.2 _ _ _ 1 (-S i c) (g i hi) (g d hd) (fun j hj => ?_)
      rw [ce i e j hj]
      obtain ⟨p, hp⟩ := @ls_em m (S i j - S i c * S d j)
      exact ⟨p, by grind⟩
  · intro g i hi
    have gd := g d hd
    rw [cd] at gd
    by_cases e : i = d
    · rw [e]; exact gd
    · refine h.2 _ _ _ 1 (S i c) (g i hi) gd (fun j hj => ?_)
      rw [ce i e j hj]
      obtain ⟨p, hp⟩ := @ls_em m (S i j - S i c * S d j)
      exact ⟨-p, by grind⟩
theorem ls_one_P {m : Int} (hm : ls_p m) {P : (Nat → Int) → Prop} (h : ls_lc m P) {S : Nat → Nat → Int} {d c : Nat} (hd : d < 4) (hp : 0 < S d c ∧ S d c < m) : (∀ i, i < 4 → P (S i)) ↔ ∀ i, i < 4 → P (rr_one m S d c i) := by
  have ne : ∀ i, i ≠ d → rr_one m S d c i = S i := fun i hi => by
    unfold rr_one
    rw [if_neg hi]
  have de : ∀ j, j < 9 → rr_one m S d c d j = S d j * rr_iv (S d c) m (m.toNat - 1) % m := fun j hj => by
    unfold rr_one
    rw [if_pos rfl, if_pos hj]
  have hw := ls_iv hm hp
  generalize rr_iv (S d c) m (m.toNat - 1) = w at hw de
  constructor
  · intro g i hi
    by_cases e : i = d
    · rw [e]
      refine h.2 _ _ _ w 0 (g d hd) (g d hd) (fun j hj => ?_)
      rw [de j hj]
      obtain ⟨p, hp⟩ := @ls_em m (S d j * w)
      exact ⟨p, by grind⟩
    · rw [ne i e]; exact g i hi
  · intro g i hi
    by_cases e : i = d
    · rw [e]
      refine h.2 _ _ _ (S d c) 0 (g d hd) (g d hd) (fun j hj => ?_)
      rw [de j hj]
      obtain ⟨p, hp⟩ := @ls_em m (S d j * w)
      obtain ⟨q, hq⟩ := @ls_em' m (S d c * w)
      rw [hw] at hq
      exact ⟨- (S d j * q) - S d c * p, by grind⟩
    · have := g i hi
      rwa [ne i e] at this
theorem ls_ex_P {P : (Nat → Int) → Prop} {R : Nat → Nat → Int} {a b : Nat} (ha : a < 4) (hb : b < 4) : (∀ i, i < 4 → P (R i)) ↔ ∀ i, i < 4 → P (rr_ex R a b i) := by
  constructor
  · intro g i hi
    unfold rr_ex
    by_cases e : i = a
    · rw [if_pos e]; exact g b hb
    · rw [if_neg e]
      by_cases e2 : i = b
      · rw [if_pos e2]; exact g a ha
      · rw [if_neg e2]; exact g i hi
  · intro g i hi
    by_cases e : i = b
    · have := g a ha
      unfold rr_ex at this
      rw [if_pos rfl] at this
      rw [e]; exact this
    · by_cases e2 : i = a
      · have := g b hb
        unfold rr_ex at this
        by_cases q : b = a
        · rw [if_pos q] at this
          rw [e2, ← q]; exact this
        · rw [if_neg q, if_pos rfl] at this
          rw [e2]; exact this
      · have := g i hi
        unfold rr_ex at this
        rw [if_neg e2, if_neg e] at this
        exact this
/-- all of it, at each column -/
theorem ls_run {m : Int} (hm : ls_p m) {R0 : Nat → Nat → Int} (ok : rr_ok m R0) {pv : Int} : ∀ c, c ≤ 9 → ∀ q, rr_run m (R0, pv, 0) c q → q.2.2 ≤ 4 ∧ q.2.2 ≤ c ∧ rr_ok m q.1 ∧ (∃ pc, ls_pv q.1 q.2.2 c pc) ∧ ∀ P : (Nat → Int) → Prop, ls_lc m P → ((∀ i, i < 4 → P (R0 i)) ↔ ∀ i, i < 4 → P (q.1 i))
  | 0, _, q, hq => by
    have hq : q = (R0, pv, 0) := hq
    subst hq
    exact ⟨Nat.zero_le _, Nat.zero_le _, ok, ⟨fun _ => 0, fun i hi => absurd hi (by simp), fun i p _ hp => absurd hp (by simp), fun i j _ _ hj => absurd hj (by omega)⟩, fun P _ => Iff.rfl⟩
  | c + 1, hc, q, hq => by
    obtain ⟨p, h1, f, hf, h2⟩ := hq
    obtain ⟨a1, a2, a3, ⟨pc, a4⟩, a5⟩ := ls_run hm ok c (by omega) p h1
    rcases h2 with ⟨h3, h4⟩ | ⟨h3, h4⟩
    · subst h4
      subst h3
      exact ⟨a1, by omega, a3, ⟨pc, ls_pv_n hf a4⟩, a5⟩
    · subst h4
      have hd4 : p.2.2 < 4 := by have := hf.1; omega
      have hE := rr_ex_ok a3 h3 hd4
      have hO := rr_one_ok (ls_3 hm) hE (r := p.2.2) (c := c)
      have hC := rr_clr_ok (ls_3 hm) hO (r := p.2.2) (c := c) hd4
      refine ⟨hd4, by show p.2.2 + 1 ≤ c + 1; omega, hC, ⟨_, ls_pv_s hm a3 (by omega) hf h3 a4⟩, fun P hP => ?_⟩
      have hp : 0 < rr_ex p.1 f p.2.2 p.2.2 c ∧ rr_ex p.1 f p.2.2 p.2.2 c < m := by
        have b := (hE p.2.2 hd4).1 c (by omega)
        have e : rr_ex p.1 f p.2.2 p.2.2 c = p.1 f c := by
          unfold rr_ex
          by_cases e : p.2.2 = f
          · rw [if_pos e, e]
          · rw [if_neg e, if_pos rfl]
        have := hf.2.2.2 h3
        rw [e] at b ⊢
        omega
      exact (a5 P hP).trans ((ls_ex_P h3 hd4).trans ((ls_one_P hm hP hd4 hp).trans (ls_clr_P hP hd4)))
/-- the first N places alone -/
def ls_tr (N : Nat) (x : Nat → Int) : Nat → Int := fun j => if j < N then x j else 0
theorem ls_tr_lc {m : Int} {P : (Nat → Int) → Prop} (h : ls_lc m P) (N : Nat) : ls_lc m (fun x => P (ls_tr N x)) := by
  refine ⟨ls_lc_0 h (fun j _ => ?_), fun x y z s t hx hy hz => h.2 _ _ _ s t hx hy (fun j hj => ?_)⟩
  · unfold ls_tr
    rw [ite_self]
    exact Int.dvd_zero m
  · unfold ls_tr
    by_cases e : j < N
    · rw [if_pos e, if_pos e, if_pos e]
      exact hz j hj
    · rw [if_neg e, if_neg e, if_neg e]
      exact ⟨0, by grind⟩
theorem ls_pv_in {m : Int} {R : Nat → Nat → Int} {d N : Nat} (hN : N ≤ 9) (hd : d ≤ 4) {pc : Nat → Nat} (h : ls_pv R d N pc) : ls_in m (fun i => ls_tr N (R i)) d := by
  intro c hc i hi
  obtain ⟨g1, g2, g3⟩ := h.1 i hi
  have h1 := hc (pc i) (by omega)
  rw [ls_su_one (j := i) d hi (fun p hp hpi => by
    show c p * (if pc i < N then R p (pc i) else 0) = 0
    rw [if_pos g1, g3 p (by omega) hpi, Int.mul_zero])] at h1
  have h1 : m ∣ c i * (if pc i < N then R i (pc i) else 0) := h1
  rw [if_pos g1, g2, Int.mul_one] at h1
  exact h1
/-- the class's rank is the reference's count -/
theorem ls_rank {m : Int} (hm : ls_p m) {R0 : Nat → Nat → Int} (ok : rr_ok m R0) {pv : Int} {N : Nat} (hN : N ≤ 9) {q : rr_S} (hq : rr_run m (R0, pv, 0) N q) {x : Nat → Nat → Int} (ox : ∀ i, mx_ok m (x i)) {k : Nat} (hx : ∀ i, i < k → i < 4 ∧ ∀ j, j < 9 → x i j = ls_tr N (R0 i) j) (hz : ∀ i, k ≤ i → i < 4 → ∀ j, j < N → R0 i j = 0) : (ls_sq m x k).1 = q.2.2 := by
  obtain ⟨a1, a2, a3, ⟨pc, a4⟩, a5⟩ := ls_run hm ok N hN q hq
  refine ls_sq_n hm ox (R := fun i => ls_tr N (q.1 i)) (ls_pv_in hN a1 a4) (fun i hi => ?_) (fun i hi => ?_)
  · refine (a5 _ (ls_tr_lc ls_Sp_lc N)).mp (fun p hp => ?_) i (by omega)
    by_cases e : p < k
    · exact ls_lc_e ls_Sp_lc (ls_Sp_i e) (fun j hj => by
        rw [(hx p e).2 j hj, Int.sub_self]
        exact Int.dvd_zero m)
    · exact ls_lc_0 ls_Sp_lc (fun j hj => by
        unfold ls_tr
        by_cases q : j < N
        · rw [if_pos q, hz p (by omega) hp j q]
          exact Int.dvd_zero m
        · rw [if_neg q]
          exact Int.dvd_zero m)
  · have g : ∀ p, p < 4 → ls_Sp m (fun i => ls_tr N (q.1 i)) q.2.2 (ls_tr N (R0 p)) := (a5 _ (ls_tr_lc ls_Sp_lc N)).mpr (fun p hp => by
      by_cases e : p < q.2.2
      · exact ls_Sp_i (R := fun i => ls_tr N (q.1 i)) e
      · exact ls_lc_0 ls_Sp_lc (fun j hj => by
          unfold ls_tr
          by_cases w : j < N
          · rw [if_pos w, a4.2.2 p j (by omega) hp w]
            exact Int.dvd_zero m
          · rw [if_neg w]
            exact Int.dvd_zero m))
    exact ls_lc_e ls_Sp_lc (g i (hx i hi).1) (fun j hj => by
      rw [(hx i hi).2 j hj, Int.sub_self]
      exact Int.dvd_zero m)
end
section
/-! the determinant by the pivots -/
def ls_d3 (x y z : Nat → Int) : Int := x 0 * (y 1 * z 2 - y 2 * z 1) - x 1 * (y 0 * z 2 - y 2 * z 0) + x 2 * (y 0 * z 1 - y 1 * z 0)
def ls_D (n : Nat) (R : Nat → Nat → Int) : Int := if n = 2 then R 0 0 * R 1 1 - R 0 1 * R 1 0 else ls_d3 (R 0) (R 1) (R 2)
theorem ls_d3_c {m : Int} {x y z x' y' z' : Nat → Int} (hx : ∀ j, j < 3 → m ∣ x j - x' j) (hy : ∀ j, j < 3 → m ∣ y j - y' j) (hz : ∀ j, j < 3 → m ∣ z j - z' j) : m ∣ ls_d3 x y z - ls_d3 x' y' z' := by
  obtain ⟨a0, x0⟩ := hx 0 (by decide)
  obtain ⟨a1, x1⟩ := hx 1 (by decide)
  obtain ⟨a2, x2⟩ := hx 2 (by decide)
  obtain ⟨b0, y0⟩ := hy 0 (by decide)
  obtain ⟨b1, y1⟩ := hy 1 (by decide)
  obtain ⟨b2, y2⟩ := hy 2 (by decide)
  obtain ⟨c0, z0⟩ := hz 0 (by decide)
  obtain ⟨c1, z1⟩ := hz 1 (by decide)
  obtain ⟨c2, z2⟩ := hz 2 (by decide)
  have e1 : m ∣ (x 0 - x' 0) * (y 1 * z 2 - y 2 * z 1) - (x 1 - x' 1) * (y 0 * z 2 - y 2 * z 0) + (x 2 - x' 2) * (y 0 * z 1 - y 1 * z 0) := by
    rw [x0, x1, x2]
    exact ⟨a0 * (y 1 * z 2 - y 2 * z 1) - a1 * (y 0 * z 2 - y 2 * z 0) + a2 * (y 0 * z 1 - y 1 * z 0), by grind⟩
  have e2 : m ∣ x' 0 * ((y 1 - y' 1) * z 2 - (y 2 - y' 2) * z 1) - x' 1 * ((y 0 - y' 0) * z 2 - (y 2 - y' 2) * z 0) + x' 2 * ((y 0 - y' 0) * z 1 - (y 1 - y' 1) * z 0) := by
    rw [y0, y1, y2]
    exact ⟨x' 0 * (b1 * z 2 - b2 * z 1) - x' 1 * (b0 * z 2 - b2 * z 0) + x' 2 * (b0 * z 1 - b1 * z 0), by grind⟩
  have e3 : m ∣ x' 0 * (y' 1 * (z 2 - z' 2) - y' 2 * (z 1 - z' 1)) - x' 1 * (y' 0 * (z 2 - z' 2) - y' 2 * (z 0 - z' 0)) + x' 2 * (y' 0 * (z 1 - z' 1) - y' 1 * (z 0 - z' 0)) := by
    rw [z0, z1, z2]
    exact ⟨x' 0 * (y' 1 * c2 - y' 2 * c1) - x' 1 * (y' 0 * c2 - y' 2 * c0) + x' 2 * (y' 0 * c1 - y' 1 * c0), by grind⟩
  have e := Int.dvd_add (Int.dvd_add e1 e2) e3
  have q : ls_d3 x y z - ls_d3 x' y' z' = (x 0 - x' 0) * (y 1 * z 2 - y 2 * z 1) - (x 1 - x' 1) * (y 0 * z 2 - y 2 * z 0) + (x 2 - x' 2) * (y 0 * z 1 - y 1 * z 0) + (x' 0 * ((y 1 - y' 1) * z 2 - (y 2 - y' 2) * z 1) - x' 1 * ((y 0 - y' 0) * z 2 - (y 2 - y' 2) * z 0) + x' 2 * ((y 0 - y' 0) * z 1 - (y 1 - y' 1) * z 0)) + (x' 0 * (y' 1 * (z 2 - z' 2) - y' 2 * (z 1 - z' 1)) - x' 1 * (y' 0 * (z 2 - z' 2) - y' 2 * (z 0 - z' 0)) + x' 2 * (y' 0 * (z 1 - z' 1) - y' 1 * (z 0 - z' 0))) := by
    unfold ls_d3
    grind
  rw [q]
  exact e
/-- the size 2 as one of the size 3 -/
def ls_e (n : Nat) (R : Nat → Nat → Int) (i : Nat) : Nat → Int := if n = 2 then (if i = 2 then (fun j => if j = 2 then 1 else 0) else fun j => if j = 2 then 0 else R i j) else R i
theorem ls_De {n : Nat} (hn : n = 2 ∨ n = 3) {R : Nat → Nat → Int} : ls_D n R = ls_d3 (ls_e n R 0) (ls_e n R 1) (ls_e n R 2) := by
  rcases hn with rfl | rfl
  · simp [ls_D, ls_e, ls_d3]
  · simp [ls_D, ls_e]
theorem ls_D_ex {n : Nat} (hn : n = 2 ∨ n = 3) {R : Nat → Nat → Int} {a b : Nat} (ha : a < n) (hb : b < n) : ls_D n (rr_ex R a b) = if a = b then ls_D n R else - ls_D n R := by
  rcases hn with rfl | rfl
  · rcases (show a = 0 ∨ a = 1 by omega) with rfl | rfl <;> rcases (show b = 0 ∨ b = 1 by omega) with rfl | rfl <;> simp [ls_D, rr_ex] <;> grind
  · rcases (show a = 0 ∨ a = 1 ∨ a = 2 by omega) with rfl | rfl | rfl <;> rcases (show b = 0 ∨ b = 1 ∨ b = 2 by omega) with rfl | rfl | rfl <;> simp [ls_D, rr_ex, ls_d3] <;> grind
theorem ls_D_one {n : Nat} (hn : n = 2 ∨ n = 3) {m : Int} {S : Nat → Nat → Int} {d c : Nat} (hd : d < n) : m ∣ ls_D n (rr_one m S d c) - rr_iv (S d c) m (m.toNat - 1) * ls_D n S := by
  have ne : ∀ i, i ≠ d → rr_one m S d c i = S i := fun i hi => by
    unfold rr_one
    rw [if_neg hi]
  have de : ∀ j, j < 9 → rr_one m S d c d j = S d j * rr_iv (S d c) m (m.toNat - 1) % m := fun j hj => by
    unfold rr_one
    rw [if_pos rfl, if_pos hj]
  generalize rr_iv (S d c) m (m.toNat - 1) = w at de ⊢
  have hde : ∀ j, j < 9 → m ∣ rr_one m S d c d j - S d j * w := fun j hj => by
    rw [de j hj]
    exact ls_em
  have r0 : ∀ j, m ∣ S 0 j - S 0 j := fun j => ⟨0, by omega⟩
  have r1 : ∀ j, m ∣ S 1 j - S 1 j := fun j => ⟨0, by omega⟩
  have r2 : ∀ j, m ∣ S 2 j - S 2 j := fun j => ⟨0, by omega⟩
  rcases hn with rfl | rfl
  · unfold ls_D
    rw [if_pos rfl, if_pos rfl]
    rcases (show d = 0 ∨ d = 1 by omega) with rfl | rfl
    · rw [ne 1 (by decide)]
      obtain ⟨p, hp⟩ := hde 0 (by decide)
      obtain ⟨q, hq⟩ := hde 1 (by decide)
      exact ⟨p * S 1 1 - q * S 1 0, by grind⟩
    · rw [ne 0 (by decide)]
      obtain ⟨p, hp⟩ := hde 0 (by decide)
      obtain ⟨q, hq⟩ := hde 1 (by decide)
      exact ⟨S 0 0 * q - S 0 1 * p, by grind⟩
  · unfold ls_D
    rw [if_neg (by decide), if_neg (by decide)]
    rcases (show d = 0 ∨ d = 1 ∨ d = 2 by omega) with rfl | rfl | rfl
    · have h := ls_d3_c (m := m) (x := rr_one m S 0 c 0) (x' := fun j => S 0 j * w) (fun j hj => hde j (by omega)) (fun j _ => r1 j) (fun j _ => r2 j)
      rw [ne 1 (by decide), ne 2 (by decide), show w * ls_d3 (S 0) (S 1) (S 2) = ls_d3 (fun j => S 0 j * w) (S 1) (S 2) by unfold ls_d3; grind]
      exact h
    · have h := ls_d3_c (m := m) (y := rr_one m S 1 c 1) (y' := fun j => S 1 j * w) (fun j _ => r0 j) (fun j hj => hde j (by omega)) (fun j _ => r2 j)
      rw [ne 0 (by decide), ne 2 (by decide), show w * ls_d3 (S 0) (S 1) (S 2) = ls_d3 (S 0) (fun j => S 1 j * w) (S 2) by unfold ls_d3; grind]
      exact h
    · have h := ls_d3_c (m := m) (z := rr_one m S 2 c 2) (z' := fun j => S 2 j * w) (fun j _ => r0 j) (fun j _ => r1 j) (fun j hj => hde j (by omega))
      rw [ne 0 (by decide), ne 1 (by decide), show w * ls_d3 (S 0) (S 1) (S 2) = ls_d3 (S 0) (S 1) (fun j => S 2 j * w) by unfold ls_d3; grind]
      exact h
theorem ls_D_clr {n : Nat} (hn : n = 2 ∨ n = 3) {m : Int} {S : Nat → Nat → Int} {d c : Nat} (hd : d < n) : m ∣ ls_D n (rr_clr m S d c) - ls_D n S := by
  have cd : rr_clr m S d c d = S d := by
    unfold rr_clr
    rw [if_pos rfl]
  have ce : ∀ i, i ≠ d → ∀ j, j < 9 → m ∣ rr_clr m S d c i j - (S i j - S i c * S d j) := fun i hi j hj => by
    have : rr_clr m S d c i j = (S i j - S i c * S d j) % m := by
      unfold rr_clr
      rw [if_neg hi, if_pos hj]
    rw [this]
    exact ls_em
  have r0 : ∀ j, m ∣ S d j - S d j := fun j => ⟨0, by omega⟩
  rcases hn with rfl | rfl
  · unfold ls_D
    rw [if_pos rfl, if_pos rfl]
    rcases (show d = 0 ∨ d = 1 by omega) with rfl | rfl
    · rw [cd]
      obtain ⟨p, hp⟩ := ce 1 (by decide) 0 (by decide)
      obtain ⟨q, hq⟩ := ce 1 (by decide) 1 (by decide)
      exact ⟨S 0 0 * q - S 0 1 * p, by grind⟩
    · rw [cd]
      obtain ⟨p, hp⟩ := ce 0 (by decide) 0 (by decide)
      obtain ⟨q, hq⟩ := ce 0 (by decide) 1 (by decide)
      exact ⟨p * S 1 1 - q * S 1 0, by grind⟩
  · unfold ls_D
    rw [if_neg (by decide), if_neg (by decide)]
    rcases (show d = 0 ∨ d = 1 ∨ d = 2 by omega) with rfl | rfl | rfl
    · have h := ls_d3_c (m := m) (x := S 0) (x' := S 0) (y' := fun j => S 1 j - S 1 c * S 0 j) (z' := fun j => S 2 j - S 2 c * S 0 j) (fun j _ => r0 j) (fun j hj => ce 1 (by decide) j (by omega)) (fun j hj => ce 2 (by decide) j (by omega))
      rw [cd, show ls_d3 (S 0) (S 1) (S 2) = ls_d3 (S 0) (fun j => S 1 j - S 1 c * S 0 j) (fun j => S 2 j - S 2 c * S 0 j) by unfold ls_d3; grind]
      exact h
    · have h := ls_d3_c (m := m) (y := S 1) (y' := S 1) (x' := fun j => S 0 j - S 0 c * S 1 j) (z' := fun j => S 2 j - S 2 c * S 1 j) (fun j hj => ce 0 (by decide) j (by omega)) (fun j _ => r0 j) (fun j hj => ce 2 (by decide) j (by omega))
      rw [cd, show ls_d3 (S 0) (S 1) (S 2) = ls_d3 (fun j => S 0 j - S 0 c * S 1 j) (S 1) (fun j => S 2 j - S 2 c * S 1 j) by unfold ls_d3; grind]
      exact h
    · have h := ls_d3_c (m := m) (z := S 2) (z' := S 2) (x' := fun j => S 0 j - S 0 c * S 2 j) (y' := fun j => S 1 j - S 1 c * S 2 j) (fun j hj => ce 0 (by decide) j (by omega)) (fun j hj => ce 1 (by decide) j (by omega)) (fun j _ => r0 j)
      rw [cd, show ls_d3 (S 0) (S 1) (S 2) = ls_d3 (fun j => S 0 j - S 0 c * S 2 j) (fun j => S 1 j - S 1 c * S 2 j) (S 2) by unfold ls_d3; grind]
      exact h
/-- the pivots times the determinant that is left -/
theorem ls_det_run {n : Nat} (hn : n = 2 ∨ n = 3) {m : Int} (hm : ls_p m) {R0 : Nat → Nat → Int} (ok : rr_ok m R0) (hz : ∀ i, n ≤ i → i < 4 → ∀ j, R0 i j = 0) : ∀ c, c ≤ 9 → ∀ q, rr_run m (R0, 1, 0) c q → (∀ i, n ≤ i → i < 4 → ∀ j, q.1 i j = 0) ∧ q.2.2 ≤ n ∧ ¬ m ∣ q.2.1 ∧ m ∣ q.2.1 * ls_D n q.1 - ls_D n R0
  | 0, _, q, hq => by
    have hq : q = (R0, 1, 0) := hq
    subst hq
    exact ⟨hz, Nat.zero_le _, ls_ndvd1 hm, ⟨0, by dsimp only; omega⟩⟩
  | c + 1, hc, q, hq => by
    obtain ⟨p, h1, f, hf, h2⟩ := hq
    obtain ⟨a1, a2, a3, a4⟩ := ls_det_run hn hm ok hz c (by omega) p h1
    have hrun := ls_run hm ok c (by omega) p h1
    rcases h2 with ⟨h3, h4⟩ | ⟨h3, h4⟩
    · subst h4
      exact ⟨a1, a2, a3, a4⟩
    · subst h4
      have hfn : f < n := by
        rcases Nat.lt_or_ge f n with h | h
        · exact h
        · exact absurd (a1 f h h3 c) (hf.2.2.2 h3)
      have hdn : p.2.2 < n := by have := hf.1; omega
      have hn4 : n < 4 := by omega
      have hE := rr_ex_ok hrun.2.2.1 h3 (show p.2.2 < 4 by omega)
      have hex : ∀ j, rr_ex p.1 f p.2.2 p.2.2 j = p.1 f j := fun j => by
        unfold rr_ex
        by_cases e : p.2.2 = f
        · rw [if_pos e, e]
        · rw [if_neg e, if_pos rfl]
      have hpb : 0 < rr_ex p.1 f p.2.2 p.2.2 c ∧ rr_ex p.1 f p.2.2 p.2.2 c < m := by
        have b := (hE p.2.2 (by omega)).1 c (by omega)
        have := hf.2.2.2 h3
        rw [hex] at b ⊢
        omega
      have hw := ls_iv hm hpb
      have k1 := ls_D_ex hn (R := p.1) hfn hdn
      have k2 := ls_D_one hn (m := m) (S := rr_ex p.1 f p.2.2) (d := p.2.2) (c := c) hdn
      have k3 := ls_D_clr hn (m := m) (S := rr_one m (rr_ex p.1 f p.2.2) p.2.2 c) (d := p.2.2) (c := c) hdn
      have hzz : ∀ i, n ≤ i → i < 4 → ∀ j, rr_clr m (rr_one m (rr_ex p.1 f p.2.2) p.2.2 c) p.2.2 c i j = 0 := fun i hi hi4 j => by
        have e1 : ∀ j, rr_one m (rr_ex p.1 f p.2.2) p.2.2 c i j = 0 := fun j => by
          unfold rr_one rr_ex
          rw [if_neg (by omega), if_neg (by omega), if_neg (by omega)]
          exact a1 i hi hi4 j
        unfold rr_clr
        rw [if_neg (by omega)]
        skip
        rw [e1, e1, Int.zero_mul]
        simp
      refine ⟨hzz, by show p.2.2 + 1 ≤ n; omega, ?_, ?_⟩
      · show ¬ m ∣ (if f = p.2.2 then p.2.1 else -p.2.1) * rr_ex p.1 f p.2.2 p.2.2 c % m
        intro h
        have h5 : m ∣ (if f = p.2.2 then p.2.1 else -p.2.1) * rr_ex p.1 f p.2.2 p.2.2 c := by
          obtain ⟨x, hx⟩ := h
          obtain ⟨y, hy⟩ := @ls_em' m ((if f = p.2.2 then p.2.1 else -p.2.1) * rr_ex p.1 f p.2.2 p.2.2 c)
          exact ⟨x + y, by rw [Int.mul_add]; omega⟩
        refine ls_ndm hm (fun q => a3 ?_) (fun q => ?_) h5
        · split at q
          · exact q
          · exact (Int.dvd_neg).mp q
        · have := ls_r0 ⟨by omega, hpb.2⟩ q
          omega
      · show m ∣ (if f = p.2.2 then p.2.1 else -p.2.1) * rr_ex p.1 f p.2.2 p.2.2 c % m * ls_D n (rr_clr m (rr_one m (rr_ex p.1 f p.2.2) p.2.2 c) p.2.2 c) - ls_D n R0
        generalize ls_D n (rr_clr m (rr_one m (rr_ex p.1 f p.2.2) p.2.2 c) p.2.2 c) = D3 at k3 ⊢
        generalize ls_D n (rr_one m (rr_ex p.1 f p.2.2) p.2.2 c) = D2 at k2 k3
        have k1' : (if f = p.2.2 then p.2.1 else -p.2.1) * ls_D n (rr_ex p.1 f p.2.2) = p.2.1 * ls_D n p.1 := by
          rw [k1]
          split <;> grind
        generalize ls_D n (rr_ex p.1 f p.2.2) = D1 at k1' k2
        generalize rr_ex p.1 f p.2.2 p.2.2 c = v at hw k2 ⊢
        generalize rr_iv v m (m.toNat - 1) = w at hw k2
        generalize (if f = p.2.2 then p.2.1 else -p.2.1) = s at k1' ⊢
        obtain ⟨x1, g1⟩ := a4
        obtain ⟨x2, g2⟩ := k2
        obtain ⟨x3, g3⟩ := k3
        obtain ⟨x4, g4⟩ := @ls_em m (s * v)
        obtain ⟨x5, g5⟩ := @ls_em' m (v * w)
        rw [hw] at g5
        generalize s * v % m = sv at g4 ⊢
        exact ⟨x1 + s * v * x2 + s * v * x3 + x4 * D3 + s * D1 * x5, by grind⟩
end
section
/-! rank, determinant and inverse: the class's are the reference's -/
theorem ls_sq_c {m : Int} {x y : Nat → Nat → Int} : ∀ k, (∀ i, i < k → x i = y i) → ls_sq m x k = ls_sq m y k
  | 0, _ => rfl
  | k + 1, h => by
    show mx_nw m (ls_sq m x k) (x k) = mx_nw m (ls_sq m y k) (y k)
    rw [ls_sq_c k (fun i hi => h i (by omega)), h k (by omega)]
theorem ls_rst {n : Nat} {m : Int} {a : Nat → Int} : ∀ k, mx_rst n m a k = ls_sq m (mx_rws n a) k
  | 0 => rfl
  | k + 1 => by
    show mx_nw m (mx_rst n m a k) (mx_rws n a k) = mx_nw m (ls_sq m (mx_rws n a) k) (mx_rws n a k)
    rw [ls_rst k]
theorem ls_ld_z {n : Nat} (hn : n = 2 ∨ n = 3) {m : Int} {a : Nat → Int} (za : mx_z n a) : ∀ i, n ≤ i → i < 4 → ∀ j, rr_ld (n : Int) a i j = 0 := fun i hi hi4 j => by
  unfold rr_ld
  by_cases e : i < 3
  · rw [if_pos e]
    unfold rw_ld
    by_cases q : j < 3
    · rw [if_pos q]
      exact (za.1 i j e q hi).1
    · rw [if_neg q]
      by_cases q2 : j < 6
      · rw [if_pos q2, if_neg (by omega)]
      · rw [if_neg q2]
  · rw [if_neg e]
theorem ls_ld_D {n : Nat} (hn : n = 2 ∨ n = 3) {m : Int} {a : Nat → Int} : mx_det n m a = ls_D n (rr_ld (n : Int) a) % m := by
  rcases hn with rfl | rfl
  · simp [mx_det, ls_D, rr_ld, rw_ld]
  · have : ls_D 3 (rr_ld ((3 : Nat) : Int) a) = mx_d3s a 3 := by
      simp [ls_D, ls_d3, rr_ld, rw_ld, mx_d3s, mx_at]
      grind
    rw [this]
    unfold mx_det
    rw [if_neg (by decide)]
theorem ls_c1 {m : Int} {R0 R1 : Nat → Nat → Int} (h : ∀ P : (Nat → Int) → Prop, ls_lc m P → ((∀ i, i < 4 → P (R0 i)) ↔ ∀ i, i < 4 → P (R1 i))) (ok : rr_ok m R1) {j : Nat} (hj : j < 9) (h0 : ∀ i, i < 4 → R0 i j = 0) : ∀ i, i < 4 → R1 i j = 0 := fun i hi => by
  have := (h (fun x => m ∣ x j) ⟨Int.dvd_zero m, fun x y z s t hx hy hz => by
    obtain ⟨p, hp⟩ := hx
    obtain ⟨q, hq⟩ := hy
    obtain ⟨r, hr⟩ := hz j hj
    exact ⟨r + s * p + t * q, by grind⟩⟩).mp (fun i hi => by
      show m ∣ R0 i j
      rw [h0 i hi]
      exact Int.dvd_zero m) i hi
  exact ls_r0 ((ok i hi).1 j hj) this
theorem ls_mul_id {n : Nat} (hn : n = 2 ∨ n = 3) {m : Int} {x : Nat → Int} (ox : mx_ok m x) (hz : mx_z n x) : mx_mul 3 m x (mx_id (n : Int)) = x := by
  funext k
  by_cases h9 : k < 9
  · have hr : k / 3 < 3 := by omega
    have hc : k % 3 < 3 := by omega
    have o := ox k h9
    have hk : k = 3 * (k / 3) + k % 3 := by omega
    rw [hk] at o ⊢
    generalize k / 3 = r at hr o ⊢
    generalize k % 3 = c at hc o ⊢
    have key : mx_ps x (mx_id (n : Int)) r c 3 = x (3 * r + c) := by
      rw [mx_ps3]
      have h2 := (hz.1 2 r (by omega) hr)
      rcases hn with rfl | rfl <;> rcases (show c = 0 ∨ c = 1 ∨ c = 2 by omega) with rfl | rfl | rfl <;> simp [mx_id] <;> (try omega)
    rw [mx_mul3_at hr hc, key, Int.emod_eq_of_lt o.1 o.2]
  · rw [mx_mul_9 k (by omega), hz.2 k (by omega)]
theorem ls_gj_lc {m : Int} {a : Nat → Int} : ls_lc m (fun x => ∀ j, j < 3 → m ∣ x 3 * a j + x 4 * a (3 + j) + x 5 * a (6 + j) - x j) := by
  refine ⟨fun j _ => ⟨0, by grind⟩, fun x y z s t hx hy hz j hj => ?_⟩
  obtain ⟨p, hp⟩ := hx j hj
  obtain ⟨r, hr⟩ := hy j hj
  obtain ⟨z0, e0⟩ := hz j (by omega)
  obtain ⟨z3, e3⟩ := hz 3 (by omega)
  obtain ⟨z4, e4⟩ := hz 4 (by omega)
  obtain ⟨z5, e5⟩ := hz 5 (by omega)
  have e0 : z j = s * x j + t * y j + m * z0 := by omega
  have e3 : z 3 = s * x 3 + t * y 3 + m * z3 := by omega
  have e4 : z 4 = s * x 4 + t * y 4 + m * z4 := by omega
  have e5 : z 5 = s * x 5 + t * y 5 + m * z5 := by omega
  have hp : x j = x 3 * a j + x 4 * a (3 + j) + x 5 * a (6 + j) - m * p := by omega
  have hr : y j = y 3 * a j + y 4 * a (3 + j) + y 5 * a (6 + j) - m * r := by omega
  refine ⟨s * p + t * r + z3 * a j + z4 * a (3 + j) + z5 * a (6 + j) - z0, ?_⟩
  rw [e0, e3, e4, e5, hp, hr]
  clear e0 e3 e4 e5 hp hr hx hy hz
  grind
theorem ls_gj {n : Nat} (hn : n = 2 ∨ n = 3) {m : Int} (hm : ls_p m) {a : Nat → Int} (ha : mx_V n m a) {q : rr_S} (hq : rr_run m (rr_ld (n : Int) a, 1, 0) 3 q) : mx_rank n m a = q.2.2 ∧ (if (q.2.2 : Int) = n then q.2.1 % m else 0) = mx_det n m a ∧ ((q.2.2 : Int) = n ↔ mx_det n m a ≠ 0) ∧ ((q.2.2 : Int) = n → rr_inv q.1 = mx_inv n m a) ∧ q.2.2 ≤ n := by
  obtain ⟨oa, za, sa⟩ := ha
  have ok := rr_ld_ok (ls_3 hm) (n := (n : Int)) oa
  have hz := ls_ld_z hn (m := m) za
  obtain ⟨a1, a2, a3, ⟨pc, a4⟩, a5⟩ := ls_run hm ok 3 (by decide) q hq
  obtain ⟨b1, b2, b3, b4⟩ := ls_det_run hn hm ok hz 3 (by decide) q hq
  have hrank : mx_rank n m a = q.2.2 := by
    unfold mx_rank
    rw [ls_rst, ls_sq_c (y := fun i => if i < n then mx_rws n a i else fun _ => 0) n (fun i hi => (if_pos hi).symm)]
    refine ls_rank hm ok (by decide) hq (fun i => ?_) (fun i hi => ?_) (fun i hi hi4 j _ => hz i hi hi4 j)
    · by_cases e : i < n
      · skip
        rw [if_pos e]
        intro k hk
        unfold mx_rws
        by_cases e2 : k < n
        · rw [if_pos e2]; exact oa _ (by omega)
        · rw [if_neg e2]; have := ls_3 hm; omega
      · skip
        rw [if_neg e]
        intro k hk
        have := ls_3 hm
        dsimp only
        omega
    · refine ⟨by omega, fun j hj => ?_⟩
      rw [if_pos hi]
      unfold mx_rws ls_tr rr_ld rw_ld
      rw [if_pos (show i < 3 by omega)]
      by_cases e : j < n
      · rw [if_pos e, if_pos (show j < 3 by omega)]
        skip
        rw [if_pos (show j < 3 by omega)]
      · rw [if_neg e]
        by_cases e2 : j < 3
        · rw [if_pos e2]
          skip
          rw [if_pos e2]
          exact ((za.1 j i e2 (by omega) (by omega)).2).symm
        · rw [if_neg e2]
  have hdet := ls_ld_D hn (m := m) (a := a)
  have hcol : ∀ i, i < 4 → ∀ j, n ≤ j → j < 3 → q.1 i j = 0 := fun i hi j hj hj3 => by
    refine ls_c1 a5 a3 (by omega) (fun i hi => ?_) i hi
    unfold rr_ld rw_ld
    by_cases e : i < 3
    · rw [if_pos e]
      skip
      rw [if_pos hj3]
      exact (za.1 j i hj3 e hj).2
    · rw [if_neg e]
  by_cases hd : q.2.2 = n
  · have hpc : ∀ i, i < n → pc i = i := by
      have hl : ∀ i, i < n → pc i < n := fun i hi => by
        obtain ⟨g1, g2, g3⟩ := a4.1 i (by omega)
        rcases Nat.lt_or_ge (pc i) n with h | h
        · exact h
        · rw [hcol i (by omega) (pc i) h (by omega)] at g2
          exact absurd g2 (by decide)
      have h01 := a4.2.1 0 1 (by decide) (by omega)
      have l0 := hl 0 (by omega)
      have l1 := hl 1 (by omega)
      rcases hn with rfl | rfl
      · intro i hi
        rcases (show i = 0 ∨ i = 1 by omega) with rfl | rfl <;> omega
      · have h12 := a4.2.1 1 2 (by decide) (by omega)
        have l2 := hl 2 (by omega)
        intro i hi
        rcases (show i = 0 ∨ i = 1 ∨ i = 2 by omega) with rfl | rfl | rfl <;> omega
    have hI : ∀ i j, i < 3 → j < 3 → q.1 i j = if i = j ∧ i < n then 1 else 0 := fun i j hi hj => by
      by_cases e : n ≤ j
      · rw [hcol i (by omega) j e hj, if_neg (by omega)]
      · have g := a4.1 j (by omega)
        rw [hpc j (by omega)] at g
        by_cases e2 : i = j
        · rw [if_pos (by omega), e2]; exact g.2.1
        · rw [if_neg (by omega)]; exact g.2.2 i (by omega) e2
    have hD1 : ls_D n q.1 = 1 := by
      rcases hn with rfl | rfl
      · unfold ls_D
        rw [if_pos rfl, hI 0 0 (by decide) (by decide), hI 1 1 (by decide) (by decide), hI 0 1 (by decide) (by decide), hI 1 0 (by decide) (by decide)]
        decide
      · unfold ls_D ls_d3
        rw [if_neg (by decide), hI 0 0 (by decide) (by decide), hI 1 1 (by decide) (by decide), hI 0 1 (by decide) (by decide), hI 1 0 (by decide) (by decide), hI 2 2 (by decide) (by decide), hI 0 2 (by decide) (by decide), hI 2 0 (by decide) (by decide), hI 1 2 (by decide) (by decide), hI 2 1 (by decide) (by decide)]
        decide
    rw [hD1, Int.mul_one] at b4
    have he : q.2.1 % m = mx_det n m a := by
      rw [hdet]
      exact Int.emod_eq_emod_iff_emod_sub_eq_zero.mpr (Int.emod_eq_zero_of_dvd b4)
    have hne : mx_det n m a ≠ 0 := fun e => b3 (Int.dvd_of_emod_eq_zero (he.trans e))
    have hdi : (q.2.2 : Int) = n := by omega
    refine ⟨hrank, by rw [if_pos hdi]; exact he, ⟨fun _ => hne, fun _ => hdi⟩, fun _ => ?_, b2⟩
    have hP : ∀ i, i < 4 → ∀ j, j < 3 → m ∣ q.1 i 3 * a j + q.1 i 4 * a (3 + j) + q.1 i 5 * a (6 + j) - q.1 i j := by
      refine (a5 (fun x => ∀ j, j < 3 → m ∣ x 3 * a j + x 4 * a (3 + j) + x 5 * a (6 + j) - x j) ls_gj_lc).mp (fun i hi j hj => ?_)
      · unfold rr_ld
        by_cases e : i < 3
        · rw [if_pos e]
          have z1 : n ≤ 2 → a (6 + j) = 0 := fun h => (za.1 2 j (by decide) hj h).1
          rcases (show i = 0 ∨ i = 1 ∨ i = 2 by omega) with rfl | rfl | rfl
          · have h1 : rw_ld (n : Int) a 0 3 = 1 := by unfold rw_ld; rw [if_neg (by decide), if_pos (by decide), if_pos (by omega)]
            have h2 : rw_ld (n : Int) a 0 4 = 0 := by unfold rw_ld; rw [if_neg (by decide), if_pos (by decide), if_neg (by omega)]
            have h3 : rw_ld (n : Int) a 0 5 = 0 := by unfold rw_ld; rw [if_neg (by decide), if_pos (by decide), if_neg (by omega)]
            have h4 : rw_ld (n : Int) a 0 j = a j := by unfold rw_ld; rw [if_pos hj, show 3 * 0 + j = j by omega]
            rw [h1, h2, h3, h4]
            exact ⟨0, by omega⟩
          · have h1 : rw_ld (n : Int) a 1 3 = 0 := by unfold rw_ld; rw [if_neg (by decide), if_pos (by decide), if_neg (by omega)]
            have h2 : rw_ld (n : Int) a 1 4 = 1 := by unfold rw_ld; rw [if_neg (by decide), if_pos (by decide), if_pos (by omega)]
            have h3 : rw_ld (n : Int) a 1 5 = 0 := by unfold rw_ld; rw [if_neg (by decide), if_pos (by decide), if_neg (by omega)]
            have h4 : rw_ld (n : Int) a 1 j = a (3 + j) := by unfold rw_ld; rw [if_pos hj]
            rw [h1, h2, h3, h4]
            exact ⟨0, by omega⟩
          · have h1 : rw_ld (n : Int) a 2 3 = 0 := by unfold rw_ld; rw [if_neg (by decide), if_pos (by decide), if_neg (by omega)]
            have h2 : rw_ld (n : Int) a 2 4 = 0 := by unfold rw_ld; rw [if_neg (by decide), if_pos (by decide), if_neg (by omega)]
            have h4 : rw_ld (n : Int) a 2 j = a (6 + j) := by unfold rw_ld; rw [if_pos hj]
            rw [h1, h2, h4]
            by_cases q : n ≤ 2
            · rw [z1 q]
              exact ⟨0, by omega⟩
            · have h3 : rw_ld (n : Int) a 2 5 = 1 := by unfold rw_ld; rw [if_neg (by decide), if_pos (by decide), if_pos (by omega)]
              rw [h3]
              exact ⟨0, by omega⟩
        · rw [if_neg e]
          exact ⟨0, by grind⟩
    have ht : ∀ i k, i < 3 → k < 3 → rr_inv q.1 (3 * i + k) = q.1 i (3 + k) := fun i k hi hk => by
      unfold rr_inv
      rw [if_pos (by omega), show (3 * i + k) / 3 = i by omega, show (3 * i + k) % 3 = k by omega]
    have tok : mx_ok m (rr_inv q.1) := fun k hk => by
      unfold rr_inv
      rw [if_pos hk]
      exact (a3 (k / 3) (by omega)).1 _ (by omega)
    have tz : mx_z n (rr_inv q.1) := by
      refine ⟨fun i j hi hj hni => ⟨?_, ?_⟩, fun k hk => if_neg (by omega)⟩
      · rw [ht i j hi hj]
        exact b1 i hni (by omega) _
      · rw [ht j i hj hi]
        refine ls_c1 a5 a3 (by omega) (fun p hp => ?_) j (by omega)
        unfold rr_ld rw_ld
        by_cases e : p < 3
        · rw [if_pos e]
          skip
          rw [if_neg (by omega), if_pos (by omega), if_neg (by omega)]
        · rw [if_neg e]
    have tI : mx_mul 3 m (rr_inv q.1) a = mx_id (n : Int) := by
      funext k
      by_cases h9 : k < 9
      · have hr : k / 3 < 3 := by omega
        have hc : k % 3 < 3 := by omega
        rw [show k = 3 * (k / 3) + k % 3 by omega]
        generalize k / 3 = r at hr ⊢
        generalize k % 3 = c at hc ⊢
        have g := hP r (by omega) c hc
        have t0 := ht r 0 hr (by decide)
        rw [Nat.add_zero] at t0
        rw [mx_mul3_at hr hc, mx_ps3, t0, ht r 1 hr (by decide), ht r 2 hr (by decide), mx_id_at]
        have e1 : (q.1 r (3 + 0) * a c + q.1 r (3 + 1) * a (3 + c) + q.1 r (3 + 2) * a (6 + c)) % m = q.1 r c % m := Int.emod_eq_emod_iff_emod_sub_eq_zero.mpr (Int.emod_eq_zero_of_dvd g)
        have b := (a3 r (by omega)).1 c (by omega)
        rw [e1, Int.emod_eq_of_lt b.1 b.2, hI r c hr hc]
        by_cases e : r = c ∧ r < n
        · rw [if_pos e, if_pos (by omega)]
        · rw [if_neg e, if_neg (by omega)]
      · rw [mx_mul_9 k (by omega), mx_id_9 (by omega) k (by omega)]
    have vI := mx_inv_V hn (ls_3 hm) (a := a) sa
    have h1 := mx_inv_mul hn hm za hne
    have h2 : mx_mul 3 m a (mx_inv n m a) = mx_id (n : Int) := by
      rw [mx_mul_sw vI.2.2 sa (by rw [h1]; exact mx_id_s), h1]
    rw [← ls_mul_id hn tok tz, ← h2, ← mx_mul_a, tI, mx_id_mul hn vI.1 vI.2.1]
  · have hD0 : ls_D n q.1 = 0 := by
      have z := a4.2.2 (n - 1)
      rcases hn with rfl | rfl
      · unfold ls_D
        rw [if_pos rfl, z 1 (by omega) (by decide) (by decide), z 0 (by omega) (by decide) (by decide)]
        simp
      · unfold ls_D ls_d3
        rw [if_neg (by decide), z 0 (by omega) (by decide) (by decide), z 1 (by omega) (by decide) (by decide), z 2 (by omega) (by decide) (by decide)]
        simp
    rw [hD0, Int.mul_zero] at b4
    have he : mx_det n m a = 0 := by
      rw [hdet]
      obtain ⟨p, hp⟩ := b4
      exact Int.emod_eq_zero_of_dvd ⟨-p, by rw [Int.mul_neg]; omega⟩
    have hdi : ¬ (q.2.2 : Int) = n := by omega
    exact ⟨hrank, by rw [if_neg hdi, he], ⟨fun h => absurd h hdi, fun h => absurd he h⟩, fun h => absurd h hdi, b2⟩
end
section
/-! runs are there; what has an inverse on one side has a determinant -/
theorem ls_fd {R : Nat → Nat → Int} {c : Nat} : ∀ k a, a + k = 4 → ∃ f, rr_fd R c a f
  | 0, a, h => ⟨4, by omega, by omega, fun j h1 h2 => absurd h2 (by omega), fun h => absurd h (by omega)⟩
  | k + 1, a, h => by
    by_cases e : R a c = 0
    · obtain ⟨f, h1, h2, h3, h4⟩ := ls_fd (R := R) (c := c) k (a + 1) (by omega)
      refine ⟨f, by omega, h2, fun j a1 a2 => ?_, h4⟩
      by_cases q : j = a
      · rw [q]; exact e
      · exact h3 j (by omega) a2
    · exact ⟨a, Nat.le_refl _, by omega, fun j h1 h2 => absurd h2 (by omega), fun _ => e⟩
theorem ls_runx {m : Int} (hm : ls_p m) {R0 : Nat → Nat → Int} (ok : rr_ok m R0) {pv : Int} : ∀ c, c ≤ 9 → ∃ q, rr_run m (R0, pv, 0) c q
  | 0, _ => ⟨_, rfl⟩
  | c + 1, hc => by
    obtain ⟨p, hp⟩ := ls_runx hm ok c (by omega)
    have h4 := (ls_run hm ok c (by omega) p hp).1
    obtain ⟨f, hf⟩ := ls_fd (R := p.1) (c := c) (4 - p.2.2) p.2.2 (by omega)
    by_cases e : f = 4
    · exact ⟨p, p, hp, f, hf, Or.inl ⟨e, rfl⟩⟩
    · have := hf.2.1
      exact ⟨_, p, hp, f, hf, Or.inr ⟨by omega, rfl⟩⟩
theorem ls_un_in {m : Int} {n : Nat} (hn : n ≤ 3) : ls_in m (fun i j => if j = i then 1 else 0) n := fun c hc i hi => by
  have := hc i (by omega)
  rw [ls_su_one (j := i) n hi (fun p _ hp => by
    show c p * (if i = p then 1 else 0) = 0
    rw [if_neg (fun e => hp e.symm), Int.mul_zero])] at this
  have this : m ∣ c i * (if i = i then 1 else 0) := this
  rwa [if_pos rfl, Int.mul_one] at this
theorem ls_nsing {n : Nat} (hn : n = 2 ∨ n = 3) {m : Int} (hm : ls_p m) {a Y : Nat → Int} (ha : mx_V n m a) (hY : mx_mul 3 m a Y = mx_id (n : Int)) : mx_det n m a ≠ 0 := by
  have ok := rr_ld_ok (ls_3 hm) (n := (n : Int)) ha.1
  obtain ⟨q, hq⟩ := ls_runx hm ok (pv := 1) 3 (by decide)
  obtain ⟨g1, g2, g3, g4, g5⟩ := ls_gj hn hm ha hq
  obtain ⟨a1, a2, a3, ⟨pc, a4⟩, a5⟩ := ls_run hm ok 3 (by decide) q hq
  refine g3.mp ?_
  have hs : ∀ p, p < 4 → ls_Sp m (fun i => ls_tr 3 (q.1 i)) q.2.2 (ls_tr 3 (rr_ld (n : Int) a p)) := (a5 _ (ls_tr_lc ls_Sp_lc 3)).mpr (fun p hp => by
    by_cases e : p < q.2.2
    · exact ls_Sp_i (R := fun i => ls_tr 3 (q.1 i)) e
    · exact ls_lc_0 ls_Sp_lc (fun j hj => by
        unfold ls_tr
        by_cases w : j < 3
        · rw [if_pos w, a4.2.2 p j (by omega) hp w]
          exact Int.dvd_zero m
        · rw [if_neg w]
          exact Int.dvd_zero m))
  have := ls_st hm (ls_un_in (m := m) (n := n) (by omega)) (fun i hi => ls_lc_e ls_Sp_lc (ls_lc_su ls_Sp_lc (R := fun k => ls_tr 3 (rr_ld (n : Int) a k)) (fun k => Y (3 * k + i)) 3 (fun k hk => hs k (by omega))) (fun j hj => by
    show m ∣ (if j = i then 1 else 0) - (0 + Y (3 * 0 + i) * ls_tr 3 (rr_ld (n : Int) a 0) j + Y (3 * 1 + i) * ls_tr 3 (rr_ld (n : Int) a 1) j + Y (3 * 2 + i) * ls_tr 3 (rr_ld (n : Int) a 2) j)
    by_cases w : j < 3
    · have e : ∀ k, k < 3 → ls_tr 3 (rr_ld (n : Int) a k) j = a (3 * j + k) := fun k hk => by
        unfold ls_tr rr_ld rw_ld
        rw [if_pos w, if_pos hk]
        skip
        rw [if_pos w]
        exact ha.2.2 k j hk w
      have h1 := congrFun hY (3 * j + i)
      rw [mx_mul3_at w (by omega), mx_ps3, mx_id_at] at h1
      rw [e 0 (by decide), e 1 (by decide), e 2 (by decide), show 3 * 0 + i = i by omega, show 3 * 1 + i = 3 + i by omega, show 3 * 2 + i = 6 + i by omega, show 3 * j + 0 = 3 * j by omega]
      have h2 : (if j = i then (1 : Int) else 0) = if (3 * j + i) % 4 = 0 ∧ (((3 * j + i) / 4 : Nat) : Int) < n then 1 else 0 := by
        by_cases e : j = i
        · rw [if_pos e, if_pos (by omega)]
        · rw [if_neg e, if_neg (by omega)]
      rw [h2, ← h1]
      obtain ⟨p, hp⟩ := @ls_em m (a (3 * j) * Y i + a (3 * j + 1) * Y (3 + i) + a (3 * j + 2) * Y (6 + i))
      refine ⟨p, ?_⟩
      rw [Int.mul_comm (Y i), Int.mul_comm (Y (3 + i)), Int.mul_comm (Y (6 + i))]
      omega
    · have e : ∀ k, ls_tr 3 (rr_ld (n : Int) a k) j = 0 := fun k => by
        unfold ls_tr
        rw [if_neg w]
      rw [e, e, e, if_neg (by omega)]
      exact ⟨0, by omega⟩))
  omega
/-! Cayley and Hamilton -/
def ls_mv (W x : Nat → Int) : Nat → Int := fun r => W (3 * r) * x 0 + W (3 * r + 1) * x 1 + W (3 * r + 2) * x 2
theorem ls_ch3 (W x : Nat → Int) {r : Nat} (hr : r < 3) : ls_mv W (ls_mv W (ls_mv W x)) r = (W 0 + W 4 + W 8) * ls_mv W (ls_mv W x) r - (W 0 * W 4 - W 1 * W 3 + (W 0 * W 8 - W 2 * W 6) + (W 4 * W 8 - W 5 * W 7)) * ls_mv W x r + (W 0 * (W 4 * W 8 - W 5 * W 7) - W 1 * (W 3 * W 8 - W 5 * W 6) + W 2 * (W 3 * W 7 - W 4 * W 6)) * x r := by
  rcases (show r = 0 ∨ r = 1 ∨ r = 2 by omega) with rfl | rfl | rfl <;> simp only [ls_mv, Nat.mul_zero, Nat.zero_add, Nat.mul_one, Nat.reduceMul, Nat.reduceAdd] <;> grind
theorem ls_ch2 (W x : Nat → Int) (h2 : W 2 = 0) (h5 : W 5 = 0) (h6 : W 6 = 0) (h7 : W 7 = 0) (h8 : W 8 = 0) (hx : x 2 = 0) {r : Nat} (hr : r < 3) : ls_mv W (ls_mv W x) r = (W 0 + W 4) * ls_mv W x r - (W 0 * W 4 - W 1 * W 3) * x r := by
  rcases (show r = 0 ∨ r = 1 ∨ r = 2 by omega) with rfl | rfl | rfl <;> simp only [ls_mv, Nat.mul_zero, Nat.zero_add, Nat.mul_one, Nat.reduceMul, Nat.reduceAdd, h2, h5, h6, h7, h8, hx] <;> grind
theorem ls_mv_c {m : Int} {W x y : Nat → Int} (h : ∀ k, k < 3 → m ∣ x k - y k) (r : Nat) : m ∣ ls_mv W x r - ls_mv W y r := by
  obtain ⟨a, ha⟩ := h 0 (by decide)
  obtain ⟨b, hb⟩ := h 1 (by decide)
  obtain ⟨c, hc⟩ := h 2 (by decide)
  have ha : x 0 = y 0 + m * a := by omega
  have hb : x 1 = y 1 + m * b := by omega
  have hc : x 2 = y 2 + m * c := by omega
  unfold ls_mv
  rw [ha, hb, hc]
  exact ⟨W (3 * r) * a + W (3 * r + 1) * b + W (3 * r + 2) * c, by grind⟩
theorem ls_pw_mv {m : Int} {W v : Nat → Int} {k c r : Nat} (hr : r < 3) (hc : c < 3) : mx_pw m W v (k + 1) (3 * r + c) = ls_mv W (fun i => mx_pw m W v k (3 * i + c)) r % m := by
  show mx_mul 3 m W (mx_pw m W v k) (3 * r + c) = _
  rw [mx_mul3_at hr hc, mx_ps3]
  unfold ls_mv
  dsimp only
  rw [show 3 * 0 + c = c by omega, show 3 * 1 + c = 3 + c by omega, show 3 * 2 + c = 6 + c by omega]
theorem ls_pw_d {m : Int} {W v : Nat → Int} {k c : Nat} (hc : c < 3) {X : Nat → Int} (h : ∀ i, i < 3 → m ∣ mx_pw m W v k (3 * i + c) - X i) : ∀ i, i < 3 → m ∣ mx_pw m W v (k + 1) (3 * i + c) - ls_mv W X i := fun i hi => by
  rw [ls_pw_mv hi hc]
  have h1 := ls_mv_c (m := m) (W := W) (x := fun i => mx_pw m W v k (3 * i + c)) (y := X) h i
  have h2 := @ls_em m (ls_mv W (fun i => mx_pw m W v k (3 * i + c)) i)
  have := Int.dvd_add h2 h1
  rwa [show ls_mv W (fun i => mx_pw m W v k (3 * i + c)) i % m - ls_mv W (fun i => mx_pw m W v k (3 * i + c)) i + (ls_mv W (fun i => mx_pw m W v k (3 * i + c)) i - ls_mv W X i) = ls_mv W (fun i => mx_pw m W v k (3 * i + c)) i % m - ls_mv W X i by omega] at this
theorem ls_pw_ch {n : Nat} (hn : n = 2 ∨ n = 3) {m : Int} {W v : Nat → Int} (zW : mx_z n W) (zv : mx_z n v) : ls_Sp m (mx_pw m W v) n (mx_pw m W v n) := by
  have base : ∀ c, ∀ i, i < 3 → m ∣ mx_pw m W v 0 (3 * i + c) - (fun i => v (3 * i + c)) i := fun c i _ => ⟨0, by show v (3 * i + c) - v (3 * i + c) = _; omega⟩
  rcases hn with rfl | rfl
  · refine ⟨fun i => if i = 0 then -(W 0 * W 4 - W 1 * W 3) else W 0 + W 4, fun k hk => ?_⟩
    have hr : k / 3 < 3 := by omega
    have hc : k % 3 < 3 := by omega
    rw [show k = 3 * (k / 3) + k % 3 by omega]
    generalize k / 3 = r at hr ⊢
    generalize k % 3 = c at hc ⊢
    have d0 := base c
    have d1 : ∀ i, i < 3 → m ∣ mx_pw m W v 1 (3 * i + c) - ls_mv W (fun i => v (3 * i + c)) i := ls_pw_d hc d0
    have d2 : ∀ i, i < 3 → m ∣ mx_pw m W v 2 (3 * i + c) - ls_mv W (ls_mv W (fun i => v (3 * i + c))) i := ls_pw_d hc d1
    have e := ls_ch2 W (fun i => v (3 * i + c)) (zW.1 2 0 (by decide) (by decide) (by decide)).2 (zW.1 2 1 (by decide) (by decide) (by decide)).2 (zW.1 2 0 (by decide) (by decide) (by decide)).1 (zW.1 2 1 (by decide) (by decide) (by decide)).1 (zW.1 2 2 (by decide) (by decide) (by decide)).1 (zv.1 2 c (by decide) hc (by decide)).1 hr
    show m ∣ mx_pw m W v 2 (3 * r + c) - (0 + (if 0 = 0 then -(W 0 * W 4 - W 1 * W 3) else W 0 + W 4) * mx_pw m W v 0 (3 * r + c) + (if 1 = 0 then -(W 0 * W 4 - W 1 * W 3) else W 0 + W 4) * mx_pw m W v 1 (3 * r + c))
    rw [if_pos rfl, if_neg (by decide)]
    obtain ⟨p1, q1⟩ := d1 r hr
    obtain ⟨p2, q2⟩ := d2 r hr
    have f0 : mx_pw m W v 0 (3 * r + c) = v (3 * r + c) := rfl
    have q1 : mx_pw m W v 1 (3 * r + c) = ls_mv W (fun i => v (3 * i + c)) r + m * p1 := by omega
    have q2 : mx_pw m W v 2 (3 * r + c) = ls_mv W (ls_mv W (fun i => v (3 * i + c))) r + m * p2 := by omega
    rw [f0, q1, q2, e]
    skip
    generalize ls_mv W (fun i => v (3 * i + c)) r = x1
    exact ⟨p2 - (W 0 + W 4) * p1, by grind⟩
  · refine ⟨fun i => if i = 0 then W 0 * (W 4 * W 8 - W 5 * W 7) - W 1 * (W 3 * W 8 - W 5 * W 6) + W 2 * (W 3 * W 7 - W 4 * W 6) else if i = 1 then -(W 0 * W 4 - W 1 * W 3 + (W 0 * W 8 - W 2 * W 6) + (W 4 * W 8 - W 5 * W 7)) else W 0 + W 4 + W 8, fun k hk => ?_⟩
    have hr : k / 3 < 3 := by omega
    have hc : k % 3 < 3 := by omega
    rw [show k = 3 * (k / 3) + k % 3 by omega]
    generalize k / 3 = r at hr ⊢
    generalize k % 3 = c at hc ⊢
    have d0 := base c
    have d1 : ∀ i, i < 3 → m ∣ mx_pw m W v 1 (3 * i + c) - ls_mv W (fun i => v (3 * i + c)) i := ls_pw_d hc d0
    have d2 : ∀ i, i < 3 → m ∣ mx_pw m W v 2 (3 * i + c) - ls_mv W (ls_mv W (fun i => v (3 * i + c))) i := ls_pw_d hc d1
    have d3 : ∀ i, i < 3 → m ∣ mx_pw m W v 3 (3 * i + c) - ls_mv W (ls_mv W (ls_mv W (fun i => v (3 * i + c)))) i := ls_pw_d hc d2
    have e := ls_ch3 W (fun i => v (3 * i + c)) hr
    generalize hD : W 0 * (W 4 * W 8 - W 5 * W 7) - W 1 * (W 3 * W 8 - W 5 * W 6) + W 2 * (W 3 * W 7 - W 4 * W 6) = D at e ⊢
    generalize hS : W 0 * W 4 - W 1 * W 3 + (W 0 * W 8 - W 2 * W 6) + (W 4 * W 8 - W 5 * W 7) = S at e ⊢
    generalize hT : W 0 + W 4 + W 8 = T at e ⊢
    show m ∣ mx_pw m W v 3 (3 * r + c) - (0 + (if 0 = 0 then D else if 0 = 1 then -S else T) * mx_pw m W v 0 (3 * r + c) + (if 1 = 0 then D else if 1 = 1 then -S else T) * mx_pw m W v 1 (3 * r + c) + (if 2 = 0 then D else if 2 = 1 then -S else T) * mx_pw m W v 2 (3 * r + c))
    rw [if_pos rfl, if_neg (by decide), if_pos rfl, if_neg (by decide), if_neg (by decide)]
    obtain ⟨p1, q1⟩ := d1 r hr
    obtain ⟨p2, q2⟩ := d2 r hr
    obtain ⟨p3, q3⟩ := d3 r hr
    have f0 : mx_pw m W v 0 (3 * r + c) = v (3 * r + c) := rfl
    have q1 : mx_pw m W v 1 (3 * r + c) = ls_mv W (fun i => v (3 * i + c)) r + m * p1 := by omega
    have q2 : mx_pw m W v 2 (3 * r + c) = ls_mv W (ls_mv W (fun i => v (3 * i + c))) r + m * p2 := by omega
    have q3 : mx_pw m W v 3 (3 * r + c) = ls_mv W (ls_mv W (ls_mv W (fun i => v (3 * i + c)))) r + m * p3 := by omega
    rw [f0, q1, q2, q3, e]
    skip
    clear q1 q2 q3 e d0 d1 d2 d3 base hD hS hT f0
    generalize ls_mv W (ls_mv W (fun i => v (3 * i + c))) r = x2
    generalize ls_mv W (fun i => v (3 * i + c)) r = x1
    exact ⟨p3 - T * p2 + S * p1, by grind⟩
/-! the degree -/
theorem ls_dst {n : Nat} {m : Int} {u a v : Nat → Int} : ∀ k, mx_dst n m u a v k = ls_sq m (mx_po n m u a v) k
  | 0 => rfl
  | k + 1 => by
    show mx_nw m (mx_dst n m u a v k) (mx_po n m u a v k) = mx_nw m (ls_sq m (mx_po n m u a v) k) (mx_po n m u a v k)
    rw [ls_dst k]
theorem sp_p {s : sp_S} (hs : sp_ok s) : ls_p (s.1 82) := hs.1.2.1
theorem sp_po_pw {s : sp_S} (hs : sp_ok s) {a : Nat → Int} (ha : sp_V s a) : mx_po (zs_nn s) (s.1 82) (zs_el s.1 8) a (zs_el s.1 9) = mx_pw (s.1 82) (mx_mul 3 (s.1 82) a (zs_el s.1 8)) (zs_el s.1 9) := by
  funext k
  have h8 := sp_Vel hs (r := 8) (by decide)
  have h9 := sp_V9 hs
  have h1 := (sp_poV hs ha h9 k).1
  rw [mc_po_pw (sp_nn hs) hs.1.2.1 ha h8.2.2 h8.2.1 h9 (sp_vu hs) k] at h1
  exact h1.symm
theorem sp_W_z {s : sp_S} (hs : sp_ok s) {a : Nat → Int} (ha : sp_V s a) : mx_z (zs_nn s) (mx_mul 3 (s.1 82) a (zs_el s.1 8)) := by
  rw [mx_mul3 (sp_nn hs) ha.2.1 (sp_Vel hs (r := 8) (by decide)).2.1]
  exact mx_mul_z
theorem sp_cnt {s : sp_S} (hs : sp_ok s) {a : Nat → Int} (ha : sp_V s a) : (ls_sq (s.1 82) (mx_po (zs_nn s) (s.1 82) (zs_el s.1 8) a (zs_el s.1 9)) 1).1 = 1 ∧ (ls_sq (s.1 82) (mx_po (zs_nn s) (s.1 82) (zs_el s.1 8) a (zs_el s.1 9)) (zs_nn s + 1)).1 ≤ zs_nn s := by
  have h9 := sp_V9 hs
  have hn := sp_nn hs
  constructor
  · show (mx_nw (s.1 82) (0, fun _ _ => 0) (zs_el s.1 9)).1 = 1
    unfold mx_nw
    show (if mx_ld (zs_el s.1 9) < 9 then 0 + 1 else 0) = 1
    by_cases e : mx_ld (zs_el s.1 9) < 9
    · rw [if_pos e]
    · exfalso
      have hl := mx_ld_s (zs_el s.1 9)
      have hz : ∀ j, j < 9 → zs_el s.1 9 j = 0 := fun j hj => hl.2.1 j (by omega)
      have h := congrFun (sp_vu hs) (3 * 0 + 0)
      rw [mx_mul3_at (by decide) (by decide), mx_ps3, mx_id_at, hz _ (by decide), hz _ (by decide), hz _ (by decide), if_pos (by omega)] at h
      simp at h
  · refine ls_sq_le (sp_p hs) (fun i => ?_) (R := mx_po (zs_nn s) (s.1 82) (zs_el s.1 8) a (zs_el s.1 9)) (fun i hi => ?_)
    · exact ((sp_poV hs ha h9 i).2).1
    · by_cases e : i < zs_nn s
      · exact ls_Sp_i e
      · have : i = zs_nn s := by omega
        rw [this, sp_po_pw hs ha]
        exact ls_pw_ch hn (sp_W_z hs ha) h9.2.1
theorem ls_up {m : Int} {x : Nat → Nat → Int} (hc : (ls_sq m x 1).1 = 1) {K : Nat} (hK : 1 ≤ K) (h1 : (ls_sq m x (K + 1)).1 ≤ K) (h2 : ∀ j, 1 ≤ j → j < K → ¬ (ls_sq m x (j + 1)).1 ≤ j) : (∀ k, k ≤ K → (ls_sq m x k).1 = k) ∧ (ls_sq m x (K + 1)).1 = K := by
  have st : ∀ k, (ls_sq m x k).1 ≤ (ls_sq m x (k + 1)).1 ∧ (ls_sq m x (k + 1)).1 ≤ (ls_sq m x k).1 + 1 := fun k => mx_nw1 _ _ _
  have up : ∀ k, k ≤ K → (ls_sq m x k).1 = k := fun k => by
    induction k with
    | zero => exact fun _ => rfl
    | succ k ih =>
      intro hk
      have ih := ih (by omega)
      have s1 := st k
      by_cases e : k = 0
      · rw [e]; exact hc
      · have := h2 k (by omega) (by omega)
        omega
  have := up K (Nat.le_refl _)
  have := st K
  exact ⟨up, by omega⟩
theorem sp_deg_of {s : sp_S} (hs : sp_ok s) {a : Nat → Int} (ha : sp_V s a) {K : Nat} (hK : 1 ≤ K) (hK3 : K ≤ 3) (h1 : (ls_sq (s.1 82) (mx_po (zs_nn s) (s.1 82) (zs_el s.1 8) a (zs_el s.1 9)) (K + 1)).1 ≤ K) (h2 : ∀ j, 1 ≤ j → j < K → ¬ (ls_sq (s.1 82) (mx_po (zs_nn s) (s.1 82) (zs_el s.1 8) a (zs_el s.1 9)) (j + 1)).1 ≤ j) : sp_deg s a K := by
  have hc := (sp_cnt hs ha).1
  obtain ⟨u1, u2⟩ := ls_up hc hK h1 h2
  exact ⟨by omega, fun k hk => by rw [ls_dst]; exact u1 k hk, by rw [ls_dst]; exact u2⟩
theorem sp_degx {s : sp_S} (hs : sp_ok s) {a : Nat → Int} (ha : sp_V s a) : ∃ K, sp_deg s a K := by
  have hc := (sp_cnt hs ha).2
  have hn := sp_nn hs
  have key : ∀ K, (1 ≤ K ∧ K ≤ 3 ∧ (ls_sq (s.1 82) (mx_po (zs_nn s) (s.1 82) (zs_el s.1 8) a (zs_el s.1 9)) (K + 1)).1 ≤ K) → ∃ K, sp_deg s a K := by
    intro K
    induction K using Nat.strongRecOn with
    | ind K ih =>
      rintro ⟨h1, h2, h3⟩
      by_cases e : ∃ j, 1 ≤ j ∧ j < K ∧ (ls_sq (s.1 82) (mx_po (zs_nn s) (s.1 82) (zs_el s.1 8) a (zs_el s.1 9)) (j + 1)).1 ≤ j
      · obtain ⟨j, a1, a2, a3⟩ := e
        exact ih j a2 ⟨a1, by omega, a3⟩
      · exact ⟨K, sp_deg_of hs ha h1 h2 h3 (fun j a1 a2 a3 => e ⟨j, a1, a2, a3⟩)⟩
  exact key (zs_nn s) ⟨by omega, by omega, hc⟩
theorem sp_dg_r {s : sp_S} (hs : sp_ok s) {a : Nat → Int} (ha : sp_V s a) {K r : Nat} (hK : K ≤ 3) (h : mc_dg (s.1 82) (zs_el s.1 8) (zs_el s.1 9) a K r) : (ls_sq (s.1 82) (mx_po (zs_nn s) (s.1 82) (zs_el s.1 8) a (zs_el s.1 9)) (K + 1)).1 = r := by
  obtain ⟨q, h1, h2⟩ := h
  have h9 := sp_V9 hs
  rw [← h2]
  refine ls_rank (sp_p hs) (mc_pr_ok (ls_3 (sp_p hs)) h9.1 h9.2.1.2) (Nat.le_refl 9) h1 (fun i => ((sp_poV hs ha h9 i).2).1) (fun i hi => ⟨by omega, fun j hj => ?_⟩) (fun i hi hi4 j _ => ?_)
  · unfold ls_tr mc_pr
    rw [if_pos hj, if_pos hi, (sp_poV hs ha h9 i).1]
  · unfold mc_pr
    rw [if_neg (by omega)]
/-- the class's degree -/
theorem sp_dg {s : sp_S} (hs : sp_ok s) {a : Nat → Int} (ha : sp_V s a) {z : Int} (h : (∃ K, K < 3 ∧ (∃ r, mc_dg (s.1 82) (zs_el s.1 8) (zs_el s.1 9) a (K + 1) r ∧ r ≤ K + 1) ∧ (∀ j, j < K → ∃ r, mc_dg (s.1 82) (zs_el s.1 8) (zs_el s.1 9) a (j + 1) r ∧ j + 1 < r) ∧ z = (K : Int) + 1) ∨ ((∀ j, j < 3 → ∃ r, mc_dg (s.1 82) (zs_el s.1 8) (zs_el s.1 9) a (j + 1) r ∧ j + 1 < r) ∧ z = s.1 81)) : ∃ K : Nat, sp_deg s a K ∧ z = K := by
  rcases h with ⟨K, h1, ⟨r, h2, h3⟩, h4, h5⟩ | ⟨h1, h2⟩
  · refine ⟨K + 1, sp_deg_of hs ha (by omega) (by omega) (by rw [sp_dg_r hs ha (by omega) h2]; exact h3) (fun j a1 a2 a3 => ?_), by omega⟩
    obtain ⟨r', b1, b2⟩ := h4 (j - 1) (by omega)
    rw [show j - 1 + 1 = j by omega] at b1
    rw [sp_dg_r hs ha (by omega) b1] at a3
    omega
  · exfalso
    have hc := (sp_cnt hs ha).2
    have hn := sp_nn hs
    obtain ⟨r', b1, b2⟩ := h1 (zs_nn s - 1) (by omega)
    rw [show zs_nn s - 1 + 1 = zs_nn s by omega] at b1
    rw [sp_dg_r hs ha (by omega) b1] at hc
    omega
/-! the order -/
theorem sp_po_sh {s : sp_S} (hs : sp_ok s) {a : Nat → Int} (ha : sp_V s a) : ∀ k, zs_po s a a k = zs_po s a (zs_el s.1 9) (k + 1)
  | 0 => by
    have h8 := sp_Vel hs (r := 8) (by decide)
    have h1 : zs_po s a (zs_el s.1 9) = _ := sp_po_pw hs ha
    rw [h1, mx_pw_1 (sp_nn hs) ha h8.2.2 (sp_V9 hs).2.2 (sp_vu hs)]
    rfl
  | k + 1 => by
    show mx_prod _ _ _ (zs_po s a a k) a = mx_prod _ _ _ (zs_po s a (zs_el s.1 9) (k + 1)) a
    rw [sp_po_sh hs ha k]
theorem sp_ord {s : sp_S} (hs : sp_ok s) {a : Nat → Int} (ha : sp_V s a) (hd : mx_det (zs_nn s) (s.1 82) a = 0) (k : Nat) : zs_po s a a k ≠ zs_el s.1 9 := fun h => by
  have h8 := sp_Vel hs (r := 8) (by decide)
  have h1 : zs_po s a (zs_el s.1 9) = _ := sp_po_pw hs ha
  rw [sp_po_sh hs ha k, h1] at h
  have h2 : mx_mul 3 (s.1 82) (mx_mul 3 (s.1 82) a (zs_el s.1 8)) (mx_pw (s.1 82) (mx_mul 3 (s.1 82) a (zs_el s.1 8)) (zs_el s.1 9) k) = zs_el s.1 9 := h
  have h3 := sp_vu hs
  rw [← h2, mx_mul_a, mx_mul_a] at h3
  exact ls_nsing (sp_nn hs) (sp_p hs) ha h3 hd
end
section
/-! counting in another order -/
noncomputable def ls_chi (P : Nat → Prop) (k : Nat) : Int := @ite _ (P k) (Classical.propDecidable _) 1 0
theorem ls_chi1 {P : Nat → Prop} {k : Nat} (h : P k) : ls_chi P k = 1 := if_pos h
theorem ls_chi0 {P : Nat → Prop} {k : Nat} (h : ¬ P k) : ls_chi P k = 0 := if_neg h
theorem ls_cnt1 {P : Nat → Prop} : ∀ k, mx_cnt P k (ls_su (ls_chi P) k)
  | 0 => rfl
  | k + 1 => by
    refine ⟨ls_su (ls_chi P) k, ls_cnt1 k, ?_⟩
    by_cases h : P k
    · exact Or.inl ⟨h, by show ls_su (ls_chi P) k + ls_chi P k = _; rw [ls_chi1 h]⟩
    · exact Or.inr ⟨h, by show ls_su (ls_chi P) k + ls_chi P k = _; rw [ls_chi0 h, Int.add_zero]⟩
theorem ls_cnt2 {P : Nat → Prop} {k : Nat} {z : Int} (h : mx_cnt P k z) : z = ls_su (ls_chi P) k := mx_cnt_u k _ _ h (ls_cnt1 k)
theorem ls_su_app (f : Nat → Int) (a : Nat) : ∀ b, ls_su f (a + b) = ls_su f a + ls_su (fun j => f (a + j)) b
  | 0 => by show ls_su f a = ls_su f a + 0; omega
  | b + 1 => by
    show ls_su f (a + b) + f (a + b) = ls_su f a + (ls_su (fun j => f (a + j)) b + f (a + b))
    rw [ls_su_app f a b]
    omega
theorem ls_su_blk (f : Nat → Int) (b : Nat) : ∀ a, ls_su f (a * b) = ls_su (fun i => ls_su (fun j => f (i * b + j)) b) a
  | 0 => by rw [Nat.zero_mul]; rfl
  | a + 1 => by
    rw [Nat.succ_mul, ls_su_app, ls_su_blk f b a]
    rfl
theorem ls_su_3 (f : Nat → Int) (q : Nat) : ls_su f (q * q * q) = ls_su (fun i => ls_su (fun j => ls_su (fun l => f ((i * q + j) * q + l)) q) q) q := by
  rw [ls_su_blk, ls_su_blk]
theorem ls_vec {q i j l : Nat} (hj : j < q) (hl : l < q) (hi : i < q) : mx_vec q ((i * q + j) * q + l) = mc_vec q ((l * q + j) * q + i) := by
  have e1 : ∀ {x y : Nat}, y < q → (x * q + y) % q = y := fun {x y} h => by
    rw [Nat.add_comm, Nat.add_mul_mod_self_right, Nat.mod_eq_of_lt h]
  have e2 : ∀ {x y : Nat}, y < q → (x * q + y) / q = x := fun {x y} h => by
    rw [Nat.add_comm, Nat.add_mul_div_right _ _ (by omega), Nat.div_eq_of_lt h, Nat.zero_add]
  funext k
  unfold mx_vec mc_vec
  rw [e1 hl, e1 hi, e2 hl, e2 hi, e1 hj, e1 hj, e2 hj, e2 hj]
theorem ls_many {q : Nat} {Q Q' : (Nat → Int) → Prop} {z : Int} (h : mx_cnt (fun k => Q (mc_vec q k)) (q * q * q) z) (hQ : ∀ k, k < q * q * q → (Q' (mx_vec q k) ↔ Q (mx_vec q k))) : mx_cnt (fun k => Q' (mx_vec q k)) (q * q * q) z := by
  have h1 := ls_cnt2 h
  have h2 : ls_su (ls_chi (fun k => Q' (mx_vec q k))) (q * q * q) = ls_su (ls_chi (fun k => Q (mx_vec q k))) (q * q * q) := ls_su_c _ (fun k hk => by
    by_cases e : Q (mx_vec q k)
    · rw [ls_chi1 (P := fun k => Q (mx_vec q k)) e, ls_chi1 (P := fun k => Q' (mx_vec q k)) ((hQ k hk).mpr e)]
    · rw [ls_chi0 (P := fun k => Q (mx_vec q k)) e, ls_chi0 (P := fun k => Q' (mx_vec q k)) (fun g => e ((hQ k hk).mp g))])
  have h3 : ls_su (ls_chi (fun k => Q (mx_vec q k))) (q * q * q) = ls_su (ls_chi (fun k => Q (mc_vec q k))) (q * q * q) := by
    rw [ls_su_3, ls_su_3]
    have e1 : ls_su (fun i => ls_su (fun j => ls_su (fun l => ls_chi (fun k => Q (mx_vec q k)) ((i * q + j) * q + l)) q) q) q = ls_su (fun i => ls_su (fun j => ls_su (fun l => ls_chi (fun k => Q (mc_vec q k)) ((l * q + j) * q + i)) q) q) q := ls_su_c _ (fun i hi => ls_su_c _ (fun j hj => ls_su_c _ (fun l hl => by
      have e := ls_vec hj hl hi
      by_cases g : Q (mc_vec q ((l * q + j) * q + i))
      · rw [ls_chi1 (P := fun k => Q (mc_vec q k)) g, ls_chi1 (P := fun k => Q (mx_vec q k)) (by rw [e]; exact g)]
      · rw [ls_chi0 (P := fun k => Q (mc_vec q k)) g, ls_chi0 (P := fun k => Q (mx_vec q k)) (by rw [e]; exact g)])))
    rw [e1]
    generalize ls_chi (fun k => Q (mc_vec q k)) = g
    have e2 : ∀ i, ls_su (fun j => ls_su (fun l => g ((l * q + j) * q + i)) q) q = ls_su (fun l => ls_su (fun j => g ((l * q + j) * q + i)) q) q := fun i => ls_su_sw _ _ _
    rw [ls_su_c (g := fun i => ls_su (fun l => ls_su (fun j => g ((l * q + j) * q + i)) q) q) q (fun i _ => e2 i), ls_su_sw]
    refine ls_su_c _ (fun l _ => ?_)
    rw [ls_su_sw]
  rw [h1, ← h3, ← h2]
  exact ls_cnt1 _
/-! the kinds -/
theorem ls_ch2u {m : Int} {W : Nat → Int} (zW : mx_z 2 W) : ∃ t d : Int, ∀ v, mx_z 2 v → ∀ k, k < 9 → m ∣ mx_pw m W v 2 k - (t * mx_pw m W v 1 k + d * mx_pw m W v 0 k) := by
  refine ⟨W 0 + W 4, -(W 0 * W 4 - W 1 * W 3), fun v zv k hk => ?_⟩
  have hr : k / 3 < 3 := by omega
  have hc : k % 3 < 3 := by omega
  rw [show k = 3 * (k / 3) + k % 3 by omega]
  generalize k / 3 = r at hr ⊢
  generalize k % 3 = c at hc ⊢
  have d0 : ∀ i, i < 3 → m ∣ mx_pw m W v 0 (3 * i + c) - (fun i => v (3 * i + c)) i := fun i _ => ⟨0, by show v (3 * i + c) - v (3 * i + c) = _; omega⟩
  have d1 : ∀ i, i < 3 → m ∣ mx_pw m W v 1 (3 * i + c) - ls_mv W (fun i => v (3 * i + c)) i := ls_pw_d hc d0
  have d2 : ∀ i, i < 3 → m ∣ mx_pw m W v 2 (3 * i + c) - ls_mv W (ls_mv W (fun i => v (3 * i + c))) i := ls_pw_d hc d1
  have e := ls_ch2 W (fun i => v (3 * i + c)) (zW.1 2 0 (by decide) (by decide) (by decide)).2 (zW.1 2 1 (by decide) (by decide) (by decide)).2 (zW.1 2 0 (by decide) (by decide) (by decide)).1 (zW.1 2 1 (by decide) (by decide) (by decide)).1 (zW.1 2 2 (by decide) (by decide) (by decide)).1 (zv.1 2 c (by decide) hc (by decide)).1 hr
  obtain ⟨p1, q1⟩ := d1 r hr
  obtain ⟨p2, q2⟩ := d2 r hr
  have f0 : mx_pw m W v 0 (3 * r + c) = v (3 * r + c) := rfl
  have q1 : mx_pw m W v 1 (3 * r + c) = ls_mv W (fun i => v (3 * i + c)) r + m * p1 := by omega
  have q2 : mx_pw m W v 2 (3 * r + c) = ls_mv W (ls_mv W (fun i => v (3 * i + c))) r + m * p2 := by omega
  rw [f0, q1, q2, e]
  clear e q1 q2 d0 d1 d2 f0
  generalize ls_mv W (fun i => v (3 * i + c)) r = x1
  exact ⟨p2 - (W 0 + W 4) * p1, by grind⟩
theorem ls_pw_sh {m : Int} {W v : Nat → Int} (i : Nat) : ∀ j, mx_pw m W v (i + j) = mx_pw m W (mx_pw m W v i) j
  | 0 => rfl
  | j + 1 => by
    show mx_mul 3 m W (mx_pw m W v (i + j)) = mx_mul 3 m W (mx_pw m W (mx_pw m W v i) j)
    rw [ls_pw_sh i j]
theorem ls_mul_0 {m : Int} {W : Nat → Int} : mx_mul 3 m W (fun _ => 0) = fun _ => 0 := by
  funext k
  by_cases h : k < 9
  · have e := @mx_mul3_at m W (fun _ => 0) (k / 3) (k % 3) (by omega) (by omega)
    rw [show 3 * (k / 3) + k % 3 = k by omega] at e
    rw [e, mx_ps3]
    simp
  · exact mx_mul_9 k (by omega)
/-- at the size 2 the second power is 0, if one is -/
theorem ls_nil {m : Int} (hm : ls_p m) {W v : Nat → Int} (zW : mx_z 2 W) (hp : ∀ k, mx_ok m (mx_pw m W v k) ∧ mx_z 2 (mx_pw m W v k)) : ∀ j, 1 ≤ j → mx_pw m W v j = (fun _ => 0) → mx_pw m W v 2 = fun _ => 0 := by
  obtain ⟨t, d, htd⟩ := ls_ch2u (m := m) zW
  intro j
  induction j using Nat.strongRecOn with
  | ind j ih =>
    intro h1 h0
    by_cases e1 : j = 1
    · subst e1
      show mx_mul 3 m W (mx_pw m W v 1) = _
      rw [h0, ls_mul_0]
    by_cases e2 : j = 2
    · rw [← e2]; exact h0
    by_cases e3 : mx_pw m W v (j - 1) = fun _ => 0
    · exact ih (j - 1) (by omega) (by omega) e3
    · obtain ⟨k, hk⟩ : ∃ k, mx_pw m W v (j - 1) k ≠ 0 := Classical.byContradiction fun h => e3 (funext fun k => Classical.byContradiction fun g => h ⟨k, g⟩)
      have hk9 : k < 9 := by
        rcases Nat.lt_or_ge k 9 with h | h
        · exact h
        · exact absurd ((hp (j - 1)).2.2 k h) hk
      have hnd : ¬ m ∣ mx_pw m W v (j - 1) k := fun q => hk (ls_r0 ((hp (j - 1)).1 k hk9) q)
      have hj1 : mx_pw m W v (j + 1) = fun _ => 0 := by
        show mx_mul 3 m W (mx_pw m W v j) = _
        rw [h0, ls_mul_0]
      have sh : ∀ i, ∀ k, k < 9 → m ∣ mx_pw m W v (i + 2) k - (t * mx_pw m W v (i + 1) k + d * mx_pw m W v i k) := fun i k hk => by
        rw [ls_pw_sh i 2, ls_pw_sh i 1]
        exact htd _ (hp i).2 k hk
      have a1 := sh (j - 1) k hk9
      rw [show j - 1 + 2 = j + 1 by omega, show j - 1 + 1 = j by omega, hj1, h0] at a1
      have hd : m ∣ d := by
        obtain ⟨p, a1⟩ := a1
        refine ls_can hm hnd ⟨-p, ?_⟩
        rw [Int.mul_comm, Int.mul_neg]
        dsimp only at a1
        omega
      have a2 := sh (j - 2) k hk9
      rw [show j - 2 + 2 = j by omega, show j - 2 + 1 = j - 1 by omega, h0] at a2
      have ht : m ∣ t := by
        obtain ⟨p, a2⟩ := a2
        obtain ⟨w, hd⟩ := hd
        refine ls_can hm hnd ⟨-p - w * mx_pw m W v (j - 2) k, ?_⟩
        dsimp only at a2
        rw [hd] at a2
        grind
      funext i
      by_cases hi : i < 9
      · have a3 := sh 0 i hi
        refine ls_r0 ((hp 2).1 i hi) ?_
        have := Int.dvd_add a3 (Int.dvd_add (Int.dvd_mul_of_dvd_left (b := t) (c := mx_pw m W v (0 + 1) i) ht) (Int.dvd_mul_of_dvd_left (b := d) (c := mx_pw m W v 0 i) hd))
        rwa [show mx_pw m W v (0 + 2) i - (t * mx_pw m W v (0 + 1) i + d * mx_pw m W v 0 i) + (t * mx_pw m W v (0 + 1) i + d * mx_pw m W v 0 i) = mx_pw m W v 2 i by show mx_pw m W v 2 i - _ + _ = _; omega] at this
      · exact (hp 2).2.2 i (by omega)
theorem ls_vecV {q : Nat} (hq : 3 ≤ q) {k : Nat} (hk : k < q * q * q) : mx_V 2 (q : Int) (mx_vec q k) := by
  have h1 : k % q < q := Nat.mod_lt _ (by omega)
  have h2 : k / q % q < q := Nat.mod_lt _ (by omega)
  have h3 : k / q / q < q := Nat.div_lt_of_lt_mul (Nat.div_lt_of_lt_mul (by rw [Nat.mul_comm]; exact hk))
  refine ⟨fun i hi => ?_, ⟨fun i j hi hj h => ?_, fun i hi => ?_⟩, fun i j hi hj => ?_⟩
  · unfold mx_vec
    generalize k / q / q = x3 at h3 ⊢
    generalize k / q % q = x2 at h2 ⊢
    split
    · omega
    · split
      · omega
      · split <;> omega
  · have : i = 2 := by omega
    subst this
    unfold mx_vec
    refine ⟨?_, ?_⟩ <;> rw [if_neg (by omega), if_neg (by omega), if_neg (by omega)]
  · unfold mx_vec
    rw [if_neg (by omega), if_neg (by omega), if_neg (by omega)]
  · unfold mx_vec
    rcases (show i = 0 ∨ i = 1 ∨ i = 2 by omega) with rfl | rfl | rfl <;> rcases (show j = 0 ∨ j = 1 ∨ j = 2 by omega) with rfl | rfl | rfl <;> rfl
theorem sp_kd {s : sp_S} (hs : sp_ok s) (h2 : s.1 81 = 2) {w : Int} (hw : 0 ≤ w ∧ w ≤ 3) {c : Nat → Int} (hc : sp_V s c) : zs_kind s w c ↔ mc_kd (s.1 82) (s.1 81) (zs_el s.1 8) (zs_el s.1 9) w c := by
  have hn : zs_nn s = 2 := by unfold zs_nn; omega
  have hni : s.1 81 = ((zs_nn s : Nat) : Int) := by omega
  have hp := sp_pe hs hc hc
  unfold zs_kind mc_kd
  rcases (show w = 0 ∨ w = 1 ∨ w = 2 ∨ w = 3 by omega) with rfl | rfl | rfl | rfl
  · rw [if_pos rfl, if_neg (by decide), if_neg (by decide), if_pos rfl, hp]
    exact Iff.rfl
  · rw [if_neg (by decide), if_pos rfl, if_pos rfl, hni]
    constructor
    · intro h
      obtain ⟨q, hq⟩ := ls_runx (sp_p hs) (rr_ld_ok (ls_3 (sp_p hs)) (n := ((zs_nn s : Nat) : Int)) hc.1) (pv := 1) 3 (by decide)
      exact ⟨q, hq, by rw [(ls_gj (sp_nn hs) (sp_p hs) hc hq).2.1]; exact h⟩
    · rintro ⟨q, hq, h⟩
      rw [(ls_gj (sp_nn hs) (sp_p hs) hc hq).2.1] at h
      exact h
  · rw [if_neg (by decide), if_neg (by decide), if_pos rfl, if_neg (by decide), if_pos rfl, hp]
    constructor
    · rintro ⟨k, hk, h⟩
      have h1 : zs_po s c (zs_el s.1 9) = _ := sp_po_pw hs hc
      have h3 : zs_prod s c c = zs_po s c (zs_el s.1 9) 2 := sp_po_sh hs hc 1
      rw [sp_po_sh hs hc k, h1] at h
      rw [h3, h1]
      have zW := sp_W_z hs hc
      rw [hn] at zW
      refine ls_nil (sp_p hs) zW (fun k => ?_) (k + 1) (by omega) h
      have := (sp_poV hs hc (sp_V9 hs) k).2
      rw [h1] at this
      unfold sp_V at this
      rw [hn] at this
      exact ⟨this.1, this.2.1⟩
    · intro h
      exact ⟨1, by decide, h⟩
  · rw [if_neg (by decide), if_neg (by decide), if_neg (by decide), if_neg (by decide), if_neg (by decide), if_neg (by decide), hp]
theorem sp_manyof {s : sp_S} (hs : sp_ok s) (h2 : s.1 81 = 2) {w : Int} (hw : 0 ≤ w ∧ w ≤ 3) {q : Nat} (hq : s.1 82 = (q : Int)) {z : Int} (h : mx_cnt (fun k => mc_kd (s.1 82) (s.1 81) (zs_el s.1 8) (zs_el s.1 9) w (mc_vec q k)) (q * q * q) z) : sp_many s w z := by
  have hm := hs.1.2.1
  unfold sp_many
  rw [if_pos hw, if_neg (by omega), show (s.1 82).toNat = q by omega]
  refine ls_many (Q := mc_kd (s.1 82) (s.1 81) (zs_el s.1 8) (zs_el s.1 9) w) (Q' := zs_kind s w) h (fun k hk => sp_kd hs h2 hw ?_)
  have := ls_vecV (q := q) (by omega) hk
  unfold sp_V
  rw [show zs_nn s = 2 by unfold zs_nn; omega, hq]
  exact this
end
section
/-! how many parts there are -/
def ls_row (a : Nat → Int) (i : Nat) : Nat → Int := fun j => if j < 3 then a (3 * i + j) else 0
def ls_B (x y : Nat → Int) : Nat → Int := fun k => x (k / 3) * y (k % 3) + y (k / 3) * x (k % 3)
def ls_T (a Q c : Nat → Int) (i j : Nat) : Int := (a (3 * i) * Q 0 + a (3 * i + 1) * Q 3 + a (3 * i + 2) * Q 6) * c j + (a (3 * i) * Q 1 + a (3 * i + 1) * Q 4 + a (3 * i + 2) * Q 7) * c (3 + j) + (a (3 * i) * Q 2 + a (3 * i + 1) * Q 5 + a (3 * i + 2) * Q 8) * c (6 + j)
theorem ls_mm {m : Int} {a b : Nat → Int} {r c : Nat} (hr : r < 3) (hc : c < 3) : m ∣ mx_mul 3 m a b (3 * r + c) - (a (3 * r) * b c + a (3 * r + 1) * b (3 + c) + a (3 * r + 2) * b (6 + c)) := by
  rw [mx_mul3_at hr hc, mx_ps3]
  exact ls_em
theorem ls_T_m {m : Int} {a Q c : Nat → Int} {i j : Nat} (hi : i < 3) (hj : j < 3) : m ∣ mx_mul 3 m (mx_mul 3 m a Q) c (3 * i + j) - ls_T a Q c i j := by
  obtain ⟨p0, h0⟩ := @ls_mm m a Q i 0 hi (by decide)
  obtain ⟨p1, h1⟩ := @ls_mm m a Q i 1 hi (by decide)
  obtain ⟨p2, h2⟩ := @ls_mm m a Q i 2 hi (by decide)
  obtain ⟨p, h⟩ := @ls_mm m (mx_mul 3 m a Q) c i j hi hj
  rw [Nat.add_zero] at h0
  have h0 : mx_mul 3 m a Q (3 * i) = a (3 * i) * Q 0 + a (3 * i + 1) * Q 3 + a (3 * i + 2) * Q 6 + m * p0 := by
    have h0 : mx_mul 3 m a Q (3 * i) - (a (3 * i) * Q 0 + a (3 * i + 1) * Q 3 + a (3 * i + 2) * Q 6) = m * p0 := h0
    omega
  have h1 : mx_mul 3 m a Q (3 * i + 1) = a (3 * i) * Q 1 + a (3 * i + 1) * Q 4 + a (3 * i + 2) * Q 7 + m * p1 := by
    have h1 : mx_mul 3 m a Q (3 * i + 1) - (a (3 * i) * Q 1 + a (3 * i + 1) * Q 4 + a (3 * i + 2) * Q 7) = m * p1 := h1
    omega
  have h2 : mx_mul 3 m a Q (3 * i + 2) = a (3 * i) * Q 2 + a (3 * i + 1) * Q 5 + a (3 * i + 2) * Q 8 + m * p2 := by
    have h2 : mx_mul 3 m a Q (3 * i + 2) - (a (3 * i) * Q 2 + a (3 * i + 1) * Q 5 + a (3 * i + 2) * Q 8) = m * p2 := h2
    omega
  rw [h0, h1, h2] at h
  unfold ls_T
  exact ⟨p + p0 * c j + p1 * c (3 + j) + p2 * c (6 + j), by grind⟩
theorem ls_T_t {a Q c : Nat → Int} (sa : mx_s a) (sQ : mx_s Q) (sc : mx_s c) {i j : Nat} (hi : i < 3) (hj : j < 3) : ls_T c Q a i j = ls_T a Q c j i := by
  have q1 : Q 3 = Q 1 := sQ 1 0 (by decide) (by decide)
  have q2 : Q 6 = Q 2 := sQ 2 0 (by decide) (by decide)
  have q3 : Q 7 = Q 5 := sQ 2 1 (by decide) (by decide)
  have a0 : a (3 * j) = a j := by
    have := sa j 0 hj (by decide)
    rw [Nat.add_zero] at this
    rw [this, show 3 * 0 + j = j by omega]
  have a1 : a (3 * j + 1) = a (3 + j) := sa j 1 hj (by decide)
  have a2 : a (3 * j + 2) = a (6 + j) := sa j 2 hj (by decide)
  have c0 : c (3 * i) = c i := by
    have := sc i 0 hi (by decide)
    rw [Nat.add_zero] at this
    rw [this, show 3 * 0 + i = i by omega]
  have c1 : c (3 * i + 1) = c (3 + i) := sc i 1 hi (by decide)
  have c2 : c (3 * i + 2) = c (6 + i) := sc i 2 hi (by decide)
  unfold ls_T
  rw [q1, q2, q3, a0, a1, a2, c0, c1, c2]
  grind
theorem ls_T_add {m : Int} {v e f Q : Nat → Int} (h : ∀ k, k < 9 → m ∣ v k - (e k + f k)) {i j : Nat} (hi : i < 3) (hj : j < 3) : m ∣ ls_T v Q v i j - (ls_T e Q e i j + ls_T e Q f i j + ls_T f Q e i j + ls_T f Q f i j) := by
  obtain ⟨w0, h0⟩ := h (3 * i) (by omega)
  obtain ⟨w1, h1⟩ := h (3 * i + 1) (by omega)
  obtain ⟨w2, h2⟩ := h (3 * i + 2) (by omega)
  obtain ⟨y0, g0⟩ := h j (by omega)
  obtain ⟨y1, g1⟩ := h (3 + j) (by omega)
  obtain ⟨y2, g2⟩ := h (6 + j) (by omega)
  have h0 : v (3 * i) = e (3 * i) + f (3 * i) + m * w0 := by omega
  have h1 : v (3 * i + 1) = e (3 * i + 1) + f (3 * i + 1) + m * w1 := by omega
  have h2 : v (3 * i + 2) = e (3 * i + 2) + f (3 * i + 2) + m * w2 := by omega
  have g0 : v j = e j + f j + m * y0 := by omega
  have g1 : v (3 + j) = e (3 + j) + f (3 + j) + m * y1 := by omega
  have g2 : v (6 + j) = e (6 + j) + f (6 + j) + m * y2 := by omega
  clear h
  have s1 : m ∣ ls_T v Q v i j - ((e (3 * i) + f (3 * i)) * Q 0 + (e (3 * i + 1) + f (3 * i + 1)) * Q 3 + (e (3 * i + 2) + f (3 * i + 2)) * Q 6) * v j - ((e (3 * i) + f (3 * i)) * Q 1 + (e (3 * i + 1) + f (3 * i + 1)) * Q 4 + (e (3 * i + 2) + f (3 * i + 2)) * Q 7) * v (3 + j) - ((e (3 * i) + f (3 * i)) * Q 2 + (e (3 * i + 1) + f (3 * i + 1)) * Q 5 + (e (3 * i + 2) + f (3 * i + 2)) * Q 8) * v (6 + j) := by
    unfold ls_T
    rw [h0, h1, h2]
    refine ⟨(w0 * Q 0 + w1 * Q 3 + w2 * Q 6) * v j + (w0 * Q 1 + w1 * Q 4 + w2 * Q 7) * v (3 + j) + (w0 * Q 2 + w1 * Q 5 + w2 * Q 8) * v (6 + j), ?_⟩
    clear h0 h1 h2 g0 g1 g2
    grind
  obtain ⟨p, hp⟩ := s1
  have hp : ls_T v Q v i j = ((e (3 * i) + f (3 * i)) * Q 0 + (e (3 * i + 1) + f (3 * i + 1)) * Q 3 + (e (3 * i + 2) + f (3 * i + 2)) * Q 6) * v j + ((e (3 * i) + f (3 * i)) * Q 1 + (e (3 * i + 1) + f (3 * i + 1)) * Q 4 + (e (3 * i + 2) + f (3 * i + 2)) * Q 7) * v (3 + j) + ((e (3 * i) + f (3 * i)) * Q 2 + (e (3 * i + 1) + f (3 * i + 1)) * Q 5 + (e (3 * i + 2) + f (3 * i + 2)) * Q 8) * v (6 + j) + m * p := by omega
  rw [hp, g0, g1, g2]
  unfold ls_T
  refine ⟨p + ((e (3 * i) + f (3 * i)) * Q 0 + (e (3 * i + 1) + f (3 * i + 1)) * Q 3 + (e (3 * i + 2) + f (3 * i + 2)) * Q 6) * y0 + ((e (3 * i) + f (3 * i)) * Q 1 + (e (3 * i + 1) + f (3 * i + 1)) * Q 4 + (e (3 * i + 2) + f (3 * i + 2)) * Q 7) * y1 + ((e (3 * i) + f (3 * i)) * Q 2 + (e (3 * i + 1) + f (3 * i + 1)) * Q 5 + (e (3 * i + 2) + f (3 * i + 2)) * Q 8) * y2, ?_⟩
  clear h0 h1 h2 g0 g1 g2 hp
  grind
theorem ls_T_B {a Q c : Nat → Int} (sa : mx_s a) {i j : Nat} (hi : i < 3) (hj : j < 3) : ls_T a Q c i j + ls_T a Q c j i = ls_su (fun p => 1 * ls_su (fun q => Q (3 * p + q) * ls_B (ls_row a p) (ls_row c q) (3 * i + j)) 3) 3 := by
  have e : ∀ p q, p < 3 → q < 3 → ls_B (ls_row a p) (ls_row c q) (3 * i + j) = a (3 * i + p) * c (3 * q + j) + c (3 * q + i) * a (3 * j + p) := fun p q hp hq => by
    unfold ls_B ls_row
    rw [show (3 * i + j) / 3 = i by omega, show (3 * i + j) % 3 = j by omega, if_pos hi, if_pos hj, if_pos hi, if_pos hj, sa p i hp hi, sa p j hp hj]
  show _ = 0 + 1 * (0 + Q (3 * 0 + 0) * ls_B (ls_row a 0) (ls_row c 0) (3 * i + j) + Q (3 * 0 + 1) * ls_B (ls_row a 0) (ls_row c 1) (3 * i + j) + Q (3 * 0 + 2) * ls_B (ls_row a 0) (ls_row c 2) (3 * i + j)) + 1 * (0 + Q (3 * 1 + 0) * ls_B (ls_row a 1) (ls_row c 0) (3 * i + j) + Q (3 * 1 + 1) * ls_B (ls_row a 1) (ls_row c 1) (3 * i + j) + Q (3 * 1 + 2) * ls_B (ls_row a 1) (ls_row c 2) (3 * i + j)) + 1 * (0 + Q (3 * 2 + 0) * ls_B (ls_row a 2) (ls_row c 0) (3 * i + j) + Q (3 * 2 + 1) * ls_B (ls_row a 2) (ls_row c 1) (3 * i + j) + Q (3 * 2 + 2) * ls_B (ls_row a 2) (ls_row c 2) (3 * i + j))
  rw [e 0 0 (by decide) (by decide), e 0 1 (by decide) (by decide), e 0 2 (by decide) (by decide), e 1 0 (by decide) (by decide), e 1 1 (by decide) (by decide), e 1 2 (by decide) (by decide), e 2 0 (by decide) (by decide), e 2 1 (by decide) (by decide), e 2 2 (by decide) (by decide)]
  unfold ls_T
  simp only [Nat.mul_zero, Nat.zero_add, Nat.add_zero, Nat.mul_one, Nat.reduceMul, Nat.reduceAdd]
  clear e
  grind
theorem ls_B_s (x y : Nat → Int) : ls_B x y = ls_B y x := by
  funext k
  unfold ls_B
  omega
theorem ls_B_lc {m : Int} {P : (Nat → Int) → Prop} (h : ls_lc m P) (y : Nat → Int) : ls_lc m (fun x => P (ls_B x y)) := by
  refine ⟨ls_lc_0 h (fun k _ => ⟨0, by unfold ls_B; grind⟩), fun x x' z s t hx hx' hz => h.2 _ _ _ s t hx hx' (fun k hk => ?_)⟩
  obtain ⟨p, hp⟩ := hz (k / 3) (by omega)
  obtain ⟨q, hq⟩ := hz (k % 3) (by omega)
  have hp : z (k / 3) = s * x (k / 3) + t * x' (k / 3) + m * p := by omega
  have hq : z (k % 3) = s * x (k % 3) + t * x' (k % 3) + m * q := by omega
  unfold ls_B
  rw [hp, hq]
  exact ⟨p * y (k % 3) + q * y (k / 3), by grind⟩
theorem ls_B_P {m : Int} {P : (Nat → Int) → Prop} (h : ls_lc m P) {R R' : Nat → Nat → Int} {r r' : Nat} (g : ∀ k l, k < r → l < r' → P (ls_B (R k) (R' l))) {x y : Nat → Int} (hx : ls_Sp m R r x) (hy : ls_Sp m R' r' y) : P (ls_B x y) := by
  have h1 : ∀ l, l < r' → P (ls_B x (R' l)) := fun l hl => ls_Sp_P (ls_B_lc h (R' l)) hx (fun k hk => g k l hk hl)
  have h2 := ls_Sp_P (ls_B_lc h x) hy (fun l hl => by
    show P (ls_B (R' l) x)
    rw [ls_B_s]
    exact h1 l hl)
  rw [ls_B_s]
  exact h2
theorem ls_bil {m : Int} {P : (Nat → Int) → Prop} (h : ls_lc m P) {R R' : Nat → Nat → Int} {r r' : Nat} (g : ∀ k l, k < r → l < r' → P (ls_B (R k) (R' l))) {a Q c : Nat → Int} (sa : mx_s a) (ha : ∀ p, p < 3 → ls_Sp m R r (ls_row a p)) (hc : ∀ p, p < 3 → ls_Sp m R' r' (ls_row c p)) : P (fun k => ls_T a Q c (k / 3) (k % 3) + ls_T a Q c (k % 3) (k / 3)) := by
  have h1 : P (fun k => ls_su (fun p => 1 * ls_su (fun q => Q (3 * p + q) * ls_B (ls_row a p) (ls_row c q) k) 3) 3) := ls_lc_su h (R := fun p k => ls_su (fun q => Q (3 * p + q) * ls_B (ls_row a p) (ls_row c q) k) 3) (fun _ => 1) 3 (fun p hp => ls_lc_su h (R := fun q => ls_B (ls_row a p) (ls_row c q)) (fun q => Q (3 * p + q)) 3 (fun q hq => ls_B_P h g (ha p hp) (hc q hq)))
  refine ls_lc_e h h1 (fun k hk => ?_)
  have e := ls_T_B (a := a) (Q := Q) (c := c) sa (i := k / 3) (j := k % 3) (by omega) (by omega)
  rw [show 3 * (k / 3) + k % 3 = k by omega] at e
  skip
  rw [e, Int.sub_self]
  exact Int.dvd_zero m
theorem ls_lc_2 {m : Int} (hm : ls_p m) {P : (Nat → Int) → Prop} (h : ls_lc m P) {x z : Nat → Int} (hx : P x) (hz : ∀ k, k < 9 → m ∣ 2 * z k - x k) : P z := by
  obtain ⟨w, hw⟩ : ∃ w, 2 * w = m + 1 := by
    rcases hm with rfl | rfl | rfl | rfl
    · exact ⟨2, rfl⟩
    · exact ⟨3, rfl⟩
    · exact ⟨4, rfl⟩
    · exact ⟨6, rfl⟩
  refine h.2 x x z w 0 hx hx (fun k hk => ?_)
  obtain ⟨p, hp⟩ := hz k hk
  exact ⟨w * p - z k, by grind⟩
/-- pairs in a row -/
def ls_tk (i : Nat) : Nat := if i = 0 then 0 else if i = 1 then 0 else if i = 2 then 1 else if i = 3 then 0 else if i = 4 then 1 else 2
def ls_tl (i : Nat) : Nat := if i = 0 then 0 else if i = 1 then 1 else if i = 2 then 1 else 2
theorem ls_tri {m : Int} {R : Nat → Nat → Int} {r : Nat} (hr : r ≤ 3) {k l : Nat} (hk : k < r) (hl : l < r) : ls_Sp m (fun i => ls_B (R (ls_tk i)) (R (ls_tl i))) (r * (r + 1) / 2) (ls_B (R k) (R l)) := by
  have key : ∀ i, i < r * (r + 1) / 2 → ls_Sp m (fun i => ls_B (R (ls_tk i)) (R (ls_tl i))) (r * (r + 1) / 2) (ls_B (R (ls_tk i)) (R (ls_tl i))) := fun i hi => ls_Sp_i (R := fun i => ls_B (R (ls_tk i)) (R (ls_tl i))) hi
  have sw := ls_B_s (R k) (R l)
  rcases (show r = 0 ∨ r = 1 ∨ r = 2 ∨ r = 3 by omega) with rfl | rfl | rfl | rfl
  · omega
  · obtain rfl : k = 0 := by omega
    obtain rfl : l = 0 := by omega
    exact key 0 (by decide)
  · rcases (show k = 0 ∨ k = 1 by omega) with rfl | rfl <;> rcases (show l = 0 ∨ l = 1 by omega) with rfl | rfl
    · exact key 0 (by decide)
    · exact key 1 (by decide)
    · rw [sw]; exact key 1 (by decide)
    · exact key 2 (by decide)
  · rcases (show k = 0 ∨ k = 1 ∨ k = 2 by omega) with rfl | rfl | rfl <;> rcases (show l = 0 ∨ l = 1 ∨ l = 2 by omega) with rfl | rfl | rfl
    · exact key 0 (by decide)
    · exact key 1 (by decide)
    · exact key 3 (by decide)
    · rw [sw]; exact key 1 (by decide)
    · exact key 2 (by decide)
    · exact key 4 (by decide)
    · rw [sw]; exact key 3 (by decide)
    · rw [sw]; exact key 4 (by decide)
    · exact key 5 (by decide)
theorem ls_rec {m : Int} {R R' : Nat → Nat → Int} {r r' : Nat} {k l : Nat} (hk : k < r) (hl : l < r') : ls_Sp m (fun i => ls_B (R (i / r')) (R' (i % r'))) (r * r') (ls_B (R k) (R' l)) := by
  have h1 : k * r' + l < r * r' := by
    have : (k + 1) * r' ≤ r * r' := Nat.mul_le_mul_right r' (by omega)
    rw [Nat.succ_mul] at this
    omega
  have h := ls_Sp_i (m := m) (R := fun i => ls_B (R (i / r')) (R' (i % r'))) h1
  skip
  rwa [show (k * r' + l) / r' = k by rw [Nat.add_comm, Nat.add_mul_div_right _ _ (by omega), Nat.div_eq_of_lt hl, Nat.zero_add], show (k * r' + l) % r' = l by rw [Nat.add_comm, Nat.add_mul_mod_self_right, Nat.mod_eq_of_lt hl]] at h
end
section
/-- the rows of an element, as many as its rank -/
theorem ls_base {n : Nat} (hn : n = 2 ∨ n = 3) {m : Int} (hm : ls_p m) {a : Nat → Int} (ha : mx_V n m a) : ∃ R : Nat → Nat → Int, ls_in m R (mx_rank n m a) ∧ (∀ i, i < 3 → ls_Sp m R (mx_rank n m a) (ls_row a i)) ∧ (∀ P, ls_lc m P → (∀ i, i < 3 → P (ls_row a i)) → ∀ i, i < mx_rank n m a → P (R i)) ∧ mx_rank n m a ≤ 3 := by
  obtain ⟨oa, za, sa⟩ := ha
  have e : mx_rank n m a = (ls_sq m (fun i => if i < n then mx_rws n a i else fun _ => 0) n).1 := by
    unfold mx_rank
    rw [ls_rst, ls_sq_c (y := fun i => if i < n then mx_rws n a i else fun _ => 0) n (fun i hi => (if_pos hi).symm)]
  have hrow : ∀ i, i < n → mx_rws n a i = ls_row a i := fun i hi => by
    funext j
    unfold mx_rws ls_row
    by_cases e : j < n
    · rw [if_pos e, if_pos (by omega)]
    · rw [if_neg e]
      by_cases e2 : j < 3
      · rw [if_pos e2]
        exact ((za.1 j i e2 (by omega) (by omega)).2).symm
      · rw [if_neg e2]
  have hrow0 : ∀ i, n ≤ i → i < 3 → ∀ j, ls_row a i j = 0 := fun i hi hi3 j => by
    unfold ls_row
    by_cases e2 : j < 3
    · rw [if_pos e2]
      exact (za.1 i j hi3 e2 hi).1
    · rw [if_neg e2]
  have ox : ∀ i, mx_ok m ((fun i => if i < n then mx_rws n a i else fun _ => 0) i) := fun i => by
    have h3 := ls_3 hm
    by_cases e : i < n
    · try dsimp only
      rw [if_pos e]
      intro k hk
      unfold mx_rws
      by_cases e2 : k < n
      · rw [if_pos e2]; exact oa _ (by omega)
      · rw [if_neg e2]; omega
    · try dsimp only
      rw [if_neg e]
      intro k hk
      try dsimp only
      omega
  rw [e]
  have hP := fun P (hP : ls_lc m P) => ls_sq_P hP (x := fun i => if i < n then mx_rws n a i else fun _ => 0) n
  refine ⟨_, ls_ld_in hm (ls_sq_ld hm ox n), fun i hi => ?_, fun P h g => (hP P h).mp (fun i hi => ?_), ?_⟩
  · by_cases q : i < n
    · have := (hP _ ls_Sp_lc).mpr (fun i hi => ls_Sp_i hi) i q
      try dsimp only at this
      rw [if_pos q, hrow i q] at this
      exact this
    · exact ls_lc_0 ls_Sp_lc (fun j _ => by rw [hrow0 i (by omega) hi]; exact Int.dvd_zero m)
  · try dsimp only
    rw [if_pos hi, hrow i hi]
    exact g i (by omega)
  · rw [← e]
    unfold mx_rank
    have := mx_rst1 (n := n) (m := m) (a := a) n
    omega
def ls_bs (n i : Nat) : Nat → Int := if n = 2 then (if i = 0 then mx_bas 0 0 else if i = 1 then mx_bas 0 1 else mx_bas 1 1) else (if i = 0 then mx_bas 0 0 else if i = 1 then mx_bas 0 1 else if i = 2 then mx_bas 0 2 else if i = 3 then mx_bas 1 1 else if i = 4 then mx_bas 1 2 else mx_bas 2 2)
theorem ls_pou {n : Nat} (hn : n = 2 ∨ n = 3) {m : Int} {f : (Nat → Int) → (Nat → Int)} : mx_pou n m f n = ls_sq m (fun i => f (ls_bs n i)) (n * (n + 1) / 2) := by
  rcases hn with rfl | rfl <;> rfl
theorem ls_bas_V {n : Nat} {m : Int} (hm : 3 ≤ m) {r c : Nat} (hn : n ≤ 3) (hr : r < n) (hc : c < n) : mx_V n m (mx_bas r c) := by
  refine ⟨fun k _ => ?_, ⟨fun i j hi hj h => ?_, fun k hk => ?_⟩, fun i j hi hj => ?_⟩
  · unfold mx_bas
    split <;> omega
  · unfold mx_bas
    rw [if_neg (by omega), if_neg (by omega)]
    exact ⟨rfl, rfl⟩
  · unfold mx_bas
    rw [if_neg (by omega)]
  · unfold mx_bas
    by_cases e : 3 * i + j = 3 * r + c ∨ 3 * i + j = 3 * c + r
    · rw [if_pos e, if_pos (by omega)]
    · rw [if_neg e, if_neg (by omega)]
theorem ls_bs_V {n : Nat} (hn : n = 2 ∨ n = 3) {m : Int} (hm : 3 ≤ m) (i : Nat) : mx_V n m (ls_bs n i) := by
  rcases hn with rfl | rfl
  · unfold ls_bs
    rw [if_pos rfl]
    split
    · exact ls_bas_V hm (by decide) (by decide) (by decide)
    · split <;> exact ls_bas_V hm (by decide) (by decide) (by decide)
  · unfold ls_bs
    rw [if_neg (by decide)]
    split
    · exact ls_bas_V hm (by decide) (by decide) (by decide)
    · split
      · exact ls_bas_V hm (by decide) (by decide) (by decide)
      · split
        · exact ls_bas_V hm (by decide) (by decide) (by decide)
        · split
          · exact ls_bas_V hm (by decide) (by decide) (by decide)
          · split <;> exact ls_bas_V hm (by decide) (by decide) (by decide)
theorem ls_bs_in {n : Nat} (hn : n = 2 ∨ n = 3) {m : Int} : ls_in m (ls_bs n) (n * (n + 1) / 2) := by
  intro c hc i hi
  rcases hn with rfl | rfl
  · have h0 := hc 0 (by decide)
    have h1 := hc 1 (by decide)
    have h4 := hc 4 (by decide)
    simp [ls_su, ls_bs, mx_bas] at h0 h1 h4
    rcases (show i = 0 ∨ i = 1 ∨ i = 2 by omega) with rfl | rfl | rfl
    · exact h0
    · exact h1
    · exact h4
  · have h0 := hc 0 (by decide)
    have h1 := hc 1 (by decide)
    have h2 := hc 2 (by decide)
    have h4 := hc 4 (by decide)
    have h5 := hc 5 (by decide)
    have h8 := hc 8 (by decide)
    simp [ls_su, ls_bs, mx_bas] at h0 h1 h2 h4 h5 h8
    rcases (show i = 0 ∨ i = 1 ∨ i = 2 ∨ i = 3 ∨ i = 4 ∨ i = 5 by omega) with rfl | rfl | rfl | rfl | rfl | rfl
    · exact h0
    · exact h1
    · exact h2
    · exact h4
    · exact h5
    · exact h8
/-- the rows of e and of what is left aren't more than the size -/
theorem ls_lcG {m : Int} {G : Nat → Int} {t0 : Int} : ls_lc m (fun z => (∀ j, j < 3 → m ∣ z 0 * G j + z 1 * G (3 + j) + z 2 * G (6 + j) - t0 * z j) ∧ ∀ j, 3 ≤ j → j < 9 → m ∣ z j) := by
  refine ⟨⟨fun j _ => ⟨0, by grind⟩, fun j _ _ => Int.dvd_zero m⟩, fun x y z s t hx hy hz => ⟨fun j hj => ?_, fun j hj hj9 => ?_⟩⟩
  · obtain ⟨p, hp⟩ := hx.1 j hj
    obtain ⟨r, hr⟩ := hy.1 j hj
    obtain ⟨z0, e0⟩ := hz 0 (by omega)
    obtain ⟨z1, e1⟩ := hz 1 (by omega)
    obtain ⟨z2, e2⟩ := hz 2 (by omega)
    obtain ⟨zj, ej⟩ := hz j (by omega)
    have e0 : z 0 = s * x 0 + t * y 0 + m * z0 := by omega
    have e1 : z 1 = s * x 1 + t * y 1 + m * z1 := by omega
    have e2 : z 2 = s * x 2 + t * y 2 + m * z2 := by omega
    have ej : z j = s * x j + t * y j + m * zj := by omega
    refine ⟨s * p + t * r + z0 * G j + z1 * G (3 + j) + z2 * G (6 + j) - t0 * zj, ?_⟩
    have g1 : s * (x 0 * G j + x 1 * G (3 + j) + x 2 * G (6 + j) - t0 * x j) = s * (m * p) := by rw [hp]
    have g2 : t * (y 0 * G j + y 1 * G (3 + j) + y 2 * G (6 + j) - t0 * y j) = t * (m * r) := by rw [hr]
    rw [ej, e0, e1, e2]
    clear e0 e1 e2 ej hp hr hx hy hz
    grind
  · obtain ⟨p, hp⟩ := hx.2 j hj hj9
    obtain ⟨r, hr⟩ := hy.2 j hj hj9
    obtain ⟨zj, ej⟩ := hz j hj9
    exact ⟨s * p + t * r + zj, by grind⟩
theorem ls_two {m : Int} {G : Nat → Int} {R R' : Nat → Nat → Int} {r r' : Nat} (h1 : ls_in m R r) (h2 : ls_in m R' r') (g1 : ∀ i, i < r → (∀ j, j < 3 → m ∣ R i 0 * G j + R i 1 * G (3 + j) + R i 2 * G (6 + j) - 1 * R i j) ∧ ∀ j, 3 ≤ j → j < 9 → m ∣ R i j) (g2 : ∀ i, i < r' → (∀ j, j < 3 → m ∣ R' i 0 * G j + R' i 1 * G (3 + j) + R' i 2 * G (6 + j) - 0 * R' i j) ∧ ∀ j, 3 ≤ j → j < 9 → m ∣ R' i j) : ls_in m (fun i => if i < r then R i else R' (i - r)) (r + r') := by
  intro c hc
  have hx := ls_lc_su (ls_lcG (m := m) (G := G) (t0 := 1)) (R := R) c r g1
  have hy := ls_lc_su (ls_lcG (m := m) (G := G) (t0 := 0)) (R := R') (fun i => c (r + i)) r' g2
  have hs : ∀ j, j < 9 → m ∣ ls_su (fun i => c i * R i j) r + ls_su (fun i => c (r + i) * R' i j) r' := fun j hj => by
    have h := hc j hj
    rw [ls_su_app] at h
    have e1 : ls_su (fun i => c i * (fun i => if i < r then R i else R' (i - r)) i j) r = ls_su (fun i => c i * R i j) r := ls_su_c _ (fun i hi => by try dsimp only; rw [if_pos hi])
    have e2 : ls_su (fun i => c (r + i) * (fun i => if i < r then R i else R' (i - r)) (r + i) j) r' = ls_su (fun i => c (r + i) * R' i j) r' := ls_su_c _ (fun i hi => by try dsimp only; rw [if_neg (by omega), show r + i - r = i by omega])
    rw [← e1, ← e2]
    exact h
  generalize hX : (fun j => ls_su (fun i => c i * R i j) r) = X at hx
  generalize hY : (fun j => ls_su (fun i => c (r + i) * R' i j) r') = Y at hy
  try dsimp only at hx hy
  have eX : ∀ j, ls_su (fun i => c i * R i j) r = X j := fun j => congrFun hX j
  have eY : ∀ j, ls_su (fun i => c (r + i) * R' i j) r' = Y j := fun j => congrFun hY j
  simp only [eX, eY] at hs
  have hX0 : ∀ j, j < 9 → m ∣ X j := fun j hj => by
    by_cases e : j < 3
    · obtain ⟨a, ha⟩ := hx.1 j e
      obtain ⟨b, hb⟩ := hy.1 j e
      obtain ⟨p0, q0⟩ := hs 0 (by decide)
      obtain ⟨p1, q1⟩ := hs 1 (by decide)
      obtain ⟨p2, q2⟩ := hs 2 (by decide)
      have q0 : Y 0 = m * p0 - X 0 := by omega
      have q1 : Y 1 = m * p1 - X 1 := by omega
      have q2 : Y 2 = m * p2 - X 2 := by omega
      rw [q0, q1, q2] at hb
      refine ⟨p0 * G j + p1 * G (3 + j) + p2 * G (6 + j) - a - b, ?_⟩
      clear q0 q1 q2 hs eX eY hX hY hc g1 g2 h1 h2 hx hy
      grind
    · exact hx.2 j (by omega) hj
  have hY0 : ∀ j, j < 9 → m ∣ Y j := fun j hj => by
    obtain ⟨p, hp⟩ := hs j hj
    obtain ⟨q, hq⟩ := hX0 j hj
    exact ⟨p - q, by rw [Int.mul_sub]; omega⟩
  intro i hi
  by_cases e : i < r
  · exact h1 c (fun j hj => by rw [eX]; exact hX0 j hj) i e
  · have := h2 (fun i => c (r + i)) (fun j hj => by rw [eY]; exact hY0 j hj) (i - r) (by omega)
    try dsimp only at this
    rwa [show r + (i - r) = i by omega] at this
/-- three families beside one another -/
theorem ls_join {m : Int} {S1 S2 S3 : Nat → Nat → Int} {a b c : Nat} {x y z w : Nat → Int} (h1 : ls_Sp m S1 a x) (h2 : ls_Sp m S2 b y) (h3 : ls_Sp m S3 c z) (h : ∀ j, j < 9 → m ∣ w j - (x j + y j + z j)) : ls_Sp m (fun i => if i < a then S1 i else if i < a + b then S2 (i - a) else S3 (i - (a + b))) (a + b + c) w := by
  have k1 := ls_Sp_P (m := m) (ls_Sp_lc (R := fun i => if i < a then S1 i else if i < a + b then S2 (i - a) else S3 (i - (a + b))) (k := a + b + c)) h1 (fun i hi => by
    have := ls_Sp_i (m := m) (R := fun i => if i < a then S1 i else if i < a + b then S2 (i - a) else S3 (i - (a + b))) (k := a + b + c) (i := i) (by omega)
    try dsimp only at this
    rwa [if_pos hi] at this)
  have k2 := ls_Sp_P (m := m) (ls_Sp_lc (R := fun i => if i < a then S1 i else if i < a + b then S2 (i - a) else S3 (i - (a + b))) (k := a + b + c)) h2 (fun i hi => by
    have := ls_Sp_i (m := m) (R := fun i => if i < a then S1 i else if i < a + b then S2 (i - a) else S3 (i - (a + b))) (k := a + b + c) (i := a + i) (by omega)
    try dsimp only at this
    rwa [if_neg (by omega), if_pos (by omega), show a + i - a = i by omega] at this)
  have k3 := ls_Sp_P (m := m) (ls_Sp_lc (R := fun i => if i < a then S1 i else if i < a + b then S2 (i - a) else S3 (i - (a + b))) (k := a + b + c)) h3 (fun i hi => by
    have := ls_Sp_i (m := m) (R := fun i => if i < a then S1 i else if i < a + b then S2 (i - a) else S3 (i - (a + b))) (k := a + b + c) (i := a + b + i) (by omega)
    try dsimp only at this
    rwa [if_neg (by omega), if_neg (by omega), show a + b + i - (a + b) = i by omega] at this)
  have k12 := ls_Sp_lc.2 x y (fun j => x j + y j) 1 1 k1 k2 (fun j _ => ⟨0, by grind⟩)
  exact ls_Sp_lc.2 (fun j => x j + y j) z w 1 1 k12 k3 (fun j hj => by
    obtain ⟨p, hp⟩ := h j hj
    exact ⟨p, by grind⟩)
end
section
theorem ls_lin_e {m : Int} {a b : Nat → Int} {x y : Int} {k : Nat} (hk : k < 9) : m ∣ mx_lin m a x b y k - (a k * x + b k * y) := by
  unfold mx_lin
  rw [if_pos hk]
  exact ls_em
theorem ls_row_un {n : Nat} (hn : n ≤ 3) {m : Int} {a : Nat → Int} (za : mx_z n a) {i : Nat} (hi : i < 3) : ls_Sp m (fun i j => if j = i then 1 else 0) n (ls_row a i) := by
  refine ⟨fun k => a (3 * i + k), fun j hj => ?_⟩
  by_cases e : j < n
  · rw [ls_su_one (j := j) n e (fun p _ hp => by
      show a (3 * i + p) * (if j = p then 1 else 0) = 0
      rw [if_neg (fun h => hp h.symm), Int.mul_zero])]
    show m ∣ (if j < 3 then a (3 * i + j) else 0) - a (3 * i + j) * (if j = j then 1 else 0)
    rw [if_pos (by omega), if_pos rfl, Int.mul_one, Int.sub_self]
    exact Int.dvd_zero m
  · rw [ls_su_c (g := fun _ => 0) n (fun p hp => by
      show a (3 * i + p) * (if j = p then 1 else 0) = 0
      rw [if_neg (by omega), Int.mul_zero]), ls_su_0]
    unfold ls_row
    by_cases q : j < 3
    · rw [if_pos q, (za.1 j i q hi (by omega)).2]
      exact Int.dvd_zero m
    · rw [if_neg q]
      exact Int.dvd_zero m
theorem ls_sq_in {m : Int} {x : Nat → Nat → Int} {k i : Nat} (hi : i < k) : ls_Sp m (ls_sq m x k).2 (ls_sq m x k).1 (x i) := (ls_sq_P ls_Sp_lc k).mpr (fun i hi => ls_Sp_i hi) i hi
/-- e its own square by u, v its unit, f what is left: the sizes of the three parts -/
theorem ls_psize {n : Nat} (hn : n = 2 ∨ n = 3) {m : Int} (hm : ls_p m) {u v e f : Nat → Int} (hu : mx_V n m u) (hv : mx_V n m v) (he : mx_V n m e) (hf : mx_V n m f) (hfe : f = mx_lin m v 1 e (-1)) (hvu : mx_mul 3 m v u = mx_id (n : Int)) (heue : mx_mul 3 m (mx_mul 3 m e u) e = e) {x2 x1 x0 : Nat → Nat → Int} (o2 : ∀ i, mx_V n m (x2 i)) (o1 : ∀ i, mx_V n m (x1 i)) (o0 : ∀ i, mx_V n m (x0 i)) (h2 : ∀ i, x2 i = mx_mul 3 m (mx_mul 3 m (mx_mul 3 m (mx_mul 3 m e u) (ls_bs n i)) u) e) (h0 : ∀ i, x0 i = mx_mul 3 m (mx_mul 3 m (mx_mul 3 m (mx_mul 3 m f u) (ls_bs n i)) u) f) (h1 : ∀ i k, k < 9 → m ∣ x1 i k - (ls_bs n i k - (x2 i k + x0 i k))) : (ls_sq m x2 (n * (n + 1) / 2)).1 = mx_rank n m e * (mx_rank n m e + 1) / 2 ∧ (ls_sq m x1 (n * (n + 1) / 2)).1 = mx_rank n m e * (n - mx_rank n m e) ∧ (ls_sq m x0 (n * (n + 1) / 2)).1 = (n - mx_rank n m e) * (n - mx_rank n m e + 1) / 2 ∧ mx_rank n m e ≤ n := by
  have h3 := ls_3 hm
  obtain ⟨R, r1, r2, r3, r4⟩ := ls_base hn hm he
  obtain ⟨R', s1, s2, s3, s4⟩ := ls_base hn hm hf
  generalize mx_rank n m e = r at *
  generalize mx_rank n m f = r' at *
  have hfk : ∀ k, k < 9 → m ∣ f k - (v k - e k) := fun k hk => by
    obtain ⟨p, hp⟩ := @ls_lin_e m v e 1 (-1) k hk
    rw [hfe]
    exact ⟨p, by omega⟩
  have heG : mx_mul 3 m e (mx_mul 3 m u e) = e := by rw [← mx_mul_a]; exact heue
  have hvG : mx_mul 3 m v (mx_mul 3 m u e) = e := by rw [← mx_mul_a, hvu, mx_id_mul hn he.1 he.2.1]
  have rowz : ∀ (a : Nat → Int) i j, 3 ≤ j → m ∣ ls_row a i j := fun a i j hj => by
    unfold ls_row
    rw [if_neg (by omega)]
    exact Int.dvd_zero m
  have hrr : r + r' ≤ n := by
    have k1 := r3 _ (ls_lcG (m := m) (G := mx_mul 3 m u e) (t0 := 1)) (fun i hi => ⟨fun j hj => by
      obtain ⟨p, hp⟩ := @ls_mm m e (mx_mul 3 m u e) i j hi hj
      rw [heG] at hp
      show m ∣ e (3 * i + 0) * _ + e (3 * i + 1) * _ + e (3 * i + 2) * _ - 1 * (if j < 3 then e (3 * i + j) else 0)
      rw [if_pos hj]
      exact ⟨-p, by rw [Int.mul_neg, ← hp]; simp only [Nat.add_zero]; omega⟩, fun j hj _ => rowz e i j hj⟩)
    have k2 := s3 _ (ls_lcG (m := m) (G := mx_mul 3 m u e) (t0 := 0)) (fun i hi => ⟨fun j hj => by
      obtain ⟨p, hp⟩ := @ls_mm m e (mx_mul 3 m u e) i j hi hj
      obtain ⟨q, hq⟩ := @ls_mm m v (mx_mul 3 m u e) i j hi hj
      rw [heG] at hp
      rw [hvG] at hq
      obtain ⟨w0, g0⟩ := hfk (3 * i) (by omega)
      obtain ⟨w1, g1⟩ := hfk (3 * i + 1) (by omega)
      obtain ⟨w2, g2⟩ := hfk (3 * i + 2) (by omega)
      have g0 : f (3 * i) = v (3 * i) - e (3 * i) + m * w0 := by omega
      have g1 : f (3 * i + 1) = v (3 * i + 1) - e (3 * i + 1) + m * w1 := by omega
      have g2 : f (3 * i + 2) = v (3 * i + 2) - e (3 * i + 2) + m * w2 := by omega
      show m ∣ f (3 * i + 0) * _ + f (3 * i + 1) * _ + f (3 * i + 2) * _ - 0 * _
      rw [Nat.add_zero, g0, g1, g2]
      generalize mx_mul 3 m u e = G at hp hq ⊢
      refine ⟨p - q + w0 * G j + w1 * G (3 + j) + w2 * G (6 + j), ?_⟩
      have hp : m * p = e (3 * i + j) - (e (3 * i) * G j + e (3 * i + 1) * G (3 + j) + e (3 * i + 2) * G (6 + j)) := hp.symm
      have hq : m * q = e (3 * i + j) - (v (3 * i) * G j + v (3 * i + 1) * G (3 + j) + v (3 * i + 2) * G (6 + j)) := hq.symm
      rw [Int.mul_add, Int.mul_add, Int.mul_add, Int.mul_sub, hp, hq]
      clear hp hq g0 g1 g2 hfk
      grind, fun j hj _ => rowz f i j hj⟩)
    have k3 := ls_two r1 s1 k1 k2
    refine ls_st hm k3 (S := fun i j => if j = i then 1 else 0) (fun i hi => ?_)
    by_cases q : i < r
    · try dsimp only
      rw [if_pos q]
      exact r3 _ ls_Sp_lc (fun i hi => ls_row_un (by omega) he.2.1 hi) i q
    · try dsimp only
      rw [if_neg q]
      exact s3 _ ls_Sp_lc (fun i hi => ls_row_un (by omega) hf.2.1 hi) (i - r) (by omega)
  have hb := fun i => ls_bs_V hn h3 i
  have huv : mx_mul 3 m u v = mx_id (n : Int) := by rw [mx_mul_sw hv.2.2 hu.2.2 (by rw [hvu]; exact mx_id_s), hvu]
  have hQs : ∀ i, mx_s (mx_mul 3 m (mx_mul 3 m u (ls_bs n i)) u) := fun i p q hp hq => by
    have := mx_mul_t3 (m := m) hu.2.2 (hb i).2.2 hu.2.2 (k := 3 * p + q) (by omega)
    rw [mx_t_at hq] at this
    exact this.symm
  have g2 : ∀ i, x2 i = mx_mul 3 m (mx_mul 3 m e (mx_mul 3 m (mx_mul 3 m u (ls_bs n i)) u)) e := fun i => by
    rw [h2 i, mx_mul_a (a := e), mx_mul_a (a := e) (b := mx_mul 3 m u (ls_bs n i))]
  have g0 : ∀ i, x0 i = mx_mul 3 m (mx_mul 3 m f (mx_mul 3 m (mx_mul 3 m u (ls_bs n i)) u)) f := fun i => by
    rw [h0 i, mx_mul_a (a := f), mx_mul_a (a := f) (b := mx_mul 3 m u (ls_bs n i))]
  have gb : ∀ i, ls_bs n i = mx_mul 3 m (mx_mul 3 m v (mx_mul 3 m (mx_mul 3 m u (ls_bs n i)) u)) v := fun i => by
    rw [← mx_mul_a (a := v), ← mx_mul_a (a := v), hvu, mx_id_mul hn (hb i).1 (hb i).2.1, mx_mul_a, huv, mx_mul_id hn (hb i)]
  have half : ∀ {a : Nat → Int} {P : (Nat → Int) → Prop} {x : Nat → Nat → Int} (i : Nat), ls_lc m P → mx_V n m (x i) → x i = mx_mul 3 m (mx_mul 3 m a (mx_mul 3 m (mx_mul 3 m u (ls_bs n i)) u)) a → P (fun k => ls_T a (mx_mul 3 m (mx_mul 3 m u (ls_bs n i)) u) a (k / 3) (k % 3) + ls_T a (mx_mul 3 m (mx_mul 3 m u (ls_bs n i)) u) a (k % 3) (k / 3)) → P (x i) := fun {a P x} i hP hV hx hp => by
    refine ls_lc_2 hm hP hp (fun k hk => ?_)
    obtain ⟨p, hp⟩ := @ls_T_m m a (mx_mul 3 m (mx_mul 3 m u (ls_bs n i)) u) a (k / 3) (k % 3) (by omega) (by omega)
    obtain ⟨q, hq⟩ := @ls_T_m m a (mx_mul 3 m (mx_mul 3 m u (ls_bs n i)) u) a (k % 3) (k / 3) (by omega) (by omega)
    rw [← hx] at hp hq
    have hs := hV.2.2 (k / 3) (k % 3) (by omega) (by omega)
    rw [show 3 * (k / 3) + k % 3 = k by omega] at hp hs
    rw [← hs] at hq
    exact ⟨p + q, by rw [Int.mul_add]; omega⟩
  have d2 : (ls_sq m x2 (n * (n + 1) / 2)).1 ≤ r * (r + 1) / 2 := ls_sq_le hm (fun i => (o2 i).1) (fun i _ => half i ls_Sp_lc (o2 i) (g2 i) (ls_bil ls_Sp_lc (fun k l hk hl => ls_tri r4 hk hl) he.2.2 r2 r2))
  have d0 : (ls_sq m x0 (n * (n + 1) / 2)).1 ≤ r' * (r' + 1) / 2 := ls_sq_le hm (fun i => (o0 i).1) (fun i _ => half i ls_Sp_lc (o0 i) (g0 i) (ls_bil ls_Sp_lc (fun k l hk hl => ls_tri s4 hk hl) hf.2.2 s2 s2))
  have d1 : (ls_sq m x1 (n * (n + 1) / 2)).1 ≤ r * r' := ls_sq_le hm (fun i => (o1 i).1) (fun i _ => ls_lc_e ls_Sp_lc (ls_bil ls_Sp_lc (fun k l hk hl => ls_rec (R := R) (R' := R') hk hl) (Q := mx_mul 3 m (mx_mul 3 m u (ls_bs n i)) u) he.2.2 r2 s2) (fun k hk => by
    have hi : k / 3 < 3 := by omega
    have hj : k % 3 < 3 := by omega
    have hk3 : 3 * (k / 3) + k % 3 = k := by omega
    obtain ⟨p, hp⟩ := h1 i k hk
    obtain ⟨a, ha⟩ := @ls_T_m m e (mx_mul 3 m (mx_mul 3 m u (ls_bs n i)) u) e (k / 3) (k % 3) hi hj
    obtain ⟨b, hb⟩ := @ls_T_m m f (mx_mul 3 m (mx_mul 3 m u (ls_bs n i)) u) f (k / 3) (k % 3) hi hj
    obtain ⟨c, hc⟩ := @ls_T_m m v (mx_mul 3 m (mx_mul 3 m u (ls_bs n i)) u) v (k / 3) (k % 3) hi hj
    obtain ⟨d, hd⟩ := ls_T_add (m := m) (v := v) (e := e) (f := f) (Q := mx_mul 3 m (mx_mul 3 m u (ls_bs n i)) u) (fun k hk => by
      obtain ⟨p, hp⟩ := hfk k hk
      exact ⟨-p, by rw [Int.mul_neg]; omega⟩) hi hj
    have ht := ls_T_t (a := e) (c := f) he.2.2 (hQs i) hf.2.2 hi hj
    rw [← g2 i, hk3] at ha
    rw [← g0 i, hk3] at hb
    rw [← gb i, hk3] at hc
    refine ⟨p + c + d - a - b, ?_⟩
    rw [Int.mul_sub, Int.mul_sub, Int.mul_add, Int.mul_add]
    omega))
  have d3 : n * (n + 1) / 2 ≤ (ls_sq m x2 (n * (n + 1) / 2)).1 + (ls_sq m x1 (n * (n + 1) / 2)).1 + (ls_sq m x0 (n * (n + 1) / 2)).1 := ls_st hm (ls_bs_in hn) (fun i hi => ls_join (ls_sq_in hi) (ls_sq_in hi) (ls_sq_in hi) (fun j hj => by
    obtain ⟨p, hp⟩ := h1 i j hj
    exact ⟨-p, by rw [Int.mul_neg]; omega⟩))
  generalize (ls_sq m x2 (n * (n + 1) / 2)).1 = y2 at *
  generalize (ls_sq m x1 (n * (n + 1) / 2)).1 = y1 at *
  generalize (ls_sq m x0 (n * (n + 1) / 2)).1 = y0 at *
  clear g2 g0 gb half h1 h2 h0 o0 o1 o2 hQs hb hfk
  rcases hn with rfl | rfl
  · rcases (show r = 0 ∨ r = 1 ∨ r = 2 by omega) with rfl | rfl | rfl <;> rcases (show r' = 0 ∨ r' = 1 ∨ r' = 2 by omega) with rfl | rfl | rfl <;> simp at * <;> omega
  · rcases (show r = 0 ∨ r = 1 ∨ r = 2 ∨ r = 3 by omega) with rfl | rfl | rfl | rfl <;> rcases (show r' = 0 ∨ r' = 1 ∨ r' = 2 ∨ r' = 3 by omega) with rfl | rfl | rfl | rfl <;> simp at * <;> omega
theorem sp_psz {s : sp_S} (hs : sp_ok s) {e : Nat → Int} (he : sp_V s e) (hq : zs_sq s e) {q : rr_S} (hrun : rr_run (s.1 82) (rr_ld (s.1 81) e, 1, 0) 3 q) {w : Int} (hw : 0 ≤ w ∧ w ≤ 2) : mx_pe w (q.2.2 : Int) (s.1 81 - (q.2.2 : Int)) = ((mx_pou (zs_nn s) (s.1 82) (fun b => zs_part s e b w) (zs_nn s)).1 : Int) ∧ (q.2.2 : Int) ≤ s.1 81 := by
  have hn := sp_nn hs
  have hni : s.1 81 = ((zs_nn s : Nat) : Int) := by have := hs.1.1; unfold zs_nn; omega
  have hm := sp_p hs
  have h3 := ls_3 hm
  have hu := sp_Vel hs (r := 8) (by decide)
  have hv := sp_V9 hs
  have hf : sp_V s (mx_lin (s.1 82) (zs_el s.1 9) 1 e (-1)) := mx_lin_V h3 hv he
  have heue : mx_mul 3 (s.1 82) (mx_mul 3 (s.1 82) e (zs_el s.1 8)) e = e := by
    have h1 : mc_prod (s.1 82) (zs_el s.1 8) e e = e := by rw [sp_pe hs he he]; exact hq
    unfold mc_prod at h1
    rw [mx_sym_self hm (mx_mul_ok h3 _ _) mx_mul_9 (fun k hk => mx_mul_t3 he.2.2 hu.2.2 he.2.2 hk)] at h1
    exact h1
  have oper : ∀ {a b : Nat → Int}, sp_V s a → sp_V s b → zs_oper s a b = mx_mul 3 (s.1 82) (mx_mul 3 (s.1 82) (mx_mul 3 (s.1 82) (mx_mul 3 (s.1 82) a (zs_el s.1 8)) b) (zs_el s.1 8)) a := fun {a b} ha hb => by
    unfold zs_oper mx_oper
    rw [mx_mul3 hn ha.2.1 hu.2.1, mx_mul3 hn mx_mul_z hb.2.1, mx_mul3 hn mx_mul_z hu.2.1, mx_mul3 hn mx_mul_z ha.2.1]
  have hb := fun i => ls_bs_V hn h3 (m := s.1 82) i
  have vop : ∀ {a b : Nat → Int}, sp_V s a → sp_V s b → sp_V s (zs_oper s a b) := fun {a b} ha hb => by
    rw [← sp_oe hs ha hb]
    exact sp_Vt hs ha hb ha
  have p2 : ∀ i, zs_part s e (ls_bs (zs_nn s) i) 2 = zs_oper s e (ls_bs (zs_nn s) i) := fun i => by
    unfold zs_part mx_part
    rw [if_neg (by decide), if_neg (by decide)]
    rfl
  have p0 : ∀ i, zs_part s e (ls_bs (zs_nn s) i) 0 = zs_oper s (mx_lin (s.1 82) (zs_el s.1 9) 1 e (-1)) (ls_bs (zs_nn s) i) := fun i => by
    unfold zs_part mx_part
    rw [if_pos rfl]
    rfl
  have p1 : ∀ i, zs_part s e (ls_bs (zs_nn s) i) 1 = mx_lin (s.1 82) (ls_bs (zs_nn s) i) 1 (mx_lin (s.1 82) (zs_part s e (ls_bs (zs_nn s) i) 2) 1 (zs_part s e (ls_bs (zs_nn s) i) 0) 1) (-1) := fun i => by
    rw [p2, p0]
    unfold zs_part mx_part
    rw [if_neg (by decide), if_pos rfl]
    rfl
  have v2 : ∀ i, sp_V s (zs_part s e (ls_bs (zs_nn s) i) 2) := fun i => by rw [p2]; exact vop he (hb i)
  have v0 : ∀ i, sp_V s (zs_part s e (ls_bs (zs_nn s) i) 0) := fun i => by rw [p0]; exact vop hf (hb i)
  have v1 : ∀ i, sp_V s (zs_part s e (ls_bs (zs_nn s) i) 1) := fun i => by rw [p1]; exact mx_lin_V h3 (hb i) (mx_lin_V h3 (v2 i) (v0 i))
  obtain ⟨k2, k1, k0, kr⟩ := ls_psize hn hm hu hv he hf rfl (sp_vu hs) heue v2 v1 v0 (fun i => by rw [p2, oper he (hb i)]) (fun i => by rw [p0, oper hf (hb i)]) (fun i k hk => by
    rw [p1]
    obtain ⟨a, ha⟩ := @ls_lin_e (s.1 82) (ls_bs (zs_nn s) i) (mx_lin (s.1 82) (zs_part s e (ls_bs (zs_nn s) i) 2) 1 (zs_part s e (ls_bs (zs_nn s) i) 0) 1) 1 (-1) k hk
    obtain ⟨b, hb⟩ := @ls_lin_e (s.1 82) (zs_part s e (ls_bs (zs_nn s) i) 2) (zs_part s e (ls_bs (zs_nn s) i) 0) 1 1 k hk
    exact ⟨a - b, by rw [Int.mul_sub]; omega⟩)
  rw [hni] at hrun
  obtain ⟨c1, c2, c3, c4, c5⟩ := ls_gj hn hm he hrun
  rw [c1] at k2 k1 k0 kr
  have hpu := ls_pou hn (m := s.1 82) (f := fun b => zs_part s e b w)
  rw [hpu]
  refine ⟨?_, by omega⟩
  generalize q.2.2 = r at *
  unfold mx_pe
  rw [hni]
  rcases (show w = 0 ∨ w = 1 ∨ w = 2 by omega) with rfl | rfl | rfl
  · rw [if_neg (by decide), if_neg (by decide), k0]
    rcases hn with hn | hn <;> rw [hn] at kr ⊢ <;> rcases (show r = 0 ∨ r = 1 ∨ r = 2 ∨ r = 3 by omega) with rfl | rfl | rfl | rfl <;> first | rfl | omega
  · rw [if_pos rfl, k1]
    rcases hn with hn | hn <;> rw [hn] at kr ⊢ <;> rcases (show r = 0 ∨ r = 1 ∨ r = 2 ∨ r = 3 by omega) with rfl | rfl | rfl | rfl <;> first | rfl | omega
  · rw [if_neg (by decide), if_pos rfl, k2]
    rcases (show r = 0 ∨ r = 1 ∨ r = 2 ∨ r = 3 by omega) with rfl | rfl | rfl | rfl <;> rfl
end
section
/-! the class's reading and the reference's -/
def pq_C (p0 : Int) (k d w : Nat) (f e : Int) (lt : Nat → Int) (sm : Nat → Nat) (o : Nat) (nx aw dv : Int) (cm : Nat → Int) : Prop :=
  (aw = (w : Int) ∧ w ≤ 4 ∧ o = (if w = 3 then d - 1 else d)) ∧ (w = 3 → 1 ≤ d ∧ sm d = 0 ∧ nx = (pm_arg (lt d) : Int) - 1) ∧ (∀ i, 1 ≤ i → i ≤ d → sm i < pm_arg (lt i)) ∧ (∀ i, i < o → cm i = (pm_arg (lt (i + 1)) : Int) - 1 - sm (i + 1)) ∧ ((dv = 0 ∨ dv = 1) ∧ (f = 0 ∨ f = 1) ∧ (e = 0 ∨ e = 1) ∧ (dv = 1 ↔ (f = 1 ∨ e = 1))) ∧ d ≤ k ∧ (k = 0 → w = 0) ∧ (k ≤ 1 → f = 0 ∧ e = 0) ∧ (k = 1 → pm_one p0 → d = 0)
section PQ
variable {p0 : Int} {k d w : Nat} {f e : Int} {lt : Nat → Int} {sm : Nat → Nat} {o : Nat} {nx aw dv : Int} {cm : Nat → Int}
theorem pq_c1 (h : pq_C p0 k d w f e lt sm o nx aw dv cm) (hw : w = 0 ∨ w = 2) : pq_C p0 (k + 1) d 4 f e lt sm o nx 4 dv cm := by
  obtain ⟨⟨a1, a2, a3⟩, b, c, g, m, n, z1, z2, z3⟩ := h
  rw [if_neg (by omega)] at a3
  exact ⟨⟨rfl, by omega, by rw [if_neg (by decide)]; exact a3⟩, fun h => absurd h (by decide), c, g, m, by omega, fun h => by omega, fun h => z2 (by omega), fun h1 _ => by omega⟩
theorem pq_c2 (h : pq_C p0 k d w f e lt sm o nx aw dv cm) (hw : w = 0) : pq_C p0 (k + 1) d 1 f e lt sm o nx 1 dv cm := by
  obtain ⟨⟨a1, a2, a3⟩, b, c, g, m, n, z1, z2, z3⟩ := h
  rw [if_neg (by omega)] at a3
  exact ⟨⟨rfl, by omega, by rw [if_neg (by decide)]; exact a3⟩, fun h => absurd h (by decide), c, g, m, by omega, fun h => by omega, fun h => z2 (by omega), fun h1 _ => by omega⟩
theorem pq_c3 (h : pq_C p0 k d w f e lt sm o nx aw dv cm) (hw : w = 1) : pq_C p0 (k + 1) d 2 f e lt sm o nx 2 dv cm := by
  obtain ⟨⟨a1, a2, a3⟩, b, c, g, m, n, z1, z2, z3⟩ := h
  rw [if_neg (by omega)] at a3
  exact ⟨⟨rfl, by omega, by rw [if_neg (by decide)]; exact a3⟩, fun h => absurd h (by decide), c, g, m, by omega, fun h => by omega, fun h => z2 (by omega), fun h1 _ => by omega⟩
theorem pq_c4 (h : pq_C p0 k d w f e lt sm o nx aw dv cm) (hw : w = 0 ∨ w = 2) (h1 : k = 0 → p0 = 40) : pq_C p0 (k + 1) (d + 1) 0 f e (fn_up lt (d + 1) 40) (fn_up sm (d + 1) 0) (o + 1) 0 0 dv (fn_up cm o 0) := by
  obtain ⟨⟨a1, a2, a3⟩, b, c, g, m, n, z1, z2, z3⟩ := h
  rw [if_neg (by omega)] at a3
  refine ⟨⟨rfl, by omega, by rw [if_neg (by decide), a3]⟩, fun h => absurd h (by decide), fun i hi hid => ?_, fun i hi => ?_, m, by omega, fun h => by omega, fun h => z2 (by omega), fun h2 h3 => by have := h1 (by omega); omega⟩
  · by_cases q : i = d + 1
    · rw [q, fn_up_eq, fn_up_eq]; decide
    · rw [fn_up_ne q, fn_up_ne q]; exact c i hi (by omega)
  · by_cases q : i = o
    · rw [q, fn_up_eq, a3, fn_up_eq, fn_up_eq]; decide
    · rw [fn_up_ne q, fn_up_ne (by omega), fn_up_ne (by omega)]; exact g i (by omega)
theorem pq_c5 {c0 : Int} (h : pq_C p0 k d w f e lt sm o nx aw dv cm) (hw : w = 0 ∨ w = 2) (hc : pm_ltr c0) (h1 : k = 0 → p0 = c0) : pq_C p0 (k + 1) (d + 1) 3 f e (fn_up lt (d + 1) c0) (fn_up sm (d + 1) 0) o (pd_nc c0) 3 dv cm := by
  obtain ⟨⟨a1, a2, a3⟩, b, c, g, m, n, z1, z2, z3⟩ := h
  rw [if_neg (by omega)] at a3
  have hn : pd_nc c0 = (pm_arg c0 : Int) - 1 := by
    unfold pd_nc pm_arg
    rcases hc with rfl | rfl | rfl | rfl <;> rfl
  have hb := pm_arg_b c0
  refine ⟨⟨rfl, by omega, by rw [if_pos rfl]; omega⟩, fun _ => ⟨by omega, fn_up_eq _ _ _, by rw [fn_up_eq]; exact hn⟩, fun i hi hid => ?_, fun i hi => ?_, m, by omega, fun h => by omega, fun h => z2 (by omega), fun h2 h3 => by have := h1 (by omega); rcases hc with rfl | rfl | rfl | rfl <;> omega⟩
  · by_cases q : i = d + 1
    · rw [q, fn_up_eq, fn_up_eq]; omega
    · rw [fn_up_ne q, fn_up_ne q]; exact c i hi (by omega)
  · rw [fn_up_ne (by omega), fn_up_ne (by omega)]; exact g i (by omega)
theorem pq_c6 (h : pq_C p0 k d w f e lt sm o nx aw dv cm) (hw : w = 3) : pq_C p0 (k + 1) d 0 f e lt sm (o + 1) nx 0 dv (fn_up cm o nx) := by
  obtain ⟨⟨a1, a2, a3⟩, b, c, g, m, n, z1, z2, z3⟩ := h
  rw [if_pos hw] at a3
  obtain ⟨b1, b2, b3⟩ := b hw
  refine ⟨⟨rfl, by omega, by rw [if_neg (by decide)]; omega⟩, fun h => absurd h (by decide), c, fun i hi => ?_, m, by omega, fun h => by omega, fun h => z2 (by omega), fun h2 h3 => by omega⟩
  by_cases q : i = o
  · rw [q, fn_up_eq, show o + 1 = d by omega, b2]; omega
  · rw [fn_up_ne q]; exact g i (by omega)
theorem pq_c7 (h : pq_C p0 k d w f e lt sm o nx aw dv cm) (hw : w = 4) : pq_C p0 (k + 1) d 0 f e lt sm o nx 0 dv cm := by
  obtain ⟨⟨a1, a2, a3⟩, b, c, g, m, n, z1, z2, z3⟩ := h
  rw [if_neg (by omega)] at a3
  exact ⟨⟨rfl, by omega, by rw [if_neg (by decide)]; exact a3⟩, fun h => absurd h (by decide), c, g, m, by omega, fun h => by omega, fun h => z2 (by omega), fun h1 _ => by omega⟩
theorem pq_c8 (h : pq_C p0 k d w f e lt sm o nx aw dv cm) (hw : w = 4) (hd : d ≠ 0) (hs : sm d + 1 ≠ pm_arg (lt d)) : pq_C p0 (k + 1) d 0 f e lt (fn_up sm d (sm d + 1)) o nx 0 dv (fn_up cm (o - 1) (cm (o - 1) - 1)) := by
  obtain ⟨⟨a1, a2, a3⟩, b, c, g, m, n, z1, z2, z3⟩ := h
  rw [if_neg (by omega)] at a3
  have hcd := c d (by omega) (Nat.le_refl d)
  refine ⟨⟨rfl, by omega, by rw [if_neg (by decide)]; exact a3⟩, fun h => absurd h (by decide), fun i hi hid => ?_, fun i hi => ?_, m, by omega, fun h => by omega, fun h => z2 (by omega), fun h1 _ => by omega⟩
  · by_cases q : i = d
    · rw [q, fn_up_eq]; omega
    · rw [fn_up_ne q]; exact c i hi hid
  · by_cases q : i = o - 1
    · have e1 : o - 1 + 1 = d := by omega
      rw [q, fn_up_eq, g (o - 1) (by omega), e1, fn_up_eq]
      omega
    · rw [fn_up_ne q, fn_up_ne (by omega)]; exact g i hi
theorem pq_c9 (h : pq_C p0 k d w f e lt sm o nx aw dv cm) (hw : w = 4) (hd : d ≠ 0) : pq_C p0 (k + 1) (d - 1) 4 f e lt sm (o - 1) nx 4 dv cm := by
  obtain ⟨⟨a1, a2, a3⟩, b, c, g, m, n, z1, z2, z3⟩ := h
  rw [if_neg (by omega)] at a3
  exact ⟨⟨rfl, by omega, by rw [if_neg (by decide)]; omega⟩, fun h => absurd h (by decide), fun i hi hid => c i hi (by omega), fun i hi => g i (by omega), m, by omega, fun h => by omega, fun h => z2 (by omega), fun h1 _ => by omega⟩
theorem pq_c10 {f1 e1 : Int} (h : pq_C p0 k d w f e lt sm o nx aw dv cm) (hw : w = 4) (hd : d = 0) (hf : (f1 = 1 ∧ e1 = 0) ∨ (f1 = 0 ∧ e1 = 1)) : pq_C p0 (k + 1) d 0 f1 e1 lt sm o nx 0 1 cm := by
  obtain ⟨⟨a1, a2, a3⟩, b, c, g, m, n, z1, z2, z3⟩ := h
  rw [if_neg (by omega)] at a3
  exact ⟨⟨rfl, by omega, by rw [if_neg (by decide)]; omega⟩, fun h => absurd h (by decide), c, g, by omega, by omega, fun h => by omega, fun h => by omega, fun h1 _ => by omega⟩
end PQ
def pq_R (p0 : Int) (k : Nat) (t : pm_S) (q : pd_S) : Prop := pq_C p0 k (pm_d t) (pm_w t) (pm_f t) (pm_e t) (pm_let t) (pm_sm t) q.1.1 q.1.2.1 q.1.2.2.1 q.1.2.2.2 q.2
/-- both go on, or neither -/
def pq_O (p0 : Int) (k : Nat) (o : Option pm_S) (w : Option pd_S) : Prop := (o = none ∧ w = none) ∨ ∃ t q, o = some t ∧ w = some q ∧ pq_R p0 k t q
theorem pq_i0 {α : Type} {p : Prop} [Decidable p] {a b c : α} (h : p) (e : a = c) : (if p then a else b) = c := (if_pos h).trans e
theorem pq_i1 {α : Type} {p : Prop} [Decidable p] {a b c : α} (h : ¬ p) (e : b = c) : (if p then a else b) = c := (if_neg h).trans e
theorem pq_oo {p0 : Int} {k : Nat} {o : Option pm_S} {w : Option pd_S} {t : pm_S} {q : pd_S} (h1 : o = some t) (h2 : w = some q) (h : pq_R p0 k t q) : pq_O p0 k o w := Or.inr ⟨t, q, h1, h2, h⟩
theorem pq_on {p0 : Int} {k : Nat} {o : Option pm_S} {w : Option pd_S} (h1 : o = none) (h2 : w = none) : pq_O p0 k o w := Or.inl ⟨h1, h2⟩
theorem pq_fac {s : sp_S} {p0 c : Int} {k : Nat} (hk : k < 60) {t : pm_S} {q : pd_S} (h : pq_R p0 k t q) (hw : pm_w t = 0 ∨ pm_w t = 2) (h1 : k = 0 → p0 = c) : pq_O p0 (k + 1) (pm_fac s t c k) (pd_fac q c) := by
  have ho : q.1.1 < 60 := by
    have a := h.1.2.2
    have b := h.2.2.2.2.2.1
    rw [if_neg (by omega)] at a
    omega
  by_cases e1 : pm_one c
  · exact pq_oo (pq_i0 e1 rfl) (pq_i0 (Or.symm e1) rfl) (pq_c1 h hw)
  · have n1 : ¬ (c = 105 ∨ (65 ≤ c ∧ c ≤ 72)) := fun h => e1 (Or.symm h)
    by_cases e2 : c = 40
    · have := pq_c4 h hw (fun h => by rw [h1 h, e2])
      subst e2
      exact pq_oo (pq_i1 e1 (pq_i0 (Or.inl rfl) rfl)) (pq_i1 n1 (pq_i0 rfl (pq_i1 (show ¬ q.1.1 = 60 by omega) rfl))) this
    · by_cases e3 : pm_ltr c
      · have e4 : c = 116 ∨ c = 112 ∨ c = 117 ∨ c = 118 := by
          have e3 : c = 112 ∨ c = 117 ∨ c = 116 ∨ c = 118 := e3
          omega
        have := pq_c5 h hw e3 h1
        refine pq_oo (t := pm_opn t c k 3) (pq_i1 e1 (pq_i0 (Or.inr e3) (by rw [if_neg e2]))) (pq_i1 n1 (pq_i1 e2 (pq_i0 e4 rfl))) this
      · have e4 : ¬ (c = 116 ∨ c = 112 ∨ c = 117 ∨ c = 118) := by
          have e3 : ¬ (c = 112 ∨ c = 117 ∨ c = 116 ∨ c = 118) := e3
          omega
        exact pq_on (pq_i1 e1 (pq_i1 (fun h => h.elim e2 e3) rfl)) (pq_i1 n1 (pq_i1 e2 (pq_i1 e4 rfl)))
theorem pq_beh {s : sp_S} {p0 c : Int} {k : Nat} {t : pm_S} {q : pd_S} (h : pq_R p0 k t q) (hw : pm_w t = 4) : pq_O p0 (k + 1) (pm_beh s t p0 c k) (if 0 < q.1.1 then pd_ins q c else pd_out q c k p0) := by
  obtain ⟨⟨a1, a2, a3⟩, b, cc, g, ⟨m1, m2, m3, m4⟩, n, z1, z2, z3⟩ := id h
  rw [if_neg (by omega)] at a3
  have hsg : ¬ (c = 43 ∨ c = 45) → pd_sgn q c = none := fun e => if_neg e
  by_cases e1 : c = 43 ∨ c = 45
  · have hs : (if 0 < q.1.1 then pd_ins q c else pd_out q c k p0) = some ((q.1.1, q.1.2.1, 0, q.1.2.2.2), q.2) := by
      have k1 : pd_ins q c = some ((q.1.1, q.1.2.1, 0, q.1.2.2.2), q.2) := pq_i1 (by omega) (pq_i1 (by omega) (if_pos e1))
      have k2 : pd_out q c k p0 = some ((q.1.1, q.1.2.1, 0, q.1.2.2.2), q.2) := pq_i1 (by omega) (if_pos e1)
      rw [k1, k2, ite_self]
    exact pq_oo (if_pos e1) hs (pq_c7 h hw)
  · by_cases hd : pm_d t = 0
    · have ho : ¬ 0 < q.1.1 := by omega
      by_cases e2 : c = 58 ∧ k = 1 ∧ p0 ≠ 105 ∧ pm_one p0
      · have hz := z2 (by omega)
        have hp : 65 ≤ p0 ∧ p0 ≤ 72 := by
          have := e2.2.2.2
          have h5 := e2.2.2.1
          rcases this with h | h
          · exact h
          · exact absurd h h5
        exact pq_oo (pq_i1 e1 (pq_i1 (fun h => h.2.1 hd) (pq_i1 (fun h => h.2.1 hd) (if_pos e2)))) (pq_i1 ho (if_pos ⟨Or.inr ⟨e2.1, e2.2.1, hp⟩, by omega⟩)) (pq_c10 h hw hd (Or.inl ⟨rfl, rfl⟩))
      · by_cases e3 : c = 61 ∧ pm_d t = 0 ∧ pm_f t = 0 ∧ pm_e t = 0
        · exact pq_oo (pq_i1 e1 (pq_i1 (fun h => h.2.1 hd) (pq_i1 (fun h => h.2.1 hd) (pq_i1 e2 (if_pos e3))))) (pq_i1 ho (if_pos ⟨Or.inl e3.1, by omega⟩)) (pq_c10 h hw hd (Or.inr ⟨rfl, rfl⟩))
        · exact pq_on (pq_i1 e1 (pq_i1 (fun h => h.2.1 hd) (pq_i1 (fun h => h.2.1 hd) (pq_i1 e2 (if_neg e3))))) (pq_i1 ho (pq_i1 (fun h => by
            obtain ⟨h1 | ⟨h1, h2, h3⟩, h4⟩ := h
            · exact e3 ⟨h1, hd, by omega, by omega⟩
            · exact e2 ⟨h1, h2, by omega, Or.inl h3⟩) (hsg e1)))
    · have ho : 0 < q.1.1 := by omega
      have gd := g (q.1.1 - 1) (by omega)
      rw [show q.1.1 - 1 + 1 = pm_d t by omega] at gd
      have cd := cc (pm_d t) (by omega) (Nat.le_refl _)
      by_cases e2 : c = 44 ∧ pm_sm t (pm_d t) + 1 ≠ pm_arg (pm_let t (pm_d t))
      · exact pq_oo (pq_i1 e1 (if_pos ⟨e2.1, hd, e2.2⟩)) (pq_i0 ho (pq_i1 (by omega) (if_pos ⟨e2.1, by omega⟩))) (pq_c8 h hw hd e2.2)
      · by_cases e3 : c = 41 ∧ pm_sm t (pm_d t) + 1 = pm_arg (pm_let t (pm_d t))
        · have e4 : q.1.2.2.1 = 4 := by omega
          have := pq_c9 h hw hd
          exact pq_oo (q := ((q.1.1 - 1, q.1.2.1, 4, q.1.2.2.2), q.2)) (pq_i1 e1 (pq_i1 (fun h => e2 ⟨h.1, h.2.2⟩) (if_pos ⟨e3.1, hd, e3.2⟩))) (pq_i0 ho (pq_i0 ⟨e3.1, by omega⟩ (by rw [e4]))) this
        · exact pq_on (pq_i1 e1 (pq_i1 (fun h => e2 ⟨h.1, h.2.2⟩) (pq_i1 (fun h => e3 ⟨h.1, h.2.2⟩) (pq_i1 (fun h => hd (z3 h.2.1 h.2.2.2)) (if_neg (fun h => hd h.2.1)))))) (pq_i0 ho (pq_i1 (fun h => e3 ⟨h.1, by omega⟩) (pq_i1 (fun h => e2 ⟨h.1, by omega⟩) (hsg e1))))
theorem pq_step {s : sp_S} {p0 c : Int} {k : Nat} (hk : k < 60) {t : pm_S} {q : pd_S} (h : pq_R p0 k t q) (h1 : k = 0 → p0 = c) : pq_O p0 (k + 1) (pm_step s t p0 c k) (pd_tk q c k p0) := by
  have a1 := h.1.1
  have a2 := h.1.2.1
  by_cases w0 : pm_w t = 0
  · have v0 : q.1.2.2.1 = 0 := by omega
    by_cases e : 48 ≤ c ∧ c ≤ 57
    · exact pq_oo (pq_i0 w0 (if_pos e)) (pq_i0 v0 (pq_i0 e (if_pos e))) (pq_c2 h w0)
    · rw [show pm_step s t p0 c k = pm_fac s t c k from pq_i0 w0 (if_neg e), show pd_tk q c k p0 = pd_fac q c from pq_i0 v0 (if_neg e)]
      exact pq_fac hk h (Or.inl w0) h1
  · have v0 : ¬ q.1.2.2.1 = 0 := by omega
    by_cases w1 : pm_w t = 1
    · have v1 : q.1.2.2.1 = 1 := by omega
      by_cases e : c = 42
      · exact pq_oo (pq_i1 w0 (pq_i0 w1 (if_pos e))) (pq_i1 v0 (pq_i0 v1 (if_pos e))) (pq_c3 h w1)
      · exact pq_on (pq_i1 w0 (pq_i0 w1 (if_neg e))) (pq_i1 v0 (pq_i0 v1 (if_neg e)))
    · have v1 : ¬ q.1.2.2.1 = 1 := by omega
      by_cases w2 : pm_w t = 2
      · rw [show pm_step s t p0 c k = pm_fac s t c k from pq_i1 w0 (pq_i1 w1 (if_pos w2)), show pd_tk q c k p0 = pd_fac q c from pq_i1 v0 (pq_i1 v1 (if_pos (by omega)))]
        exact pq_fac hk h (Or.inr w2) h1
      · have v2 : ¬ q.1.2.2.1 = 2 := by omega
        by_cases w3 : pm_w t = 3
        · have v3 : q.1.2.2.1 = 3 := by omega
          by_cases e : c = 40
          · have b1 := h.1.2.2
            rw [if_pos w3] at b1
            have b2 := h.2.2.2.2.2.1
            exact pq_oo (pq_i1 w0 (pq_i1 w1 (pq_i1 w2 (pq_i0 w3 (if_pos e))))) (pq_i1 v0 (pq_i1 v1 (pq_i1 v2 (pq_i0 v3 (pq_i0 e (if_neg (show ¬ q.1.1 = 60 by omega))))))) (pq_c6 h w3)
          · exact pq_on (pq_i1 w0 (pq_i1 w1 (pq_i1 w2 (pq_i0 w3 (if_neg e))))) (pq_i1 v0 (pq_i1 v1 (pq_i1 v2 (pq_i0 v3 (if_neg e)))))
        · rw [show pm_step s t p0 c k = pm_beh s t p0 c k from pq_i1 w0 (pq_i1 w1 (pq_i1 w2 (if_neg w3))), show pd_tk q c k p0 = (if 0 < q.1.1 then pd_ins q c else pd_out q c k p0) from pq_i1 v0 (pq_i1 v1 (pq_i1 v2 (if_neg (by omega))))]
          exact pq_beh h (by omega)
theorem pq_run {s : sp_S} : ∀ k, k ≤ 60 → pq_O (s.2.2.2.2 0) k (pm_run s k) (pd_go s.2.2.2.2 k)
  | 0, _ => Or.inr ⟨_, _, rfl, rfl, ⟨rfl, by decide, rfl⟩, fun h => absurd h (by decide), fun i h1 h2 => absurd h2 (by show ¬ i ≤ 0; omega), fun i hi => absurd hi (by show ¬ i < 0; omega), ⟨Or.inl rfl, Or.inl rfl, Or.inl rfl, by decide⟩, Nat.le_refl 0, fun _ => rfl, fun _ => ⟨rfl, rfl⟩, fun h => absurd h (by decide)⟩
  | k + 1, hk => by
    have ih := pq_run (s := s) k (by omega)
    show pq_O _ _ ((pm_run s k).bind _) ((pd_go s.2.2.2.2 k).bind _)
    rcases ih with ⟨h1, h2⟩ | ⟨t, q, h1, h2, h3⟩
    · rw [h1, h2]
      exact Or.inl ⟨rfl, rfl⟩
    · rw [h1, h2]
      exact pq_step (by omega) h3 (fun h => by rw [h])
theorem pq_good {p0 : Int} {k : Nat} {t : pm_S} {q : pd_S} (h : pq_R p0 k t q) : pm_good t ↔ q.1.2.2.1 = 4 ∧ q.1.1 = 0 ∧ q.1.2.2.2 = 1 := by
  obtain ⟨⟨a1, a2, a3⟩, b, cc, g, ⟨m1, m2, m3, m4⟩, n, z1, z2, z3⟩ := h
  unfold pm_good
  constructor
  · rintro ⟨h1, h2, h3⟩
    rw [if_neg (by omega)] at a3
    exact ⟨by omega, by omega, m4.mpr h3⟩
  · rintro ⟨h1, h2, h3⟩
    rw [if_neg (by omega)] at a3
    exact ⟨by omega, by omega, m4.mp h3⟩
/-- the fault -/
theorem pq_flt {s : sp_S} (hs : sp_ok s) {z : Int} (h : pd_flt s.2.2.2.2 s.2.2.2.1 z) : pm_flt s z := by
  have h60 := hs.2.2.2.2.2.1
  rcases h with ⟨k, h1, ⟨t, h2⟩, h3, h4⟩ | ⟨t, h1, h2⟩
  · rcases pq_run (s := s) k (by omega) with ⟨g1, g2⟩ | ⟨u, q, g1, g2, g3⟩
    · rw [h2] at g2; cases g2
    · rcases pq_run (s := s) (k + 1) (by omega) with ⟨f1, f2⟩ | ⟨u', q', f1, f2, f3⟩
      · exact Or.inl ⟨k, u, h1, g1, f1, h4⟩
      · rw [h3] at f2; cases f2
  · rcases pq_run (s := s) s.2.2.2.1 h60 with ⟨g1, g2⟩ | ⟨u, q, g1, g2, g3⟩
    · rw [h1] at g2; cases g2
    · rw [h1] at g2
      cases g2
      refine Or.inr ⟨u, g1, ?_⟩
      have hg := pq_good g3
      by_cases e : t.1.2.2.1 = 4 ∧ t.1.1 = 0 ∧ t.1.2.2.2 = 1
      · rw [if_pos e] at h2
        exact Or.inl ⟨hg.mpr e, h2⟩
      · rw [if_neg e] at h2
        exact Or.inr ⟨fun g => e (hg.mp g), h2⟩
theorem pq_fin {s : sp_S} (hs : sp_ok s) (h : pd_flt s.2.2.2.2 s.2.2.2.1 (-6)) : ∃ t, pm_fin s t := by
  rcases pq_flt hs h with ⟨k, t, h1, h2, h3, h4⟩ | ⟨t, h1, ⟨h2, h3⟩ | ⟨h2, h3⟩⟩
  · omega
  · exact ⟨t, h1, h2⟩
  · omega
/-! what the text is -/
theorem pm_fac_f {s : sp_S} {t t' : pm_S} {c : Int} {k : Nat} (h : pm_fac s t c k = some t') : pm_f t' = pm_f t ∧ pm_e t' = pm_e t := by
  unfold pm_fac at h
  split at h
  · cases h; exact ⟨rfl, rfl⟩
  · split at h
    · cases h; exact ⟨rfl, rfl⟩
    · cases h
/-- a step keeps the kind of text, but for ":" and "=" -/
theorem pm_step_f {s : sp_S} {t t' : pm_S} {p0 c : Int} {k : Nat} (h : pm_step s t p0 c k = some t') : (pm_f t' = pm_f t ∧ pm_e t' = pm_e t ∧ c ≠ 58) ∨ (c = 58 ∧ k = 1 ∧ p0 ≠ 105 ∧ pm_one p0 ∧ pm_f t' = 1) ∨ (c = 61 ∧ pm_f t = 0 ∧ pm_e t = 0 ∧ pm_f t' = 0 ∧ pm_e t' = 1) := by
  have hfac : ∀ {t t' : pm_S}, pm_fac s t c k = some t' → pm_f t' = pm_f t ∧ pm_e t' = pm_e t ∧ c ≠ 58 := fun {t t'} h => by
    refine ⟨(pm_fac_f h).1, (pm_fac_f h).2, fun e => ?_⟩
    unfold pm_fac at h
    rw [if_neg (by omega), if_neg (by unfold pm_ltr; omega)] at h
    cases h
  unfold pm_step at h
  split at h
  · split at h
    · cases h; exact Or.inl ⟨rfl, rfl, by omega⟩
    · exact Or.inl (hfac h)
  · split at h
    · split at h
      · cases h; exact Or.inl ⟨rfl, rfl, by omega⟩
      · cases h
    · split at h
      · exact Or.inl (hfac h)
      · split at h
        · split at h
          · cases h; exact Or.inl ⟨rfl, rfl, by omega⟩
          · cases h
        · unfold pm_beh at h
          split at h
          · cases h; exact Or.inl ⟨rfl, rfl, by omega⟩
          · split at h
            · cases h; exact Or.inl ⟨rfl, rfl, by omega⟩
            · split at h
              · cases h; exact Or.inl ⟨rfl, rfl, by omega⟩
              · split at h
                · next q => cases h; exact Or.inr (Or.inl ⟨q.1, q.2.1, q.2.2.1, q.2.2.2, rfl⟩)
                · split at h
                  · next q => cases h; exact Or.inr (Or.inr ⟨q.1, q.2.2.1, q.2.2.2, rfl, rfl⟩)
                  · cases h
theorem pm_run_s {s : sp_S} {k : Nat} {t' : pm_S} (h : pm_run s (k + 1) = some t') : ∃ t, pm_run s k = some t ∧ pm_step s t (s.2.2.2.2 0) (s.2.2.2.2 k) k = some t' := by
  have h : (pm_run s k).bind (fun t => pm_step s t (s.2.2.2.2 0) (s.2.2.2.2 k) k) = some t' := h
  cases e : pm_run s k with
  | none => rw [e] at h; cases h
  | some u => rw [e] at h; exact ⟨u, rfl, h⟩
theorem pm_kind {s : sp_S} : ∀ k t, pm_run s k = some t → (pm_f t = 1 ↔ 1 < k ∧ s.2.2.2.2 1 = 58 ∧ 65 ≤ s.2.2.2.2 0 ∧ s.2.2.2.2 0 ≤ 72) ∧ (pm_f t = 0 ∨ pm_f t = 1) ∧ ∀ i, 2 ≤ i → i < k → s.2.2.2.2 i ≠ 58
  | 0, t, h => by
    have h : some pm_t0 = some t := h
    cases h
    exact ⟨⟨fun h => absurd h (by decide), fun h => absurd h.1 (by omega)⟩, Or.inl rfl, fun i _ hi => absurd hi (by omega)⟩
  | k + 1, t', h => by
    obtain ⟨t, h1, h2⟩ := pm_run_s h
    obtain ⟨i1, i2, i3⟩ := pm_kind k t h1
    have hh := pm_step_f h2
    refine ⟨?_, ?_, fun i hi hik e => ?_⟩
    · rcases hh with ⟨g1, g2, g3⟩ | ⟨g1, g2, g3, g4, g5⟩ | ⟨g1, g2, g3, g4, g5⟩
      · rw [g1, i1]
        constructor
        · rintro ⟨a, b⟩; exact ⟨by omega, b⟩
        · rintro ⟨a, b, c⟩
          refine ⟨?_, b, c⟩
          rcases (show k = 1 ∨ 1 < k by omega) with rfl | q
          · exact absurd b g3
          · exact q
      · rw [g2] at g1
        refine ⟨fun _ => ⟨by omega, g1, ?_⟩, fun _ => g5⟩
        unfold pm_one at g4
        omega
      · rw [g4]
        refine ⟨fun h => absurd h (by decide), fun ⟨a, b, c⟩ => ?_⟩
        rcases (show k = 1 ∨ 1 < k by omega) with rfl | q
        · omega
        · have := i1.mpr ⟨q, b, c⟩
          omega
    · rcases hh with ⟨g1, g2, g3⟩ | ⟨g1, g2, g3, g4, g5⟩ | ⟨g1, g2, g3, g4, g5⟩ <;> omega
    · by_cases q : i = k
      · subst q
        rcases hh with ⟨g1, g2, g3⟩ | ⟨g1, g2, g3, g4, g5⟩ | ⟨g1, g2, g3, g4, g5⟩ <;> omega
      · exact i3 i hi (by omega) e
/-- which register, if it is a formula -/
theorem pm_tg {s : sp_S} {t : pm_S} (h : pm_fin s t) : (pm_f t = 1 → pd_tg s.2.2.2.2 s.2.2.2.1 = s.2.2.2.2 0 - 65 ∧ 65 ≤ s.2.2.2.2 0 ∧ s.2.2.2.2 0 ≤ 72 ∧ 1 < s.2.2.2.1) ∧ (pm_f t ≠ 1 → pd_tg s.2.2.2.2 s.2.2.2.1 = -6) := by
  obtain ⟨i1, i2, i3⟩ := pm_kind _ t h.1
  unfold pd_tg
  constructor
  · intro hf
    have := i1.mp hf
    rw [if_pos this]
    exact ⟨rfl, this.2.2.1, this.2.2.2, this.1⟩
  · intro hf
    rw [if_neg (fun g => hf (i1.mpr g))]
end
section
/-! carrying out: the frames are the reading's levels -/
def cq_1 (t : pm_S) (i : Nat) (f : fr_S) : Prop :=
  f.1.1 = pm_P t i (pm_sm t i) ∧ (1 ≤ pm_sm t i → f.1.2.1 = pm_P t i 0) ∧ (2 ≤ pm_sm t i → f.1.2.2 = pm_P t i 1) ∧ f.2.1 = pm_sm t i ∧ (1 ≤ i → (pm_let t i = 40 ∧ 0 ≤ f.2.2.1 ∧ f.2.2.1 < 112) ∨ (pm_ltr (pm_let t i) ∧ f.2.2.1 = pm_let t i ∧ f.2.2.2.1 = (pm_pl t i : Int))) ∧ (f.2.2.2.2.1 = 1 ∨ f.2.2.2.2.1 = -1) ∧ (0 ≤ f.2.2.2.2.2 ∧ f.2.2.2.2.2 ≤ 9)
def cq_F (s : sp_S) (k : Nat) (bef : Int) (t : pm_S) (o : Nat) (F : Nat → fr_S) : Prop :=
  (o = (if pm_w t = 3 then pm_d t - 1 else pm_d t) ∧ pm_w t ≤ 4 ∧ pm_on t = 1 ∧ pm_stop t = -6) ∧ (∀ i, i ≤ o → cq_1 t i (F i)) ∧ (∀ i, i ≤ o → ¬ (i = pm_d t ∧ pm_w t = 4) → (F i).2.2.2.2.1 * (F i).2.2.2.2.2 = pm_of t i) ∧ (pm_w t = 0 ∨ pm_w t = 4 → (F o).2.2.2.2.2 = 1) ∧ (pm_w t = 3 → 1 ≤ pm_d t ∧ bef = pm_let t (pm_d t) ∧ pm_pl t (pm_d t) + 1 = k ∧ pm_ltr (pm_let t (pm_d t)) ∧ pm_P t (pm_d t) 0 = (fun _ => 0) ∧ pm_sm t (pm_d t) = 0 ∧ pm_of t (pm_d t) = 1) ∧ (pm_w t = 0 ∨ pm_w t = 2 → 0 ≤ bef ∧ bef < 112) ∧ (∀ i j, i ≤ pm_d t → j ≤ pm_sm t i → sp_V s (pm_P t i j)) ∧ pm_sm t 0 = 0 ∧ ∀ i, 1 ≤ i → i ≤ pm_d t → pm_sm t i < pm_arg (pm_let t i)
theorem pm_i40 {s : sp_S} {t t' : pm_S} {p0 : Int} {k : Nat} (h : pm_step s t p0 40 k = some t') : ((pm_w t = 0 ∨ pm_w t = 2) ∧ t' = pm_opn t 40 k 0) ∨ (pm_w t = 3 ∧ t' = pm_ww t 0) := by
  have hf : pm_fac s t 40 k = some (pm_opn t 40 k 0) := pq_i1 (by decide) (pq_i0 (Or.inl rfl) rfl)
  unfold pm_step at h
  split at h
  · next w =>
    rw [if_neg (by decide), hf] at h
    exact Or.inl ⟨Or.inl w, (Option.some.inj h).symm⟩
  · split at h
    · rw [if_neg (by decide)] at h
      cases h
    · split at h
      · next w =>
        rw [hf] at h
        exact Or.inl ⟨Or.inr w, (Option.some.inj h).symm⟩
      · split at h
        · next w =>
          rw [if_pos rfl] at h
          exact Or.inr ⟨w, (Option.some.inj h).symm⟩
        · unfold pm_beh at h
          rw [if_neg (by decide), if_neg (fun g => absurd g.1 (by decide)), if_neg (fun g => absurd g.1 (by decide)), if_neg (fun g => absurd g.1 (by decide)), if_neg (fun g => absurd g.1 (by decide))] at h
          cases h
theorem pm_i41 {s : sp_S} {t t' : pm_S} {p0 : Int} {k : Nat} (hw : pm_w t ≤ 4) (h : pm_step s t p0 41 k = some t') : pm_w t = 4 ∧ pm_d t ≠ 0 ∧ pm_sm t (pm_d t) + 1 = pm_arg (pm_let t (pm_d t)) ∧ t' = pm_cls s t := by
  have hf : pm_fac s t 41 k = none := pq_i1 (by decide) (pq_i1 (by decide) rfl)
  unfold pm_step at h
  split at h
  · rw [if_neg (by decide), hf] at h
    cases h
  · split at h
    · rw [if_neg (by decide)] at h
      cases h
    · split at h
      · rw [hf] at h
        cases h
      · split at h
        · rw [if_neg (by decide)] at h
          cases h
        · unfold pm_beh at h
          rw [if_neg (by decide), if_neg (fun g => absurd g.1 (by decide))] at h
          split at h
          · next q => exact ⟨by omega, q.2.1, q.2.2, (Option.some.inj h).symm⟩
          · rw [if_neg (fun g => absurd g.1 (by decide)), if_neg (fun g => absurd g.1 (by decide))] at h
            cases h
theorem pm_ir {s : sp_S} {t t' : pm_S} {p0 c : Int} {k : Nat} (hw : pm_w t ≤ 4) (h40 : c ≠ 40) (h41 : c ≠ 41) (h58 : c ≠ 58) (h : pm_step s t p0 c k = some t') :
    ((pm_w t = 0 ∨ pm_w t = 2) ∧ pm_one c ∧ t' = pm_cnt (s.1 82) t (zs_el s.1 (if c = 105 then 9 else (c - 65).toNat))) ∨ (pm_w t = 0 ∧ 48 ≤ c ∧ c ≤ 57 ∧ t' = pm_dig t c) ∨ (pm_w t = 1 ∧ c = 42 ∧ t' = pm_ww t 2) ∨ ((pm_w t = 0 ∨ pm_w t = 2) ∧ pm_ltr c ∧ t' = pm_opn t c k 3) ∨ (pm_w t = 4 ∧ (c = 43 ∨ c = 45) ∧ t' = pm_sgn t c) ∨ (pm_w t = 4 ∧ c = 44 ∧ pm_d t ≠ 0 ∧ pm_sm t (pm_d t) + 1 ≠ pm_arg (pm_let t (pm_d t)) ∧ t' = pm_com t) ∨ (pm_w t = 4 ∧ c = 61 ∧ pm_d t = 0 ∧ t' = pm_hd t 0 1) := by
  have hf : ∀ {u}, pm_fac s t c k = some u → (pm_one c ∧ u = pm_cnt (s.1 82) t (zs_el s.1 (if c = 105 then 9 else (c - 65).toNat))) ∨ (pm_ltr c ∧ u = pm_opn t c k 3) := fun {u} g => by
    unfold pm_fac at g
    split at g
    · next q => exact Or.inl ⟨q, (Option.some.inj g).symm⟩
    · split at g
      · next q =>
        exact Or.inr ⟨q.elim (fun e => absurd e h40) id, (Option.some.inj g).symm⟩
      · cases g
  unfold pm_step at h
  split at h
  · next w =>
    split at h
    · next q => exact Or.inr (Or.inl ⟨w, q.1, q.2, (Option.some.inj h).symm⟩)
    · rcases hf h with ⟨g1, g2⟩ | ⟨g1, g2⟩
      · exact Or.inl ⟨Or.inl w, g1, g2⟩
      · exact Or.inr (Or.inr (Or.inr (Or.inl ⟨Or.inl w, g1, g2⟩)))
  · split at h
    · next w =>
      split at h
      · next q => exact Or.inr (Or.inr (Or.inl ⟨w, q, (Option.some.inj h).symm⟩))
      · cases h
    · split at h
      · next w =>
        rcases hf h with ⟨g1, g2⟩ | ⟨g1, g2⟩
        · exact Or.inl ⟨Or.inr w, g1, g2⟩
        · exact Or.inr (Or.inr (Or.inr (Or.inl ⟨Or.inr w, g1, g2⟩)))
      · split at h
        · cases h
        · have w4 : pm_w t = 4 := by omega
          unfold pm_beh at h
          split at h
          · next q => exact Or.inr (Or.inr (Or.inr (Or.inr (Or.inl ⟨w4, q, (Option.some.inj h).symm⟩))))
          · split at h
            · next q => exact Or.inr (Or.inr (Or.inr (Or.inr (Or.inr (Or.inl ⟨w4, q.1, q.2.1, q.2.2, (Option.some.inj h).symm⟩)))))
            · rw [if_neg (fun g => h41 g.1), if_neg (fun g => h58 g.1)] at h
              split at h
              · next q => exact Or.inr (Or.inr (Or.inr (Or.inr (Or.inr (Or.inr ⟨w4, q.1, q.2.1, (Option.some.inj h).symm⟩)))))
              · cases h
theorem sp_V0 {s : sp_S} (hs : sp_ok s) : sp_V s (fun _ => 0) := by
  have := ls_3 (sp_p hs)
  exact ⟨fun k _ => by dsimp only; omega, ⟨fun _ _ _ _ _ => ⟨rfl, rfl⟩, fun _ _ => rfl⟩, fun _ _ _ _ => rfl⟩
/-- a bracket is opened -/
theorem cq_open {s : sp_S} (hs : sp_ok s) {k : Nat} {bef : Int} {t t' : pm_S} {o : Nat} {F : Nat → fr_S} (h : cq_F s k bef t o F) {p0 : Int} (hst : pm_step s t p0 40 k = some t') (a b : Nat → Int) : cq_F s (k + 1) 40 t' (o + 1) (fn_up F (o + 1) ((fun _ => 0, a, b), (0, bef, (k : Int) - 1, 1, 1))) ∧ pm_d t' = o + 1 ∧ pm_w t' = 0 ∧ (0 ≤ bef ∧ bef < 65536) ∧ pm_L t' = pm_L t ∧ pm_e t' = pm_e t := by
  obtain ⟨⟨h1, h1w, h1n, h1s⟩, h2, h3, h4, h5, h6, h7, h8, h9⟩ := h
  rcases pm_i40 hst with ⟨hw, rfl⟩ | ⟨hw, rfl⟩
  · rw [if_neg (by omega)] at h1
    subst h1
    have hb := h6 hw
    refine ⟨⟨⟨rfl, Nat.zero_le _, h1n, h1s⟩, fun i hi => ?_, fun i hi _ => ?_, fun _ => ?_, fun g => absurd (show (0 : Nat) = 3 from g) (by decide), fun _ => by decide, fun i j hi hj => ?_, ?_, fun i hi hid => ?_⟩, rfl, rfl, by omega, rfl, rfl⟩
    · by_cases q : i = pm_d t + 1
      · rw [q, fn_up_eq]
        refine ⟨?_, fun g => ?_, fun g => ?_, ?_, fun _ => Or.inl ⟨fn_up_eq _ _ _, hb⟩, Or.inl rfl, ⟨show (0 : Int) ≤ 1 by decide, show (1 : Int) ≤ 9 by decide⟩⟩
        · show (fun _ => 0) = fn_up (pm_P t) (pm_d t + 1) _ (pm_d t + 1) (fn_up (pm_sm t) (pm_d t + 1) 0 (pm_d t + 1))
          rw [fn_up_eq, fn_up_eq, fn_up_eq]
        · have g : 1 ≤ fn_up (pm_sm t) (pm_d t + 1) 0 (pm_d t + 1) := g
          rw [fn_up_eq] at g
          omega
        · have g : 2 ≤ fn_up (pm_sm t) (pm_d t + 1) 0 (pm_d t + 1) := g
          rw [fn_up_eq] at g
          omega
        · show 0 = fn_up (pm_sm t) (pm_d t + 1) 0 (pm_d t + 1)
          rw [fn_up_eq]
      · rw [fn_up_ne q]
        have g := h2 i (by omega)
        unfold cq_1 at g ⊢
        show _ = fn_up (pm_P t) (pm_d t + 1) _ i (fn_up (pm_sm t) (pm_d t + 1) 0 i) ∧ (1 ≤ fn_up (pm_sm t) (pm_d t + 1) 0 i → _ = fn_up (pm_P t) (pm_d t + 1) _ i 0) ∧ (2 ≤ fn_up (pm_sm t) (pm_d t + 1) 0 i → _ = fn_up (pm_P t) (pm_d t + 1) _ i 1) ∧ _ = fn_up (pm_sm t) (pm_d t + 1) 0 i ∧ (1 ≤ i → (fn_up (pm_let t) (pm_d t + 1) 40 i = 40 ∧ _) ∨ (pm_ltr (fn_up (pm_let t) (pm_d t + 1) 40 i) ∧ _ = fn_up (pm_let t) (pm_d t + 1) 40 i ∧ _ = ((fn_up (pm_pl t) (pm_d t + 1) k i : Nat) : Int))) ∧ _
        rw [fn_up_ne q, fn_up_ne q, fn_up_ne q, fn_up_ne q]
        exact g
    · show _ = fn_up (pm_of t) (pm_d t + 1) 1 i
      by_cases q : i = pm_d t + 1
      · rw [q, fn_up_eq, fn_up_eq]; rfl
      · rw [fn_up_ne q, fn_up_ne q]
        exact h3 i (by omega) (by omega)
    · rw [fn_up_eq]
    · show sp_V s (fn_up (pm_P t) (pm_d t + 1) _ i j)
      by_cases q : i = pm_d t + 1
      · have hj : j ≤ fn_up (pm_sm t) (pm_d t + 1) 0 i := hj
        rw [q, fn_up_eq] at hj
        have : j = 0 := by omega
        rw [q, fn_up_eq, this, fn_up_eq]
        exact sp_V0 hs
      · have hj : j ≤ fn_up (pm_sm t) (pm_d t + 1) 0 i := hj
        rw [fn_up_ne q] at hj
        rw [fn_up_ne q]
        have hi : i ≤ pm_d t + 1 := hi
        exact h7 i j (by omega) hj
    · show fn_up (pm_sm t) (pm_d t + 1) 0 0 = 0
      rw [fn_up_ne (by omega)]
      exact h8
    · show fn_up (pm_sm t) (pm_d t + 1) 0 i < pm_arg (fn_up (pm_let t) (pm_d t + 1) 40 i)
      have hid : i ≤ pm_d t + 1 := hid
      by_cases q : i = pm_d t + 1
      · rw [q, fn_up_eq, fn_up_eq]; decide
      · rw [fn_up_ne q, fn_up_ne q]
        exact h9 i hi (by omega)
  · rw [if_pos hw] at h1
    obtain ⟨g1, g2, g3, g4, g5, g6, g7⟩ := h5 hw
    have ho : o + 1 = pm_d t := by omega
    refine ⟨⟨⟨ho, Nat.zero_le _, h1n, h1s⟩, fun i hi => ?_, fun i hi _ => ?_, fun _ => ?_, fun g => absurd (show (0 : Nat) = 3 from g) (by decide), fun _ => by decide, h7, h8, h9⟩, ho.symm, rfl, ?_, rfl, rfl⟩
    · by_cases q : i = o + 1
      · rw [q, fn_up_eq]
        show (fun _ => 0) = pm_P t (o + 1) (pm_sm t (o + 1)) ∧ (1 ≤ pm_sm t (o + 1) → _) ∧ (2 ≤ pm_sm t (o + 1) → _) ∧ 0 = pm_sm t (o + 1) ∧ (1 ≤ o + 1 → _ ∨ (pm_ltr (pm_let t (o + 1)) ∧ bef = pm_let t (o + 1) ∧ (k : Int) - 1 = (pm_pl t (o + 1) : Int))) ∧ _
        rw [ho, g6, g5]
        exact ⟨rfl, fun h => absurd h (by decide), fun h => absurd h (by decide), rfl, fun _ => Or.inr ⟨g4, g2, by omega⟩, Or.inl rfl, ⟨show (0 : Int) ≤ 1 by decide, show (1 : Int) ≤ 9 by decide⟩⟩
      · rw [fn_up_ne q]
        exact h2 i (by omega)
    · show _ = pm_of t i
      by_cases q : i = o + 1
      · rw [q, fn_up_eq, ho, g7]; rfl
      · rw [fn_up_ne q]
        exact h3 i (by omega) (by omega)
    · rw [fn_up_eq]
    · rw [g2]
      have g4 : pm_let t (pm_d t) = 112 ∨ pm_let t (pm_d t) = 117 ∨ pm_let t (pm_d t) = 116 ∨ pm_let t (pm_d t) = 118 := g4
      omega
end
section
/-- a level's frame, by its parts -/
def cq_k (lt : Nat → Int) (sm : Nat → Nat) (pl : Nat → Nat) (P : Nat → Nat → Nat → Int) (i : Nat) (f : fr_S) : Prop :=
  f.1.1 = P i (sm i) ∧ (1 ≤ sm i → f.1.2.1 = P i 0) ∧ (2 ≤ sm i → f.1.2.2 = P i 1) ∧ f.2.1 = sm i ∧ (1 ≤ i → (lt i = 40 ∧ 0 ≤ f.2.2.1 ∧ f.2.2.1 < 112) ∨ (pm_ltr (lt i) ∧ f.2.2.1 = lt i ∧ f.2.2.2.1 = (pl i : Int))) ∧ (f.2.2.2.2.1 = 1 ∨ f.2.2.2.2.1 = -1) ∧ (0 ≤ f.2.2.2.2.2 ∧ f.2.2.2.2.2 ≤ 9)
def cq_C (s : sp_S) (k : Nat) (bef : Int) (d w : Nat) (on stp : Int) (lt : Nat → Int) (sm : Nat → Nat) (of : Nat → Int) (pl : Nat → Nat) (P : Nat → Nat → Nat → Int) (o : Nat) (F : Nat → fr_S) : Prop :=
  (o = (if w = 3 then d - 1 else d) ∧ w ≤ 4 ∧ on = 1 ∧ stp = -6) ∧ (∀ i, i ≤ o → cq_k lt sm pl P i (F i)) ∧ (∀ i, i ≤ o → ¬ (i = d ∧ w = 4) → (F i).2.2.2.2.1 * (F i).2.2.2.2.2 = of i) ∧ (w = 0 ∨ w = 4 → (F o).2.2.2.2.2 = 1) ∧ (w = 3 → 1 ≤ d ∧ bef = lt d ∧ pl d + 1 = k ∧ pm_ltr (lt d) ∧ P d 0 = (fun _ => 0) ∧ sm d = 0 ∧ of d = 1) ∧ (w = 0 ∨ w = 2 → 0 ≤ bef ∧ bef < 112) ∧ (∀ i j, i ≤ d → j ≤ sm i → sp_V s (P i j)) ∧ sm 0 = 0 ∧ ∀ i, 1 ≤ i → i ≤ d → sm i < pm_arg (lt i)
section CQ
variable {s : sp_S} {k : Nat} {bef : Int} {d w : Nat} {on stp : Int} {lt : Nat → Int} {sm : Nat → Nat} {of : Nat → Int} {pl : Nat → Nat} {P : Nat → Nat → Nat → Int} {o : Nat} {F : Nat → fr_S}
theorem cq_add (hs : sp_ok s) (h2 : ∀ i, i ≤ d → cq_k lt sm pl P i (F i)) (h3 : ∀ i, i ≤ d → (F i).2.2.2.2.1 * (F i).2.2.2.2.2 = of i) (h7 : ∀ i j, i ≤ d → j ≤ sm i → sp_V s (P i j)) (h8 : sm 0 = 0) (h9 : ∀ i, 1 ≤ i → i ≤ d → sm i < pm_arg (lt i)) {v : Nat → Int} (hv : sp_V s v) (c : Int) : cq_C s k c d 4 1 (-6) lt sm of pl (fn_up P d (fn_up (P d) (sm d) (mx_lin (s.1 82) (P d (sm d)) 1 v (of d)))) d (fn_up F d (fr_ad (s.1 82) (F d) v)) := by
  refine ⟨⟨rfl, Nat.le_refl _, rfl, rfl⟩, fun i hi => ?_, fun i hi hn => ?_, fun _ => ?_, fun g => absurd g (by decide), fun g => absurd g (by decide), fun i j hi hj => ?_, h8, h9⟩
  · by_cases q : i = d
    · subst q
      obtain ⟨g1, g2, g3, g4, g5, g6, g7⟩ := h2 i (Nat.le_refl i)
      unfold cq_k
      rw [fn_up_eq, fn_up_eq, fn_up_eq]
      refine ⟨?_, fun h => ?_, fun h => ?_, g4, g5, g6, ⟨show (0 : Int) ≤ 1 by decide, show (1 : Int) ≤ 9 by decide⟩⟩
      · funext j
        show (if j < 9 then _ else _) = mx_lin _ _ _ _ _ j
        unfold mx_lin
        by_cases q : j < 9
        · rw [if_pos q, if_pos q, g1, Int.mul_one, h3 i (Nat.le_refl i), Int.mul_comm (of i)]
        · rw [if_neg q, if_neg q]
      · rw [fn_up_ne (by omega)]
        exact g2 h
      · rw [fn_up_ne (by omega)]
        exact g3 h
    · unfold cq_k
      rw [fn_up_ne q, fn_up_ne q]
      exact h2 i hi
  · have q : i ≠ d := fun e => hn ⟨e, rfl⟩
    rw [fn_up_ne q]
    exact h3 i hi
  · rw [fn_up_eq]
    rfl
  · by_cases q : i = d
    · subst q
      rw [fn_up_eq]
      by_cases q2 : j = sm i
      · rw [q2, fn_up_eq]
        exact mx_lin_V (ls_3 (sp_p hs)) (h7 i _ hi (Nat.le_refl _)) hv
      · rw [fn_up_ne q2]
        exact h7 i j hi hj
    · rw [fn_up_ne q]
      exact h7 i j hi hj
/-- the same levels, the top's weight changed -/
theorem cq_wt (h : cq_C s k bef d w on stp lt sm of pl P o F) (hw : w ≠ 3) {w2 : Nat} (hw2 : w2 ≤ 2) {sg tm : Int} (hsg : sg = 1 ∨ sg = -1) (htm : 0 ≤ tm ∧ tm ≤ 9) (h0 : w2 = 0 → tm = 1) {b2 : Int} (hb : 0 ≤ b2 ∧ b2 < 112) : cq_C s (k + 1) b2 d w2 on stp lt sm (fn_up of d (sg * tm)) pl P o (fn_up F o ((F o).1, ((F o).2.1, (F o).2.2.1, (F o).2.2.2.1, sg, tm))) := by
  obtain ⟨⟨h1, h1w, h1n, h1s⟩, h2, h3, h4, h5, h6, h7, h8, h9⟩ := h
  rw [if_neg hw] at h1
  subst h1
  refine ⟨⟨by rw [if_neg (by omega)], by omega, h1n, h1s⟩, fun i hi => ?_, fun i hi hn => ?_, fun g => ?_, fun g => absurd g (by omega), fun _ => hb, h7, h8, h9⟩
  · by_cases q : i = o
    · rw [q, fn_up_eq]
      obtain ⟨g1, g2, g3, g4, g5, g6, g7⟩ := h2 o (Nat.le_refl o)
      exact ⟨g1, g2, g3, g4, g5, hsg, htm⟩
    · rw [fn_up_ne q]
      exact h2 i hi
  · by_cases q : i = o
    · rw [q, fn_up_eq, fn_up_eq]
    · rw [fn_up_ne q, fn_up_ne q]
      exact h3 i hi (fun g => q g.1)
  · rw [fn_up_eq]
    exact h0 (by omega)
/-- "*" -/
theorem cq_star (h : cq_C s k bef d w on stp lt sm of pl P o F) (hw : w = 1) : cq_C s (k + 1) 42 d 2 on stp lt sm of pl P o F := by
  obtain ⟨⟨h1, h1w, h1n, h1s⟩, h2, h3, h4, h5, h6, h7, h8, h9⟩ := h
  rw [if_neg (by omega)] at h1
  subst h1
  exact ⟨⟨by rw [if_neg (by decide)], by decide, h1n, h1s⟩, h2, fun i hi _ => h3 i hi (by omega), fun g => absurd g (by decide), fun g => absurd g (by decide), fun _ => by decide, h7, h8, h9⟩
/-- a letter -/
theorem cq_ltr (hs : sp_ok s) (h : cq_C s k bef d w on stp lt sm of pl P o F) (hw : w = 0 ∨ w = 2) {c : Int} (hc : pm_ltr c) : cq_C s (k + 1) c (d + 1) 3 on stp (fn_up lt (d + 1) c) (fn_up sm (d + 1) 0) (fn_up of (d + 1) 1) (fn_up pl (d + 1) k) (fn_up P (d + 1) (fn_up (P (d + 1)) 0 (fun _ => 0))) o F := by
  obtain ⟨⟨h1, h1w, h1n, h1s⟩, h2, h3, h4, h5, h6, h7, h8, h9⟩ := h
  rw [if_neg (by omega)] at h1
  subst h1
  refine ⟨⟨rfl, by decide, h1n, h1s⟩, fun i hi => ?_, fun i hi hn => ?_, fun g => absurd g (by decide), fun _ => ⟨by omega, by rw [fn_up_eq], by rw [fn_up_eq], by rw [fn_up_eq]; exact hc, by rw [fn_up_eq, fn_up_eq], by rw [fn_up_eq], by rw [fn_up_eq]⟩, fun g => absurd g (by decide), fun i j hi hj => ?_, by rw [fn_up_ne (by omega)]; exact h8, fun i hi hid => ?_⟩
  · have q : i ≠ o + 1 := by omega
    unfold cq_k
    rw [fn_up_ne q, fn_up_ne q, fn_up_ne q, fn_up_ne q]
    exact h2 i hi
  · have q : i ≠ o + 1 := by omega
    rw [fn_up_ne q]
    exact h3 i hi (by omega)
  · by_cases q : i = o + 1
    · rw [q, fn_up_eq] at hj
      have : j = 0 := by omega
      rw [q, fn_up_eq, this, fn_up_eq]
      exact sp_V0 hs
    · rw [fn_up_ne q] at hj ⊢
      exact h7 i j (by omega) hj
  · by_cases q : i = o + 1
    · rw [q, fn_up_eq, fn_up_eq]
      have := pm_arg_b c
      omega
    · rw [fn_up_ne q, fn_up_ne q]
      exact h9 i hi (by omega)
/-- "," -/
theorem cq_com (hs : sp_ok s) (h : cq_C s k bef d w on stp lt sm of pl P o F) (hw : w = 4) (hd : d ≠ 0) (hne : sm d + 1 ≠ pm_arg (lt d)) : cq_C s (k + 1) 44 d 0 on stp lt (fn_up sm d (sm d + 1)) (fn_up of d 1) pl (fn_up P d (fn_up (P d) (sm d + 1) (fun _ => 0))) o (fn_up F o (fr_kp (F o))) := by
  obtain ⟨⟨h1, h1w, h1n, h1s⟩, h2, h3, h4, h5, h6, h7, h8, h9⟩ := h
  rw [if_neg (by omega)] at h1
  subst h1
  have h9o := h9 o (by omega) (Nat.le_refl o)
  have hab := pm_arg_b (lt o)
  refine ⟨⟨by rw [if_neg (by decide)], by decide, h1n, h1s⟩, fun i hi => ?_, fun i hi hn => ?_, fun g => ?_, fun g => absurd g (by decide), fun _ => by decide, fun i j hi hj => ?_, by rw [fn_up_ne (by omega)]; exact h8, fun i hi hid => ?_⟩
  · by_cases q : i = o
    · subst q
      obtain ⟨g1, g2, g3, g4, g5, g6, g7⟩ := h2 i (Nat.le_refl i)
      unfold cq_k
      rw [fn_up_eq, fn_up_eq, fn_up_eq, fn_up_eq]
      unfold fr_kp
      refine ⟨rfl, fun _ => ?_, fun _ => ?_, ?_, g5, Or.inl rfl, ⟨show (0 : Int) ≤ 1 by decide, show (1 : Int) ≤ 9 by decide⟩⟩
      · show (if (F i).2.1 = 0 then (F i).1.1 else (F i).1.2.1) = _
        rw [fn_up_ne (by omega), g4]
        by_cases q : sm i = 0
        · rw [if_pos q, g1, q]
        · rw [if_neg q]
          exact g2 (by omega)
      · show (if (F i).2.1 = 0 then (F i).1.2.2 else (F i).1.1) = _
        rw [fn_up_ne (by omega), g4, if_neg (by omega), g1, show sm i = 1 by omega]
      · show (F i).2.1 + 1 = _
        rw [g4]
    · unfold cq_k
      rw [fn_up_ne q, fn_up_ne q, fn_up_ne q]
      exact h2 i hi
  · by_cases q : i = o
    · rw [q, fn_up_eq, fn_up_eq]
      rfl
    · rw [fn_up_ne q, fn_up_ne q]
      exact h3 i hi (fun g => q g.1)
  · rw [fn_up_eq]
    rfl
  · by_cases q : i = o
    · subst q
      rw [fn_up_eq] at hj ⊢
      by_cases q2 : j = sm i + 1
      · rw [q2, fn_up_eq]
        exact sp_V0 hs
      · rw [fn_up_ne q2]
        exact h7 i j hi (by omega)
    · rw [fn_up_ne q] at hj ⊢
      exact h7 i j hi hj
  · by_cases q : i = o
    · rw [q, fn_up_eq]
      omega
    · rw [fn_up_ne q]
      exact h9 i hi hid
/-- "=" -/
theorem cq_eqs (hs : sp_ok s) (h : cq_C s k bef d w on stp lt sm of pl P o F) (hw : w = 4) (hd : d = 0) : cq_C s (k + 1) 61 d 0 on stp lt sm (fn_up of 0 1) pl (fn_up P 0 (fn_up (P 0) 0 (fun _ => 0))) o (fn_up F o (fr_st (F o))) ∧ P 0 0 = (F o).1.1 := by
  obtain ⟨⟨h1, h1w, h1n, h1s⟩, h2, h3, h4, h5, h6, h7, h8, h9⟩ := h
  rw [if_neg (by omega)] at h1
  subst h1
  subst hd
  obtain ⟨g1, g2, g3, g4, g5, g6, g7⟩ := h2 0 (Nat.le_refl 0)
  rw [h8] at g1
  refine ⟨⟨⟨by rw [if_neg (by decide)], by decide, h1n, h1s⟩, fun i hi => ?_, fun i hi hn => ?_, fun g => ?_, fun g => absurd g (by decide), fun _ => by decide, fun i j hi hj => ?_, h8, h9⟩, g1.symm⟩
  · have q : i = 0 := by omega
    subst q
    unfold cq_k
    rw [fn_up_eq, fn_up_eq]
    unfold fr_st
    refine ⟨?_, fun h => by omega, fun h => by omega, g4, fun h => by omega, Or.inl rfl, ⟨show (0 : Int) ≤ 1 by decide, show (1 : Int) ≤ 9 by decide⟩⟩
    show (fun _ => 0) = fn_up (P 0) 0 (fun _ => 0) (sm 0)
    rw [h8, fn_up_eq]
  · have q : i = 0 := by omega
    subst q
    rw [fn_up_eq, fn_up_eq]
    rfl
  · rw [fn_up_eq]
    rfl
  · have q : i = 0 := by omega
    subst q
    rw [h8] at hj
    have q : j = 0 := by omega
    subst q
    rw [fn_up_eq, fn_up_eq]
    exact sp_V0 hs
end CQ
theorem sp_Vel10 {s : sp_S} (hs : sp_ok s) {r : Nat} (hr : r < 10) : sp_V s (zs_el s.1 r) := by
  by_cases h : r < 9
  · exact sp_Vel hs h
  · have : r = 9 := by omega
    rw [this]
    exact sp_V9 hs
/-- a character that is no bracket -/
theorem cq_read {s : sp_S} (hs : sp_ok s) {k : Nat} {bef : Int} {t t' : pm_S} {o : Nat} {F : Nat → fr_S} (h : cq_F s k bef t o F) {p0 c : Int} (h40 : c ≠ 40) (h41 : c ≠ 41) (h58 : c ≠ 58) (hst : pm_step s t p0 c k = some t') : cq_F s (k + 1) c t' o (fn_up F o (fr_rd (s.1 82) (zs_el s.1) (zs_el s.1 9) (F o) c)) ∧ (c = 61 → pm_L t' = (F o).1.1) ∧ (c ≠ 61 → pm_L t' = pm_L t ∧ pm_e t' = pm_e t) := by
  have h : cq_C s k bef (pm_d t) (pm_w t) (pm_on t) (pm_stop t) (pm_let t) (pm_sm t) (pm_of t) (pm_pl t) (pm_P t) o F := h
  have same : ∀ x, x = F o → fn_up F o x = F := fun x hx => by
    funext i
    by_cases q : i = o
    · rw [q, fn_up_eq, hx]
    · rw [fn_up_ne q]
  rcases pm_ir h.1.2.1 h40 h41 h58 hst with ⟨hw, hc, rfl⟩ | ⟨hw, hc1, hc2, rfl⟩ | ⟨hw, hc, rfl⟩ | ⟨hw, hc, rfl⟩ | ⟨hw, hc, rfl⟩ | ⟨hw, hc, hd, hne, rfl⟩ | ⟨hw, hc, hd, rfl⟩
  · have hc : (65 ≤ c ∧ c ≤ 72) ∨ c = 105 := hc
    refine ⟨?_, fun e => by omega, fun _ => ⟨rfl, rfl⟩⟩
    obtain ⟨⟨h1, h1w, h1n, h1s⟩, h2, h3, h4, h5, h6, h7, h8, h9⟩ := h
    rw [if_neg (by omega)] at h1
    have hv : sp_V s (zs_el s.1 (if c = 105 then 9 else (c - 65).toNat)) := sp_Vel10 hs (by split <;> omega)
    have hr : fr_rd (s.1 82) (zs_el s.1) (zs_el s.1 9) (F o) c = fr_ad (s.1 82) (F o) (zs_el s.1 (if c = 105 then 9 else (c - 65).toNat)) := by
      unfold fr_rd
      by_cases e : c = 105
      · rw [if_neg (by omega), if_pos e, if_pos e]
      · rw [if_pos (by omega), if_neg e]
    rw [hr]
    have := cq_add (k := k + 1) hs (fun i hi => h2 i (by omega)) (fun i hi => h3 i (by omega) (by omega)) h7 h8 h9 hv c
    rw [← h1] at this
    have e : pm_cnt (s.1 82) t (zs_el s.1 (if c = 105 then 9 else (c - 65).toNat)) = ((pm_d t, 4, pm_f t, pm_e t), t.2.1, t.2.2.1, (fn_up (pm_P t) (pm_d t) (fn_up (pm_P t (pm_d t)) (pm_sm t (pm_d t)) (mx_lin (s.1 82) (pm_P t (pm_d t) (pm_sm t (pm_d t))) 1 (zs_el s.1 (if c = 105 then 9 else (c - 65).toNat)) (pm_of t (pm_d t)))), pm_L t)) := by
      unfold pm_cnt
      rw [if_pos h1n]
    rw [e]
    show cq_C s (k + 1) c (pm_d t) 4 (pm_on t) (pm_stop t) (pm_let t) (pm_sm t) (pm_of t) (pm_pl t) _ o _
    rw [h1n, h1s, ← h1]
    exact this
  · have hr : fr_rd (s.1 82) (zs_el s.1) (zs_el s.1 9) (F o) c = ((F o).1, ((F o).2.1, (F o).2.2.1, (F o).2.2.2.1, (F o).2.2.2.2.1, c - 48)) := by
      unfold fr_rd
      rw [if_neg (by omega), if_neg (by omega), if_pos ⟨hc1, hc2⟩]
    have ho := h.1.1
    rw [if_neg (by omega)] at ho
    have g6 := (h.2.1 o (Nat.le_refl o)).2.2.2.2.2.1
    have g3 := h.2.2.1 o (Nat.le_refl o) (by omega)
    rw [h.2.2.2.1 (Or.inl hw), Int.mul_one] at g3
    rw [hr]
    refine ⟨?_, fun e => by omega, fun _ => ⟨rfl, rfl⟩⟩
    have := cq_wt h (by omega) (w2 := 1) (by decide) g6 (tm := c - 48) (by omega) (fun e => absurd e (by decide)) (b2 := c) (by omega)
    show cq_C s (k + 1) c (pm_d t) 1 (pm_on t) (pm_stop t) (pm_let t) (pm_sm t) (fn_up (pm_of t) (pm_d t) (pm_of t (pm_d t) * (c - 48))) (pm_pl t) (pm_P t) o _
    rw [← ho, ← g3, ho]
    rw [ho] at this
    exact this
  · have hr : fr_rd (s.1 82) (zs_el s.1) (zs_el s.1 9) (F o) c = F o := by
      unfold fr_rd
      rw [if_neg (by omega), if_neg (by omega), if_neg (by omega), if_neg (by omega), if_neg (by omega), if_neg (by omega)]
    rw [hr, same _ rfl, hc]
    exact ⟨cq_star h hw, fun e => absurd e (by decide), fun _ => ⟨rfl, rfl⟩⟩
  · have hc' : c = 112 ∨ c = 117 ∨ c = 116 ∨ c = 118 := hc
    have hr : fr_rd (s.1 82) (zs_el s.1) (zs_el s.1 9) (F o) c = F o := by
      unfold fr_rd
      rw [if_neg (by omega), if_neg (by omega), if_neg (by omega), if_neg (by omega), if_neg (by omega), if_neg (by omega)]
    rw [hr, same _ rfl]
    exact ⟨cq_ltr hs h hw hc, fun e => by omega, fun _ => ⟨rfl, rfl⟩⟩
  · have hr : fr_rd (s.1 82) (zs_el s.1) (zs_el s.1 9) (F o) c = ((F o).1, ((F o).2.1, (F o).2.2.1, (F o).2.2.2.1, (if c = 43 then 1 else -1), (F o).2.2.2.2.2)) := by
      unfold fr_rd
      rw [if_neg (by omega), if_neg (by omega), if_neg (by omega), if_pos hc]
    rw [hr, h.2.2.2.1 (Or.inr hw)]
    refine ⟨?_, fun e => by omega, fun _ => ⟨rfl, rfl⟩⟩
    have := cq_wt h (by omega) (w2 := 0) (by decide) (sg := if c = 43 then 1 else -1) (by split; exact Or.inl rfl; exact Or.inr rfl) (tm := 1) (by decide) (fun _ => rfl) (b2 := c) (by omega)
    rw [Int.mul_one] at this
    exact this
  · subst hc
    have hr : fr_rd (s.1 82) (zs_el s.1) (zs_el s.1 9) (F o) 44 = fr_kp (F o) := by
      unfold fr_rd
      rw [if_neg (by decide), if_neg (by decide), if_neg (by decide), if_neg (by decide), if_pos rfl]
    rw [hr]
    exact ⟨cq_com hs h hw hd hne, fun e => absurd e (by decide), fun _ => ⟨rfl, rfl⟩⟩
  · subst hc
    have hr : fr_rd (s.1 82) (zs_el s.1) (zs_el s.1 9) (F o) 61 = fr_st (F o) := by
      unfold fr_rd
      rw [if_neg (by decide), if_neg (by decide), if_neg (by decide), if_neg (by decide), if_neg (by decide), if_pos rfl]
    rw [hr]
    obtain ⟨g1, g2⟩ := cq_eqs hs h hw hd
    exact ⟨g1, fun _ => g2, fun e => absurd rfl e⟩
end
section
/-- a bracket ends -/
theorem cq_close {s : sp_S} (hs : sp_ok s) {k : Nat} {bef : Int} {t t' : pm_S} {o : Nat} {F : Nat → fr_S} (h : cq_F s k bef t o F) {p0 : Int} (hst : pm_step s t p0 41 k = some t') : 1 ≤ o ∧ o = pm_d t ∧ (mx_ok (s.1 82) (F o).1.1 ∧ ((F o).2.2.1 = 112 ∨ (F o).2.2.1 = 116 ∨ (F o).2.2.1 = 117 → mx_ok (s.1 82) (F o).1.2.1) ∧ ((F o).2.2.1 = 116 → mx_ok (s.1 82) (F o).1.2.2) ∧ ((0 ≤ (F o).2.2.1 ∧ (F o).2.2.1 < 112) ∨ (F o).2.2.1 = 112 ∨ (F o).2.2.1 = 116 ∨ (F o).2.2.1 = 117 ∨ (F o).2.2.1 = 118)) ∧ (mx_ok (s.1 82) (F (o - 1)).1.1 ∧ ((F (o - 1)).2.2.2.2.1 = 1 ∨ (F (o - 1)).2.2.2.2.1 = -1) ∧ (0 ≤ (F (o - 1)).2.2.2.2.2 ∧ (F (o - 1)).2.2.2.2.2 ≤ 9)) ∧ (∀ S, fr_fn (s.1 82) (s.1 81) (zs_el s.1 8) (zs_el s.1 9) (F o) (some S) → mx_ok (s.1 82) S ∧ cq_F s (k + 1) 41 t' (o - 1) (fn_up F (o - 1) (fr_ad (s.1 82) (F (o - 1)) S)) ∧ pm_L t' = pm_L t ∧ pm_e t' = pm_e t) ∧ (fr_fn (s.1 82) (s.1 81) (zs_el s.1 8) (zs_el s.1 9) (F o) none → pm_stop t' = (F o).2.2.2.1 ∧ pm_on t' = 0) := by
  have h : cq_C s k bef (pm_d t) (pm_w t) (pm_on t) (pm_stop t) (pm_let t) (pm_sm t) (pm_of t) (pm_pl t) (pm_P t) o F := h
  obtain ⟨⟨h1, h1w, h1n, h1s⟩, h2, h3, h4, h5, h6, h7, h8, h9⟩ := h
  obtain ⟨hw, hd, hsm, rfl⟩ := pm_i41 h1w hst
  rw [if_neg (by omega)] at h1
  subst h1
  have hm := sp_p hs
  have h3m := ls_3 hm
  have hn := sp_nn hs
  have hni : s.1 81 = ((zs_nn s : Nat) : Int) := by have := hs.1.1; unfold zs_nn; omega
  have hU := sp_Vel hs (r := 8) (by decide)
  have hV := sp_V9 hs
  obtain ⟨g1, g2, g3, g4, g5, g6, g7⟩ := h2 _ (Nat.le_refl (pm_d t))
  obtain ⟨e1, e2, e3, e4, e5, e6, e7⟩ := h2 (pm_d t - 1) (by omega)
  have vS := h7 _ _ (Nat.le_refl (pm_d t)) (Nat.le_refl (pm_sm t (pm_d t)))
  have v1 := h7 (pm_d t - 1) _ (by omega) (Nat.le_refl (pm_sm t (pm_d t - 1)))
  have g5 := g5 (by omega)
  have hd1 : ¬ pm_d t ≤ pm_d t - 1 := by omega
  have fin : ∀ S, sp_V s S → pm_val s t = S → ¬ (pm_on t = 1 ∧ pm_let t (pm_d t) = 118 ∧ mx_det (zs_nn s) (s.1 82) (pm_P t (pm_d t) (pm_sm t (pm_d t))) = 0) → mx_ok (s.1 82) S ∧ cq_F s (k + 1) 41 (pm_cls s t) (pm_d t - 1) (fn_up F (pm_d t - 1) (fr_ad (s.1 82) (F (pm_d t - 1)) S)) ∧ pm_L (pm_cls s t) = pm_L t ∧ pm_e (pm_cls s t) = pm_e t := fun S hS hval hno => by
    have := cq_add (k := k + 1) (d := pm_d t - 1) (lt := pm_let t) (sm := pm_sm t) (of := pm_of t) (pl := pm_pl t) (P := pm_P t) (F := F) hs (fun i hi => h2 i (Nat.le_trans hi (Nat.sub_le _ _))) (fun i hi => h3 i (Nat.le_trans hi (Nat.sub_le _ _)) (fun q => hd1 (q.1 ▸ hi))) (fun i j hi hj => h7 i j (Nat.le_trans hi (Nat.sub_le _ _)) hj) h8 (fun i a b => h9 i a (Nat.le_trans b (Nat.sub_le _ _))) hS 41
    refine ⟨hS.1, ?_, ?_, ?_⟩
    · unfold pm_cls
      rw [hval, if_neg hno]
      have e : pm_cnt (s.1 82) ((pm_d t - 1, pm_w t, pm_f t, pm_e t), t.2.1, t.2.2) S = ((pm_d t - 1, 4, pm_f t, pm_e t), t.2.1, t.2.2.1, (fn_up (pm_P t) (pm_d t - 1) (fn_up (pm_P t (pm_d t - 1)) (pm_sm t (pm_d t - 1)) (mx_lin (s.1 82) (pm_P t (pm_d t - 1) (pm_sm t (pm_d t - 1))) 1 S (pm_of t (pm_d t - 1)))), pm_L t)) := by
        unfold pm_cnt
        rw [if_pos (show pm_on ((pm_d t - 1, pm_w t, pm_f t, pm_e t), t.2.1, t.2.2) = 1 from h1n)]
      rw [e]
      show cq_C s (k + 1) 41 (pm_d t - 1) 4 (pm_on t) (pm_stop t) (pm_let t) (pm_sm t) (pm_of t) (pm_pl t) _ _ _
      rw [h1n, h1s]
      exact this
    · rfl
    · rfl
  rcases g5 with ⟨k1, k2, k3⟩ | ⟨k1, k2, k3⟩
  · have hs0 : pm_sm t (pm_d t) = 0 := by
      rw [k1] at hsm
      have : pm_arg 40 = 1 := rfl
      omega
    have nk1 : ¬ (F (pm_d t)).2.2.1 = 112 := fun e => by rw [e] at k3; exact absurd k3 (by decide)
    have nk2 : ¬ (F (pm_d t)).2.2.1 = 117 := fun e => by rw [e] at k3; exact absurd k3 (by decide)
    have nk3 : ¬ (F (pm_d t)).2.2.1 = 116 := fun e => by rw [e] at k3; exact absurd k3 (by decide)
    have nk4 : ¬ (F (pm_d t)).2.2.1 = 118 := fun e => by rw [e] at k3; exact absurd k3 (by decide)
    refine ⟨Nat.pos_of_ne_zero hd, rfl, ⟨by rw [g1]; exact vS.1, fun h => h.elim (fun e => absurd e nk1) (fun h => h.elim (fun e => absurd e nk3) (fun e => absurd e nk2)), fun h => absurd h nk3, Or.inl ⟨k2, k3⟩⟩, ⟨by rw [e1]; exact v1.1, e6, e7⟩, fun S hf => ?_, fun hf => ?_⟩
    · unfold fr_fn at hf
      rw [if_neg nk1, if_neg nk2, if_neg nk3, if_neg nk4] at hf
      have hf := Option.some.inj hf
      rw [hf, g1]
      refine fin _ vS ?_ (fun h => absurd (k1.symm.trans h.2.1) (by decide))
      unfold pm_val
      rw [k1, if_neg (by decide), if_neg (by decide), if_neg (by decide), if_neg (by decide)]
    · unfold fr_fn at hf
      rw [if_neg nk1, if_neg nk2, if_neg nk3, if_neg nk4] at hf
      cases hf
  · have v0 : 1 ≤ pm_sm t (pm_d t) → sp_V s (pm_P t (pm_d t) 0) := fun _ => h7 _ 0 (Nat.le_refl _) (Nat.zero_le _)
    have hl : pm_let t (pm_d t) = 112 ∨ pm_let t (pm_d t) = 117 ∨ pm_let t (pm_d t) = 116 ∨ pm_let t (pm_d t) = 118 := k1
    have ha : pm_arg 112 = 2 ∧ pm_arg 117 = 2 ∧ pm_arg 116 = 3 ∧ pm_arg 118 = 1 := ⟨rfl, rfl, rfl, rfl⟩
    have sm2 : pm_let t (pm_d t) = 112 ∨ pm_let t (pm_d t) = 117 → pm_sm t (pm_d t) = 1 := fun h => by
      rcases h with h | h <;> rw [h] at hsm <;> omega
    have sm3 : pm_let t (pm_d t) = 116 → pm_sm t (pm_d t) = 2 := fun h => by
      rw [h] at hsm
      omega
    refine ⟨Nat.pos_of_ne_zero hd, rfl, ⟨by rw [g1]; exact vS.1, fun h => ?_, fun h => ?_, by rw [k2]; clear g1 g2 g3 g4 g6 g7 e1 e2 e3 e4 e5 e6 e7 h7 h9 fin hm hn sm2 sm3; omega⟩, ⟨by rw [e1]; exact v1.1, e6, e7⟩, fun S hf => ?_, fun hf => ?_⟩
    · have h1 : 1 ≤ pm_sm t (pm_d t) := by
        rcases h with h | h | h
        · have := sm2 (by omega); omega
        · have := sm3 (by omega); omega
        · have := sm2 (by omega); omega
      rw [g2 h1]
      exact (v0 h1).1
    · have h1 := sm3 (by omega)
      rw [g3 (by omega)]
      exact (h7 _ 1 (Nat.le_refl _) (by omega)).1
    · unfold fr_fn at hf
      rw [k2] at hf
      rcases hl with h | h | h | h
      · have h1 := sm2 (Or.inl h)
        rw [if_pos h] at hf
        have hf := Option.some.inj hf
        rw [hf, g1, g2 (Nat.le_of_eq h1.symm)]
        have va := v0 (Nat.le_of_eq h1.symm)
        refine fin _ (sp_Vp hs va vS) ?_ (fun h' => absurd (h.symm.trans h'.2.1) (by decide))
        unfold pm_val
        rw [if_pos h, sp_pe hs va vS]
      · have h1 := sm2 (Or.inr h)
        rw [if_neg (by rw [h]; decide), if_pos h] at hf
        have hf := Option.some.inj hf
        rw [hf, g1, g2 (Nat.le_of_eq h1.symm)]
        have va := v0 (Nat.le_of_eq h1.symm)
        refine fin _ (sp_Vt hs va vS va) ?_ (fun h' => absurd (h.symm.trans h'.2.1) (by decide))
        unfold pm_val
        rw [if_neg (by rw [h]; decide), if_pos h]
        exact (sp_oe hs va vS).symm
      · have h1 := sm3 h
        rw [if_neg (by rw [h]; decide), if_neg (by rw [h]; decide), if_pos h] at hf
        have hf := Option.some.inj hf
        rw [hf, g1, g2 (by omega), g3 (by omega)]
        have va := v0 (by omega)
        have vb := h7 _ 1 (Nat.le_refl (pm_d t)) (by omega)
        refine fin _ (sp_Vt hs va vb vS) ?_ (fun h' => absurd (h.symm.trans h'.2.1) (by decide))
        unfold pm_val
        rw [if_neg (by rw [h]; decide), if_neg (by rw [h]; decide), if_pos h]
        exact (mc_trip_eq hn hm va.2.1 hU.2.1 vb.2.1 vS.2.1 va.2.2 hU.2.2 vb.2.2 vS.2.2).symm
      · rw [if_neg (by rw [h]; decide), if_neg (by rw [h]; decide), if_neg (by rw [h]; decide), if_pos h] at hf
        obtain ⟨q, hq, hf⟩ := hf
        rw [g1, hni] at hq
        obtain ⟨c1, c2, c3, c4, c5⟩ := ls_gj hn hm vS hq
        by_cases e : (q.2.2 : Int) = s.1 81
        · rw [if_pos e] at hf
          have hf := Option.some.inj hf
          have e' : (q.2.2 : Int) = ((zs_nn s : Nat) : Int) := by omega
          rw [hf, c4 e']
          have vI := mx_inv_V hn h3m (a := pm_P t (pm_d t) (pm_sm t (pm_d t))) vS.2.2
          have z1 : mx_z (zs_nn s) (mx_mul 3 (s.1 82) (zs_el s.1 9) (mx_inv (zs_nn s) (s.1 82) (pm_P t (pm_d t) (pm_sm t (pm_d t))))) := by
            rw [mx_mul3 hn hV.2.1 vI.2.1]
            exact mx_mul_z
          refine fin _ ⟨mx_mul_ok h3m _ _, ?_, fun i j hi hj => ?_⟩ ?_ (fun h => (c3.mp e') h.2.2)
          · rw [mx_mul3 hn z1 hV.2.1]
            exact mx_mul_z
          · have := mx_mul_t3 (m := s.1 82) hV.2.2 vI.2.2 hV.2.2 (k := 3 * i + j) (by omega)
            rw [mx_t_at hj] at this
            exact this.symm
          · unfold pm_val
            rw [if_neg (by rw [h]; decide), if_neg (by rw [h]; decide), if_neg (by rw [h]; decide), if_pos h, mx_mul3 hn z1 hV.2.1, mx_mul3 hn hV.2.1 vI.2.1]
        · rw [if_neg e] at hf
          cases hf
    · unfold fr_fn at hf
      rw [k2] at hf
      rcases hl with h | h | h | h
      · rw [if_pos h] at hf
        cases hf
      · rw [if_neg (by rw [h]; decide), if_pos h] at hf
        cases hf
      · rw [if_neg (by rw [h]; decide), if_neg (by rw [h]; decide), if_pos h] at hf
        cases hf
      · rw [if_neg (by rw [h]; decide), if_neg (by rw [h]; decide), if_neg (by rw [h]; decide), if_pos h] at hf
        obtain ⟨q, hq, hf⟩ := hf
        rw [g1, hni] at hq
        obtain ⟨c1, c2, c3, c4, c5⟩ := ls_gj hn hm vS hq
        by_cases e : (q.2.2 : Int) = s.1 81
        · rw [if_pos e] at hf
          cases hf
        · have hdet : mx_det (zs_nn s) (s.1 82) (pm_P t (pm_d t) (pm_sm t (pm_d t))) = 0 := Classical.byContradiction fun g => e (by rw [hni]; exact c3.mpr g)
          have hc : pm_on t = 1 ∧ pm_let t (pm_d t) = 118 ∧ mx_det (zs_nn s) (s.1 82) (pm_P t (pm_d t) (pm_sm t (pm_d t))) = 0 := ⟨h1n, h, hdet⟩
          have hcl : (pm_cls s t).2.1 = ((pm_pl t (pm_d t) : Int), 0) := by
            unfold pm_cls pm_cnt
            show (if _ then _ else _) = _
            rw [if_pos hc]
          rw [k3]
          exact ⟨congrArg Prod.fst hcl, congrArg Prod.snd hcl⟩
/-- what has stopped stays so -/
theorem pm_fac_o {s : sp_S} {t t' : pm_S} {c : Int} {k : Nat} (h : pm_fac s t c k = some t') : t'.2.1 = t.2.1 := by
  unfold pm_fac at h
  split at h
  · cases h; rfl
  · split at h
    · cases h; rfl
    · cases h
theorem pm_step_o {s : sp_S} {t t' : pm_S} {p0 c : Int} {k : Nat} (h : pm_step s t p0 c k = some t') (h0 : pm_on t ≠ 1) : t'.2.1 = t.2.1 := by
  unfold pm_step at h
  split at h
  · split at h
    · cases h; rfl
    · exact pm_fac_o h
  · split at h
    · split at h
      · cases h; rfl
      · cases h
    · split at h
      · exact pm_fac_o h
      · split at h
        · split at h
          · cases h; rfl
          · cases h
        · unfold pm_beh at h
          split at h
          · cases h; rfl
          · split at h
            · cases h; rfl
            · split at h
              · cases h
                show (if _ then _ else _) = _
                rw [if_neg (fun g => h0 g.1)]
              · split at h
                · cases h; rfl
                · split at h
                  · cases h; rfl
                  · cases h
theorem pm_run_o {s : sp_S} {k : Nat} {t : pm_S} (h : pm_run s k = some t) (h0 : pm_on t ≠ 1) : ∀ j T, pm_run s (k + j) = some T → T.2.1 = t.2.1
  | 0, T, hT => by
    rw [Nat.add_zero, h] at hT
    cases hT
    rfl
  | j + 1, T, hT => by
    obtain ⟨u, h1, h2⟩ := pm_run_s (k := k + j) hT
    have ih := pm_run_o h h0 j u h1
    have hu : pm_on u ≠ 1 := by
      show u.2.1.2 ≠ 1
      rw [ih]
      exact h0
    rw [pm_step_o h2 hu, ih]
/-- how many characters are wanting at least -/
def pm_pot (t : pm_S) : Nat := pm_d t + if pm_w t = 4 then 0 else 1
theorem pm_fac_p {s : sp_S} {t t' : pm_S} {c : Int} {k : Nat} (h : pm_fac s t c k = some t') : pm_pot t ≤ pm_pot t' + 1 := by
  unfold pm_fac at h
  have hb : pm_pot t ≤ pm_d t + 1 := by unfold pm_pot; split <;> omega
  split at h
  · cases h
    show _ ≤ (pm_d t + if 4 = 4 then 0 else 1) + 1
    omega
  · split at h
    · cases h
      show _ ≤ (pm_d t + 1 + _) + 1
      omega
    · cases h
theorem pm_step_p {s : sp_S} {t t' : pm_S} {p0 c : Int} {k : Nat} (hw4 : pm_w t ≤ 4) (h : pm_step s t p0 c k = some t') : pm_pot t ≤ pm_pot t' + 1 := by
  have hb : pm_pot t ≤ pm_d t + 1 := by unfold pm_pot; split <;> omega
  have same : ∀ {u : pm_S}, pm_d u = pm_d t → pm_pot t ≤ pm_pot u + 1 := fun {u} e => by
    have : pm_d u ≤ pm_pot u := by unfold pm_pot; omega
    omega
  unfold pm_step at h
  split at h
  · split at h
    · cases h; exact same rfl
    · exact pm_fac_p h
  · split at h
    · split at h
      · cases h; exact same rfl
      · cases h
    · split at h
      · exact pm_fac_p h
      · split at h
        · split at h
          · cases h; exact same rfl
          · cases h
        · unfold pm_beh at h
          split at h
          · cases h; exact same rfl
          · split at h
            · cases h; exact same rfl
            · split at h
              · cases h
                show _ ≤ (pm_d t - 1 + 0) + 1
                unfold pm_pot
                split <;> omega
              · split at h
                · cases h; exact same rfl
                · split at h
                  · cases h; exact same rfl
                  · cases h
theorem pm_run_p {s : sp_S} {k : Nat} {t : pm_S} (h : pm_run s k = some t) : ∀ j T, pm_run s (k + j) = some T → pm_pot t ≤ pm_pot T + j
  | 0, T, hT => by
    rw [Nat.add_zero, h] at hT
    cases hT
    omega
  | j + 1, T, hT => by
    obtain ⟨u, h1, h2⟩ := pm_run_s (k := k + j) hT
    have ih := pm_run_p h j u h1
    have := pm_step_p (pm_run_d (k + j) u h1).2 h2
    omega
/-- brackets in a faultless text aren't deep -/
theorem pm_deep {s : sp_S} (hs : sp_ok s) {T : pm_S} (hT : pm_fin s T) {k : Nat} (hk : k ≤ s.2.2.2.1) {t : pm_S} (h : pm_run s k = some t) (hw : pm_w t ≠ 4) : pm_d t ≤ 29 := by
  have h60 := hs.2.2.2.2.2.1
  have h1 := pm_run_p h (s.2.2.2.1 - k) T (by rw [show k + (s.2.2.2.1 - k) = s.2.2.2.1 by omega]; exact hT.1)
  have h2 := (pm_run_d k t h).1
  unfold pm_pot at h1
  rw [if_neg hw, if_pos hT.2.1, hT.2.2.1] at h1
  omega
/-- every beginning of a faultless text is read -/
theorem pm_pre {s : sp_S} {k : Nat} : ∀ j T, pm_run s (k + j) = some T → ∃ t, pm_run s k = some t
  | 0, T, h => ⟨T, h⟩
  | j + 1, T, h => by
    obtain ⟨u, h1, h2⟩ := pm_run_s (k := k + j) h
    exact pm_pre j u h1
end
section
theorem zz_ok : True := trivial
end
