/-! A LAYER OVER THE KIT'S ROWS: a heap of a fixed shape, whose numbers are a function of cell and place; values are integers. -/
abbrev gx_V : Type := Int ⊕ Nat ⊕ Int64 ⊕ Unit
abbrev gx_I (z : Int) : gx_V := Sum.inl z
abbrev gx_R (c : Nat) : gx_V := Sum.inr (Sum.inl c)
abbrev gx_J (x : Int64) : gx_V := Sum.inr (Sum.inr (Sum.inl x))
abbrev gx_U : gx_V := Sum.inr (Sum.inr (Sum.inr ()))
abbrev gx_M : Type := Nat → Nat → Int
abbrev gx_K : Type := (Nat × List (Option Nat)) ⊕ (Nat × Nat × Nat × Nat)
def gx_i (z : Int) : Int32 := Int32.ofInt z
def gx_T (ad : Nat → Nat) : gx_V → Value
  | .inl z => .int (gx_i z)
  | .inr (.inl c) => .ref (ad c)
  | .inr (.inr (.inl x)) => .long x
  | .inr (.inr (.inr _)) => .null
/-- the range of an int -/
def gx_3 (z : Int) : Prop := -2147483648 ≤ z ∧ z < 2147483648
theorem gx_toInt {z : Int} (h : gx_3 z) : (gx_i z).toInt = z := Int32.toInt_ofInt_of_le (by simpa using h.1) (by simpa using h.2)
theorem gx_add (x y : Int) : gx_i x + gx_i y = gx_i (x + y) := (Int32.ofInt_add x y).symm
theorem gx_sub (x y : Int) : gx_i x - gx_i y = gx_i (x - y) := (Int32.ofInt_sub x y).symm
theorem gx_mul (x y : Int) : gx_i x * gx_i y = gx_i (x * y) := (Int32.ofInt_mul x y).symm
theorem gx_neg (x : Int) : -gx_i x = gx_i (-x) := (Int32.ofInt_neg x).symm
theorem gx_lt {x y : Int} (hx : gx_3 x) (hy : gx_3 y) : gx_i x < gx_i y ↔ x < y := by rw [Int32.lt_iff_toInt_lt, gx_toInt hx, gx_toInt hy]
theorem gx_le {x y : Int} (hx : gx_3 x) (hy : gx_3 y) : gx_i x ≤ gx_i y ↔ x ≤ y := by rw [Int32.le_iff_toInt_le, gx_toInt hx, gx_toInt hy]
theorem gx_eq {x y : Int} (hx : gx_3 x) (hy : gx_3 y) : gx_i x = gx_i y ↔ x = y := by rw [← Int32.toInt_inj, gx_toInt hx, gx_toInt hy]
theorem gx_i0 : (0 : Int32) = gx_i 0 := rfl
theorem gx_30 : gx_3 0 := ⟨by decide, by decide⟩
theorem gx_ne0 {y : Int} (hy : gx_3 y) (h : y ≠ 0) : ¬ gx_i y = 0 := fun e => h ((gx_eq hy gx_30).mp (e.trans gx_i0))
theorem gx_nat {z : Int} (h : gx_3 z) : (gx_i z).toNatClampNeg = z.toNat := by rw [← Int32.toNat_toInt, gx_toInt h]
theorem gx_in {z : Int} {n : Nat} (h : gx_3 z) (h0 : 0 ≤ z) (hn : z < n) : vp_in (gx_i z) n := by
  intro q
  rcases q with q | q
  · exact absurd ((gx_lt (y := 0) h gx_30).mp q) (by omega)
  · rw [gx_nat h] at q
    omega
theorem gx_div {x y : Int} (hx : gx_3 x) (hy : gx_3 y) (h0 : y ≠ 0) : gx_i x / gx_i y = gx_i (x.tdiv y) := by
  refine (Int32.ofInt_tdiv ?_ ?_ ?_ ?_).symm
  all_goals first | exact hx.1 | exact hy.1 | (have := hx.2; show _ ≤ (2147483647 : Int); omega) | (have := hy.2; show _ ≤ (2147483647 : Int); omega)
theorem gx_rem {x y : Int} (hx : gx_3 x) (hy : gx_3 y) (h0 : y ≠ 0) : gx_i x - gx_i x / gx_i y * gx_i y = gx_i (x.tmod y) := by
  rw [gx_div hx hy h0, gx_mul, gx_sub]
  congr 1
  rw [Int.tmod_def, Int.mul_comm y]
theorem gx_tmod {x y : Int} (h : 0 ≤ x) : x.tmod y = x % y := Int.tmod_eq_emod_of_nonneg h
theorem gx_tdiv {x y : Int} (h : 0 ≤ x) : x.tdiv y = x / y := Int.tdiv_eq_ediv_of_nonneg h
/-- locals: what is listed, at its place -/
def gx_l (ad : Nat → Nat) : Nat → List gx_V → List (Nat × Value)
  | _, [] => []
  | i, v :: vs => match v with
    | .inr (.inr (.inr _)) => gx_l ad (i + 1) vs
    | v => (i, gx_T ad v) :: gx_l ad (i + 1) vs
theorem gx_l_in {ad : Nat → Nat} : ∀ (L : List gx_V) (i k : Nat) (v : gx_V), L[k]? = some v → v ≠ gx_U → (i + k, gx_T ad v) ∈ gx_l ad i L
  | [], _, _, _, h, _ => by simp at h
  | v0 :: vs, i, 0, v, h, hv => by
    simp at h
    subst h
    match v0, hv with
    | .inl z, _ => exact List.mem_cons_self
    | .inr (.inl z), _ => exact List.mem_cons_self
    | .inr (.inr (.inl z)), _ => exact List.mem_cons_self
    | .inr (.inr (.inr ())), hv => exact absurd rfl hv
  | v0 :: vs, i, k + 1, v, h, hv => by
    have h1 := gx_l_in (ad := ad) vs (i + 1) k v (by simpa using h) hv
    rw [show i + 1 + k = i + (k + 1) by omega] at h1
    match v0 with
    | .inl z => exact List.mem_cons_of_mem _ h1
    | .inr (.inl z) => exact List.mem_cons_of_mem _ h1
    | .inr (.inr (.inl z)) => exact List.mem_cons_of_mem _ h1
    | .inr (.inr (.inr ())) => exact h1
theorem gx_l_of {ad : Nat → Nat} : ∀ (L : List gx_V) (i : Nat) (q : Nat × Value), q ∈ gx_l ad i L → ∃ (k : Nat) (v : gx_V), q = (i + k, gx_T ad v) ∧ L[k]? = some v ∧ v ≠ gx_U
  | [], _, _, h => by simp [gx_l] at h
  | v0 :: vs, i, q, h => by
    have tail : q ∈ gx_l ad (i + 1) vs → ∃ (k : Nat) (v : gx_V), q = (i + k, gx_T ad v) ∧ (v0 :: vs)[k]? = some v ∧ v ≠ gx_U := fun h1 => by
      obtain ⟨k, v, e1, e2, e3⟩ := gx_l_of vs (i + 1) q h1
      exact ⟨k + 1, v, by rw [e1, show i + 1 + k = i + (k + 1) by omega], by simpa using e2, e3⟩
    match v0, h with
    | .inl z, h =>
      rcases List.mem_cons.mp h with e | e
      · exact ⟨0, _, e, rfl, by simp⟩
      · exact tail e
    | .inr (.inl z), h =>
      rcases List.mem_cons.mp h with e | e
      · exact ⟨0, _, e, rfl, by simp⟩
      · exact tail e
    | .inr (.inr (.inl z)), h =>
      rcases List.mem_cons.mp h with e | e
      · exact ⟨0, _, e, rfl, by simp⟩
      · exact tail e
    | .inr (.inr (.inr ())), h => exact tail h
theorem gx_lat {ad : Nat → Nat} {ls : Array Slot} {nL : Nat} {L : List gx_V} (h : lv_has ls nL (gx_l ad 0 L)) {k : Nat} {v : gx_V} (hk : L[k]? = some v) (hv : v ≠ gx_U) : ls[k]? = some (.val (gx_T ad v)) := by
  have := h.2.2 _ (gx_l_in (ad := ad) L 0 k v hk hv)
  simpa using this
theorem gx_lmono {ad : Nat → Nat} {ls : Array Slot} {nL : Nat} {L : List gx_V} {l : List (Nat × Value)} (h : lv_has ls nL l) (hk : ∀ (k : Nat) (v : gx_V), L[k]? = some v → v ≠ gx_U → (k, gx_T ad v) ∈ l) : lv_has ls nL (gx_l ad 0 L) := by
  refine ⟨h.1, h.2.1, fun q hq => ?_⟩
  obtain ⟨k, v, e1, e2, e3⟩ := gx_l_of L 0 q hq
  rw [e1, Nat.zero_add]
  exact h.2.2 _ (hk k v e2 e3)
/-- the place before is no long -/
def gx_ok (L : List gx_V) : Nat → Bool
  | 0 => true
  | k + 1 => match L[k]? with
    | some (.inr (.inr (.inl _))) => false
    | _ => true
theorem gx_cat {ad : Nat → Nat} {v : gx_V} (h : (gx_T ad v).category = 2) : ∃ x, v = gx_J x := by
  match v with
  | .inl z => exact absurd h (by simp [gx_T, Value.category])
  | .inr (.inl z) => exact absurd h (by simp [gx_T, Value.category])
  | .inr (.inr (.inl z)) => exact ⟨z, rfl⟩
  | .inr (.inr (.inr ())) => exact absurd h (by simp [gx_T, Value.category])
theorem gx_b1 {a b : Bool} (h : (a && b) = false) : (!a) = true ∨ (!b) = true := by cases a <;> cases b <;> simp_all
theorem gx_lset {ad : Nat → Nat} {ls : Array Slot} {nL i : Nat} {L : List gx_V} {v : gx_V} (hok : gx_ok L i = true) (h : lv_has ls nL ((i, gx_T ad v) :: (gx_l ad 0 L).filter (fun q => !(q.1 == i) && !(q.1 + 1 == i && q.2.category == 2)))) : lv_has ls nL (gx_l ad 0 (L.set i v)) := by
  refine gx_lmono h (fun k w hk hw => ?_)
  by_cases e : i = k
  · subst e
    rw [List.getElem?_set] at hk
    simp at hk
    rw [hk.2]
    exact List.mem_cons_self
  · rw [List.getElem?_set_ne e] at hk
    refine List.mem_cons_of_mem _ (List.mem_filter.mpr ⟨by simpa using gx_l_in (ad := ad) L 0 k w hk hw, ?_⟩)
    have h1 : (k == i) = false := by simp; omega
    have h2 : (k + 1 == i && (gx_T ad w).category == 2) = false := by
      by_cases e1 : k + 1 = i
      · subst e1
        have : ¬ (gx_T ad w).category = 2 := fun hc => by
          obtain ⟨x, rfl⟩ := gx_cat hc
          simp [gx_ok, hk] at hok
        simp [this]
      · simp [e1]
    rw [show (!(k == i)) = true by simp [h1], Bool.true_and, show (!(k + 1 == i && (gx_T ad w).category == 2)) = true by rw [h2]; rfl]
theorem gx_lset2 {ad : Nat → Nat} {ls : Array Slot} {nL i : Nat} {L : List gx_V} {v : gx_V} (hok : gx_ok L i = true) (h : lv_has ls nL ((i, gx_T ad v) :: (gx_l ad 0 L).filter (fun q => !(q.1 == i) && (!(q.1 == i + 1) && !(q.1 + 1 == i && q.2.category == 2))))) : lv_has ls nL (gx_l ad 0 ((L.set i v).set (i + 1) gx_U)) := by
  refine gx_lmono h (fun k w hk hw => ?_)
  by_cases e2 : i + 1 = k
  · subst e2
    rw [List.getElem?_set] at hk
    simp at hk
    exact absurd hk.2.symm hw
  rw [List.getElem?_set_ne e2] at hk
  by_cases e : i = k
  · subst e
    rw [List.getElem?_set] at hk
    simp at hk
    rw [hk.2]
    exact List.mem_cons_self
  · rw [List.getElem?_set_ne e] at hk
    refine List.mem_cons_of_mem _ (List.mem_filter.mpr ⟨by simpa using gx_l_in (ad := ad) L 0 k w hk hw, ?_⟩)
    have h1 : (k == i) = false := by simp; omega
    have h3 : (k == i + 1) = false := by simp; omega
    have h2 : (k + 1 == i && (gx_T ad w).category == 2) = false := by
      by_cases e1 : k + 1 = i
      · subst e1
        have : ¬ (gx_T ad w).category = 2 := fun hc => by
          obtain ⟨x, rfl⟩ := gx_cat hc
          simp [gx_ok, hk] at hok
        simp [this]
      · simp [e1]
    rw [show (!(k == i)) = true by simp [h1], show (!(k == i + 1)) = true by simp [h3], Bool.true_and, Bool.true_and, show (!(k + 1 == i && (gx_T ad w).category == 2)) = true by rw [h2]; rfl]
/-- fewer values are known -/
def gx_sub' : List gx_V → List gx_V → Prop
  | [], _ => True
  | u :: us, [] => u = gx_U ∧ gx_sub' us []
  | u :: us, v :: vs => (u = gx_U ∨ u = v) ∧ gx_sub' us vs
theorem gx_sub_at : ∀ (L' L : List gx_V), gx_sub' L' L → ∀ (k : Nat) (v : gx_V), L'[k]? = some v → v ≠ gx_U → L[k]? = some v
  | [], _, _, _, _, h, _ => by simp at h
  | u :: us, [], hs, 0, v, h, hv => by
    simp at h
    exact absurd (h ▸ hs.1) hv
  | u :: us, [], hs, k + 1, v, h, hv => gx_sub_at us [] hs.2 k v (by simpa using h) hv
  | u :: us, w :: ws, hs, 0, v, h, hv => by
    simp at h
    subst h
    rcases hs.1 with e | e
    · exact absurd e hv
    · simp [e]
  | u :: us, w :: ws, hs, k + 1, v, h, hv => by
    have := gx_sub_at us ws hs.2 k v (by simpa using h) hv
    simpa using this
theorem gx_lsub {ad : Nat → Nat} {ls : Array Slot} {nL : Nat} {L L' : List gx_V} (hs : gx_sub' L' L) (h : lv_has ls nL (gx_l ad 0 L)) : lv_has ls nL (gx_l ad 0 L') :=
  gx_lmono h (fun k v hk hv => by simpa using gx_l_in (ad := ad) L 0 k v (gx_sub_at L' L hs k v hk hv) hv)
/-! the heap -/
def gx_F (ad : Nat → Nat) (f : Nat → Int) (j : Nat) : Option Nat → Value
  | none => .int (gx_i (f j))
  | some r => .ref (ad r)
def gx_a (ad : Nat → Nat) (f : Nat → Int) (k b st : Nat) : (Nat → Int32) ⊕ (Nat → Int64) ⊕ (Nat → UInt32) ⊕ (Nat → UInt64) ⊕ (Nat → Option Nat) :=
  if k < 3 then .inl (fun i => gx_i (f i)) else .inr (.inr (.inr (.inr (fun i => some (ad (b + st * i))))))
def gx_E (tc : Nat → ClassId) (ad : Nat → Nat) (f : Nat → Int) : gx_K → va_E
  | .inl (ci, fs) => .inr (ci, fs.mapIdx (gx_F ad f))
  | .inr (k, n, b, st) => .inl (tc k, n, gx_a ad f k b st)
/-- a cell that is there (kind 9: none) -/
def gx_nd : gx_K → Bool
  | .inl _ => true
  | .inr (k, _) => !(k == 9)
theorem gx_ndk {k : Nat} {q : Nat × Nat × Nat} (h : k ≠ 9) : gx_nd (.inr (k, q)) = true := by
  show (!(k == 9)) = true
  simp [h]
def gx_k0 : List gx_K → Nat
  | [] => 0
  | k :: La => if gx_nd k then 0 else gx_k0 La + 1
theorem gx_k0_le : ∀ {La : List gx_K} {c : Nat} {k : gx_K}, La[c]? = some k → gx_nd k = true → gx_k0 La ≤ c
  | [], _, _, h, _ => by simp at h
  | k0 :: La, 0, k, h, hn => by
    simp at h
    subst h
    simp [gx_k0, hn]
  | k0 :: La, c + 1, k, h, hn => by
    have h1 := gx_k0_le (La := La) (c := c) (by simpa using h) hn
    unfold gx_k0
    split <;> omega
theorem gx_k0_all : ∀ {La : List gx_K}, La.all gx_nd = true → gx_k0 La = 0
  | [], _ => rfl
  | k0 :: La, h => by
    have h1 : gx_nd k0 = true := by
      rw [List.all_cons, Bool.and_eq_true] at h
      exact h.1
    simp [gx_k0, h1]
def gx_w (La : List gx_K) (tc : Nat → ClassId) (ad : Nat → Nat) (M : gx_M) : va_W := (List.range (La.length - gx_k0 La)).map (fun c => (ad (gx_k0 La + c), gx_E tc ad (M (gx_k0 La + c)) (La.getD (gx_k0 La + c) (.inl (0, [])))))
theorem gx_at {La : List gx_K} {tc : Nat → ClassId} {ad : Nat → Nat} {M : gx_M} {c : Nat} {k : gx_K} (h : La[c]? = some k) (hn : gx_nd k = true) : (gx_w La tc ad M)[c - gx_k0 La]? = some (ad c, gx_E tc ad (M c) k) := by
  have hc : c < La.length := (List.getElem?_eq_some_iff.mp h).1
  have h0 := gx_k0_le h hn
  unfold gx_w
  rw [List.getElem?_map, List.getElem?_range (by omega)]
  rw [Option.map_some, show gx_k0 La + (c - gx_k0 La) = c by omega]
  simp [h]
theorem gx_len {La : List gx_K} {tc : Nat → ClassId} {ad : Nat → Nat} {M : gx_M} : (gx_w La tc ad M).length = La.length - gx_k0 La := by simp [gx_w]
theorem gx_of {La : List gx_K} {tc : Nat → ClassId} {ad : Nat → Nat} {M : gx_M} {c : Nat} {q : Nat × va_E} (h : (gx_w La tc ad M)[c]? = some q) : gx_k0 La + c < La.length ∧ q = (ad (gx_k0 La + c), gx_E tc ad (M (gx_k0 La + c)) (La.getD (gx_k0 La + c) (.inl (0, [])))) := by
  have hc : c < La.length - gx_k0 La := by
    have := (List.getElem?_eq_some_iff.mp h).1
    rwa [gx_len] at this
  unfold gx_w at h
  rw [List.getElem?_map, List.getElem?_range hc, Option.map_some] at h
  exact ⟨by omega, (Option.some.inj h).symm⟩
theorem gx_set {La : List gx_K} {tc : Nat → ClassId} {ad : Nat → Nat} {M : gx_M} {c : Nat} {k : gx_K} {f : Nat → Int} (h : La[c]? = some k) (hn : gx_nd k = true) : (gx_w La tc ad M).set (c - gx_k0 La) (ad c, gx_E tc ad f k) = gx_w La tc ad (fun c' => if c' = c then f else M c') := by
  have hc : c < La.length := (List.getElem?_eq_some_iff.mp h).1
  have h0 := gx_k0_le h hn
  refine List.ext_getElem? (fun i => ?_)
  by_cases e : c - gx_k0 La = i
  · subst e
    rw [List.getElem?_set_self (by rw [gx_len]; omega), gx_at h hn]
    simp
  · rw [List.getElem?_set_ne e]
    by_cases hi : i < La.length - gx_k0 La
    · unfold gx_w
      have e9 : (fun c' => if c' = c then f else M c') (gx_k0 La + i) = M (gx_k0 La + i) := if_neg (by omega)
      rw [List.getElem?_map, List.getElem?_map, List.getElem?_range hi, Option.map_some, Option.map_some, e9]
    · rw [List.getElem?_eq_none (by rw [gx_len]; omega), List.getElem?_eq_none (by rw [gx_len]; omega)]
/-- one number changed -/
def gx_u (M : gx_M) (c j : Nat) (v : Int) : gx_M := fun c' => if c' = c then (fun j' => if j' = j then v else M c j') else M c'
theorem gx_u_eq (M : gx_M) (c j : Nat) (v : Int) : gx_u M c j v c j = v := by simp [gx_u]
theorem gx_u_ne {M : gx_M} {c j c' j' : Nat} {v : Int} (h : ¬ (c' = c ∧ j' = j)) : gx_u M c j v c' j' = M c' j' := by
  unfold gx_u
  by_cases e : c' = c
  · subst e
    by_cases e2 : j' = j
    · exact absurd ⟨rfl, e2⟩ h
    · simp [e2]
  · simp [e]
theorem gx_u_nc {M : gx_M} {c j c' : Nat} {v : Int} (h : c' ≠ c) : gx_u M c j v c' = M c' := by simp [gx_u, h]
theorem gx_u_at (M : gx_M) (c j c' j' : Nat) (v : Int) : gx_u M c j v c' j' = if c' = c ∧ j' = j then v else M c' j' := by
  by_cases h : c' = c ∧ j' = j
  · rw [if_pos h, h.1, h.2, gx_u_eq]
  · rw [if_neg h, gx_u_ne h]
def gx_tys (tc : Nat → ClassId) : List (ClassId × FieldType) := [(tc 0, .int), (tc 1, .char), (tc 2, .boolean), (tc 3, .array .int), (tc 4, .object "PeirceDesk$State"), (tc 5, .object "PeirceDesk$Frame")]
def gx_A (ad : Nat → Nat) (n sz : Nat) : Nat → Prop := fun q => (∃ c, c < n ∧ q = ad c) ∨ sz ≤ q
