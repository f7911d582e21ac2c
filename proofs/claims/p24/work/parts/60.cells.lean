/-! THE CLASS: its cells, from 12 on -/
def gd_L : List gx_K := [.inl (7, [some 13, some 14, some 15, some 16, some 17, some 18]), .inl (0, [some 46, some 19, some 25, some 29, some 30, some 31, some 32, some 33, some 34, some 35, some 36]), .inl (3, [some 41, none, some 42, none, none, none, none]), .inl (4, [some 43, none, some 44]), .inl (2, [some 45, none, none]), .inr (4, 2, 58, 12), .inr (2, 2, 0, 0), .inl (5, [some 20, none, none]), .inr (3, 4, 21, 1), .inr (0, 9, 0, 0), .inr (0, 9, 0, 0), .inr (0, 9, 0, 0), .inr (0, 9, 0, 0), .inr (3, 3, 26, 1), .inr (0, 9, 0, 0), .inr (0, 9, 0, 0), .inr (0, 9, 0, 0), .inr (0, 9, 0, 0), .inr (0, 9, 0, 0), .inr (0, 9, 0, 0), .inr (0, 9, 0, 0), .inr (0, 9, 0, 0), .inr (0, 9, 0, 0), .inr (0, 9, 0, 0), .inr (3, 4, 37, 1), .inr (0, 9, 0, 0), .inr (0, 9, 0, 0), .inr (0, 9, 0, 0), .inr (0, 9, 0, 0), .inr (1, 60, 0, 0), .inr (0, 60, 0, 0), .inr (5, 30, 154, 4), .inr (0, 9, 0, 0), .inr (4, 6, 82, 12), .inl (6, [none, none, some 47]), .inr (3, 10, 48, 1), .inr (0, 9, 0, 0), .inr (0, 9, 0, 0), .inr (0, 9, 0, 0), .inr (0, 9, 0, 0), .inr (0, 9, 0, 0), .inr (0, 9, 0, 0), .inr (0, 9, 0, 0), .inr (0, 9, 0, 0), .inr (0, 9, 0, 0), .inr (0, 9, 0, 0), .inl (6, [none, none, some 59]), .inr (3, 10, 60, 1), .inr (0, 9, 0, 0), .inr (0, 9, 0, 0), .inr (0, 9, 0, 0), .inr (0, 9, 0, 0), .inr (0, 9, 0, 0), .inr (0, 9, 0, 0), .inr (0, 9, 0, 0), .inr (0, 9, 0, 0), .inr (0, 9, 0, 0), .inr (0, 9, 0, 0), .inl (6, [none, none, some 71]), .inr (3, 10, 72, 1), .inr (0, 9, 0, 0), .inr (0, 9, 0, 0), .inr (0, 9, 0, 0), .inr (0, 9, 0, 0), .inr (0, 9, 0, 0), .inr (0, 9, 0, 0), .inr (0, 9, 0, 0), .inr (0, 9, 0, 0), .inr (0, 9, 0, 0), .inr (0, 9, 0, 0), .inl (6, [none, none, some 83]), .inr (3, 10, 84, 1), .inr (0, 9, 0, 0), .inr (0, 9, 0, 0), .inr (0, 9, 0, 0), .inr (0, 9, 0, 0), .inr (0, 9, 0, 0), .inr (0, 9, 0, 0), .inr (0, 9, 0, 0), .inr (0, 9, 0, 0), .inr (0, 9, 0, 0), .inr (0, 9, 0, 0), .inl (6, [none, none, some 95]), .inr (3, 10, 96, 1), .inr (0, 9, 0, 0), .inr (0, 9, 0, 0), .inr (0, 9, 0, 0), .inr (0, 9, 0, 0), .inr (0, 9, 0, 0), .inr (0, 9, 0, 0), .inr (0, 9, 0, 0), .inr (0, 9, 0, 0), .inr (0, 9, 0, 0), .inr (0, 9, 0, 0), .inl (6, [none, none, some 107]), .inr (3, 10, 108, 1), .inr (0, 9, 0, 0), .inr (0, 9, 0, 0), .inr (0, 9, 0, 0), .inr (0, 9, 0, 0), .inr (0, 9, 0, 0), .inr (0, 9, 0, 0), .inr (0, 9, 0, 0), .inr (0, 9, 0, 0), .inr (0, 9, 0, 0), .inr (0, 9, 0, 0), .inl (6, [none, none, some 119]), .inr (3, 10, 120, 1), .inr (0, 9, 0, 0), .inr (0, 9, 0, 0), .inr (0, 9, 0, 0), .inr (0, 9, 0, 0), .inr (0, 9, 0, 0), .inr (0, 9, 0, 0), .inr (0, 9, 0, 0), .inr (0, 9, 0, 0), .inr (0, 9, 0, 0), .inr (0, 9, 0, 0), .inl (6, [none, none, some 131]), .inr (3, 10, 132, 1), .inr (0, 9, 0, 0), .inr (0, 9, 0, 0), .inr (0, 9, 0, 0), .inr (0, 9, 0, 0), .inr (0, 9, 0, 0), .inr (0, 9, 0, 0), .inr (0, 9, 0, 0), .inr (0, 9, 0, 0), .inr (0, 9, 0, 0), .inr (0, 9, 0, 0), .inl (6, [none, none, some 143]), .inr (3, 10, 144, 1), .inr (0, 9, 0, 0), .inr (0, 9, 0, 0), .inr (0, 9, 0, 0), .inr (0, 9, 0, 0), .inr (0, 9, 0, 0), .inr (0, 9, 0, 0), .inr (0, 9, 0, 0), .inr (0, 9, 0, 0), .inr (0, 9, 0, 0), .inr (0, 9, 0, 0), .inl (1, [some 155, some 156, some 157, none, none, none, none, none]), .inr (0, 9, 0, 0), .inr (0, 9, 0, 0), .inr (0, 9, 0, 0), .inl (1, [some 159, some 160, some 161, none, none, none, none, none]), .inr (0, 9, 0, 0), .inr (0, 9, 0, 0), .inr (0, 9, 0, 0), .inl (1, [some 163, some 164, some 165, none, none, none, none, none]), .inr (0, 9, 0, 0), .inr (0, 9, 0, 0), .inr (0, 9, 0, 0), .inl (1, [some 167, some 168, some 169, none, none, none, none, none]), .inr (0, 9, 0, 0), .inr (0, 9, 0, 0), .inr (0, 9, 0, 0), .inl (1, [some 171, some 172, some 173, none, none, none, none, none]), .inr (0, 9, 0, 0), .inr (0, 9, 0, 0), .inr (0, 9, 0, 0), .inl (1, [some 175, some 176, some 177, none, none, none, none, none]), .inr (0, 9, 0, 0), .inr (0, 9, 0, 0), .inr (0, 9, 0, 0), .inl (1, [some 179, some 180, some 181, none, none, none, none, none]), .inr (0, 9, 0, 0), .inr (0, 9, 0, 0), .inr (0, 9, 0, 0), .inl (1, [some 183, some 184, some 185, none, none, none, none, none]), .inr (0, 9, 0, 0), .inr (0, 9, 0, 0), .inr (0, 9, 0, 0), .inl (1, [some 187, some 188, some 189, none, none, none, none, none]), .inr (0, 9, 0, 0), .inr (0, 9, 0, 0), .inr (0, 9, 0, 0), .inl (1, [some 191, some 192, some 193, none, none, none, none, none]), .inr (0, 9, 0, 0), .inr (0, 9, 0, 0), .inr (0, 9, 0, 0), .inl (1, [some 195, some 196, some 197, none, none, none, none, none]), .inr (0, 9, 0, 0), .inr (0, 9, 0, 0), .inr (0, 9, 0, 0), .inl (1, [some 199, some 200, some 201, none, none, none, none, none]), .inr (0, 9, 0, 0), .inr (0, 9, 0, 0), .inr (0, 9, 0, 0), .inl (1, [some 203, some 204, some 205, none, none, none, none, none]), .inr (0, 9, 0, 0), .inr (0, 9, 0, 0), .inr (0, 9, 0, 0), .inl (1, [some 207, some 208, some 209, none, none, none, none, none]), .inr (0, 9, 0, 0), .inr (0, 9, 0, 0), .inr (0, 9, 0, 0), .inl (1, [some 211, some 212, some 213, none, none, none, none, none]), .inr (0, 9, 0, 0), .inr (0, 9, 0, 0), .inr (0, 9, 0, 0), .inl (1, [some 215, some 216, some 217, none, none, none, none, none]), .inr (0, 9, 0, 0), .inr (0, 9, 0, 0), .inr (0, 9, 0, 0), .inl (1, [some 219, some 220, some 221, none, none, none, none, none]), .inr (0, 9, 0, 0), .inr (0, 9, 0, 0), .inr (0, 9, 0, 0), .inl (1, [some 223, some 224, some 225, none, none, none, none, none]), .inr (0, 9, 0, 0), .inr (0, 9, 0, 0), .inr (0, 9, 0, 0), .inl (1, [some 227, some 228, some 229, none, none, none, none, none]), .inr (0, 9, 0, 0), .inr (0, 9, 0, 0), .inr (0, 9, 0, 0), .inl (1, [some 231, some 232, some 233, none, none, none, none, none]), .inr (0, 9, 0, 0), .inr (0, 9, 0, 0), .inr (0, 9, 0, 0), .inl (1, [some 235, some 236, some 237, none, none, none, none, none]), .inr (0, 9, 0, 0), .inr (0, 9, 0, 0), .inr (0, 9, 0, 0), .inl (1, [some 239, some 240, some 241, none, none, none, none, none]), .inr (0, 9, 0, 0), .inr (0, 9, 0, 0), .inr (0, 9, 0, 0), .inl (1, [some 243, some 244, some 245, none, none, none, none, none]), .inr (0, 9, 0, 0), .inr (0, 9, 0, 0), .inr (0, 9, 0, 0), .inl (1, [some 247, some 248, some 249, none, none, none, none, none]), .inr (0, 9, 0, 0), .inr (0, 9, 0, 0), .inr (0, 9, 0, 0), .inl (1, [some 251, some 252, some 253, none, none, none, none, none]), .inr (0, 9, 0, 0), .inr (0, 9, 0, 0), .inr (0, 9, 0, 0), .inl (1, [some 255, some 256, some 257, none, none, none, none, none]), .inr (0, 9, 0, 0), .inr (0, 9, 0, 0), .inr (0, 9, 0, 0), .inl (1, [some 259, some 260, some 261, none, none, none, none, none]), .inr (0, 9, 0, 0), .inr (0, 9, 0, 0), .inr (0, 9, 0, 0), .inl (1, [some 263, some 264, some 265, none, none, none, none, none]), .inr (0, 9, 0, 0), .inr (0, 9, 0, 0), .inr (0, 9, 0, 0), .inl (1, [some 267, some 268, some 269, none, none, none, none, none]), .inr (0, 9, 0, 0), .inr (0, 9, 0, 0), .inr (0, 9, 0, 0), .inl (1, [some 271, some 272, some 273, none, none, none, none, none]), .inr (0, 9, 0, 0), .inr (0, 9, 0, 0), .inr (0, 9, 0, 0)]
def gd_H (La : List gx_K) : Prop := ∀ c, c < 262 → La[12 + c]? = gd_L[c]?
theorem gd_12 {La : List gx_K} (h : gd_H La) : La[12]? = some (.inl (7, [some 13, some 14, some 15, some 16, some 17, some 18])) := h 0 (by decide)
theorem gd_13 {La : List gx_K} (h : gd_H La) : La[13]? = some (.inl (0, [some 46, some 19, some 25, some 29, some 30, some 31, some 32, some 33, some 34, some 35, some 36])) := h 1 (by decide)
theorem gd_14 {La : List gx_K} (h : gd_H La) : La[14]? = some (.inl (3, [some 41, none, some 42, none, none, none, none])) := h 2 (by decide)
theorem gd_15 {La : List gx_K} (h : gd_H La) : La[15]? = some (.inl (4, [some 43, none, some 44])) := h 3 (by decide)
theorem gd_16 {La : List gx_K} (h : gd_H La) : La[16]? = some (.inl (2, [some 45, none, none])) := h 4 (by decide)
theorem gd_17 {La : List gx_K} (h : gd_H La) : La[17]? = some (.inr (4, 2, 58, 12)) := h 5 (by decide)
theorem gd_18 {La : List gx_K} (h : gd_H La) : La[18]? = some (.inr (2, 2, 0, 0)) := h 6 (by decide)
theorem gd_19 {La : List gx_K} (h : gd_H La) : La[19]? = some (.inl (5, [some 20, none, none])) := h 7 (by decide)
theorem gd_20 {La : List gx_K} (h : gd_H La) : La[20]? = some (.inr (3, 4, 21, 1)) := h 8 (by decide)
theorem gd_25 {La : List gx_K} (h : gd_H La) : La[25]? = some (.inr (3, 3, 26, 1)) := h 13 (by decide)
theorem gd_29 {La : List gx_K} (h : gd_H La) : La[29]? = some (.inr (0, 9, 0, 0)) := h 17 (by decide)
theorem gd_30 {La : List gx_K} (h : gd_H La) : La[30]? = some (.inr (0, 9, 0, 0)) := h 18 (by decide)
theorem gd_31 {La : List gx_K} (h : gd_H La) : La[31]? = some (.inr (0, 9, 0, 0)) := h 19 (by decide)
theorem gd_32 {La : List gx_K} (h : gd_H La) : La[32]? = some (.inr (0, 9, 0, 0)) := h 20 (by decide)
theorem gd_33 {La : List gx_K} (h : gd_H La) : La[33]? = some (.inr (0, 9, 0, 0)) := h 21 (by decide)
theorem gd_34 {La : List gx_K} (h : gd_H La) : La[34]? = some (.inr (0, 9, 0, 0)) := h 22 (by decide)
theorem gd_35 {La : List gx_K} (h : gd_H La) : La[35]? = some (.inr (0, 9, 0, 0)) := h 23 (by decide)
theorem gd_36 {La : List gx_K} (h : gd_H La) : La[36]? = some (.inr (3, 4, 37, 1)) := h 24 (by decide)
theorem gd_41 {La : List gx_K} (h : gd_H La) : La[41]? = some (.inr (1, 60, 0, 0)) := h 29 (by decide)
theorem gd_42 {La : List gx_K} (h : gd_H La) : La[42]? = some (.inr (0, 60, 0, 0)) := h 30 (by decide)
theorem gd_43 {La : List gx_K} (h : gd_H La) : La[43]? = some (.inr (5, 30, 154, 4)) := h 31 (by decide)
theorem gd_44 {La : List gx_K} (h : gd_H La) : La[44]? = some (.inr (0, 9, 0, 0)) := h 32 (by decide)
theorem gd_45 {La : List gx_K} (h : gd_H La) : La[45]? = some (.inr (4, 6, 82, 12)) := h 33 (by decide)
theorem gd_rw {La : List gx_K} (h : gd_H La) (j : Nat) (hj : j < 4) : La[21 + j]? = some (.inr (0, 9, 0, 0)) := by
  have h1 : ∀ k : Fin 4, gd_L[9 + k.val]? = some (.inr (0, 9, 0, 0)) := by decide +kernel
  have h2 := h (9 + j) (by omega)
  rw [show 12 + (9 + j) = 21 + j by omega] at h2
  rw [h2]
  exact h1 ⟨j, hj⟩
theorem gd_pt {La : List gx_K} (h : gd_H La) (j : Nat) (hj : j < 3) : La[26 + j]? = some (.inr (0, 9, 0, 0)) := by
  have h1 : ∀ k : Fin 3, gd_L[14 + k.val]? = some (.inr (0, 9, 0, 0)) := by decide +kernel
  have h2 := h (14 + j) (by omega)
  rw [show 12 + (14 + j) = 26 + j by omega] at h2
  rw [h2]
  exact h1 ⟨j, hj⟩
theorem gd_pw {La : List gx_K} (h : gd_H La) (j : Nat) (hj : j < 4) : La[37 + j]? = some (.inr (0, 9, 0, 0)) := by
  have h1 : ∀ k : Fin 4, gd_L[25 + k.val]? = some (.inr (0, 9, 0, 0)) := by decide +kernel
  have h2 := h (25 + j) (by omega)
  rw [show 12 + (25 + j) = 37 + j by omega] at h2
  rw [h2]
  exact h1 ⟨j, hj⟩
/-- a state's cells, from c on -/
def gd_S (La : List gx_K) (c : Nat) : Prop := La[c]? = some (.inl (6, [none, none, some (c + 1)])) ∧ La[c + 1]? = some (.inr (3, 10, c + 2, 1)) ∧ ∀ j, j < 10 → La[c + 2 + j]? = some (.inr (0, 9, 0, 0))
theorem gd_s {La : List gx_K} (h : gd_H La) (i : Nat) (hi : i < 9) : gd_S La (46 + 12 * i) := by
  have h1 : ∀ k : Fin 9, gd_L[34 + 12 * k.val]? = some (.inl (6, [none, none, some (46 + 12 * k.val + 1)])) := by decide +kernel
  have h2 : ∀ k : Fin 9, gd_L[34 + 12 * k.val + 1]? = some (.inr (3, 10, 46 + 12 * k.val + 2, 1)) := by decide +kernel
  have h3 : ∀ q : Fin 90, gd_L[34 + 12 * (q.val / 10) + 2 + q.val % 10]? = some (.inr (0, 9, 0, 0)) := by decide +kernel
  have a := h1 ⟨i, hi⟩
  have b := h2 ⟨i, hi⟩
  have d : ∀ j, j < 10 → gd_L[34 + 12 * i + 2 + j]? = some (.inr (0, 9, 0, 0)) := fun j hj => by
    have := h3 ⟨10 * i + j, by omega⟩
    rwa [show (10 * i + j) / 10 = i by omega, show (10 * i + j) % 10 = j by omega] at this
  refine ⟨?_, ?_, fun j hj => ?_⟩
  · have h2 := h (34 + 12 * i) (by omega)
    rw [show 12 + (34 + 12 * i) = 46 + 12 * i by omega] at h2
    rw [h2]
    exact a
  · have h2 := h (34 + 12 * i + 1) (by omega)
    rw [show 12 + (34 + 12 * i + 1) = 46 + 12 * i + 1 by omega] at h2
    rw [h2]
    exact b
  · have h2 := h (34 + 12 * i + 2 + j) (by omega)
    rw [show 12 + (34 + 12 * i + 2 + j) = 46 + 12 * i + 2 + j by omega] at h2
    rw [h2]
    exact d j hj
theorem gd_now {La : List gx_K} (h : gd_H La) : gd_S La 46 := gd_s h 0 (by decide)
/-- a frame's cells, from c on -/
def gd_F (La : List gx_K) (c : Nat) : Prop := La[c]? = some (.inl (1, [some (c + 1), some (c + 2), some (c + 3), none, none, none, none, none])) ∧ ∀ j, j < 3 → La[c + 1 + j]? = some (.inr (0, 9, 0, 0))
theorem gd_f {La : List gx_K} (h : gd_H La) (i : Nat) (hi : i < 30) : gd_F La (154 + 4 * i) := by
  have h1 : ∀ k : Fin 30, gd_L[142 + 4 * k.val]? = some (.inl (1, [some (154 + 4 * k.val + 1), some (154 + 4 * k.val + 2), some (154 + 4 * k.val + 3), none, none, none, none, none])) := by decide +kernel
  have h3 : ∀ q : Fin 90, gd_L[142 + 4 * (q.val / 3) + 1 + q.val % 3]? = some (.inr (0, 9, 0, 0)) := by decide +kernel
  have a := h1 ⟨i, hi⟩
  have d : ∀ j, j < 3 → gd_L[142 + 4 * i + 1 + j]? = some (.inr (0, 9, 0, 0)) := fun j hj => by
    have := h3 ⟨3 * i + j, by omega⟩
    rwa [show (3 * i + j) / 3 = i by omega, show (3 * i + j) % 3 = j by omega] at this
  refine ⟨?_, fun j hj => ?_⟩
  · have h2 := h (142 + 4 * i) (by omega)
    rw [show 12 + (142 + 4 * i) = 154 + 4 * i by omega] at h2
    rw [h2]
    exact a
  · have h2 := h (142 + 4 * i + 1 + j) (by omega)
    rw [show 12 + (142 + 4 * i + 1 + j) = 154 + 4 * i + 1 + j by omega] at h2
    rw [h2]
    exact d j hj
section GXF
variable {p : Program} {l : Launch} {e : Env} {R : Room} {s : State} {m : MethodId} {args : Array Value} {below : List Frame} {meth : Method} {c : Code} {cells slots : Nat} {Q : State → Prop}
variable {cc : ByteArray} {own : String} {nL : Nat} {Ts : List Cond} {ret : Option FieldType} {D : va_G} {tc : Nat → ClassId} {ad : Nat → Nat} {La : List gx_K} {A : Nat → Prop} {H0 : Heap}
variable {pc : Nat} {L st : List gx_V} {M : gx_M}
/-- nine ints from one array into another -/
theorem gx_acopy (C : gx_C p R s m args meth c cc own nL Ts ret D tc ad La A H0) {a b index : Nat} (ha : La[a]? = some (.inr (0, 9, 0, 0))) (hb : La[b]? = some (.inr (0, 9, 0, 0))) (w1 : Cond.methodLink own index arraycopyName ∈ Ts) (w2 : Cond.native arraycopyName ∈ Ts) (w3 : Cond.static arraycopyName ∈ Ts) (w4 : Cond.initialized "java/lang/System" ∈ Ts) (hst : (st.map gx_c2).sum ≤ 8) (hR : 1 ≤ R.frames ∧ 8 + (nativeFrameWords "java/lang/System" "arraycopy" 5 + 11) ≤ R.locals) (d : decode cc pc = .ok (.invokestatic index, 3))
    (kk : gx_G p l e R s m args below meth c cells slots Q nL D tc ad La A H0 (pc + 3) L st (gx_blk M b 0 9 (mx_of (M a) 0))) : gx_G p l e R s m args below meth c cells slots Q nL D tc ad La A H0 pc L (gx_I 9 :: gx_I 0 :: gx_R b :: gx_I 0 :: gx_R a :: st) M := by
  intro H locs ls hP hS hl
  refine va_copyi (f := fun i => gx_i (M a i)) (g := fun i => gx_i (M b i)) (ty := .int) (gx_hx C) (gx_hb C) ((gx_hml C).trans hl.1.symm) (gx_hown C) (gx_hts C _ w1) (gx_hts C _ w2) (gx_hts C _ w3) (gx_hts C _ w4) (gx_hK C) hP (gx_Dw C M) hS _ _ 0 0 (gx_at ha rfl) (gx_at hb rfl) rfl rfl rfl (by decide) (by decide) (by decide) (by decide) (by decide) (fun i _ => rfl) hR.1 (Nat.le_trans (Nat.add_le_add_right (gx_cs hst) _) hR.2) d (fun H1 locs1 hP1 _ hS1 => ?_)
  have e : (gx_w La tc ad M).set (b - gx_k0 La) (ad b, .inl (tc 0, 9, .inl (va_cpy (fun i => gx_i (M a i)) (fun i => gx_i (M b i)) (Int32.toNatClampNeg (gx_i 0)) (Int32.toNatClampNeg (gx_i 0)) (Int32.toNatClampNeg (gx_i 9))))) = gx_w La tc ad (gx_blk M b 0 9 (mx_of (M a) 0)) := by
    have h1 := gx_set (tc := tc) (ad := ad) (M := M) (f := gx_blk M b 0 9 (mx_of (M a) 0) b) hb rfl
    have h2 : (fun c' => if c' = b then gx_blk M b 0 9 (mx_of (M a) 0) b else M c') = gx_blk M b 0 9 (mx_of (M a) 0) := by
      funext c'
      by_cases e : c' = b
      · rw [if_pos e, e]
      · rw [if_neg e, gx_blk_nc e]
    rw [h2] at h1
    rw [← h1]
    congr 1
    show (ad b, Sum.inl (tc 0, 9, Sum.inl _)) = (ad b, Sum.inl (tc 0, 9, Sum.inl _))
    congr 4
    refine congrArg Sum.inl (funext fun i => ?_)
    show va_cpy (fun i => gx_i (M a i)) (fun i => gx_i (M b i)) 0 0 9 i = gx_i (gx_blk M b 0 9 (mx_of (M a) 0) b i)
    unfold va_cpy
    by_cases e : i < 9
    · rw [if_pos (by omega)]
      have := gx_blk_in (M := M) (c := b) (o := 0) (n := 9) (k := i) (f := mx_of (M a) 0) e
      rw [Nat.zero_add] at this
      rw [this, mx_of_at e]
      simp
    · rw [if_neg (by omega), gx_blk_out (by omega)]
  rw [e] at hP1
  exact kk H1 locs1 ls hP1 hS1 hl
theorem gx_min (C : gx_C p R s m args meth c cc own nL Ts ret D tc ad La A H0) {x y v : Int} {index : Nat} (w1 : Cond.methodLink own index Lib.Math.min.name ∈ Ts) (w2 : Cond.static Lib.Math.min.name ∈ Ts) (w3 : Cond.initialized "java/lang/Math" ∈ Ts) (w4 : Cond.code Lib.Math.min.name Lib.Math.min.code 2 (some .int) ∈ Ts) (hx : gx_3 x) (hy : gx_3 y) (hv : (if y < x then y else x) = v) (hst : (st.map gx_c2).sum ≤ 8) (hR : 1 ≤ R.frames ∧ 21 ≤ R.locals) (hc : cells ≤ R.cells ∧ slots ≤ R.slots) (d : decode cc pc = .ok (.invokestatic index, 3))
    (kk : gx_G p l e R s m args below meth c cells slots Q nL D tc ad La A H0 (pc + 3) L (gx_I v :: st) M) : gx_G p l e R s m args below meth c cells slots Q nL D tc ad La A H0 pc L (gx_I y :: gx_I x :: st) M := by
  intro H locs ls hP hS hl
  refine va_mmin (gx_hx C) (gx_hb C) ((gx_hml C).trans hl.1.symm) (gx_hown C) (gx_hts C _ w1) (gx_hts C _ w2) (gx_hts C _ w3) (gx_hts C _ w4) hR.1 (Nat.le_trans (Nat.add_le_add_right (gx_cs hst) _) hR.2) hc.1 hc.2 d ?_
  have e : (if gx_i y < gx_i x then gx_i y else gx_i x) = gx_i v := by
    rw [← hv]
    by_cases h : y < x
    · rw [if_pos h, if_pos ((gx_lt hy hx).mpr h)]
    · rw [if_neg h, if_neg (fun q => h ((gx_lt hy hx).mp q))]
  rw [e]
  exact kk H locs ls hP hS hl
end GXF
