/-! where the cells lie, and the straight constructors -/
def gn_o (c : Nat) : Nat := if c < 12 then 262 + c else if c = 12 then 0 else if c = 13 then 1 else if c = 14 then 36 else if c = 15 then 39 else if c = 16 then 162 else if c = 17 then 236 else if c = 18 then 261 else if c < 41 then c - 5 else if c = 41 then 37 else if c = 42 then 38 else if c = 43 then 40 else if c = 44 then 161 else if c = 45 then 163 else if c < 58 then c - 44 else if c < 82 then c + 179 else if c < 154 then c + 82 else c - 113
def gn_oi (o : Nat) : Nat := if o = 0 then 12 else if o = 1 then 13 else if o < 14 then o + 44 else if o < 36 then o + 5 else if o = 36 then 14 else if o = 37 then 41 else if o = 38 then 42 else if o = 39 then 15 else if o = 40 then 43 else if o < 161 then o + 113 else if o = 161 then 44 else if o = 162 then 16 else if o = 163 then 45 else if o < 236 then o - 82 else if o = 236 then 17 else if o < 261 then o - 179 else if o = 261 then 18 else o - 262
def gn_ad (b : Nat) (c : Nat) : Nat := b + gn_o c
theorem gn_o_inj : ∀ i j, i < 274 → j < 274 → gn_o i = gn_o j → i = j := fun i j hi hj he => by
  have h : ∀ k : Fin 274, gn_oi (gn_o k.val) = k.val := by decide +kernel
  have h1 := h ⟨i, hi⟩
  have h2 := h ⟨j, hj⟩
  simp only at h1 h2
  rw [← h1, ← h2, he]
theorem gn_aA {A : Nat → Prop} {b : Nat} (hA : ∀ q, b ≤ q → A q) : gn_a A (gn_ad b) := ⟨fun i j hi hj he => gn_o_inj i j hi hj (by unfold gn_ad at he; omega), fun c _ => hA _ (Nat.le_add_right _ _)⟩
theorem gn_ad_r {b : Nat} (k n : Nat) (h : (List.range (n + 1)).all (fun i => gn_o (k + i) == gn_o k + i) = true) : ∀ i, i ≤ n → gn_ad b (k + i) = gn_ad b k + i := fun i hi => by
  have h1 := List.all_eq_true.mp h i (List.mem_range.mpr (by omega))
  have h2 : gn_o (k + i) = gn_o k + i := by simpa using h1
  unfold gn_ad
  omega
theorem gn_oS {b i : Nat} (hi : i < 9) (j : Nat) (hj : j < 12) : gn_ad b (46 + 12 * i + j) = gn_ad b (46 + 12 * i) + j := by
  have h : ∀ i : Fin 9, ∀ j : Fin 12, gn_o (46 + 12 * i.val + j.val) = gn_o (46 + 12 * i.val) + j.val := by decide +kernel
  have := h ⟨i, hi⟩ ⟨j, hj⟩
  unfold gn_ad
  simp only at this
  omega
theorem gn_oF {b i : Nat} (hi : i < 30) (j : Nat) (hj : j < 4) : gn_ad b (154 + 4 * i + j) = b + 41 + 4 * i + j := by
  have h : ∀ i : Fin 30, ∀ j : Fin 4, gn_o (154 + 4 * i.val + j.val) = 41 + 4 * i.val + j.val := by decide +kernel
  have := h ⟨i, hi⟩ ⟨j, hj⟩
  unfold gn_ad
  simp only at this
  omega
theorem gn_conv {p : Program} {l : Launch} {e : Env} {R : Room} {s : State} {m : MethodId} {args : Array Value} {below : List Frame} {meth : Method} {c : Code} {cells slots : Nat} {Q : State → Prop} {nL : Nat} {D : va_G} {ad : Nat → Nat} {A : Nat → Prop} {H0 : Heap} {w w' : gn_W} {pc : Nat} {L st : List gx_V} (h : ∀ H, gn_H D ad w H → gn_H D ad w' H) (k : gp_G p l e R s m args below meth c cells slots Q nL ad (gn_P D ad A H0 w') pc L st) : gp_G p l e R s m args below meth c cells slots Q nL ad (gn_P D ad A H0 w) pc L st := fun H locs ls hP hl => k H locs ls ⟨h H hP.1, hP.2⟩ hl
theorem gn_u_self {w : gn_W} {c c1 : Nat} {e0 e1 : va_E} (hw : w c = some e0) (h : gn_u w c e0 c1 = some e1) : w c1 = some e1 := by
  by_cases q : c1 = c
  · subst q
    rw [gn_u_eq] at h
    rw [hw]
    exact h
  · rwa [gn_u_ne q] at h
theorem gn_m_ne {tc : Nat → ClassId} {ad : Nat → Nat} {w : gn_W} {k0 n k c : Nat} (h : c < k0 ∨ k0 + n < c) : gn_m tc ad w k0 n k c = w c := by
  unfold gn_m
  rw [if_neg (by omega), if_neg (by omega)]
theorem gn_fs0 : ∀ j, j < 11 → defaultValue (tyX0 j) = vp_V [.null, .null, .null, .null, .null, .null, .null, .null, .null, .null, .null] j := fun j hj => by
  rcases (show j = 0 ∨ j = 1 ∨ j = 2 ∨ j = 3 ∨ j = 4 ∨ j = 5 ∨ j = 6 ∨ j = 7 ∨ j = 8 ∨ j = 9 ∨ j = 10 by omega) with rfl | rfl | rfl | rfl | rfl | rfl | rfl | rfl | rfl | rfl | rfl <;> rfl
theorem gn_fs1 : ∀ j, j < 8 → defaultValue (tyX1 j) = vp_V [.null, .null, .null, .int (gx_i 0), .int (gx_i 0), .int (gx_i 0), .int (gx_i 0), .int (gx_i 0)] j := fun j hj => by
  rcases (show j = 0 ∨ j = 1 ∨ j = 2 ∨ j = 3 ∨ j = 4 ∨ j = 5 ∨ j = 6 ∨ j = 7 by omega) with rfl | rfl | rfl | rfl | rfl | rfl | rfl | rfl <;> rfl
theorem gn_fs2 : ∀ j, j < 3 → defaultValue (tyX2 j) = vp_V [.null, .int (gx_i 0), .int (gx_i 0)] j := fun j hj => by
  rcases (show j = 0 ∨ j = 1 ∨ j = 2 by omega) with rfl | rfl | rfl <;> rfl
theorem gn_fs3 : ∀ j, j < 7 → defaultValue (tyX3 j) = vp_V [.null, .int (gx_i 0), .null, .int (gx_i 0), .int (gx_i 0), .int (gx_i 0), .int (gx_i 0)] j := fun j hj => by
  rcases (show j = 0 ∨ j = 1 ∨ j = 2 ∨ j = 3 ∨ j = 4 ∨ j = 5 ∨ j = 6 by omega) with rfl | rfl | rfl | rfl | rfl | rfl | rfl <;> rfl
theorem gn_fs4 : ∀ j, j < 3 → defaultValue (tyX4 j) = vp_V [.null, .int (gx_i 0), .null] j := fun j hj => by
  rcases (show j = 0 ∨ j = 1 ∨ j = 2 by omega) with rfl | rfl | rfl <;> rfl
theorem gn_fs5 : ∀ j, j < 3 → defaultValue (tyX5 j) = vp_V [.null, .int (gx_i 0), .int (gx_i 0)] j := fun j hj => by
  rcases (show j = 0 ∨ j = 1 ∨ j = 2 by omega) with rfl | rfl | rfl <;> rfl
set_option maxRecDepth 100000 in
theorem c_X5_init (MNA : gn_MNA) {b : Nat} {tc : Nat → ClassId} {w : gn_W} (hw : w 19 = some (.inr (5, [.null, .int (gx_i 0), .int (gx_i 0)]))) : gn_I yX5_init wsX5_init 1 5 40 19 (gn_ad b) tc w (gn_f tc (gn_ad b) 19 25 w) (b + 15) := by
  refine gn_start (own := RX5) (maxL := 1) (L := [gx_R 19]) (by decide) rfl rfl rfl (Nat.le_of_ble_eq_true rfl) rfl ?_
  intro l D A p e s m args below meth c' hname C
  refine gn_conv (w' := gn_u w 19 (.inr (5, [.null, .int (gx_i 0), .int (gx_i 0)]))) (fun H hH c1 e1 he => hH c1 e1 (gn_u_self hw he)) ?_
  refine gp_aload_n C.1 dX5_init_0 rfl ?_
  refine gn_obj C (by decide +kernel) (by decide +kernel) (by decide +kernel) (Nat.le_of_ble_eq_true rfl) (Nat.le_of_ble_eq_true rfl) (Nat.le_of_ble_eq_true rfl) dX5_init_1 ?_
  refine gp_aload_n C.1 dX5_init_4 rfl ?_
  refine gp_iconst C.1 dX5_init_5 ?_
  refine gp_bipush C.1 dX5_init_6 rfl ?_
  refine gn_mna MNA C 20 4 9 rfl rfl (by decide +kernel) (by decide +kernel) (by decide) (by decide) (by decide) (by have h : gn_o 20 = 15 := rfl; unfold gn_ad; omega) (gn_ad_r 20 4 (by decide +kernel)) (Or.inl rfl) ⟨Nat.le_of_ble_eq_true rfl, Nat.le_of_ble_eq_true rfl⟩ dX5_init_8 ?_
  refine gn_putF C 5 19 0 20 rfl rfl (by decide) (Nat.le_of_ble_eq_true rfl) nX5_init_5 tyX5 tyX5_ok nmX5 (gx_hts C.1 _ fX5_init_11) rfl rfl hname (fun x => ⟨rfl, rfl⟩) dX5_init_12 ?_
  refine gn_vret C dX5_init_15 (fun H hH c1 e1 he => hH c1 e1 ?_)
  by_cases q : c1 = 19 ∨ c1 = 20 ∨ c1 = 21 ∨ c1 = 22 ∨ c1 = 23 ∨ c1 = 24
  · rcases q with rfl | rfl | rfl | rfl | rfl | rfl <;> exact he
  · rw [gn_f_ne (by omega)] at he
    rw [gn_u_ne (by omega), gn_m_ne (by omega), gn_u_ne (by omega)]
    exact he
set_option maxRecDepth 100000 in
theorem c_X3_init {b : Nat} {tc : Nat → ClassId} {w : gn_W} (hw : w 14 = some (.inr (3, [.null, .int (gx_i 0), .null, .int (gx_i 0), .int (gx_i 0), .int (gx_i 0), .int (gx_i 0)]))) : gn_I yX3_init wsX3_init 1 2 120 14 (gn_ad b) tc w (gn_f tc (gn_ad b) 14 15 (gn_f tc (gn_ad b) 41 43 w)) (b + 37) := by
  refine gn_start (own := RX3) (maxL := 1) (L := [gx_R 14]) (by decide) rfl rfl rfl (Nat.le_of_ble_eq_true rfl) rfl ?_
  intro l D A p e s m args below meth c' hname C
  refine gn_conv (w' := gn_u w 14 (.inr (3, [.null, .int (gx_i 0), .null, .int (gx_i 0), .int (gx_i 0), .int (gx_i 0), .int (gx_i 0)]))) (fun H hH c1 e1 he => hH c1 e1 (gn_u_self hw he)) ?_
  refine gp_aload_n C.1 dX3_init_0 rfl ?_
  refine gn_obj C (by decide +kernel) (by decide +kernel) (by decide +kernel) (Nat.le_of_ble_eq_true rfl) (Nat.le_of_ble_eq_true rfl) (Nat.le_of_ble_eq_true rfl) dX3_init_1 ?_
  refine gp_aload_n C.1 dX3_init_4 rfl ?_
  refine gp_bipush C.1 dX3_init_5 rfl ?_
  refine gn_newa C (atype := .char) (k := 41) (N := 60) 1 (by decide +kernel) rfl rfl rfl (by decide) (by decide) (by decide) (by have h : gn_o 41 = 37 := rfl; unfold gn_ad; omega) (Or.inl rfl) ⟨Nat.le_of_ble_eq_true rfl, Nat.le_of_ble_eq_true rfl⟩ dX3_init_7 ?_
  refine gn_putF C 3 14 0 41 rfl rfl (by decide) (Nat.le_of_ble_eq_true rfl) nX3_init_3 tyX3 tyX3_ok nmX3 (gx_hts C.1 _ fX3_init_9) rfl rfl hname (fun x => ⟨rfl, rfl⟩) dX3_init_9 ?_
  refine gp_aload_n C.1 dX3_init_12 rfl ?_
  refine gp_bipush C.1 dX3_init_13 rfl ?_
  refine gn_newa C (atype := .int) (k := 42) (N := 60) 0 (by decide +kernel) rfl rfl rfl (by decide) (by decide) (by decide) (by have h : gn_o 42 = 38 := rfl; unfold gn_ad; omega) (Or.inr ⟨41, _, rfl, by have h : gn_o 41 = 37 := rfl; unfold gn_ad; omega⟩) ⟨Nat.le_of_ble_eq_true rfl, Nat.le_of_ble_eq_true rfl⟩ dX3_init_15 ?_
  refine gn_putF C 3 14 2 42 rfl rfl (by decide) (Nat.le_of_ble_eq_true rfl) nX3_init_3 tyX3 tyX3_ok nmX3 (gx_hts C.1 _ fX3_init_15) rfl rfl hname (fun x => ⟨rfl, rfl⟩) dX3_init_17 ?_
  refine gn_vret C dX3_init_20 (fun H hH c1 e1 he => hH c1 e1 ?_)
  by_cases q : c1 = 14 ∨ c1 = 41 ∨ c1 = 42
  · rcases q with rfl | rfl | rfl <;> exact he
  · rw [gn_f_ne (by omega), gn_f_ne (by omega)] at he
    rw [gn_u_ne (by omega), gn_u_ne (by omega), gn_u_ne (by omega), gn_u_ne (by omega), gn_u_ne (by omega)]
    exact he
