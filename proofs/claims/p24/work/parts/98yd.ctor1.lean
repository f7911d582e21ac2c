/-! constructors: State, Rows, Pad, Frame -/
theorem gn_fs6 : ∀ j, j < 3 → defaultValue (tyX6 j) = vp_V [.int (gx_i 0), .int (gx_i 0), .null] j := fun j hj => by
  rcases (show j = 0 ∨ j = 1 ∨ j = 2 by omega) with rfl | rfl | rfl <;> rfl
set_option maxRecDepth 100000 in
theorem c_X6_init (MNA : gn_MNA) {i : Nat} (hi : i < 9) {ad : Nat → Nat} {tc : Nat → ClassId} {w : gn_W} {z0 c : Nat} (hc : c = 46 + 12 * i) (had : ∀ j, j < 12 → ad (c + j) = ad c + j) (hz : ad c + 1 = z0) (hw : w c = some (.inr (6, [.int (gx_i 0), .int (gx_i 0), .null]))) : gn_I yX6_init wsX6_init 2 11 100 c ad tc w (gn_f tc ad c (c + 12) w) z0 := by
  refine gn_start (own := RX6) (maxL := 1) (L := [gx_R c]) (by decide) rfl rfl rfl (Nat.le_refl _) rfl ?_
  intro l D A p e s m args below meth c' hname C
  refine gp_aload_n C.1 dX6_init_0 rfl ?_
  refine gn_obj C (by decide +kernel) (by decide +kernel) (by decide +kernel) (by decide) (Nat.le_of_ble_eq_true rfl) (Nat.le_of_ble_eq_true rfl) dX6_init_1 ?_
  refine gp_aload_n C.1 dX6_init_4 rfl ?_
  refine gp_bipush C.1 dX6_init_5 rfl ?_
  refine gp_bipush C.1 dX6_init_7 rfl ?_
  refine gn_mna MNA C (c + 1) 10 9 rfl rfl (by decide +kernel) (by decide +kernel) (by decide) (by decide) (by omega) (by have := had 1 (by omega); omega) (fun j hj => by have h1 := had 1 (by omega); have h2 := had (1 + j) (by omega); rw [Nat.add_assoc, h2, h1]; omega) (Or.inl rfl) ⟨Nat.le_of_ble_eq_true rfl, Nat.le_of_ble_eq_true rfl⟩ dX6_init_9 ?_
  have hw1 : gn_m tc ad w (c + 1) 10 9 c = some (.inr (6, [.int (gx_i 0), .int (gx_i 0), .null])) := by
    unfold gn_m
    rw [if_neg (by omega), if_neg (by omega)]
    exact hw
  refine gn_putF C 6 c 2 (c + 1) rfl hw1 (by decide) (by decide) nX6_init_6 tyX6 tyX6_ok nmX6 (gx_hts C.1 _ fX6_init_11) rfl rfl hname (fun x => ⟨rfl, rfl⟩) dX6_init_13 ?_
  refine gp_aload_n C.1 dX6_init_16 rfl ?_
  refine gp_iconst C.1 dX6_init_17 ?_
  refine gp_iconst C.1 dX6_init_18 ?_
  refine gn_callF C (ci := 6) (c0 := c) (La' := gn_S12) (M := fun _ _ => 0) rfl rfl rfl (by show c + 12 ≤ 274; omega) (c_X6_clear (c := 0) gn_S12S (Or.inl rfl)) (fun j k hk => ?_) (cwV 2 (gx_hts C.1) gX6_init_X6_clear rfl rfl rfl (by decide +kernel) ⟨Nat.le_of_ble_eq_true rfl, Nat.le_of_ble_eq_true rfl⟩) (Nat.le_of_ble_eq_true rfl) ⟨Nat.le_refl _, Nat.le_refl _⟩ dX6_init_19 (fun M' h => ?_)
  · have hj : j < 12 := (List.getElem?_eq_some_iff.mp hk).1
    rcases (show j = 0 ∨ j = 1 ∨ 2 ≤ j by omega) with rfl | rfl | h2
    · cases hk
      exact gn_u_eq _ _ _
    · cases hk
      rw [gn_u_ne (by omega)]
      unfold gn_m
      rw [if_pos rfl]
      simp only [gx_E, gx_a]
      rw [if_neg (by decide), if_neg (by decide)]
      refine congrArg (fun q : Nat → Option Nat => (some (Sum.inl (tc 3, 10, Sum.inr (Sum.inr (Sum.inr (Sum.inr q))))) : Option va_E)) (funext fun q => ?_)
      congr 2
      omega
    · rw [gn_S12r j ⟨h2, hj⟩] at hk
      cases hk
      rw [gn_u_ne (by omega)]
      unfold gn_m
      rw [if_neg (by omega), if_pos ⟨by omega, by omega⟩]
      rfl
  · obtain ⟨h0, h1, hr, h8, h9, -⟩ := h
    obtain ⟨s0, s1, s2⟩ := gd_s gn_Hd i hi
    rw [← hc] at s0 s1 s2
    refine gn_vret C dX6_init_22 (fun H hH => ?_)
    intro c1 e1 he
    by_cases q : c ≤ c1 ∧ c1 < c + 12
    · rw [gn_f_in q] at he
      cases he
      have hb := hH c1 _ (show gn_b tc ad _ c gn_S12 M' c1 = some (gx_E tc (fun i => ad (c + i)) (M' (c1 - c)) (gn_S12.getD (c1 - c) (.inl (0, [])))) from if_pos q)
      refine ⟨hb.1, ?_⟩
      have hb := hb.2
      obtain ⟨j, rfl⟩ : ∃ j, c1 = c + j := ⟨c1 - c, by omega⟩
      rw [show c + j - c = j by omega] at hb
      rcases (show j = 0 ∨ j = 1 ∨ 2 ≤ j by omega) with rfl | rfl | h2
      · rw [gn_e_at (c := c + 0) s0]
        have e0 : gx_E tc (fun i => ad (c + i)) (M' 0) (gn_S12.getD 0 (.inl (0, []))) = gx_E tc ad (gn_M0 (c + 0)) (.inl (6, [none, none, some (c + 1)])) := by
          have m0 : gn_M0 (c + 0) 0 = 2 := by
            unfold gn_M0
            rw [if_neg (by omega), if_pos (by omega), if_pos (by omega), if_pos rfl]
          have m1 : gn_M0 (c + 0) 1 = 5 := by
            unfold gn_M0
            rw [if_neg (by omega), if_pos (by omega), if_pos (by omega), if_neg (by decide), if_pos rfl]
          show (Sum.inr (6, [.int (gx_i (M' 0 0)), .int (gx_i (M' 0 1)), .ref (ad (c + 1))]) : va_E) = Sum.inr (6, [.int (gx_i (gn_M0 (c + 0) 0)), .int (gx_i (gn_M0 (c + 0) 1)), .ref (ad (c + 1))])
          rw [m0, m1, h0, h1]
        rw [← e0]
        exact hb
      · rw [gn_e_at s1]
        exact gn_vq (g := fun q => some (ad (c + (2 + 1 * q)))) (by decide) (fun q hq => by congr 2; omega) hb
      · have s2 := s2 (j - 2) (by omega)
        rw [show c + 2 + (j - 2) = c + j by omega] at s2
        rw [gn_e_at s2]
        have e0 : gn_S12.getD j (.inl (0, [])) = .inr (0, 9, 0, 0) := by
          rw [List.getD_eq_getElem?_getD, gn_S12r j ⟨h2, by omega⟩]
          rfl
        rw [e0] at hb
        refine gn_vi (f := M' j) (by decide) (fun q hq => ?_) hb
        unfold gn_M0
        rw [if_neg (by omega), if_pos (by omega), if_neg (by omega)]
        by_cases h10 : 10 ≤ j
        · rw [if_pos (by omega)]
          have h3 : mx_of (M' j) 0 = mx_id 2 := by
            rcases (show j = 10 ∨ j = 11 by omega) with rfl | rfl
            · exact h8
            · exact h9
          have h4 := congrFun h3 q
          unfold mx_of at h4
          rw [if_pos hq, Nat.zero_add] at h4
          exact h4
        · rw [if_neg (by omega)]
          have h3 := hr (j - 2) (by omega)
          rw [show 0 + 2 + (j - 2) = j by omega] at h3
          have h4 := congrFun h3 q
          unfold mx_of at h4
          rw [if_pos hq, Nat.zero_add] at h4
          exact h4
    · rw [gn_f_ne q] at he
      refine hH c1 e1 ?_
      show (if c ≤ c1 ∧ c1 < c + 12 then _ else _) = _
      rw [if_neg q, gn_u_ne (by omega)]
      unfold gn_m
      rw [if_neg (by omega), if_neg (by omega)]
      exact he
