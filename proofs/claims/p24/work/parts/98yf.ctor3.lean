/-! constructors: Frame, Algebra, the reference -/
theorem gn_Iz {y : MethodName} {ws : List Cond} {d mc ms this : Nat} {ad : Nat → Nat} {tc : Nat → ClassId} {w w' : gn_W} {z0 z1 : Nat} (h : z0 = z1) (K : gn_I y ws d mc ms this ad tc w w' z0) : gn_I y ws d mc ms this ad tc w w' z1 := h ▸ K
theorem gn_M0z {c : Nat} (h : c = 0 ∨ (2 ≤ c ∧ c < 46) ∨ 154 ≤ c) : gn_M0 c = fun _ => 0 := by
  funext j
  unfold gn_M0
  rw [if_neg (by omega), if_neg (by omega)]
set_option maxRecDepth 100000 in
theorem c_X1_init {b i : Nat} (hi : i < 30) {tc : Nat → ClassId} {w : gn_W} (hw : w (154 + 4 * i) = some (.inr (1, [.null, .null, .null, .int (gx_i 0), .int (gx_i 0), .int (gx_i 0), .int (gx_i 0), .int (gx_i 0)]))) : gn_I yX1_init wsX1_init 1 3 27 (154 + 4 * i) (gn_ad b) tc w (gn_f tc (gn_ad b) (154 + 4 * i) (154 + 4 * i + 4) w) (b + 42 + 4 * i) := by
  obtain ⟨hf0, hf1⟩ := gd_f gn_Hd i hi
  have had := gn_oF (b := b) hi
  have hM : ∀ j, j < 4 → gn_M0 (154 + 4 * i + j) = fun _ => 0 := fun j _ => gn_M0z (Or.inr (Or.inr (by omega)))
  have hlt : 154 + 4 * i + 4 ≤ 274 := by omega
  generalize hc : 154 + 4 * i = c at hw hf0 hf1 had hM hlt ⊢
  refine gn_start (own := RX1) (maxL := 1) (L := [gx_R c]) (by decide) rfl rfl rfl (Nat.le_of_ble_eq_true rfl) rfl ?_
  intro l D A p e s m args below meth c' hname C
  refine gp_aload_n C.1 dX1_init_0 rfl ?_
  refine gn_obj C (by decide +kernel) (by decide +kernel) (by decide +kernel) (Nat.le_of_ble_eq_true rfl) (Nat.le_of_ble_eq_true rfl) (Nat.le_of_ble_eq_true rfl) dX1_init_1 ?_
  refine gp_aload_n C.1 dX1_init_4 rfl ?_
  refine gp_bipush C.1 dX1_init_5 rfl ?_
  refine gn_newa C (atype := .int) (k := c + 1) (N := 9) 0 (by decide +kernel) rfl rfl rfl (by decide) (by decide) (by omega) (by have := had 1 (by omega); omega) (Or.inl rfl) ⟨Nat.le_of_ble_eq_true rfl, Nat.le_of_ble_eq_true rfl⟩ dX1_init_7 ?_
  refine gn_putF C 1 c 0 (c + 1) rfl ((gn_u_ne (by omega)).trans hw) (by decide) (Nat.le_of_ble_eq_true rfl) nX1_init_1 tyX1 tyX1_ok nmX1 (gx_hts C.1 _ fX1_init_9) rfl rfl hname (fun x => ⟨rfl, rfl⟩) dX1_init_9 ?_
  refine gp_aload_n C.1 dX1_init_12 rfl ?_
  refine gp_bipush C.1 dX1_init_13 rfl ?_
  refine gn_newa C (atype := .int) (k := c + 2) (N := 9) 0 (by decide +kernel) rfl rfl rfl (by decide) (by decide) (by omega) (by have := had 2 (by omega); omega) (Or.inr ⟨c + 1, _, (gn_u_ne (by omega)).trans (gn_u_eq _ _ _), by have := had 1 (by omega); omega⟩) ⟨Nat.le_of_ble_eq_true rfl, Nat.le_of_ble_eq_true rfl⟩ dX1_init_15 ?_
  refine gn_putF C 1 c 1 (c + 2) rfl ((gn_u_ne (by omega)).trans (gn_u_eq _ _ _)) (by decide) (Nat.le_of_ble_eq_true rfl) nX1_init_1 tyX1 tyX1_ok nmX1 (gx_hts C.1 _ fX1_init_15) rfl rfl hname (fun x => ⟨rfl, rfl⟩) dX1_init_17 ?_
  refine gp_aload_n C.1 dX1_init_20 rfl ?_
  refine gp_bipush C.1 dX1_init_21 rfl ?_
  refine gn_newa C (atype := .int) (k := c + 3) (N := 9) 0 (by decide +kernel) rfl rfl rfl (by decide) (by decide) (by omega) (by have := had 3 (by omega); omega) (Or.inr ⟨c + 2, _, (gn_u_ne (by omega)).trans (gn_u_eq _ _ _), by have := had 2 (by omega); omega⟩) ⟨Nat.le_of_ble_eq_true rfl, Nat.le_of_ble_eq_true rfl⟩ dX1_init_23 ?_
  refine gn_putF C 1 c 2 (c + 3) rfl ((gn_u_ne (by omega)).trans (gn_u_eq _ _ _)) (by decide) (Nat.le_of_ble_eq_true rfl) nX1_init_1 tyX1 tyX1_ok nmX1 (gx_hts C.1 _ fX1_init_18) rfl rfl hname (fun x => ⟨rfl, rfl⟩) dX1_init_25 ?_
  refine gn_vret C dX1_init_28 (fun H hH c1 e1 he => hH c1 e1 ?_)
  by_cases q : c ≤ c1 ∧ c1 < c + 4
  · rw [gn_f_in q] at he
    obtain ⟨j, rfl⟩ : ∃ j, c1 = c + j := ⟨c1 - c, by omega⟩
    rcases (show j = 0 ∨ j = 1 ∨ j = 2 ∨ j = 3 by omega) with rfl | rfl | rfl | rfl
    · rw [gn_e_at (c := c + 0) hf0, hM 0 (by omega)] at he
      exact (gn_u_eq _ _ _).trans he
    · rw [gn_e_at (hf1 0 (by omega)), hM 1 (by omega)] at he
      rw [gn_u_ne (by omega), gn_u_ne (by omega), gn_u_ne (by omega), gn_u_ne (by omega), gn_u_ne (by omega), gn_u_eq]
      exact he
    · rw [gn_e_at (c := c + 2) (hf1 1 (by omega)), hM 2 (by omega)] at he
      rw [gn_u_ne (by omega), gn_u_ne (by omega), gn_u_ne (by omega), gn_u_eq]
      exact he
    · rw [gn_e_at (c := c + 3) (hf1 2 (by omega)), hM 3 (by omega)] at he
      rw [gn_u_ne (by omega), gn_u_eq]
      exact he
  · rw [gn_f_ne q] at he
    rw [gn_u_ne (by omega), gn_u_ne (by omega), gn_u_ne (by omega), gn_u_ne (by omega), gn_u_ne (by omega), gn_u_ne (by omega)]
    exact he
theorem nX0_init_6 : ∀ w ∈ wsX60, w ∈ wsX0_init := fun w h => List.mem_cons_of_mem _ (List.mem_append_left _ (List.mem_append_left _ (List.mem_append_right _ h)))
theorem nX0_init_5 : ∀ w ∈ wsX50, w ∈ wsX0_init := fun w h => List.mem_cons_of_mem _ (List.mem_append_right _ h)
theorem gn_fs6' : ∀ j, j < 3 → defaultValue (tyX6 j) = vp_V [.int (gx_i 0), .int (gx_i 0), .null] j := gn_fs6
set_option maxRecDepth 100000 in
theorem c_X0_init (MNA : gn_MNA) {b : Nat} {tc : Nat → ClassId} {w : gn_W} (hw : w 13 = some (.inr (0, [.null, .null, .null, .null, .null, .null, .null, .null, .null, .null, .null]))) : gn_I yX0_init wsX0_init 3 34 279 13 (gn_ad b) tc w (gn_f tc (gn_ad b) 13 14 (gn_f tc (gn_ad b) 19 41 (gn_f tc (gn_ad b) 46 58 w))) (b + 2) := by
  refine gn_start (own := RX0) (maxL := 1) (L := [gx_R 13]) (by decide) rfl rfl rfl (Nat.le_of_ble_eq_true rfl) rfl ?_
  intro l D A p e s m args below meth c' hname C
  refine gn_conv (w' := gn_u w 13 (.inr (0, [.null, .null, .null, .null, .null, .null, .null, .null, .null, .null, .null]))) (fun H hH c1 e1 he => hH c1 e1 (gn_u_self hw he)) ?_
  refine gp_aload_n C.1 dX0_init_0 rfl ?_
  refine gn_obj C (by decide +kernel) (by decide +kernel) (by decide +kernel) (Nat.le_of_ble_eq_true rfl) (Nat.le_of_ble_eq_true rfl) (Nat.le_of_ble_eq_true rfl) dX0_init_1 ?_
  refine gp_aload_n C.1 dX0_init_4 rfl ?_
  refine gn_new C (k := 46) 6 tyX6 rfl nX0_init_6 tyX6_ok (by decide +kernel) (by decide +kernel) (by decide +kernel) gn_fs6 (by decide) (by have h : gn_o 46 = 2 := rfl; unfold gn_ad; omega) (Or.inl rfl) ⟨Nat.le_of_ble_eq_true rfl, Nat.le_of_ble_eq_true rfl⟩ dX0_init_5 ?_
  refine gp_dup C.1 dX0_init_8 rfl ?_
  refine gn_call C (mc := 11) (ms := 100) (c_X6_init MNA (i := 0) (c := 46) (by decide) rfl (fun j hj => gn_oS (b := b) (i := 0) (by decide) j hj) (by have h : gn_o 46 = 2 := rfl; unfold gn_ad; omega) rfl) (cwI 0 (gx_hts C.1) gX0_init_X6_init rfl rfl rfl (gx_hts C.1 (.initialized RX6) (by decide +kernel)) (gx_hts C.1 (.methodLink RX0 11 yX6_init) (by decide +kernel)) (gx_hts C.1 (.instanceMethod yX6_init) (by decide +kernel)) rfl (by decide +kernel) ⟨Nat.le_of_ble_eq_true rfl, Nat.le_of_ble_eq_true rfl⟩) (Or.inr ⟨46, _, rfl, by have h : gn_o 46 = 2 := rfl; unfold gn_ad; omega⟩) (Nat.le_of_ble_eq_true rfl) ⟨Nat.le_of_ble_eq_true rfl, Nat.le_of_ble_eq_true rfl⟩ dX0_init_9 ?_
  refine gn_putF C 0 13 0 46 rfl rfl (by decide) (Nat.le_of_ble_eq_true rfl) nX0_init_0 tyX0 tyX0_ok nmX0 (gx_hts C.1 _ fX0_init_12) rfl rfl hname (fun x => ⟨rfl, rfl⟩) dX0_init_12 ?_
  refine gp_aload_n C.1 dX0_init_15 rfl ?_
  refine gn_new C (k := 19) 5 tyX5 rfl nX0_init_5 tyX5_ok (by decide +kernel) (by decide +kernel) (by decide +kernel) gn_fs5 (by decide) (by have h : gn_o 19 = 14 := rfl; unfold gn_ad; omega) (Or.inr ⟨57, _, rfl, by have h : gn_o 57 = 13 := rfl; unfold gn_ad; omega⟩) ⟨Nat.le_of_ble_eq_true rfl, Nat.le_of_ble_eq_true rfl⟩ dX0_init_16 ?_
  refine gp_dup C.1 dX0_init_19 rfl ?_
  refine gn_call C (mc := 5) (ms := 40) (gn_Iz (by omega) (c_X5_init MNA (b := b) rfl)) (cwI 0 (gx_hts C.1) gX0_init_X5_init rfl rfl rfl (gx_hts C.1 (.initialized RX5) (by decide +kernel)) (gx_hts C.1 (.methodLink RX0 20 yX5_init) (by decide +kernel)) (gx_hts C.1 (.instanceMethod yX5_init) (by decide +kernel)) rfl (by decide +kernel) ⟨Nat.le_of_ble_eq_true rfl, Nat.le_of_ble_eq_true rfl⟩) (Or.inr ⟨19, _, rfl, by have h : gn_o 19 = 14 := rfl; unfold gn_ad; omega⟩) (Nat.le_of_ble_eq_true rfl) ⟨Nat.le_of_ble_eq_true rfl, Nat.le_of_ble_eq_true rfl⟩ dX0_init_20 ?_
  refine gn_putF C 0 13 1 19 rfl rfl (by decide) (Nat.le_of_ble_eq_true rfl) nX0_init_0 tyX0 tyX0_ok nmX0 (gx_hts C.1 _ fX0_init_21) rfl rfl hname (fun x => ⟨rfl, rfl⟩) dX0_init_23 ?_
  refine gp_aload_n C.1 dX0_init_26 rfl ?_
  refine gp_iconst C.1 dX0_init_27 ?_
  refine gp_bipush C.1 dX0_init_28 rfl ?_
  refine gn_mna MNA C 25 3 9 rfl rfl (by decide +kernel) (by decide +kernel) (by decide) (by decide) (by decide) (by have h : gn_o 25 = 20 := rfl; unfold gn_ad; omega) (gn_ad_r 25 3 (by decide +kernel)) (Or.inr ⟨24, _, rfl, by have h : gn_o 24 = 19 := rfl; unfold gn_ad; omega⟩) ⟨Nat.le_of_ble_eq_true rfl, Nat.le_of_ble_eq_true rfl⟩ dX0_init_30 ?_
  refine gn_putF C 0 13 2 25 rfl rfl (by decide) (Nat.le_of_ble_eq_true rfl) nX0_init_0 tyX0 tyX0_ok nmX0 (gx_hts C.1 _ fX0_init_27) rfl rfl hname (fun x => ⟨rfl, rfl⟩) dX0_init_34 ?_
  refine gp_aload_n C.1 dX0_init_37 rfl ?_
  refine gp_bipush C.1 dX0_init_38 rfl ?_
  refine gn_newa C (atype := .int) (k := 29) (N := 9) 0 (by decide +kernel) rfl rfl rfl (by decide) (by decide) (by decide) (by have h : gn_o 29 = 24 := rfl; unfold gn_ad; omega) (Or.inr ⟨28, _, rfl, by have h : gn_o 28 = 23 := rfl; unfold gn_ad; omega⟩) ⟨Nat.le_of_ble_eq_true rfl, Nat.le_of_ble_eq_true rfl⟩ dX0_init_40 ?_
  refine gn_putF C 0 13 3 29 rfl rfl (by decide) (Nat.le_of_ble_eq_true rfl) nX0_init_0 tyX0 tyX0_ok nmX0 (gx_hts C.1 _ fX0_init_30) rfl rfl hname (fun x => ⟨rfl, rfl⟩) dX0_init_42 ?_
  refine gp_aload_n C.1 dX0_init_45 rfl ?_
  refine gp_bipush C.1 dX0_init_46 rfl ?_
  refine gn_newa C (atype := .int) (k := 30) (N := 9) 0 (by decide +kernel) rfl rfl rfl (by decide) (by decide) (by decide) (by have h : gn_o 30 = 25 := rfl; unfold gn_ad; omega) (Or.inr ⟨29, _, rfl, by have h : gn_o 29 = 24 := rfl; unfold gn_ad; omega⟩) ⟨Nat.le_of_ble_eq_true rfl, Nat.le_of_ble_eq_true rfl⟩ dX0_init_48 ?_
  refine gn_putF C 0 13 4 30 rfl rfl (by decide) (Nat.le_of_ble_eq_true rfl) nX0_init_0 tyX0 tyX0_ok nmX0 (gx_hts C.1 _ fX0_init_34) rfl rfl hname (fun x => ⟨rfl, rfl⟩) dX0_init_50 ?_
  refine gp_aload_n C.1 dX0_init_53 rfl ?_
  refine gp_bipush C.1 dX0_init_54 rfl ?_
  refine gn_newa C (atype := .int) (k := 31) (N := 9) 0 (by decide +kernel) rfl rfl rfl (by decide) (by decide) (by decide) (by have h : gn_o 31 = 26 := rfl; unfold gn_ad; omega) (Or.inr ⟨30, _, rfl, by have h : gn_o 30 = 25 := rfl; unfold gn_ad; omega⟩) ⟨Nat.le_of_ble_eq_true rfl, Nat.le_of_ble_eq_true rfl⟩ dX0_init_56 ?_
  refine gn_putF C 0 13 5 31 rfl rfl (by decide) (Nat.le_of_ble_eq_true rfl) nX0_init_0 tyX0 tyX0_ok nmX0 (gx_hts C.1 _ fX0_init_37) rfl rfl hname (fun x => ⟨rfl, rfl⟩) dX0_init_58 ?_
  refine gp_aload_n C.1 dX0_init_61 rfl ?_
  refine gp_bipush C.1 dX0_init_62 rfl ?_
  refine gn_newa C (atype := .int) (k := 32) (N := 9) 0 (by decide +kernel) rfl rfl rfl (by decide) (by decide) (by decide) (by have h : gn_o 32 = 27 := rfl; unfold gn_ad; omega) (Or.inr ⟨31, _, rfl, by have h : gn_o 31 = 26 := rfl; unfold gn_ad; omega⟩) ⟨Nat.le_of_ble_eq_true rfl, Nat.le_of_ble_eq_true rfl⟩ dX0_init_64 ?_
  refine gn_putF C 0 13 6 32 rfl rfl (by decide) (Nat.le_of_ble_eq_true rfl) nX0_init_0 tyX0 tyX0_ok nmX0 (gx_hts C.1 _ fX0_init_40) rfl rfl hname (fun x => ⟨rfl, rfl⟩) dX0_init_66 ?_
  refine gp_aload_n C.1 dX0_init_69 rfl ?_
  refine gp_bipush C.1 dX0_init_70 rfl ?_
  refine gn_newa C (atype := .int) (k := 33) (N := 9) 0 (by decide +kernel) rfl rfl rfl (by decide) (by decide) (by decide) (by have h : gn_o 33 = 28 := rfl; unfold gn_ad; omega) (Or.inr ⟨32, _, rfl, by have h : gn_o 32 = 27 := rfl; unfold gn_ad; omega⟩) ⟨Nat.le_of_ble_eq_true rfl, Nat.le_of_ble_eq_true rfl⟩ dX0_init_72 ?_
  refine gn_putF C 0 13 7 33 rfl rfl (by decide) (Nat.le_of_ble_eq_true rfl) nX0_init_0 tyX0 tyX0_ok nmX0 (gx_hts C.1 _ fX0_init_43) rfl rfl hname (fun x => ⟨rfl, rfl⟩) dX0_init_74 ?_
  refine gp_aload_n C.1 dX0_init_77 rfl ?_
  refine gp_bipush C.1 dX0_init_78 rfl ?_
  refine gn_newa C (atype := .int) (k := 34) (N := 9) 0 (by decide +kernel) rfl rfl rfl (by decide) (by decide) (by decide) (by have h : gn_o 34 = 29 := rfl; unfold gn_ad; omega) (Or.inr ⟨33, _, rfl, by have h : gn_o 33 = 28 := rfl; unfold gn_ad; omega⟩) ⟨Nat.le_of_ble_eq_true rfl, Nat.le_of_ble_eq_true rfl⟩ dX0_init_80 ?_
  refine gn_putF C 0 13 8 34 rfl rfl (by decide) (Nat.le_of_ble_eq_true rfl) nX0_init_0 tyX0 tyX0_ok nmX0 (gx_hts C.1 _ fX0_init_46) rfl rfl hname (fun x => ⟨rfl, rfl⟩) dX0_init_82 ?_
  refine gp_aload_n C.1 dX0_init_85 rfl ?_
  refine gp_bipush C.1 dX0_init_86 rfl ?_
  refine gn_newa C (atype := .int) (k := 35) (N := 9) 0 (by decide +kernel) rfl rfl rfl (by decide) (by decide) (by decide) (by have h : gn_o 35 = 30 := rfl; unfold gn_ad; omega) (Or.inr ⟨34, _, rfl, by have h : gn_o 34 = 29 := rfl; unfold gn_ad; omega⟩) ⟨Nat.le_of_ble_eq_true rfl, Nat.le_of_ble_eq_true rfl⟩ dX0_init_88 ?_
  refine gn_putF C 0 13 9 35 rfl rfl (by decide) (Nat.le_of_ble_eq_true rfl) nX0_init_0 tyX0 tyX0_ok nmX0 (gx_hts C.1 _ fX0_init_49) rfl rfl hname (fun x => ⟨rfl, rfl⟩) dX0_init_90 ?_
  refine gp_aload_n C.1 dX0_init_93 rfl ?_
  refine gp_iconst C.1 dX0_init_94 ?_
  refine gp_bipush C.1 dX0_init_95 rfl ?_
  refine gn_mna MNA C 36 4 9 rfl rfl (by decide +kernel) (by decide +kernel) (by decide) (by decide) (by decide) (by have h : gn_o 36 = 31 := rfl; unfold gn_ad; omega) (gn_ad_r 36 4 (by decide +kernel)) (Or.inr ⟨35, _, rfl, by have h : gn_o 35 = 30 := rfl; unfold gn_ad; omega⟩) ⟨Nat.le_of_ble_eq_true rfl, Nat.le_of_ble_eq_true rfl⟩ dX0_init_97 ?_
  refine gn_putF C 0 13 10 36 rfl rfl (by decide) (Nat.le_of_ble_eq_true rfl) nX0_init_0 tyX0 tyX0_ok nmX0 (gx_hts C.1 _ fX0_init_52) rfl rfl hname (fun x => ⟨rfl, rfl⟩) dX0_init_101 ?_
  refine gn_vret C dX0_init_104 (fun H hH c1 e1 he => hH c1 e1 ?_)
  by_cases q : c1 = 13 ∨ c1 = 19 ∨ c1 = 20 ∨ c1 = 21 ∨ c1 = 22 ∨ c1 = 23 ∨ c1 = 24 ∨ c1 = 25 ∨ c1 = 26 ∨ c1 = 27 ∨ c1 = 28 ∨ c1 = 29 ∨ c1 = 30 ∨ c1 = 31 ∨ c1 = 32 ∨ c1 = 33 ∨ c1 = 34 ∨ c1 = 35 ∨ c1 = 36 ∨ c1 = 37 ∨ c1 = 38 ∨ c1 = 39 ∨ c1 = 40 ∨ c1 = 46 ∨ c1 = 47 ∨ c1 = 48 ∨ c1 = 49 ∨ c1 = 50 ∨ c1 = 51 ∨ c1 = 52 ∨ c1 = 53 ∨ c1 = 54 ∨ c1 = 55 ∨ c1 = 56 ∨ c1 = 57
  · rcases q with rfl | rfl | rfl | rfl | rfl | rfl | rfl | rfl | rfl | rfl | rfl | rfl | rfl | rfl | rfl | rfl | rfl | rfl | rfl | rfl | rfl | rfl | rfl | rfl | rfl | rfl | rfl | rfl | rfl | rfl | rfl | rfl | rfl | rfl | rfl <;> exact he
  · rw [gn_f_ne (by omega), gn_f_ne (by omega), gn_f_ne (by omega)] at he
    repeat (first | rw [gn_u_ne (by omega)] | rw [gn_m_ne (by omega)] | rw [gn_f_ne (by omega)])
    exact he
