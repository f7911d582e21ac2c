/-! constructor: the desk -/
theorem nX7_init_0 : ∀ w ∈ wsX00, w ∈ wsX7_init := fun w h => List.mem_cons_of_mem _ (List.mem_append_left _ (List.mem_append_left _ (List.mem_append_left _ (List.mem_append_left _ (List.mem_append_left _ (List.mem_append_left _ (List.mem_append_left _ (List.mem_append_right _ h))))))))
theorem nX7_init_3 : ∀ w ∈ wsX30, w ∈ wsX7_init := fun w h => List.mem_cons_of_mem _ (List.mem_append_left _ (List.mem_append_left _ (List.mem_append_left _ (List.mem_append_left _ (List.mem_append_left _ (List.mem_append_right _ h))))))
theorem nX7_init_4 : ∀ w ∈ wsX40, w ∈ wsX7_init := fun w h => List.mem_cons_of_mem _ (List.mem_append_left _ (List.mem_append_left _ (List.mem_append_left _ (List.mem_append_left _ (List.mem_append_right _ h)))))
theorem nX7_init_2 : ∀ w ∈ wsX20, w ∈ wsX7_init := fun w h => List.mem_cons_of_mem _ (List.mem_append_left _ (List.mem_append_left _ (List.mem_append_left _ (List.mem_append_right _ h))))
theorem nX7_init_6 : ∀ w ∈ wsX60, w ∈ wsX7_init := fun w h => List.mem_cons_of_mem _ (List.mem_append_left _ (List.mem_append_left _ (List.mem_append_right _ h)))
set_option maxRecDepth 100000 in
theorem c_X7_init (MNA : gn_MNA) {b : Nat} {tc : Nat → ClassId} {w : gn_W} (hw : w 12 = some (.inr (7, [.null, .null, .null, .null, .null, .null]))) : gn_I yX7_init wsX7_init 4 261 2346 12 (gn_ad b) tc w (gn_f tc (gn_ad b) 12 274 w) (b + 1) := by
  refine gn_start (own := RX7) (maxL := 2) (L := [gx_R 12, gx_U]) (by decide) rfl rfl rfl (Nat.le_of_ble_eq_true rfl) rfl ?_
  intro l D A p e s m args below meth c' hname C
  refine gn_conv (w' := gn_u w 12 (.inr (7, [.null, .null, .null, .null, .null, .null]))) (fun H hH c1 e1 he => hH c1 e1 (gn_u_self hw he)) ?_
  refine gp_aload_n C.1 dX7_init_0 rfl ?_
  refine gn_obj C (by decide +kernel) (by decide +kernel) (by decide +kernel) (Nat.le_of_ble_eq_true rfl) (Nat.le_of_ble_eq_true rfl) (Nat.le_of_ble_eq_true rfl) dX7_init_1 ?_
  refine gp_aload_n C.1 dX7_init_4 rfl ?_
  refine gn_new C (k := 13) 0 tyX0 rfl nX7_init_0 tyX0_ok (by decide +kernel) (by decide +kernel) (by decide +kernel) gn_fs0 (by decide) (by have h : gn_o 13 = 1 := rfl; unfold gn_ad; omega) (Or.inl rfl) ⟨Nat.le_of_ble_eq_true rfl, Nat.le_of_ble_eq_true rfl⟩ dX7_init_5 ?_
  refine gp_dup C.1 dX7_init_8 rfl ?_
  refine gn_call C (mc := 34) (ms := 279) (gn_Iz (by omega) (c_X0_init MNA (b := b) rfl)) (cwI 0 (gx_hts C.1) gX7_init_X0_init rfl rfl rfl (gx_hts C.1 (.initialized RX0) (by decide +kernel)) (gx_hts C.1 (.methodLink RX7 11 yX0_init) (by decide +kernel)) (gx_hts C.1 (.instanceMethod yX0_init) (by decide +kernel)) rfl (by decide +kernel) ⟨Nat.le_of_ble_eq_true rfl, Nat.le_of_ble_eq_true rfl⟩) (Or.inr ⟨13, _, rfl, by have h : gn_o 13 = 1 := rfl; unfold gn_ad; omega⟩) (Nat.le_of_ble_eq_true rfl) ⟨Nat.le_of_ble_eq_true rfl, Nat.le_of_ble_eq_true rfl⟩ dX7_init_9 ?_
  refine gn_putF C 7 12 0 13 rfl rfl (by decide) (Nat.le_of_ble_eq_true rfl) nX7_init_7 tyX7 tyX7_ok nmX7 (gx_hts C.1 _ fX7_init_12) rfl rfl hname (fun x => ⟨rfl, rfl⟩) dX7_init_12 ?_
  refine gp_aload_n C.1 dX7_init_15 rfl ?_
  refine gn_new C (k := 14) 3 tyX3 rfl nX7_init_3 tyX3_ok (by decide +kernel) (by decide +kernel) (by decide +kernel) gn_fs3 (by decide) (by have h : gn_o 14 = 36 := rfl; unfold gn_ad; omega) (Or.inr ⟨40, _, rfl, by have h : gn_o 40 = 35 := rfl; unfold gn_ad; omega⟩) ⟨Nat.le_of_ble_eq_true rfl, Nat.le_of_ble_eq_true rfl⟩ dX7_init_16 ?_
  refine gp_dup C.1 dX7_init_19 rfl ?_
  refine gn_call C (mc := 2) (ms := 120) (gn_Iz (by omega) (c_X3_init (b := b) rfl)) (cwI 0 (gx_hts C.1) gX7_init_X3_init rfl rfl rfl (gx_hts C.1 (.initialized RX3) (by decide +kernel)) (gx_hts C.1 (.methodLink RX7 18 yX3_init) (by decide +kernel)) (gx_hts C.1 (.instanceMethod yX3_init) (by decide +kernel)) rfl (by decide +kernel) ⟨Nat.le_of_ble_eq_true rfl, Nat.le_of_ble_eq_true rfl⟩) (Or.inr ⟨14, _, rfl, by have h : gn_o 14 = 36 := rfl; unfold gn_ad; omega⟩) (Nat.le_of_ble_eq_true rfl) ⟨Nat.le_of_ble_eq_true rfl, Nat.le_of_ble_eq_true rfl⟩ dX7_init_20 ?_
  refine gn_putF C 7 12 1 14 rfl rfl (by decide) (Nat.le_of_ble_eq_true rfl) nX7_init_7 tyX7 tyX7_ok nmX7 (gx_hts C.1 _ fX7_init_19) rfl rfl hname (fun x => ⟨rfl, rfl⟩) dX7_init_23 ?_
  refine gp_aload_n C.1 dX7_init_26 rfl ?_
  refine gn_new C (k := 15) 4 tyX4 rfl nX7_init_4 tyX4_ok (by decide +kernel) (by decide +kernel) (by decide +kernel) gn_fs4 (by decide) (by have h : gn_o 15 = 39 := rfl; unfold gn_ad; omega) (Or.inr ⟨42, _, rfl, by have h : gn_o 42 = 38 := rfl; unfold gn_ad; omega⟩) ⟨Nat.le_of_ble_eq_true rfl, Nat.le_of_ble_eq_true rfl⟩ dX7_init_27 ?_
  refine gp_dup C.1 dX7_init_30 rfl ?_
  refine gn_call C (mc := 122) (ms := 1089) (gn_Iz (by omega) (c_X4_init (b := b) rfl)) (cwI 0 (gx_hts C.1) gX7_init_X4_init rfl rfl rfl (gx_hts C.1 (.initialized RX4) (by decide +kernel)) (gx_hts C.1 (.methodLink RX7 25 yX4_init) (by decide +kernel)) (gx_hts C.1 (.instanceMethod yX4_init) (by decide +kernel)) rfl (by decide +kernel) ⟨Nat.le_of_ble_eq_true rfl, Nat.le_of_ble_eq_true rfl⟩) (Or.inr ⟨15, _, rfl, by have h : gn_o 15 = 39 := rfl; unfold gn_ad; omega⟩) (Nat.le_of_ble_eq_true rfl) ⟨Nat.le_of_ble_eq_true rfl, Nat.le_of_ble_eq_true rfl⟩ dX7_init_31 ?_
  refine gn_putF C 7 12 2 15 rfl rfl (by decide) (Nat.le_of_ble_eq_true rfl) nX7_init_7 tyX7 tyX7_ok nmX7 (gx_hts C.1 _ fX7_init_26) rfl rfl hname (fun x => ⟨rfl, rfl⟩) dX7_init_34 ?_
  refine gp_aload_n C.1 dX7_init_37 rfl ?_
  refine gn_new C (k := 16) 2 tyX2 rfl nX7_init_2 tyX2_ok (by decide +kernel) (by decide +kernel) (by decide +kernel) gn_fs2 (by decide) (by have h : gn_o 16 = 162 := rfl; unfold gn_ad; omega) (Or.inr ⟨44, _, rfl, by have h : gn_o 44 = 161 := rfl; unfold gn_ad; omega⟩) ⟨Nat.le_of_ble_eq_true rfl, Nat.le_of_ble_eq_true rfl⟩ dX7_init_38 ?_
  refine gp_dup C.1 dX7_init_41 rfl ?_
  refine gn_call C (mc := 73) (ms := 624) (gn_Iz (by omega) (c_X2_init MNA (b := b) rfl)) (cwI 0 (gx_hts C.1) gX7_init_X2_init rfl rfl rfl (gx_hts C.1 (.initialized RX2) (by decide +kernel)) (gx_hts C.1 (.methodLink RX7 32 yX2_init) (by decide +kernel)) (gx_hts C.1 (.instanceMethod yX2_init) (by decide +kernel)) rfl (by decide +kernel) ⟨Nat.le_of_ble_eq_true rfl, Nat.le_of_ble_eq_true rfl⟩) (Or.inr ⟨16, _, rfl, by have h : gn_o 16 = 162 := rfl; unfold gn_ad; omega⟩) (Nat.le_of_ble_eq_true rfl) ⟨Nat.le_of_ble_eq_true rfl, Nat.le_of_ble_eq_true rfl⟩ dX7_init_42 ?_
  refine gn_putF C 7 12 3 16 rfl rfl (by decide) (Nat.le_of_ble_eq_true rfl) nX7_init_7 tyX7 tyX7_ok nmX7 (gx_hts C.1 _ fX7_init_33) rfl rfl hname (fun x => ⟨rfl, rfl⟩) dX7_init_45 ?_
  refine gp_aload_n C.1 dX7_init_48 rfl ?_
  refine gp_iconst C.1 dX7_init_49 ?_
  refine gn_anew C (k := 17) (N := 2) 4 (by decide +kernel) C.2.2.1.1 rfl rfl (by decide) (by decide) (by have h : gn_o 17 = 236 := rfl; unfold gn_ad; omega) (Or.inr ⟨153, _, rfl, by have h : gn_o 153 = 235 := rfl; unfold gn_ad; omega⟩) ⟨Nat.le_of_ble_eq_true rfl, Nat.le_of_ble_eq_true rfl⟩ dX7_init_50 ?_
  refine gn_putF C 7 12 4 17 rfl rfl (by decide) (Nat.le_of_ble_eq_true rfl) nX7_init_7 tyX7 tyX7_ok nmX7 (gx_hts C.1 _ fX7_init_39) rfl rfl hname (fun x => ⟨rfl, rfl⟩) dX7_init_53 ?_
  refine gp_iconst C.1 dX7_init_56 ?_
  refine gp_istore_n C.1 dX7_init_57 (by decide) rfl ?_
  have key : ∀ j i, i + j = 2 → gp_G p l e (gn_rm 4 261 2346) s m args below meth c' (236 + 12 * i) (2138 + 103 * i) (MQ below (va_Qv (fun (_ : Unit) => True) (fun _ t => gn_H D (gn_ad b) (gn_f tc (gn_ad b) 12 274 w) t.heap) A) args s 261 2346 A) 2 (gn_ad b) (gn_P D (gn_ad b) A s.heap (gn_u (gn_f tc (gn_ad b) 58 (58 + 12 * i) (gn_u (gn_f tc (gn_ad b) 82 274 (gn_f tc (gn_ad b) 13 17 (gn_f tc (gn_ad b) 19 58 w))) 12 (.inr (7, [.ref (gn_ad b 13), .ref (gn_ad b 14), .ref (gn_ad b 15), .ref (gn_ad b 16), .ref (gn_ad b 17), .null])))) 17 (.inl (tc 4, 2, .inr (.inr (.inr (.inr (fun j => if j < i then some (gn_ad b (58 + 12 * j)) else none)))))))) 58 [gx_R 12, gx_I (i : Int)] [] := by
    intro j
    induction j with
    | zero =>
      intro i hij
      obtain rfl : i = 2 := by omega
      refine gp_iload_n C.1 dX7_init_58 rfl ?_
      refine gp_iconst C.1 dX7_init_59 ?_
      refine gp_icmp_ge C.1 dX7_init_60 rfl (by unfold gx_3; omega) (by unfold gx_3; omega) (fun _ => ?_) (fun h => absurd (by omega) h)
      refine gp_aload_n C.1 dX7_init_82 rfl ?_
      refine gp_iconst C.1 dX7_init_83 ?_
      refine gn_newa C (atype := .boolean) (k := 18) (N := 2) 2 (by decide +kernel) rfl rfl rfl (by decide) (by decide) (by decide) (by have h : gn_o 18 = 261 := rfl; unfold gn_ad; omega) (Or.inr ⟨81, _, (gn_u_ne (by decide)).trans (gn_f_in (by decide)), by have h : gn_o 81 = 260 := rfl; unfold gn_ad; omega⟩) ⟨Nat.le_of_ble_eq_true rfl, Nat.le_of_ble_eq_true rfl⟩ dX7_init_84 ?_
      refine gn_putF C 7 12 5 18 rfl ((gn_u_ne (by decide)).trans ((gn_u_ne (by decide)).trans ((gn_f_ne (by decide)).trans (gn_u_eq _ _ _)))) (by decide) (Nat.le_of_ble_eq_true rfl) nX7_init_7 tyX7 tyX7_ok nmX7 (gx_hts C.1 _ fX7_init_44) rfl rfl hname (fun x => ⟨rfl, rfl⟩) dX7_init_86 ?_
      refine gn_vret C dX7_init_89 (fun H hH c1 e1 he => ?_)
      by_cases q : c1 = 17
      · subst q
        have hb := hH 17 _ (gn_u_eq (gn_f tc (gn_ad b) 58 (58 + 12 * 2) (gn_u (gn_f tc (gn_ad b) 82 274 (gn_f tc (gn_ad b) 13 17 (gn_f tc (gn_ad b) 19 58 w))) 12 (.inr (7, [.ref (gn_ad b 13), .ref (gn_ad b 14), .ref (gn_ad b 15), .ref (gn_ad b 16), .ref (gn_ad b 17), .null])))) 17 _)
        refine ⟨hb.1, ?_⟩
        have he : some (gn_e tc (gn_ad b) 17) = some e1 := he
        cases he
        rw [gn_e_at (gd_17 gn_Hd)]
        exact gn_vq (by decide) (fun j hj => by rw [if_pos hj]) hb.2
      · refine hH c1 e1 ?_
        by_cases q1 : c1 = 12 ∨ c1 = 18
        · rcases q1 with rfl | rfl <;> exact he
        · rw [gn_u_ne (by omega), gn_u_ne (by omega), gn_u_ne q]
          by_cases q3 : 12 ≤ c1 ∧ c1 < 274
          · rw [gn_f_in q3] at he
            rcases (show (58 ≤ c1 ∧ c1 < 82) ∨ 82 ≤ c1 ∨ c1 < 17 ∨ (19 ≤ c1 ∧ c1 < 58) by omega) with h | h | h | h
            · rw [gn_f_in (by omega)]
              exact he
            · rw [gn_f_ne (by omega), gn_u_ne (by omega), gn_f_in (by omega)]
              exact he
            · rw [gn_f_ne (by omega), gn_u_ne (by omega), gn_f_ne (by omega), gn_f_in (by omega)]
              exact he
            · rw [gn_f_ne (by omega), gn_u_ne (by omega), gn_f_ne (by omega), gn_f_ne (by omega), gn_f_in (by omega)]
              exact he
          · rw [gn_f_ne q3] at he
            rw [gn_f_ne (by omega), gn_u_ne (by omega), gn_f_ne (by omega), gn_f_ne (by omega), gn_f_ne (by omega)]
            exact he
    | succ j ih =>
      intro i hij
      have hi : i < 2 := by omega
      have hk : gn_ad b (58 + 12 * i) = b + 237 + 12 * i := by have := gn_oS1 (b := b) hi 0 (by decide); omega
      refine gp_iload_n C.1 dX7_init_58 rfl ?_
      refine gp_iconst C.1 dX7_init_59 ?_
      refine gp_icmp_ge C.1 dX7_init_60 rfl (by unfold gx_3; omega) (by unfold gx_3; omega) (fun h => absurd h (by omega)) (fun _ => ?_)
      refine gp_aload_n C.1 dX7_init_63 rfl ?_
      refine gn_get C 7 12 4 rfl ((gn_u_ne (by decide)).trans ((gn_f_ne (by omega)).trans (gn_u_eq _ _ _))) (v := gx_R 17) rfl (by decide) nX7_init_7 (gx_hts C.1 _ fX7_init_39) dX7_init_64 ?_
      refine gp_iload_n C.1 dX7_init_67 rfl ?_
      refine gn_new C (k := 58 + 12 * i) 6 tyX6 rfl nX7_init_6 tyX6_ok (by decide +kernel) (by decide +kernel) (by decide +kernel) gn_fs6 (by omega) (by omega) (Or.inr (by
      by_cases hi0 : i = 0
      · subst hi0
        exact ⟨17, _, gn_u_eq _ _ _, by have h : gn_o 17 = 236 := rfl; unfold gn_ad; omega⟩
      · exact ⟨58 + 12 * (i - 1) + 11, _, (gn_u_ne (by omega)).trans (gn_f_in (by omega)), by have := gn_oS1 (b := b) (i := i - 1) (by omega) 11 (by decide); omega⟩)) ⟨(by show 236 + 12 * i + 1 ≤ 261; omega), (by show 2138 + 103 * i + 3 ≤ 2346; omega)⟩ dX7_init_68 ?_
      refine gp_dup C.1 dX7_init_71 rfl ?_
      refine gn_call C (mc := 11) (ms := 100) (gn_Iz (by omega) ((c_X6_init MNA (i := i + 1) (c := 58 + 12 * i) (z0 := b + 238 + 12 * i) (by omega) (by omega) (fun j hj => by have h1 := gn_oS1 (b := b) hi j hj; have h2 := gn_oS1 (b := b) hi 0 (by decide); omega) (by have h2 := gn_oS1 (b := b) hi 0 (by decide); omega) (gn_u_eq _ _ _)))) (cwI 0 (gx_hts C.1) gX7_init_X6_init rfl rfl rfl (gx_hts C.1 (.initialized RX6) (by decide +kernel)) (gx_hts C.1 (.methodLink RX7 43 yX6_init) (by decide +kernel)) (gx_hts C.1 (.instanceMethod yX6_init) (by decide +kernel)) rfl (by decide +kernel) ⟨Nat.le_of_ble_eq_true rfl, Nat.le_of_ble_eq_true rfl⟩) (Or.inr ⟨58 + 12 * i, _, gn_u_eq _ _ _, by omega⟩) (Nat.le_of_ble_eq_true rfl) ⟨(by show 236 + 12 * i + 1 + 11 ≤ 261; omega), (by show 2138 + 103 * i + 3 + 100 ≤ 2346; omega)⟩ dX7_init_72 ?_
      refine gn_aast C (a := 17) (r := 58 + 12 * i) (rc := (RX6, TX6, 3)) 4 6 rfl ((gn_f_ne (by omega)).trans ((gn_u_ne (by omega)).trans (gn_u_eq _ _ _))) ((gn_f_in (by omega)).trans (congrArg some (gn_e_at (gn_s58 hi)))) rfl (by omega) dX7_init_75 ?_
      refine gp_iinc C.1 dX7_init_76 (by decide) rfl rfl ?_
      refine gp_goto C.1 dX7_init_79 rfl ?_
      rw [show 236 + 12 * i + 1 + 11 = 236 + 12 * (i + 1) by omega, show 2138 + 103 * i + 3 + 100 = 2138 + 103 * (i + 1) by omega, show (i : Int) + 1 = ((i + 1 : Nat) : Int) by omega]
      refine gn_conv (fun H hH c1 e1 he => ?_) (ih (i + 1) (by omega))
      by_cases q : c1 = 17
      · subst q
        rw [gn_u_eq] at he
        have hb := hH 17 _ (gn_u_eq _ _ _)
        cases he
        have e9 : (fun j => if j < i + 1 then some (gn_ad b (58 + 12 * j)) else none) = va_up (fun j => if j < i then some (gn_ad b (58 + 12 * j)) else none) (i : Int).toNat (some (gn_ad b (58 + 12 * i))) := by
          exact gn_vup (f := fun j => gn_ad b (58 + 12 * j))
        rw [e9]
        exact hb
      · rw [gn_u_ne q] at he
        refine hH c1 e1 ?_
        rw [gn_u_ne q]
        by_cases h1 : 58 + 12 * i ≤ c1 ∧ c1 < 58 + 12 * i + 12
        · rw [gn_f_in (by omega)] at he
          rw [gn_f_in h1]
          exact he
        · rw [gn_f_ne h1, gn_u_ne (by omega), gn_u_ne q]
          by_cases h2 : 58 ≤ c1 ∧ c1 < 58 + 12 * i
          · rw [gn_f_in (by omega)] at he
            rw [gn_f_in h2]
            exact he
          · rw [gn_f_ne (by omega)] at he
            rw [gn_f_ne h2]
            exact he
  refine gn_conv (fun H hH c1 e1 he => hH c1 e1 ?_) (key 2 0 rfl)
  by_cases q : c1 = 17
  · subst q
    have e9 : (fun j => if j < 0 then some (gn_ad b (58 + 12 * j)) else none) = (fun _ => none : Nat → Option Nat) := funext fun j => if_neg (Nat.not_lt_zero j)
    rw [gn_u_eq, e9] at he
    exact he
  · rw [gn_u_ne q, gn_f_ne (by omega)] at he
    by_cases q1 : c1 = 12
    · subst q1
      exact he
    · rw [gn_u_ne q1] at he
      rcases (show c1 = 13 ∨ c1 = 14 ∨ c1 = 15 ∨ c1 = 16 ∨ (19 ≤ c1 ∧ c1 < 41) ∨ (41 ≤ c1 ∧ c1 < 43) ∨ (43 ≤ c1 ∧ c1 < 45) ∨ c1 = 45 ∨ (46 ≤ c1 ∧ c1 < 58) ∨ (82 ≤ c1 ∧ c1 < 154) ∨ (154 ≤ c1 ∧ c1 < 274) ∨ (c1 < 12 ∨ c1 = 18 ∨ (58 ≤ c1 ∧ c1 < 82) ∨ 274 ≤ c1) by omega) with rfl | rfl | rfl | rfl | h | h | h | rfl | h | h | h | h
      · exact he
      · exact he
      · exact he
      · exact he
      all_goals first
        | exact he
        | (repeat (first | rw [gn_f_ne (by omega)] at he | rw [gn_f_in (by omega)] at he)
           repeat (first | rw [gn_u_ne (by omega)] | rw [gn_f_ne (by omega)] | rw [gn_f_in (by omega)])
           exact he)
