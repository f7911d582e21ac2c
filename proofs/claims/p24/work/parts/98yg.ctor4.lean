/-! constructors: the reference, Reckoner, History-/
theorem gn_vup {f : Nat → Nat} {i : Nat} : (fun j => if j < i + 1 then some (f j) else none) = va_up (fun j => if j < i then some (f j) else none) (i : Int).toNat (some (f i)) := by
  funext j
  show (if j < i + 1 then some (f j) else none) = if j = (i : Int).toNat then some (f i) else if j < i then some (f j) else none
  rw [show (i : Int).toNat = i by omega]
  by_cases hj : j = i
  · subst hj
    rw [if_pos (by omega), if_pos rfl]
  · rw [if_neg hj]
    by_cases h2 : j < i
    · rw [if_pos (by omega), if_pos h2]
    · rw [if_neg (by omega), if_neg h2]
theorem nX4_init_1 : ∀ w ∈ wsX10, w ∈ wsX4_init := fun w h => List.mem_cons_of_mem _ (List.mem_append_right _ h)
theorem nX2_init_6 : ∀ w ∈ wsX60, w ∈ wsX2_init := fun w h => List.mem_cons_of_mem _ (List.mem_append_right _ h)
theorem gn_oS2 {b i : Nat} (hi : i < 6) (j : Nat) (hj : j < 12) : gn_ad b (82 + 12 * i + j) = b + 164 + 12 * i + j := by
  have h : ∀ i : Fin 6, ∀ j : Fin 12, gn_o (82 + 12 * i.val + j.val) = 164 + 12 * i.val + j.val := by decide +kernel
  have := h ⟨i, hi⟩ ⟨j, hj⟩
  unfold gn_ad
  simp only at this
  omega
theorem gn_oS1 {b i : Nat} (hi : i < 2) (j : Nat) (hj : j < 12) : gn_ad b (58 + 12 * i + j) = b + 237 + 12 * i + j := by
  have h : ∀ i : Fin 2, ∀ j : Fin 12, gn_o (58 + 12 * i.val + j.val) = 237 + 12 * i.val + j.val := by decide +kernel
  have := h ⟨i, hi⟩ ⟨j, hj⟩
  unfold gn_ad
  simp only at this
  omega
theorem gn_s82 {i : Nat} (hi : i < 6) : gn_La[82 + 12 * i]? = some (.inl (6, [none, none, some (82 + 12 * i + 1)])) := by
  have := (gd_s gn_Hd (i + 3) (by omega)).1
  rwa [show 46 + 12 * (i + 3) = 82 + 12 * i by omega] at this
theorem gn_s58 {i : Nat} (hi : i < 2) : gn_La[58 + 12 * i]? = some (.inl (6, [none, none, some (58 + 12 * i + 1)])) := by
  have := (gd_s gn_Hd (i + 1) (by omega)).1
  rwa [show 46 + 12 * (i + 1) = 58 + 12 * i by omega] at this
set_option maxRecDepth 100000 in
theorem c_X4_init {b : Nat} {tc : Nat → ClassId} {w : gn_W} (hw : w 15 = some (.inr (4, [.null, .int (gx_i 0), .null]))) : gn_I yX4_init wsX4_init 2 122 1089 15 (gn_ad b) tc w (gn_f tc (gn_ad b) 15 16 (gn_f tc (gn_ad b) 43 45 (gn_f tc (gn_ad b) 154 274 w))) (b + 40) := by
  refine gn_start (own := RX4) (maxL := 2) (L := [gx_R 15, gx_U]) (by decide) rfl rfl rfl (Nat.le_of_ble_eq_true rfl) rfl ?_
  intro l D A p e s m args below meth c' hname C
  refine gn_conv (w' := gn_u w 15 (.inr (4, [.null, .int (gx_i 0), .null]))) (fun H hH c1 e1 he => hH c1 e1 (gn_u_self hw he)) ?_
  refine gp_aload_n C.1 dX4_init_0 rfl ?_
  refine gn_obj C (by decide +kernel) (by decide +kernel) (by decide +kernel) (Nat.le_of_ble_eq_true rfl) (Nat.le_of_ble_eq_true rfl) (Nat.le_of_ble_eq_true rfl) dX4_init_1 ?_
  refine gp_aload_n C.1 dX4_init_4 rfl ?_
  refine gp_bipush C.1 dX4_init_5 rfl ?_
  refine gn_anew C (k := 43) (N := 30) 5 (by decide +kernel) C.2.2.1.2.1 rfl rfl (by decide) (by decide) (by have h : gn_o 43 = 40 := rfl; unfold gn_ad; omega) (Or.inl rfl) ⟨Nat.le_of_ble_eq_true rfl, Nat.le_of_ble_eq_true rfl⟩ dX4_init_7 ?_
  refine gn_putF C 4 15 0 43 rfl rfl (by decide) (Nat.le_of_ble_eq_true rfl) nX4_init_4 tyX4 tyX4_ok nmX4 (gx_hts C.1 _ fX4_init_11) rfl rfl hname (fun x => ⟨rfl, rfl⟩) dX4_init_10 ?_
  refine gp_iconst C.1 dX4_init_13 ?_
  refine gp_istore_n C.1 dX4_init_14 (by decide) rfl ?_
  have key : ∀ j i, i + j = 30 → gp_G p l e (gn_rm 2 122 1089) s m args below meth c' (1 + 4 * i) (30 + 35 * i) (MQ below (va_Qv (fun (_ : Unit) => True) (fun _ t => gn_H D (gn_ad b) (gn_f tc (gn_ad b) 15 16 (gn_f tc (gn_ad b) 43 45 (gn_f tc (gn_ad b) 154 274 w))) t.heap) A) args s 122 1089 A) 2 (gn_ad b) (gn_P D (gn_ad b) A s.heap (gn_u (gn_f tc (gn_ad b) 154 (154 + 4 * i) (gn_u w 15 (.inr (4, [.ref (gn_ad b 43), .int (gx_i 0), .null])))) 43 (.inl (tc 5, 30, .inr (.inr (.inr (.inr (fun j => if j < i then some (gn_ad b (154 + 4 * j)) else none)))))))) 15 [gx_R 15, gx_I (i : Int)] [] := by
    intro j
    induction j with
    | zero =>
      intro i hij
      obtain rfl : i = 30 := by omega
      refine gp_iload_n C.1 dX4_init_15 rfl ?_
      refine gp_bipush C.1 dX4_init_16 rfl ?_
      refine gp_icmp_ge C.1 dX4_init_18 rfl (by unfold gx_3; omega) (by unfold gx_3; omega) (fun _ => ?_) (fun h => absurd (by omega) h)
      refine gp_aload_n C.1 dX4_init_40 rfl ?_
      refine gp_bipush C.1 dX4_init_41 rfl ?_
      refine gn_newa C (atype := .int) (k := 44) (N := 9) 0 (by decide +kernel) rfl rfl rfl (by decide) (by decide) (by decide) (by have h : gn_o 44 = 161 := rfl; unfold gn_ad; omega) (Or.inr ⟨273, _, (gn_u_ne (by decide)).trans (gn_f_in (by decide)), by have h : gn_o 273 = 160 := rfl; unfold gn_ad; omega⟩) ⟨Nat.le_of_ble_eq_true rfl, Nat.le_of_ble_eq_true rfl⟩ dX4_init_43 ?_
      refine gn_putF C 4 15 2 44 rfl ((gn_u_ne (by decide)).trans ((gn_u_ne (by decide)).trans ((gn_f_ne (by decide)).trans (gn_u_eq _ _ _)))) (by decide) (Nat.le_of_ble_eq_true rfl) nX4_init_4 tyX4 tyX4_ok nmX4 (gx_hts C.1 _ fX4_init_18) rfl rfl hname (fun x => ⟨rfl, rfl⟩) dX4_init_45 ?_
      refine gn_vret C dX4_init_48 (fun H hH c1 e1 he => ?_)
      by_cases q : c1 = 43
      · subst q
        have hb := hH 43 _ (gn_u_eq (gn_f tc (gn_ad b) 154 (154 + 4 * 30) (gn_u w 15 (.inr (4, [.ref (gn_ad b 43), .int (gx_i 0), .null])))) 43 _)
        refine ⟨hb.1, ?_⟩
        have he : some (gn_e tc (gn_ad b) 43) = some e1 := he
        cases he
        rw [gn_e_at (gd_43 gn_Hd)]
        exact gn_vq (by decide) (fun j hj => by rw [if_pos hj]) hb.2
      · refine hH c1 e1 ?_
        by_cases q1 : c1 = 15 ∨ c1 = 44
        · rcases q1 with rfl | rfl <;> exact he
        · rw [gn_u_ne (by omega), gn_u_ne (by omega), gn_u_ne q]
          rw [gn_f_ne (by omega), gn_f_ne (by omega)] at he
          by_cases q2 : 154 ≤ c1 ∧ c1 < 274
          · rw [gn_f_in q2] at he
            rw [gn_f_in (by omega)]
            exact he
          · rw [gn_f_ne q2] at he
            rw [gn_f_ne (by omega), gn_u_ne (by omega)]
            exact he
    | succ j ih =>
      intro i hij
      have hi : i < 30 := by omega
      have hk : gn_ad b (154 + 4 * i) = b + 41 + 4 * i := by have := gn_oF (b := b) hi 0 (by decide); omega
      refine gp_iload_n C.1 dX4_init_15 rfl ?_
      refine gp_bipush C.1 dX4_init_16 rfl ?_
      refine gp_icmp_ge C.1 dX4_init_18 rfl (by unfold gx_3; omega) (by unfold gx_3; omega) (fun h => absurd h (by omega)) (fun _ => ?_)
      refine gp_aload_n C.1 dX4_init_21 rfl ?_
      refine gn_get C 4 15 0 rfl ((gn_u_ne (by decide)).trans ((gn_f_ne (by omega)).trans (gn_u_eq _ _ _))) (v := gx_R 43) rfl (by decide) nX4_init_4 (gx_hts C.1 _ fX4_init_11) dX4_init_22 ?_
      refine gp_iload_n C.1 dX4_init_25 rfl ?_
      refine gn_new C (k := 154 + 4 * i) 1 tyX1 rfl nX4_init_1 tyX1_ok (by decide +kernel) (by decide +kernel) (by decide +kernel) gn_fs1 (by omega) (by omega) (Or.inr (by
      by_cases hi0 : i = 0
      · subst hi0
        exact ⟨43, _, gn_u_eq _ _ _, by have h : gn_o 43 = 40 := rfl; unfold gn_ad; omega⟩
      · exact ⟨154 + 4 * (i - 1) + 3, _, (gn_u_ne (by omega)).trans (gn_f_in (by omega)), by have := gn_oF (b := b) (i := i - 1) (by omega) 3 (by decide); omega⟩)) ⟨(by show 1 + 4 * i + 1 ≤ 122; omega), (by show 30 + 35 * i + 8 ≤ 1089; omega)⟩ dX4_init_26 ?_
      refine gp_dup C.1 dX4_init_29 rfl ?_
      refine gn_call C (mc := 3) (ms := 27) (gn_Iz (by omega) (c_X1_init (b := b) hi (gn_u_eq _ _ _))) (cwI 0 (gx_hts C.1) gX4_init_X1_init rfl rfl rfl (gx_hts C.1 (.initialized RX1) (by decide +kernel)) (gx_hts C.1 (.methodLink RX4 17 yX1_init) (by decide +kernel)) (gx_hts C.1 (.instanceMethod yX1_init) (by decide +kernel)) rfl (by decide +kernel) ⟨Nat.le_of_ble_eq_true rfl, Nat.le_of_ble_eq_true rfl⟩) (Or.inr ⟨154 + 4 * i, _, gn_u_eq _ _ _, by omega⟩) (Nat.le_of_ble_eq_true rfl) ⟨(by show 1 + 4 * i + 1 + 3 ≤ 122; omega), (by show 30 + 35 * i + 8 + 27 ≤ 1089; omega)⟩ dX4_init_30 ?_
      refine gn_aast C (a := 43) (r := 154 + 4 * i) (rc := (RX1, TX1, 8)) 5 1 rfl ((gn_f_ne (by omega)).trans ((gn_u_ne (by omega)).trans (gn_u_eq _ _ _))) ((gn_f_in (by omega)).trans (congrArg some (gn_e_at ((gd_f gn_Hd i hi).1)))) rfl (by omega) dX4_init_33 ?_
      refine gp_iinc C.1 dX4_init_34 (by decide) rfl rfl ?_
      refine gp_goto C.1 dX4_init_37 rfl ?_
      rw [show 1 + 4 * i + 1 + 3 = 1 + 4 * (i + 1) by omega, show 30 + 35 * i + 8 + 27 = 30 + 35 * (i + 1) by omega, show (i : Int) + 1 = ((i + 1 : Nat) : Int) by omega]
      refine gn_conv (fun H hH c1 e1 he => ?_) (ih (i + 1) (by omega))
      by_cases q : c1 = 43
      · subst q
        rw [gn_u_eq] at he
        have hb := hH 43 _ (gn_u_eq _ _ _)
        cases he
        have e9 : (fun j => if j < i + 1 then some (gn_ad b (154 + 4 * j)) else none) = va_up (fun j => if j < i then some (gn_ad b (154 + 4 * j)) else none) (i : Int).toNat (some (gn_ad b (154 + 4 * i))) := by
          exact gn_vup (f := fun j => gn_ad b (154 + 4 * j))
        rw [e9]
        exact hb
      · rw [gn_u_ne q] at he
        refine hH c1 e1 ?_
        rw [gn_u_ne q]
        by_cases h1 : 154 + 4 * i ≤ c1 ∧ c1 < 154 + 4 * i + 4
        · rw [gn_f_in (by omega)] at he
          rw [gn_f_in h1]
          exact he
        · rw [gn_f_ne h1, gn_u_ne (by omega), gn_u_ne q]
          by_cases h2 : 154 ≤ c1 ∧ c1 < 154 + 4 * i
          · rw [gn_f_in (by omega)] at he
            rw [gn_f_in h2]
            exact he
          · rw [gn_f_ne (by omega)] at he
            rw [gn_f_ne h2]
            exact he
  refine gn_conv (fun H hH c1 e1 he => hH c1 e1 ?_) (key 30 0 rfl)
  by_cases q : c1 = 43
  · subst q
    have e9 : (fun j => if j < 0 then some (gn_ad b (154 + 4 * j)) else none) = (fun _ => none : Nat → Option Nat) := funext fun j => if_neg (Nat.not_lt_zero j)
    rw [gn_u_eq, e9] at he
    exact he
  · rw [gn_u_ne q, gn_f_ne (by omega)] at he
    by_cases q1 : c1 = 15
    · subst q1
      exact he
    · rw [gn_u_ne q1] at he
      rw [gn_u_ne q1, gn_u_ne q, gn_u_ne q1]
      exact he
