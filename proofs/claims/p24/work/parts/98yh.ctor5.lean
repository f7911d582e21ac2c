/-! constructors: History, the desk -/
set_option maxRecDepth 100000 in
theorem c_X2_init (MNA : gn_MNA) {b : Nat} {tc : Nat → ClassId} {w : gn_W} (hw : w 16 = some (.inr (2, [.null, .int (gx_i 0), .int (gx_i 0)]))) : gn_I yX2_init wsX2_init 3 73 624 16 (gn_ad b) tc w (gn_f tc (gn_ad b) 16 17 (gn_f tc (gn_ad b) 45 46 (gn_f tc (gn_ad b) 82 154 w))) (b + 163) := by
  refine gn_start (own := RX2) (maxL := 2) (L := [gx_R 16, gx_U]) (by decide) rfl rfl rfl (Nat.le_of_ble_eq_true rfl) rfl ?_
  intro l D A p e s m args below meth c' hname C
  refine gn_conv (w' := gn_u w 16 (.inr (2, [.null, .int (gx_i 0), .int (gx_i 0)]))) (fun H hH c1 e1 he => hH c1 e1 (gn_u_self hw he)) ?_
  refine gp_aload_n C.1 dX2_init_0 rfl ?_
  refine gn_obj C (by decide +kernel) (by decide +kernel) (by decide +kernel) (Nat.le_of_ble_eq_true rfl) (Nat.le_of_ble_eq_true rfl) (Nat.le_of_ble_eq_true rfl) dX2_init_1 ?_
  refine gp_aload_n C.1 dX2_init_4 rfl ?_
  refine gp_bipush C.1 dX2_init_5 rfl ?_
  refine gn_anew C (k := 45) (N := 6) 4 (by decide +kernel) C.2.2.1.1 rfl rfl (by decide) (by decide) (by have h : gn_o 45 = 163 := rfl; unfold gn_ad; omega) (Or.inl rfl) ⟨Nat.le_of_ble_eq_true rfl, Nat.le_of_ble_eq_true rfl⟩ dX2_init_7 ?_
  refine gn_putF C 2 16 0 45 rfl rfl (by decide) (Nat.le_of_ble_eq_true rfl) nX2_init_2 tyX2 tyX2_ok nmX2 (gx_hts C.1 _ fX2_init_11) rfl rfl hname (fun x => ⟨rfl, rfl⟩) dX2_init_10 ?_
  refine gp_iconst C.1 dX2_init_13 ?_
  refine gp_istore_n C.1 dX2_init_14 (by decide) rfl ?_
  have key : ∀ j i, i + j = 6 → gp_G p l e (gn_rm 3 73 624) s m args below meth c' (1 + 12 * i) (6 + 103 * i) (MQ below (va_Qv (fun (_ : Unit) => True) (fun _ t => gn_H D (gn_ad b) (gn_f tc (gn_ad b) 16 17 (gn_f tc (gn_ad b) 45 46 (gn_f tc (gn_ad b) 82 154 w))) t.heap) A) args s 73 624 A) 2 (gn_ad b) (gn_P D (gn_ad b) A s.heap (gn_u (gn_f tc (gn_ad b) 82 (82 + 12 * i) (gn_u w 16 (.inr (2, [.ref (gn_ad b 45), .int (gx_i 0), .int (gx_i 0)])))) 45 (.inl (tc 4, 6, .inr (.inr (.inr (.inr (fun j => if j < i then some (gn_ad b (82 + 12 * j)) else none)))))))) 15 [gx_R 16, gx_I (i : Int)] [] := by
    intro j
    induction j with
    | zero =>
      intro i hij
      obtain rfl : i = 6 := by omega
      refine gp_iload_n C.1 dX2_init_15 rfl ?_
      refine gp_bipush C.1 dX2_init_16 rfl ?_
      refine gp_icmp_ge C.1 dX2_init_18 rfl (by unfold gx_3; omega) (by unfold gx_3; omega) (fun _ => ?_) (fun h => absurd (by omega) h)
      refine gn_vret C dX2_init_40 (fun H hH c1 e1 he => ?_)
      by_cases q : c1 = 45
      · subst q
        have hb := hH 45 _ (gn_u_eq (gn_f tc (gn_ad b) 82 (82 + 12 * 6) (gn_u w 16 (.inr (2, [.ref (gn_ad b 45), .int (gx_i 0), .int (gx_i 0)])))) 45 _)
        refine ⟨hb.1, ?_⟩
        have he : some (gn_e tc (gn_ad b) 45) = some e1 := he
        cases he
        rw [gn_e_at (gd_45 gn_Hd)]
        exact gn_vq (by decide) (fun j hj => by rw [if_pos hj]) hb.2
      · refine hH c1 e1 ?_
        by_cases q1 : c1 = 16
        · subst q1
          exact he
        · rw [gn_u_ne q]
          rw [gn_f_ne (by omega), gn_f_ne (by omega)] at he
          by_cases q2 : 82 ≤ c1 ∧ c1 < 154
          · rw [gn_f_in q2] at he
            rw [gn_f_in (by omega)]
            exact he
          · rw [gn_f_ne q2] at he
            rw [gn_f_ne (by omega), gn_u_ne (by omega)]
            exact he
    | succ j ih =>
      intro i hij
      have hi : i < 6 := by omega
      have hk : gn_ad b (82 + 12 * i) = b + 164 + 12 * i := by have := gn_oS2 (b := b) hi 0 (by decide); omega
      refine gp_iload_n C.1 dX2_init_15 rfl ?_
      refine gp_bipush C.1 dX2_init_16 rfl ?_
      refine gp_icmp_ge C.1 dX2_init_18 rfl (by unfold gx_3; omega) (by unfold gx_3; omega) (fun h => absurd h (by omega)) (fun _ => ?_)
      refine gp_aload_n C.1 dX2_init_21 rfl ?_
      refine gn_get C 2 16 0 rfl ((gn_u_ne (by decide)).trans ((gn_f_ne (by omega)).trans (gn_u_eq _ _ _))) (v := gx_R 45) rfl (by decide) nX2_init_2 (gx_hts C.1 _ fX2_init_11) dX2_init_22 ?_
      refine gp_iload_n C.1 dX2_init_25 rfl ?_
      refine gn_new C (k := 82 + 12 * i) 6 tyX6 rfl nX2_init_6 tyX6_ok (by decide +kernel) (by decide +kernel) (by decide +kernel) gn_fs6 (by omega) (by omega) (Or.inr (by
      by_cases hi0 : i = 0
      · subst hi0
        exact ⟨45, _, gn_u_eq _ _ _, by have h : gn_o 45 = 163 := rfl; unfold gn_ad; omega⟩
      · exact ⟨82 + 12 * (i - 1) + 11, _, (gn_u_ne (by omega)).trans (gn_f_in (by omega)), by have := gn_oS2 (b := b) (i := i - 1) (by omega) 11 (by decide); omega⟩)) ⟨(by show 1 + 12 * i + 1 ≤ 73; omega), (by show 6 + 103 * i + 3 ≤ 624; omega)⟩ dX2_init_26 ?_
      refine gp_dup C.1 dX2_init_29 rfl ?_
      refine gn_call C (mc := 11) (ms := 100) (gn_Iz (by omega) ((c_X6_init MNA (i := i + 3) (c := 82 + 12 * i) (z0 := b + 165 + 12 * i) (by omega) (by omega) (fun j hj => by have h1 := gn_oS2 (b := b) hi j hj; have h2 := gn_oS2 (b := b) hi 0 (by decide); omega) (by have h2 := gn_oS2 (b := b) hi 0 (by decide); omega) (gn_u_eq _ _ _)))) (cwI 0 (gx_hts C.1) gX2_init_X6_init rfl rfl rfl (gx_hts C.1 (.initialized RX6) (by decide +kernel)) (gx_hts C.1 (.methodLink RX2 17 yX6_init) (by decide +kernel)) (gx_hts C.1 (.instanceMethod yX6_init) (by decide +kernel)) rfl (by decide +kernel) ⟨Nat.le_of_ble_eq_true rfl, Nat.le_of_ble_eq_true rfl⟩) (Or.inr ⟨82 + 12 * i, _, gn_u_eq _ _ _, by omega⟩) (Nat.le_of_ble_eq_true rfl) ⟨(by show 1 + 12 * i + 1 + 11 ≤ 73; omega), (by show 6 + 103 * i + 3 + 100 ≤ 624; omega)⟩ dX2_init_30 ?_
      refine gn_aast C (a := 45) (r := 82 + 12 * i) (rc := (RX6, TX6, 3)) 4 6 rfl ((gn_f_ne (by omega)).trans ((gn_u_ne (by omega)).trans (gn_u_eq _ _ _))) ((gn_f_in (by omega)).trans (congrArg some (gn_e_at (gn_s82 hi)))) rfl (by omega) dX2_init_33 ?_
      refine gp_iinc C.1 dX2_init_34 (by decide) rfl rfl ?_
      refine gp_goto C.1 dX2_init_37 rfl ?_
      rw [show 1 + 12 * i + 1 + 11 = 1 + 12 * (i + 1) by omega, show 6 + 103 * i + 3 + 100 = 6 + 103 * (i + 1) by omega, show (i : Int) + 1 = ((i + 1 : Nat) : Int) by omega]
      refine gn_conv (fun H hH c1 e1 he => ?_) (ih (i + 1) (by omega))
      by_cases q : c1 = 45
      · subst q
        rw [gn_u_eq] at he
        have hb := hH 45 _ (gn_u_eq _ _ _)
        cases he
        have e9 : (fun j => if j < i + 1 then some (gn_ad b (82 + 12 * j)) else none) = va_up (fun j => if j < i then some (gn_ad b (82 + 12 * j)) else none) (i : Int).toNat (some (gn_ad b (82 + 12 * i))) := by
          exact gn_vup (f := fun j => gn_ad b (82 + 12 * j))
        rw [e9]
        exact hb
      · rw [gn_u_ne q] at he
        refine hH c1 e1 ?_
        rw [gn_u_ne q]
        by_cases h1 : 82 + 12 * i ≤ c1 ∧ c1 < 82 + 12 * i + 12
        · rw [gn_f_in (by omega)] at he
          rw [gn_f_in h1]
          exact he
        · rw [gn_f_ne h1, gn_u_ne (by omega), gn_u_ne q]
          by_cases h2 : 82 ≤ c1 ∧ c1 < 82 + 12 * i
          · rw [gn_f_in (by omega)] at he
            rw [gn_f_in h2]
            exact he
          · rw [gn_f_ne (by omega)] at he
            rw [gn_f_ne h2]
            exact he
  refine gn_conv (fun H hH c1 e1 he => hH c1 e1 ?_) (key 6 0 rfl)
  by_cases q : c1 = 45
  · subst q
    have e9 : (fun j => if j < 0 then some (gn_ad b (82 + 12 * j)) else none) = (fun _ => none : Nat → Option Nat) := funext fun j => if_neg (Nat.not_lt_zero j)
    rw [gn_u_eq, e9] at he
    exact he
  · rw [gn_u_ne q, gn_f_ne (by omega)] at he
    by_cases q1 : c1 = 16
    · subst q1
      exact he
    · rw [gn_u_ne q1] at he
      rw [gn_u_ne q1, gn_u_ne q, gn_u_ne q1]
      exact he
