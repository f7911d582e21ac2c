set_option maxRecDepth 100000 in
set_option maxHeartbeats 4000000 in
theorem c_X6_writeIdentity {La : List gx_K} {c b : Nat} (hS : gd_S La c) (hb : gd_9 La b) {M : gx_M} {n : Int} (hn : M c 0 = n) (hn3 : n = 2 ∨ n = 3) : gx_Cv La yX6_writeIdentity wsX6_writeIdentity 0 [gx_R c, gx_R b] M (fun M' => M' = gx_blk M b 0 9 (mx_id n)) := by
  have hcb : c ≠ b := gd_ne hS.1 hb
  refine gx_start_v (L := [gx_R c, gx_R b, gx_U, gx_U]) (by decide) rfl rfl (Nat.le_of_ble_eq_true rfl) rfl ?_
  intro _ _ _ _ _ _ _ _ _ _ _ _ C
  refine gx_iconst C dX6_writeIdentity_0 ?_
  refine gx_istore_n C dX6_writeIdentity_1 (by decide) rfl ?_
  refine gx_for 3 (fun r (_ : gx_M) => [gx_R c, gx_R b, gx_I (r : Int), gx_U]) (fun M' => M') (fun r M' => M' = gx_blk M b 0 (3 * r) (mx_id n)) 0 M (by omega) gx_blk_0.symm (fun r M' hr hI ih => ?_) (fun M' hI => ?_)
  · refine gx_iload_n C dX6_writeIdentity_2 rfl ?_
    refine gx_iconst C dX6_writeIdentity_3 ?_
    refine gx_icmp_ge C dX6_writeIdentity_4 rfl (by unfold gx_3; omega) (by unfold gx_3; omega) (fun hb4 => absurd hb4 (by omega)) (fun hb4 => ?_)
    refine gx_iconst C dX6_writeIdentity_7 ?_
    refine gx_istore_n C dX6_writeIdentity_8 (by decide) rfl ?_
    refine gx_for 3 (fun q (_ : gx_M) => [gx_R c, gx_R b, gx_I (r : Int), gx_I (q : Int)]) (fun M' => M') (fun q M' => M' = gx_blk M b 0 (3 * r + q) (mx_id n)) 0 M' (by omega) hI (fun q M' hq hI ih2 => ?_) (fun M' hI => ?_)
    · have hn' : M' c 0 = n := by rw [hI, gx_blk_nc hcb]; exact hn
      refine gx_iload_n C dX6_writeIdentity_9 rfl ?_
      refine gx_iconst C dX6_writeIdentity_10 ?_
      refine gx_icmp_ge C dX6_writeIdentity_11 rfl (by unfold gx_3; omega) (by unfold gx_3; omega) (fun hb11 => absurd hb11 (by omega)) (fun hb11 => ?_)
      refine gx_aload_n C dX6_writeIdentity_14 rfl ?_
      refine gx_iconst C dX6_writeIdentity_15 ?_
      refine gx_iload_n C dX6_writeIdentity_16 rfl ?_
      refine gx_imul C dX6_writeIdentity_17 ?_
      refine gx_iload_n C dX6_writeIdentity_18 rfl ?_
      refine gx_iadd C dX6_writeIdentity_19 ?_
      refine gx_iload_n C dX6_writeIdentity_20 rfl ?_
      refine gx_iload_n C dX6_writeIdentity_21 rfl ?_
      refine gx_cut 38 (fun (v : Int) => [gx_R c, gx_R b, gx_I (r : Int), gx_I (q : Int)]) (fun v => [gx_I v, gx_I (3 * (r : Int) + (q : Int)), gx_R b]) (fun _ => M') (fun v => v = mx_id n (3 * r + q)) (fun v hv => ?_) (fun fin => ?_)
      · refine gx_iastore C hb (by omega) dX6_writeIdentity_38 (show _ = 0 + (3 * r + q) by omega) ?_
        refine gx_iinc C dX6_writeIdentity_39 (by decide) rfl rfl ?_
        refine gx_goto C dX6_writeIdentity_42 rfl ?_
        exact ih2 _ (by rw [hI]; exact gx_blk_s hv)
      · refine gx_icmp_ne C dX6_writeIdentity_22 rfl (by unfold gx_3; omega) (by unfold gx_3; omega) (fun hb22 => ?_) (fun hb22 => ?_)
        · refine gx_iconst C dX6_writeIdentity_37 ?_
          exact fin 0 (by rw [mx_id_at, if_neg (by omega)])
        · refine gx_iload_n C dX6_writeIdentity_25 rfl ?_
          refine gx_aload_n C dX6_writeIdentity_26 rfl ?_
          refine gx_getI C 6 _ 0 rfl hS.1 rfl (by decide) nX6_writeIdentity_6 (gx_hts C _ fX6_writeIdentity_20) dX6_writeIdentity_27 hn' ?_
          refine gx_icmp_ge C dX6_writeIdentity_30 rfl (by unfold gx_3; omega) (by unfold gx_3; omega) (fun hb30 => ?_) (fun hb30 => ?_)
          · refine gx_iconst C dX6_writeIdentity_37 ?_
            exact fin 0 (by rw [mx_id_at, if_neg (by omega)])
          · refine gx_iconst C dX6_writeIdentity_33 ?_
            refine gx_goto C dX6_writeIdentity_34 rfl ?_
            exact fin 1 (by rw [mx_id_at, if_pos (by omega)])
    · refine gx_iload_n C dX6_writeIdentity_9 rfl ?_
      refine gx_iconst C dX6_writeIdentity_10 ?_
      refine gx_icmp_ge C dX6_writeIdentity_11 rfl (by unfold gx_3; omega) (by unfold gx_3; omega) (fun hb11 => ?_) (fun hb11 => absurd (by omega) hb11)
      refine gx_iinc C dX6_writeIdentity_45 (by decide) rfl rfl ?_
      refine gx_goto C dX6_writeIdentity_48 rfl ?_
      exact gx_weak (L' := [gx_R c, gx_R b, gx_I ((r + 1 : Nat) : Int), gx_U]) ⟨Or.inr rfl, Or.inr rfl, Or.inr rfl, Or.inl rfl, trivial⟩ (ih _ (by rw [hI, show 3 * (r + 1) = 3 * r + 3 by omega]))
  · refine gx_iload_n C dX6_writeIdentity_2 rfl ?_
    refine gx_iconst C dX6_writeIdentity_3 ?_
    refine gx_icmp_ge C dX6_writeIdentity_4 rfl (by unfold gx_3; omega) (by unfold gx_3; omega) (fun hb4 => ?_) (fun hb4 => absurd (by omega) hb4)
    exact gx_vret C dX6_writeIdentity_51 hI
/-- the cells of a state alone have changed -/
def gd_O (c : Nat) (M M' : gx_M) : Prop := ∀ c', (c' < c ∨ c + 12 ≤ c') → M' c' = M c'
theorem mx_id_9 {n : Int} (hn : n ≤ 3) : ∀ k, 9 ≤ k → mx_id n k = 0 := fun k hk => by
  rw [mx_id_at, if_neg (by omega)]
theorem mx_of_id {M : gx_M} {b : Nat} {n : Int} (hn : n ≤ 3) : mx_of (gx_blk M b 0 9 (mx_id n) b) 0 = mx_id n := by rw [mx_of_blk, mx_cut (mx_id_9 hn)]
set_option maxRecDepth 100000 in
set_option maxHeartbeats 4000000 in
theorem c_X6_clear {La : List gx_K} {c : Nat} (hS : gd_S La c) {M : gx_M} {n m : Int} (hn3 : n = 2 ∨ n = 3) : gx_Cv La yX6_clear wsX6_clear 1 [gx_R c, gx_I n, gx_I m] M (fun M' => M' c 0 = n ∧ M' c 1 = m ∧ (∀ r, r < 8 → mx_of (M' (c + 2 + r)) 0 = fun _ => 0) ∧ mx_of (M' (c + 2 + 8)) 0 = mx_id n ∧ mx_of (M' (c + 2 + 9)) 0 = mx_id n ∧ gd_O c M M') := by
  refine gx_start_v (L := [gx_R c, gx_I n, gx_I m, gx_U, gx_U]) (by decide) rfl rfl (Nat.le_of_ble_eq_true rfl) rfl ?_
  intro _ _ _ _ _ _ _ _ _ _ _ _ C
  refine gx_aload_n C dX6_clear_0 rfl ?_
  refine gx_iload_n C dX6_clear_1 rfl ?_
  refine gx_putI C 6 _ 0 rfl hS.1 rfl (by decide) nX6_clear_6 tyX6 tyX6_ok nmX6 (gx_hts C _ fX6_clear_20) rfl rfl dX6_clear_2 ?_
  refine gx_aload_n C dX6_clear_5 rfl ?_
  refine gx_iload_n C dX6_clear_6 rfl ?_
  refine gx_putI C 6 _ 1 rfl hS.1 rfl (by decide) nX6_clear_6 tyX6 tyX6_ok nmX6 (gx_hts C _ fX6_clear_24) rfl rfl dX6_clear_7 ?_
  refine gx_iconst C dX6_clear_10 ?_
  refine gx_istore_n C dX6_clear_11 (by decide) rfl ?_
  refine gx_for 8 (fun r (_ : gx_M) => [gx_R c, gx_I n, gx_I m, gx_I (r : Int), gx_U]) (fun M' => M') (fun r M' => M' c 0 = n ∧ M' c 1 = m ∧ (∀ i, i < r → mx_of (M' (c + 2 + i)) 0 = fun _ => 0) ∧ gd_O c M M') 0 _ (by omega) ⟨by rw [gx_u_ne (by omega), gx_u_eq], gx_u_eq _ _ _ _, fun i hi => absurd hi (Nat.not_lt_zero i), fun c' hc => by rw [gx_u_nc (by omega), gx_u_nc (by omega)]⟩ (fun r M' hr hI ih => ?_) (fun M' hI => ?_)
  · obtain ⟨i1, i2, i3, i4⟩ := hI
    have hrow := hS.2.2 r (by omega)
    refine gx_iload_n C dX6_clear_12 rfl ?_
    refine gx_bipush C dX6_clear_13 rfl ?_
    refine gx_icmp_ge C dX6_clear_15 rfl (by unfold gx_3; omega) (by unfold gx_3; omega) (fun hb15 => absurd hb15 (by omega)) (fun hb15 => ?_)
    refine gx_iconst C dX6_clear_18 ?_
    refine gx_istore C dX6_clear_19 (by decide) rfl ?_
    refine gx_for 9 (fun k (_ : gx_M) => [gx_R c, gx_I n, gx_I m, gx_I (r : Int), gx_I (k : Int)]) (fun M' => M') (fun k P => P = gx_blk M' (c + 2 + r) 0 k (fun _ => 0)) 0 M' (by omega) gx_blk_0.symm (fun k P hk hP ih2 => ?_) (fun P hP => ?_)
    · refine gx_iload C dX6_clear_21 rfl ?_
      refine gx_bipush C dX6_clear_23 rfl ?_
      refine gx_icmp_ge C dX6_clear_25 rfl (by unfold gx_3; omega) (by unfold gx_3; omega) (fun hb25 => absurd hb25 (by omega)) (fun hb25 => ?_)
      refine gx_aload_n C dX6_clear_28 rfl ?_
      refine gx_getR C 6 _ 2 rfl hS.1 rfl (by decide) nX6_clear_6 (gx_hts C _ fX6_clear_11) dX6_clear_29 ?_
      refine gx_iload_n C dX6_clear_32 rfl ?_
      refine gx_aaload C hS.2.1 (by decide) (by omega) dX6_clear_33 (show _ = c + 2 + r by omega) ?_
      refine gx_iload C dX6_clear_34 rfl ?_
      refine gx_iconst C dX6_clear_36 ?_
      refine gx_iastore C (hrow) (by omega) dX6_clear_37 (show _ = 0 + k by omega) ?_
      refine gx_iinc C dX6_clear_38 (by decide) rfl rfl ?_
      refine gx_goto C dX6_clear_41 rfl ?_
      exact ih2 _ (by rw [hP]; exact gx_blk_s rfl)
    · refine gx_iload C dX6_clear_21 rfl ?_
      refine gx_bipush C dX6_clear_23 rfl ?_
      refine gx_icmp_ge C dX6_clear_25 rfl (by unfold gx_3; omega) (by unfold gx_3; omega) (fun hb25 => ?_) (fun hb25 => absurd (by omega) hb25)
      refine gx_iinc C dX6_clear_44 (by decide) rfl rfl ?_
      refine gx_goto C dX6_clear_47 rfl ?_
      refine gx_weak (L' := [gx_R c, gx_I n, gx_I m, gx_I ((r + 1 : Nat) : Int), gx_U]) ⟨Or.inr rfl, Or.inr rfl, Or.inr rfl, Or.inr rfl, Or.inl rfl, trivial⟩ (ih _ ⟨by rw [hP, gx_blk_nc (by omega)]; exact i1, by rw [hP, gx_blk_nc (by omega)]; exact i2, fun i hi => ?_, fun c' hc => by rw [hP, gx_blk_nc (by omega)]; exact i4 c' hc⟩)
      rw [hP]
      by_cases e : i = r
      · rw [e, mx_of_blk]
        exact mx_cut (fun _ _ => rfl)
      · rw [gx_blk_nc (by omega)]
        exact i3 i (by omega)
  · obtain ⟨i1, i2, i3, i4⟩ := hI
    refine gx_iload_n C dX6_clear_12 rfl ?_
    refine gx_bipush C dX6_clear_13 rfl ?_
    refine gx_icmp_ge C dX6_clear_15 rfl (by unfold gx_3; omega) (by unfold gx_3; omega) (fun hb15 => ?_) (fun hb15 => absurd (by omega) hb15)
    refine gx_aload_n C dX6_clear_50 rfl ?_
    refine gx_aload_n C dX6_clear_51 rfl ?_
    refine gx_getR C 6 _ 2 rfl hS.1 rfl (by decide) nX6_clear_6 (gx_hts C _ fX6_clear_11) dX6_clear_52 ?_
    refine gx_bipush C dX6_clear_55 rfl ?_
    refine gx_aaload C hS.2.1 (by decide) (by omega) dX6_clear_57 (show _ = c + 2 + 8 from rfl) ?_
    refine gx_callV C 6 rfl hS.1 (c_X6_writeIdentity hS (hS.2.2 8 (by decide)) i1 hn3) (cwV 1 (gx_hts C) gX6_clear_X6_writeIdentity rfl rfl rfl (by decide +kernel) ⟨Nat.le_of_ble_eq_true rfl, Nat.le_of_ble_eq_true rfl⟩) rfl rfl (Nat.le_of_ble_eq_true rfl) ⟨Nat.le_refl _, Nat.le_refl _⟩ dX6_clear_58 (fun P1 h1 => ?_)
    refine gx_aload_n C dX6_clear_61 rfl ?_
    refine gx_aload_n C dX6_clear_62 rfl ?_
    refine gx_getR C 6 _ 2 rfl hS.1 rfl (by decide) nX6_clear_6 (gx_hts C _ fX6_clear_11) dX6_clear_63 ?_
    refine gx_bipush C dX6_clear_66 rfl ?_
    refine gx_aaload C hS.2.1 (by decide) (by omega) dX6_clear_68 (show _ = c + 2 + 9 from rfl) ?_
    refine gx_callV C 6 rfl hS.1 (c_X6_writeIdentity hS (hS.2.2 9 (by decide)) (show P1 c 0 = n by rw [h1, gx_blk_nc (by omega)]; exact i1) hn3) (cwV 1 (gx_hts C) gX6_clear_X6_writeIdentity rfl rfl rfl (by decide +kernel) ⟨Nat.le_of_ble_eq_true rfl, Nat.le_of_ble_eq_true rfl⟩) rfl rfl (Nat.le_of_ble_eq_true rfl) ⟨Nat.le_refl _, Nat.le_refl _⟩ dX6_clear_69 (fun P2 h2 => ?_)
    have f0 : ∀ c', c' ≠ c + 2 + 8 → c' ≠ c + 2 + 9 → P2 c' = M' c' := fun c' a b => by rw [h2, gx_blk_nc b, h1, gx_blk_nc a]
    exact gx_vret C dX6_clear_72 ⟨by rw [f0 c (by omega) (by omega)]; exact i1, by rw [f0 c (by omega) (by omega)]; exact i2, fun r hr => by rw [f0 _ (by omega) (by omega)]; exact i3 r hr, by rw [h2, gx_blk_nc (by omega), h1]; exact mx_of_id (by omega), by rw [h2]; exact mx_of_id (by omega), fun c' hc => by rw [f0 c' (by omega) (by omega)]; exact i4 c' hc⟩
set_option maxRecDepth 100000 in
set_option maxHeartbeats 4000000 in
theorem c_X6_copyFrom {La : List gx_K} {c o : Nat} (hS : gd_S La c) (hO : gd_S La o) (hd : c + 12 ≤ o ∨ o + 12 ≤ c) {M : gx_M} : gx_Cv La yX6_copyFrom wsX6_copyFrom 2 [gx_R c, gx_R o] M (fun M' => M' c 0 = M o 0 ∧ M' c 1 = M o 1 ∧ (∀ r, r < 10 → mx_of (M' (c + 2 + r)) 0 = mx_of (M (o + 2 + r)) 0) ∧ gd_O c M M') := by
  refine gx_start_v (L := [gx_R c, gx_R o, gx_U]) (by decide) rfl rfl (Nat.le_of_ble_eq_true rfl) rfl ?_
  intro _ _ _ _ _ _ _ _ _ _ _ _ C
  have e1 : gx_u M c 0 (M o 0) o 1 = M o 1 := by rw [gx_u_nc (by omega)]
  refine gx_aload_n C dX6_copyFrom_0 rfl ?_
  refine gx_aload_n C dX6_copyFrom_1 rfl ?_
  refine gx_getI C 6 _ 0 rfl hO.1 rfl (by decide) nX6_copyFrom_6 (gx_hts C _ fX6_copyFrom_20) dX6_copyFrom_2 rfl ?_
  refine gx_putI C 6 _ 0 rfl hS.1 rfl (by decide) nX6_copyFrom_6 tyX6 tyX6_ok nmX6 (gx_hts C _ fX6_copyFrom_20) rfl rfl dX6_copyFrom_5 ?_
  refine gx_aload_n C dX6_copyFrom_8 rfl ?_
  refine gx_aload_n C dX6_copyFrom_9 rfl ?_
  refine gx_getI C 6 _ 1 rfl hO.1 rfl (by decide) nX6_copyFrom_6 (gx_hts C _ fX6_copyFrom_24) dX6_copyFrom_10 e1 ?_
  refine gx_putI C 6 _ 1 rfl hS.1 rfl (by decide) nX6_copyFrom_6 tyX6 tyX6_ok nmX6 (gx_hts C _ fX6_copyFrom_24) rfl rfl dX6_copyFrom_13 ?_
  refine gx_iconst C dX6_copyFrom_16 ?_
  refine gx_istore_n C dX6_copyFrom_17 (by decide) rfl ?_
  refine gx_for 10 (fun r (_ : gx_M) => [gx_R c, gx_R o, gx_I (r : Int)]) (fun M' => M') (fun r M' => M' c 0 = M o 0 ∧ M' c 1 = M o 1 ∧ (∀ i, i < r → mx_of (M' (c + 2 + i)) 0 = mx_of (M (o + 2 + i)) 0) ∧ gd_O c M M') 0 _ (by omega) ⟨by rw [gx_u_ne (by omega), gx_u_eq], gx_u_eq _ _ _ _, fun i hi => absurd hi (Nat.not_lt_zero i), fun c' hc => by rw [gx_u_nc (by omega), gx_u_nc (by omega)]⟩ (fun r M' hr hI ih => ?_) (fun M' hI => ?_)
  · obtain ⟨i1, i2, i3, i4⟩ := hI
    have hr1 := hS.2.2 r hr
    have hr2 := hO.2.2 r hr
    refine gx_iload_n C dX6_copyFrom_18 rfl ?_
    refine gx_bipush C dX6_copyFrom_19 rfl ?_
    refine gx_icmp_ge C dX6_copyFrom_21 rfl (by unfold gx_3; omega) (by unfold gx_3; omega) (fun hb21 => absurd hb21 (by omega)) (fun hb21 => ?_)
    refine gx_aload_n C dX6_copyFrom_24 rfl ?_
    refine gx_getR C 6 _ 2 rfl hO.1 rfl (by decide) nX6_copyFrom_6 (gx_hts C _ fX6_copyFrom_11) dX6_copyFrom_25 ?_
    refine gx_iload_n C dX6_copyFrom_28 rfl ?_
    refine gx_aaload C hO.2.1 (by decide) (by omega) dX6_copyFrom_29 (show _ = o + 2 + r by omega) ?_
    refine gx_aload_n C dX6_copyFrom_30 rfl ?_
    refine gx_getR C 6 _ 2 rfl hS.1 rfl (by decide) nX6_copyFrom_6 (gx_hts C _ fX6_copyFrom_11) dX6_copyFrom_31 ?_
    refine gx_iload_n C dX6_copyFrom_34 rfl ?_
    refine gx_aaload C hS.2.1 (by decide) (by omega) dX6_copyFrom_35 (show _ = c + 2 + r by omega) ?_
    refine gx_statVN C (c_X7_copy hr2 hr1) (⟨va_cnB 2 (gx_hts C) gX6_copyFrom_X7_copy_n31 rfl rfl rfl ((gx_hN C).2 ("PeirceDesk$State", 31, yX7_copy, "PeirceDesk") (by decide +kernel)) ((gx_hts C) (.initialized RX7) (by decide +kernel)) (by decide +kernel) ⟨Nat.le_of_ble_eq_true rfl, Nat.le_of_ble_eq_true rfl⟩, (gx_hts C) (.static yX7_copy) (by decide +kernel), trivial⟩) rfl rfl (Nat.le_of_ble_eq_true rfl) ⟨Nat.le_refl _, Nat.le_refl _⟩ dX6_copyFrom_36 (fun P hP => ?_)
    refine gx_iinc C dX6_copyFrom_39 (by decide) rfl rfl ?_
    refine gx_goto C dX6_copyFrom_42 rfl ?_
    refine ih _ ⟨by rw [hP, gx_blk_nc (by omega)]; exact i1, by rw [hP, gx_blk_nc (by omega)]; exact i2, fun i hi => ?_, fun c' hc => by rw [hP, gx_blk_nc (by omega)]; exact i4 c' hc⟩
    rw [hP]
    by_cases e : i = r
    · rw [e, mx_of_blk, mx_cut (f := mx_of (M' (o + 2 + r)) 0) (fun k hk => if_neg (by omega)), i4 _ (by omega)]
    · rw [gx_blk_nc (by omega)]
      exact i3 i (by omega)
  · refine gx_iload_n C dX6_copyFrom_18 rfl ?_
    refine gx_bipush C dX6_copyFrom_19 rfl ?_
    refine gx_icmp_ge C dX6_copyFrom_21 rfl (by unfold gx_3; omega) (by unfold gx_3; omega) (fun hb21 => ?_) (fun hb21 => absurd (by omega) hb21)
    exact gx_vret C dX6_copyFrom_45 hI
