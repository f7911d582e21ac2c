set_option maxRecDepth 100000 in
set_option maxHeartbeats 4000000 in
theorem c_X7_power {La : List gx_K} (hL : gd_H La) {M : gx_M} {s : sp_S} (hs : sp_ok s) (hR : sd_R s M) {r k i j : Int} (hr : gx_3 r) (hk : gx_3 k) (hi : gx_3 i) (hj : gx_3 j) : gx_Ci La yX7_power wsX7_power 4 [gx_R 12, gx_I r, gx_I k, gx_I i, gx_I j] M (fun z M' => sp_power s r k i j z ∧ sd_X M M') := by
  have hn3 := hs.1.1
  have hn : M 46 0 = s.1 81 := hR.1.1
  by_cases hok : (0 ≤ r ∧ r ≤ 7) ∧ (0 ≤ i ∧ i < s.1 81 ∧ 0 ≤ j ∧ j < s.1 81)
  · have hel := gd_el hL (r := r.toNat) (by omega)
    have va := sp_Vel hs (r := r.toNat) (by omega)
    refine gx_start_i (L := [gx_R 12, gx_I r, gx_I k, gx_I i, gx_I j]) (by decide) rfl rfl (Nat.le_of_ble_eq_true rfl) rfl ?_
    intro _ _ _ _ _ _ _ _ _ _ _ _ C
    refine gx_iload_n C dX7_power_0 rfl ?_
    refine gx_statI C (c_X7_isRegister hr) (cwS 1 (gx_hts C) gX7_power_X7_isRegister rfl rfl rfl (by decide +kernel) ⟨Nat.le_of_ble_eq_true rfl, Nat.le_of_ble_eq_true rfl⟩) rfl rfl (Nat.le_of_ble_eq_true rfl) ⟨Nat.le_refl _, Nat.le_refl _⟩ dX7_power_1 (fun z P hz => ?_)
    obtain ⟨rfl, rfl⟩ := hz
    rw [if_pos (by omega)]
    refine gx_if_eq C dX7_power_4 rfl (by unfold gx_3; omega) (fun hb4 => absurd hb4 (by omega)) (fun hb4 => ?_)
    refine gx_aload_n C dX7_power_7 rfl ?_
    refine gx_iload_n C dX7_power_8 rfl ?_
    refine gx_iload C dX7_power_9 rfl ?_
    refine gx_callI C 7 rfl (gd_12 hL) (c_X7_isPlace hL hn hn3 hi hj) (cwV 2 (gx_hts C) gX7_power_X7_isPlace rfl rfl rfl (by decide +kernel) ⟨Nat.le_of_ble_eq_true rfl, Nat.le_of_ble_eq_true rfl⟩) rfl rfl (Nat.le_of_ble_eq_true rfl) ⟨Nat.le_refl _, Nat.le_refl _⟩ dX7_power_11 (fun z P2 hz => ?_)
    obtain ⟨rfl, rfl⟩ := hz
    rw [if_pos (by omega)]
    refine gx_if_ne C dX7_power_14 rfl (by unfold gx_3; omega) (fun hb14 => ?_) (fun hb14 => absurd (by omega) hb14)
    have bad : ¬ (0 ≤ k ∧ k ≤ 2000) → sp_power s r k i j (-2) := fun h => by unfold sp_power; rw [if_pos hok, if_neg h]
    refine gx_iload_n C dX7_power_19 rfl ?_
    refine gx_if_lt C dX7_power_20 rfl hk (fun hb20 => ?_) (fun hb20 => ?_)
    · refine gx_bipush C dX7_power_30 rfl ?_
      exact gx_iret C dX7_power_32 ⟨bad (by omega), sd_Xr _⟩
    · refine gx_iload_n C dX7_power_23 rfl ?_
      refine gx_sipush C dX7_power_24 rfl ?_
      refine gx_icmp_le C dX7_power_27 rfl hk (by unfold gx_3; omega) (fun hb27 => ?_) (fun hb27 => ?_)
      · have hkk : k = ((k.toNat : Nat) : Int) := by omega
        refine gx_aload_n C dX7_power_33 rfl ?_
        refine gx_getR C 7 _ 0 rfl (gd_12 hL) rfl (by decide) nX7_power_7 (gx_hts C _ fX7_power_12) dX7_power_34 ?_
        refine gx_aload_n C dX7_power_37 rfl ?_
        refine gx_getR C 7 _ 0 rfl (gd_12 hL) rfl (by decide) nX7_power_7 (gx_hts C _ fX7_power_12) dX7_power_38 ?_
        refine gx_getRN C 0 _ 0 rfl (gd_13 hL) rfl (by decide) nX7_power_0 ((gx_hN C).1 ("PeirceDesk", 48, "PeirceDesk$Algebra", "now", "LPeirceDesk$State;", "PeirceDesk") (by decide +kernel) |> va_Nw.use rfl) dX7_power_41 ?_
        refine gx_getRN C 6 _ 2 rfl (gd_now hL).1 rfl (by decide) nX7_power_6 ((gx_hN C).1 ("PeirceDesk", 75, "PeirceDesk$State", "elements", "[[I", "PeirceDesk") (by decide +kernel) |> va_Nw.use rfl) dX7_power_44 ?_
        refine gx_iload_n C dX7_power_47 rfl ?_
        refine gx_aaload C (gd_now hL).2.1 (by decide) (by omega) dX7_power_48 (show _ = 48 + 1 * r.toNat by omega) ?_
        refine gx_iload_n C dX7_power_49 rfl ?_
        rw [hkk]
        refine gx_callVN C 0 rfl (gd_13 hL) (c_X0_raise hL (sd_A hs hR) hel (by omega) (by rw [sd_el hR (by omega)]; exact va.1) (N := k.toNat) (by omega)) (⟨va_cnB 2 (gx_hts C) gX7_power_X0_raise_n154 rfl rfl rfl ((gx_hN C).2 ("PeirceDesk", 154, yX0_raise, "PeirceDesk") (by decide +kernel)) ((gx_hts C) (.initialized RX0) (by decide +kernel)) (by decide +kernel) ⟨Nat.le_of_ble_eq_true rfl, Nat.le_of_ble_eq_true rfl⟩, (gx_hts C) (.instanceMethod yX0_raise) (by decide +kernel), (gx_hts C) (.selects RX0 yX0_raise yX0_raise) (by decide +kernel)⟩) rfl rfl (Nat.le_of_ble_eq_true rfl) ⟨Nat.le_refl _, Nat.le_refl _⟩ dX7_power_50 (fun P3 h => ?_)
        obtain ⟨p1, p2⟩ := h
        rw [sd_el hR (by omega), sp_rs hs va (by omega)] at p1
        have hX : sd_X P2 P3 := ⟨fun c hc => p2 c (by omega) (by omega) (by omega) (by omega), by rw [p2 14 (by decide) (by decide) (by decide) (by decide)], fun k _ _ _ _ _ => by rw [p2 35 (by decide) (by decide) (by decide) (by decide)]⟩
        have e1 : P3 29 ((3 * i + j).toNat) = zs_po s (zs_el s.1 r.toNat) (zs_el s.1 9) k.toNat (3 * i.toNat + j.toNat) := by
          rw [← p1, mx_of_at (by omega), Nat.zero_add, show (3 * i + j).toNat = 3 * i.toNat + j.toNat by omega]
        refine gx_aload_n C dX7_power_53 rfl ?_
        refine gx_getR C 7 _ 0 rfl (gd_12 hL) rfl (by decide) nX7_power_7 (gx_hts C _ fX7_power_12) dX7_power_54 ?_
        refine gx_getRN C 0 _ 3 rfl (gd_13 hL) rfl (by decide) nX7_power_0 ((gx_hN C).1 ("PeirceDesk", 158, "PeirceDesk$Algebra", "power", "[I", "PeirceDesk") (by decide +kernel) |> va_Nw.use rfl) dX7_power_57 ?_
        refine gx_iconst C dX7_power_60 ?_
        refine gx_iload_n C dX7_power_61 rfl ?_
        refine gx_imul C dX7_power_62 ?_
        refine gx_iload C dX7_power_63 rfl ?_
        refine gx_iadd C dX7_power_65 ?_
        refine gx_iaload C (gd_29 hL) (by omega) dX7_power_66 e1 ?_
        exact gx_iret C dX7_power_67 ⟨by unfold sp_power; rw [if_pos hok, if_pos (by omega)]; rfl, hX⟩
      · refine gx_bipush C dX7_power_30 rfl ?_
        exact gx_iret C dX7_power_32 ⟨bad (by omega), sd_Xr _⟩
  · have bad : sp_power s r k i j (-1) := by unfold sp_power; rw [if_neg hok]
    refine gx_start_i (L := [gx_R 12, gx_I r, gx_I k, gx_I i, gx_I j]) (by decide) rfl rfl (Nat.le_of_ble_eq_true rfl) rfl ?_
    intro _ _ _ _ _ _ _ _ _ _ _ _ C
    refine gx_iload_n C dX7_power_0 rfl ?_
    refine gx_statI C (c_X7_isRegister hr) (cwS 1 (gx_hts C) gX7_power_X7_isRegister rfl rfl rfl (by decide +kernel) ⟨Nat.le_of_ble_eq_true rfl, Nat.le_of_ble_eq_true rfl⟩) rfl rfl (Nat.le_of_ble_eq_true rfl) ⟨Nat.le_refl _, Nat.le_refl _⟩ dX7_power_1 (fun z P hz => ?_)
    obtain ⟨rfl, rfl⟩ := hz
    by_cases h1 : 0 ≤ r ∧ r ≤ 7
    · rw [if_pos h1]
      refine gx_if_eq C dX7_power_4 rfl (by unfold gx_3; omega) (fun hb4 => absurd hb4 (by omega)) (fun hb4 => ?_)
      refine gx_aload_n C dX7_power_7 rfl ?_
      refine gx_iload_n C dX7_power_8 rfl ?_
      refine gx_iload C dX7_power_9 rfl ?_
      refine gx_callI C 7 rfl (gd_12 hL) (c_X7_isPlace hL hn hn3 hi hj) (cwV 2 (gx_hts C) gX7_power_X7_isPlace rfl rfl rfl (by decide +kernel) ⟨Nat.le_of_ble_eq_true rfl, Nat.le_of_ble_eq_true rfl⟩) rfl rfl (Nat.le_of_ble_eq_true rfl) ⟨Nat.le_refl _, Nat.le_refl _⟩ dX7_power_11 (fun z P2 hz => ?_)
      obtain ⟨rfl, rfl⟩ := hz
      rw [if_neg (by omega)]
      refine gx_if_ne C dX7_power_14 rfl (by unfold gx_3; omega) (fun hb14 => absurd hb14 (by omega)) (fun hb14 => ?_)
      refine gx_iconst C dX7_power_17 ?_
      exact gx_iret C dX7_power_18 ⟨bad, sd_Xr _⟩
    · rw [if_neg h1]
      refine gx_if_eq C dX7_power_4 rfl (by unfold gx_3; omega) (fun hb4 => ?_) (fun hb4 => absurd (by omega) hb4)
      refine gx_iconst C dX7_power_17 ?_
      exact gx_iret C dX7_power_18 ⟨bad, sd_Xr _⟩
