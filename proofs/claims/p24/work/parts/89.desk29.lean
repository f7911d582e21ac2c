theorem sd_Yr (M : gx_M) : sd_Y M M := ⟨fun _ _ => rfl, rfl, fun _ _ _ _ _ _ => rfl⟩
/-- a number of a register and the one across, changed -/
theorem zs_set_el {Z : Nat → Int} {r i j : Nat} {v : Int} (hr : r < 8) (hi : i < 3) (hj : j < 3) {q : Nat} (hq : q < 10) : zs_el (zs_set Z r i j v) q = if q = r then (fun k => if k < 9 then (if k = 3 * j + i then v else if k = 3 * i + j then v else zs_el Z r k) else 0) else zs_el Z q := by
  have e72 : mx_of (zs_set Z r i j v) 72 = mx_of Z 72 := mx_of_ext (fun k hk => by
    unfold zs_set
    rw [if_neg (by omega), if_neg (by omega)])
  have e81 : zs_set Z r i j v 81 = Z 81 := by
    unfold zs_set
    rw [if_neg (by omega), if_neg (by omega)]
  have e82 : zs_set Z r i j v 82 = Z 82 := by
    unfold zs_set
    rw [if_neg (by omega), if_neg (by omega)]
  by_cases h9 : q < 9
  · by_cases e : q = r
    · rw [if_pos e, e]
      unfold zs_el
      rw [if_pos (by omega), if_pos (by omega)]
      funext k
      unfold mx_of
      by_cases k9 : k < 9
      · rw [if_pos k9, if_pos k9, if_pos k9]
        unfold zs_set
        by_cases c1 : k = 3 * j + i
        · rw [if_pos c1, if_pos (by omega)]
        · rw [if_neg c1, if_neg (by omega)]
          by_cases c2 : k = 3 * i + j
          · rw [if_pos c2, if_pos (by omega)]
          · rw [if_neg c2, if_neg (by omega)]
      · rw [if_neg k9, if_neg k9]
    · rw [if_neg e]
      unfold zs_el
      rw [if_pos h9, if_pos h9]
      exact mx_of_ext (fun k hk => by
        unfold zs_set
        rw [if_neg (by omega), if_neg (by omega)])
  · rw [if_neg (by omega)]
    unfold zs_el
    rw [if_neg h9, if_neg h9, e72, e81, e82]
set_option maxRecDepth 100000 in
set_option maxHeartbeats 4000000 in
theorem c_X7_set {La : List gx_K} (hL : gd_H La) {M : gx_M} {s : sp_S} (hs : sp_ok s) (hR : sd_R s M) {r i j v : Int} (hr : gx_3 r) (hi : gx_3 i) (hj : gx_3 j) (hv : gx_3 v) : gx_Ci La yX7_set wsX7_set 4 [gx_R 12, gx_I r, gx_I i, gx_I j, gx_I v] M (fun z M' => ∃ s', sp_set s r i j v z s' ∧ sd_Q s' M M') := by
  have h0 := hR
  have hn6 := hs.2.1
  have hn3 := hs.1.1
  have hm := hs.1.2.1
  obtain ⟨g1, ⟨g2, nx, g3, g4, g5⟩, g6, g7, ⟨g8, g9⟩, g10⟩ := hR
  by_cases hok : (0 ≤ r ∧ r ≤ 7) ∧ (0 ≤ i ∧ i < s.1 81 ∧ 0 ≤ j ∧ j < s.1 81)
  · have hel := gd_el hL (r := r.toNat) (by omega)
    refine gx_start_i (L := [gx_R 12, gx_I r, gx_I i, gx_I j, gx_I v, gx_U, gx_U]) (by decide) rfl rfl (Nat.le_of_ble_eq_true rfl) rfl ?_
    intro _ _ _ _ _ _ _ _ _ _ _ _ C
    refine gx_iload_n C dX7_set_0 rfl ?_
    refine gx_statI C (c_X7_isRegister hr) (cwS 1 (gx_hts C) gX7_set_X7_isRegister rfl rfl rfl (by decide +kernel) ⟨Nat.le_of_ble_eq_true rfl, Nat.le_of_ble_eq_true rfl⟩) rfl rfl (Nat.le_of_ble_eq_true rfl) ⟨Nat.le_refl _, Nat.le_refl _⟩ dX7_set_1 (fun z P hz => ?_)
    obtain ⟨rfl, rfl⟩ := hz
    rw [if_pos (by omega)]
    refine gx_if_eq C dX7_set_4 rfl (by unfold gx_3; omega) (fun hb4 => absurd hb4 (by omega)) (fun hb4 => ?_)
    refine gx_aload_n C dX7_set_7 rfl ?_
    refine gx_iload_n C dX7_set_8 rfl ?_
    refine gx_iload_n C dX7_set_9 rfl ?_
    refine gx_callI C 7 rfl (gd_12 hL) (c_X7_isPlace hL g1.1 hn3 hi hj) (cwV 2 (gx_hts C) gX7_set_X7_isPlace rfl rfl rfl (by decide +kernel) ⟨Nat.le_of_ble_eq_true rfl, Nat.le_of_ble_eq_true rfl⟩) rfl rfl (Nat.le_of_ble_eq_true rfl) ⟨Nat.le_refl _, Nat.le_refl _⟩ dX7_set_10 (fun z P2 hz => ?_)
    obtain ⟨rfl, rfl⟩ := hz
    rw [if_pos (by omega)]
    refine gx_if_ne C dX7_set_13 rfl (by unfold gx_3; omega) (fun hb13 => ?_) (fun hb13 => absurd (by omega) hb13)
    have bad : ¬ (0 ≤ v ∧ v < s.1 82) → ∃ s', sp_set s r i j v (-2) s' ∧ sd_Q s' P2 P2 := fun h => ⟨s, by unfold sp_set; rw [if_pos hok, if_neg h]; exact ⟨rfl, rfl⟩, sd_XQ h0 (sd_Xr P2)⟩
    refine gx_iload C dX7_set_18 rfl ?_
    refine gx_if_lt C dX7_set_20 rfl hv (fun hb20 => ?_) (fun hb20 => ?_)
    · refine gx_bipush C dX7_set_38 rfl ?_
      exact gx_iret C dX7_set_40 (bad (by omega))
    · refine gx_iload C dX7_set_23 rfl ?_
      refine gx_aload_n C dX7_set_25 rfl ?_
      refine gx_getR C 7 _ 0 rfl (gd_12 hL) rfl (by decide) nX7_set_7 (gx_hts C _ fX7_set_12) dX7_set_26 ?_
      refine gx_getRN C 0 _ 0 rfl (gd_13 hL) rfl (by decide) nX7_set_0 ((gx_hN C).1 ("PeirceDesk", 48, "PeirceDesk$Algebra", "now", "LPeirceDesk$State;", "PeirceDesk") (by decide +kernel) |> va_Nw.use rfl) dX7_set_29 ?_
      refine gx_getIN C 6 _ 1 rfl (gd_now hL).1 rfl (by decide) nX7_set_6 ((gx_hN C).1 ("PeirceDesk", 72, "PeirceDesk$State", "modulus", "I", "PeirceDesk") (by decide +kernel) |> va_Nw.use rfl) dX7_set_32 g1.2.1 ?_
      refine gx_icmp_lt C dX7_set_35 rfl hv (by unfold gx_3; omega) (fun hb35 => ?_) (fun hb35 => ?_)
      · refine gx_aload_n C dX7_set_41 rfl ?_
        refine gx_getR C 7 _ 3 rfl (gd_12 hL) rfl (by decide) nX7_set_7 (gx_hts C _ fX7_set_33) dX7_set_42 ?_
        refine gx_aload_n C dX7_set_45 rfl ?_
        refine gx_getR C 7 _ 0 rfl (gd_12 hL) rfl (by decide) nX7_set_7 (gx_hts C _ fX7_set_12) dX7_set_46 ?_
        refine gx_getRN C 0 _ 0 rfl (gd_13 hL) rfl (by decide) nX7_set_0 ((gx_hN C).1 ("PeirceDesk", 48, "PeirceDesk$Algebra", "now", "LPeirceDesk$State;", "PeirceDesk") (by decide +kernel) |> va_Nw.use rfl) dX7_set_49 ?_
        refine gx_callVN C 2 rfl (gd_16 hL) (c_X2_remember hL g4 g3 g2 hn6) (⟨va_cnB 1 (gx_hts C) gX7_set_X2_remember_n56 rfl rfl rfl ((gx_hN C).2 ("PeirceDesk", 56, yX2_remember, "PeirceDesk") (by decide +kernel)) ((gx_hts C) (.initialized RX2) (by decide +kernel)) (by decide +kernel) ⟨Nat.le_of_ble_eq_true rfl, Nat.le_of_ble_eq_true rfl⟩, (gx_hts C) (.instanceMethod yX2_remember) (by decide +kernel), (gx_hts C) (.selects RX2 yX2_remember yX2_remember) (by decide +kernel)⟩) rfl rfl (Nat.le_of_ble_eq_true rfl) ⟨Nat.le_refl _, Nat.le_refl _⟩ dX7_set_52 (fun P1 h => ?_)
        obtain ⟨r1, r2, r3, r4⟩ := h
        have g1' : sd_st s.1 46 P1 := sd_stf g1 (fun c a b => r4 c (by omega) (by omega))
        have el : ∀ q, q < 10 → mx_of (P1 (48 + 1 * q)) 0 = zs_el s.1 q := fun q hq => by
          have := g1'.2.2 q hq
          rwa [show 46 + 2 + q = 48 + 1 * q by omega] at this
        have e1 : P1 (48 + 1 * r.toNat) ((3 * i + j).toNat) = zs_el s.1 r.toNat (3 * i.toNat + j.toNat) := by
          rw [← el _ (by omega), mx_of_at (by omega), Nat.zero_add, show (3 * i + j).toNat = 3 * i.toNat + j.toNat by omega]
        refine gx_aload_n C dX7_set_55 rfl ?_
        refine gx_getR C 7 _ 0 rfl (gd_12 hL) rfl (by decide) nX7_set_7 (gx_hts C _ fX7_set_12) dX7_set_56 ?_
        refine gx_getRN C 0 _ 0 rfl (gd_13 hL) rfl (by decide) nX7_set_0 ((gx_hN C).1 ("PeirceDesk", 48, "PeirceDesk$Algebra", "now", "LPeirceDesk$State;", "PeirceDesk") (by decide +kernel) |> va_Nw.use rfl) dX7_set_59 ?_
        refine gx_getRN C 6 _ 2 rfl (gd_now hL).1 rfl (by decide) nX7_set_6 ((gx_hN C).1 ("PeirceDesk", 75, "PeirceDesk$State", "elements", "[[I", "PeirceDesk") (by decide +kernel) |> va_Nw.use rfl) dX7_set_62 ?_
        refine gx_iload_n C dX7_set_65 rfl ?_
        refine gx_aaload C (gd_now hL).2.1 (by decide) (by omega) dX7_set_66 (show _ = 48 + 1 * r.toNat by omega) ?_
        refine gx_astore C dX7_set_67 (by decide) rfl ?_
        refine gx_aload C dX7_set_69 rfl ?_
        refine gx_iconst C dX7_set_71 ?_
        refine gx_iload_n C dX7_set_72 rfl ?_
        refine gx_imul C dX7_set_73 ?_
        refine gx_iload_n C dX7_set_74 rfl ?_
        refine gx_iadd C dX7_set_75 ?_
        refine gx_iaload C hel (by omega) dX7_set_76 e1 ?_
        refine gx_istore C dX7_set_77 (by decide) rfl ?_
        refine gx_aload C dX7_set_79 rfl ?_
        refine gx_iconst C dX7_set_81 ?_
        refine gx_iload_n C dX7_set_82 rfl ?_
        refine gx_imul C dX7_set_83 ?_
        refine gx_iload_n C dX7_set_84 rfl ?_
        refine gx_iadd C dX7_set_85 ?_
        refine gx_iload C dX7_set_86 rfl ?_
        refine gx_iastore C hel (by omega) dX7_set_88 (show _ = 3 * i.toNat + j.toNat by omega) ?_
        refine gx_aload C dX7_set_89 rfl ?_
        refine gx_iconst C dX7_set_91 ?_
        refine gx_iload_n C dX7_set_92 rfl ?_
        refine gx_imul C dX7_set_93 ?_
        refine gx_iload_n C dX7_set_94 rfl ?_
        refine gx_iadd C dX7_set_95 ?_
        refine gx_iload C dX7_set_96 rfl ?_
        refine gx_iastore C hel (by omega) dX7_set_98 (show _ = 3 * j.toNat + i.toNat by omega) ?_
        refine gx_iload C dX7_set_99 rfl ?_
        have eo : ∀ c, c ≠ 48 + 1 * r.toNat → gx_u (gx_u P1 (48 + 1 * r.toNat) (3 * i.toNat + j.toNat) v) (48 + 1 * r.toNat) (3 * j.toNat + i.toNat) v c = P1 c := fun c h => by rw [gx_u_nc h, gx_u_nc h]
        have y : sd_Y P1 (gx_u (gx_u P1 (48 + 1 * r.toNat) (3 * i.toNat + j.toNat) v) (48 + 1 * r.toNat) (3 * j.toNat + i.toNat) v) := ⟨fun c hc => eo c (by omega), by rw [eo 14 (by omega)], fun k _ _ _ _ _ => by rw [eo 35 (by omega)]⟩
        have hnow : sd_st (zs_set s.1 r.toNat i.toNat j.toNat v) 46 (gx_u (gx_u P1 (48 + 1 * r.toNat) (3 * i.toNat + j.toNat) v) (48 + 1 * r.toNat) (3 * j.toNat + i.toNat) v) := by
          refine ⟨by rw [eo 46 (by omega), g1'.1]; unfold zs_set; rw [if_neg (by omega), if_neg (by omega)], by rw [eo 46 (by omega), g1'.2.1]; unfold zs_set; rw [if_neg (by omega), if_neg (by omega)], fun q hq => ?_⟩
          rw [zs_set_el (by omega) (by omega) (by omega) hq]
          by_cases e : q = r.toNat
          · rw [if_pos e, e, show 46 + 2 + r.toNat = 48 + 1 * r.toNat by omega]
            funext k
            unfold mx_of
            by_cases k9 : k < 9
            · rw [if_pos k9, if_pos k9, Nat.zero_add]
              by_cases c1 : k = 3 * j.toNat + i.toNat
              · rw [if_pos c1, c1, gx_u_eq]
              · rw [if_neg c1, gx_u_ne (by omega)]
                by_cases c2 : k = 3 * i.toNat + j.toNat
                · rw [if_pos c2, c2, gx_u_eq]
                · rw [if_neg c2, gx_u_ne (by omega), ← el _ (by omega), mx_of_at k9, Nat.zero_add]
            · rw [if_neg k9, if_neg k9]
          · rw [if_neg e, eo _ (by omega)]
            exact g1'.2.2 q hq
        have fin := sd_push hn6 h0 g3 g5 r1 r2 r3 r4 y hnow
        have ez : zs_el s.1 r.toNat (3 * i.toNat + j.toNat) = mx_of s.1 (9 * r.toNat) (3 * i.toNat + j.toNat) := by
          unfold zs_el
          rw [if_pos (by omega)]
        exact gx_iret C dX7_set_101 ⟨_, by unfold sp_set; rw [if_pos hok, if_pos (by omega)]; exact ⟨ez, rfl⟩, fin⟩
      · refine gx_bipush C dX7_set_38 rfl ?_
        exact gx_iret C dX7_set_40 (bad (by omega))
  · have bad : ∃ s', sp_set s r i j v (-1) s' ∧ sd_Q s' M M := ⟨s, by unfold sp_set; rw [if_neg hok]; exact ⟨rfl, rfl⟩, sd_XQ h0 (sd_Xr M)⟩
    refine gx_start_i (L := [gx_R 12, gx_I r, gx_I i, gx_I j, gx_I v, gx_U, gx_U]) (by decide) rfl rfl (Nat.le_of_ble_eq_true rfl) rfl ?_
    intro _ _ _ _ _ _ _ _ _ _ _ _ C
    refine gx_iload_n C dX7_set_0 rfl ?_
    refine gx_statI C (c_X7_isRegister hr) (cwS 1 (gx_hts C) gX7_set_X7_isRegister rfl rfl rfl (by decide +kernel) ⟨Nat.le_of_ble_eq_true rfl, Nat.le_of_ble_eq_true rfl⟩) rfl rfl (Nat.le_of_ble_eq_true rfl) ⟨Nat.le_refl _, Nat.le_refl _⟩ dX7_set_1 (fun z P hz => ?_)
    obtain ⟨rfl, rfl⟩ := hz
    by_cases h1 : 0 ≤ r ∧ r ≤ 7
    · rw [if_pos h1]
      refine gx_if_eq C dX7_set_4 rfl (by unfold gx_3; omega) (fun hb4 => absurd hb4 (by omega)) (fun hb4 => ?_)
      refine gx_aload_n C dX7_set_7 rfl ?_
      refine gx_iload_n C dX7_set_8 rfl ?_
      refine gx_iload_n C dX7_set_9 rfl ?_
      refine gx_callI C 7 rfl (gd_12 hL) (c_X7_isPlace hL g1.1 hn3 hi hj) (cwV 2 (gx_hts C) gX7_set_X7_isPlace rfl rfl rfl (by decide +kernel) ⟨Nat.le_of_ble_eq_true rfl, Nat.le_of_ble_eq_true rfl⟩) rfl rfl (Nat.le_of_ble_eq_true rfl) ⟨Nat.le_refl _, Nat.le_refl _⟩ dX7_set_10 (fun z P2 hz => ?_)
      obtain ⟨rfl, rfl⟩ := hz
      rw [if_neg (by omega)]
      refine gx_if_ne C dX7_set_13 rfl (by unfold gx_3; omega) (fun hb13 => absurd hb13 (by omega)) (fun hb13 => ?_)
      refine gx_iconst C dX7_set_16 ?_
      exact gx_iret C dX7_set_17 bad
    · rw [if_neg h1]
      refine gx_if_eq C dX7_set_4 rfl (by unfold gx_3; omega) (fun hb4 => ?_) (fun hb4 => absurd (by omega) hb4)
      refine gx_iconst C dX7_set_16 ?_
      exact gx_iret C dX7_set_17 bad
