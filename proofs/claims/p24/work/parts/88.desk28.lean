set_option maxRecDepth 100000 in
set_option maxHeartbeats 4000000 in
theorem c_X7_rule {La : List gx_K} (hL : gd_H La) {M : gx_M} {s : sp_S} (hs : sp_ok s) (hR : sd_R s M) {a b c w : Int} (ha : gx_3 a) (hb : gx_3 b) (hc : gx_3 c) (hw : gx_3 w) : gx_Ci La yX7_rule wsX7_rule 5 [gx_R 12, gx_I a, gx_I b, gx_I c, gx_I w] M (fun z M' => sp_rule s a b c w z ∧ sd_X M M') := by
  have hm := hs.1.2.1
  by_cases hok : (0 ≤ a ∧ a ≤ 7) ∧ (0 ≤ b ∧ b ≤ 7) ∧ (0 ≤ c ∧ c ≤ 7)
  · have va := sp_Vel hs (r := a.toNat) (by omega)
    have vb := sp_Vel hs (r := b.toNat) (by omega)
    have vc := sp_Vel hs (r := c.toNat) (by omega)
    have hea := gd_el hL (r := a.toNat) (by omega)
    have heb := gd_el hL (r := b.toNat) (by omega)
    have hec := gd_el hL (r := c.toNat) (by omega)
    refine gx_start_i (L := [gx_R 12, gx_I a, gx_I b, gx_I c, gx_I w, gx_U, gx_U]) (by decide) rfl rfl (Nat.le_of_ble_eq_true rfl) rfl ?_
    intro _ _ _ _ _ _ _ _ _ _ _ _ C
    refine gx_iload_n C dX7_rule_0 rfl ?_
    refine gx_statI C (c_X7_isRegister ha) (cwS 1 (gx_hts C) gX7_rule_X7_isRegister rfl rfl rfl (by decide +kernel) ⟨Nat.le_of_ble_eq_true rfl, Nat.le_of_ble_eq_true rfl⟩) rfl rfl (Nat.le_of_ble_eq_true rfl) ⟨Nat.le_refl _, Nat.le_refl _⟩ dX7_rule_1 (fun z P hz => ?_)
    obtain ⟨rfl, rfl⟩ := hz
    rw [if_pos (by omega)]
    refine gx_if_eq C dX7_rule_4 rfl (by unfold gx_3; omega) (fun hb4 => absurd hb4 (by omega)) (fun hb4 => ?_)
    refine gx_iload_n C dX7_rule_7 rfl ?_
    refine gx_statI C (c_X7_isRegister hb) (cwS 1 (gx_hts C) gX7_rule_X7_isRegister rfl rfl rfl (by decide +kernel) ⟨Nat.le_of_ble_eq_true rfl, Nat.le_of_ble_eq_true rfl⟩) rfl rfl (Nat.le_of_ble_eq_true rfl) ⟨Nat.le_refl _, Nat.le_refl _⟩ dX7_rule_8 (fun z P2 hz => ?_)
    obtain ⟨rfl, rfl⟩ := hz
    rw [if_pos (by omega)]
    refine gx_if_eq C dX7_rule_11 rfl (by unfold gx_3; omega) (fun hb11 => absurd hb11 (by omega)) (fun hb11 => ?_)
    refine gx_iload_n C dX7_rule_14 rfl ?_
    refine gx_statI C (c_X7_isRegister hc) (cwS 1 (gx_hts C) gX7_rule_X7_isRegister rfl rfl rfl (by decide +kernel) ⟨Nat.le_of_ble_eq_true rfl, Nat.le_of_ble_eq_true rfl⟩) rfl rfl (Nat.le_of_ble_eq_true rfl) ⟨Nat.le_refl _, Nat.le_refl _⟩ dX7_rule_15 (fun z P3 hz => ?_)
    obtain ⟨rfl, rfl⟩ := hz
    rw [if_pos (by omega)]
    refine gx_if_ne C dX7_rule_18 rfl (by unfold gx_3; omega) (fun hb18 => ?_) (fun hb18 => absurd (by omega) hb18)
    refine gx_iload C dX7_rule_23 rfl ?_
    refine gx_cut 37 (fun (_ : Int) => [gx_R 12, gx_I a, gx_I b, gx_I c, gx_I w, gx_U, gx_U]) (fun _ => []) (fun _ => P3) (fun _ => 0 ≤ w ∧ w ≤ 1) (fun v hw1 => ?_) (fun at37 => ?_)
    · refine gx_aload_n C dX7_rule_37 rfl ?_
      refine gx_getR C 7 _ 0 rfl (gd_12 hL) rfl (by decide) nX7_rule_7 (gx_hts C _ fX7_rule_12) dX7_rule_38 ?_
      refine gx_getRN C 0 _ 0 rfl (gd_13 hL) rfl (by decide) nX7_rule_0 ((gx_hN C).1 ("PeirceDesk", 48, "PeirceDesk$Algebra", "now", "LPeirceDesk$State;", "PeirceDesk") (by decide +kernel) |> va_Nw.use rfl) dX7_rule_41 ?_
      refine gx_getRN C 6 _ 2 rfl (gd_now hL).1 rfl (by decide) nX7_rule_6 ((gx_hN C).1 ("PeirceDesk", 75, "PeirceDesk$State", "elements", "[[I", "PeirceDesk") (by decide +kernel) |> va_Nw.use rfl) dX7_rule_44 ?_
      refine gx_astore C dX7_rule_47 (by decide) rfl ?_
      refine gx_aload_n C dX7_rule_49 rfl ?_
      refine gx_getR C 7 _ 0 rfl (gd_12 hL) rfl (by decide) nX7_rule_7 (gx_hts C _ fX7_rule_12) dX7_rule_50 ?_
      refine gx_aload C dX7_rule_53 rfl ?_
      refine gx_iload_n C dX7_rule_55 rfl ?_
      refine gx_aaload C (gd_now hL).2.1 (by decide) (by omega) dX7_rule_56 (show _ = 48 + 1 * a.toNat by omega) ?_
      refine gx_aload C dX7_rule_57 rfl ?_
      refine gx_iload_n C dX7_rule_59 rfl ?_
      refine gx_aaload C (gd_now hL).2.1 (by decide) (by omega) dX7_rule_60 (show _ = 48 + 1 * b.toNat by omega) ?_
      refine gx_aload C dX7_rule_61 rfl ?_
      refine gx_iload_n C dX7_rule_63 rfl ?_
      refine gx_aaload C (gd_now hL).2.1 (by decide) (by omega) dX7_rule_64 (show _ = 48 + 1 * c.toNat by omega) ?_
      refine gx_callIN C 0 rfl (gd_13 hL) (c_X0_tryRule hL (sd_A hs hR) hea (by omega) (sd_el hR (by omega)) va.1 heb (by omega) (sd_el hR (by omega)) vb.1 hec (by omega) (sd_el hR (by omega)) vc.1) (⟨va_cnB 3 (gx_hts C) gX7_rule_X0_tryRule_n162 rfl rfl rfl ((gx_hN C).2 ("PeirceDesk", 162, yX0_tryRule, "PeirceDesk") (by decide +kernel)) ((gx_hts C) (.initialized RX0) (by decide +kernel)) (by decide +kernel) ⟨Nat.le_of_ble_eq_true rfl, Nat.le_of_ble_eq_true rfl⟩, (gx_hts C) (.instanceMethod yX0_tryRule) (by decide +kernel), (gx_hts C) (.selects RX0 yX0_tryRule yX0_tryRule) (by decide +kernel)⟩) rfl rfl (Nat.le_of_ble_eq_true rfl) ⟨Nat.le_refl _, Nat.le_refl _⟩ dX7_rule_65 (fun z P4 hz => ?_)
      obtain ⟨k1, k2, k3, k4⟩ := hz
      have v1 : sp_V s (mc_oper (s.1 82) (zs_el s.1 8) (zs_el s.1 a.toNat) (zs_el s.1 b.toNat)) := sp_Vt hs va vb va
      have v2 : sp_V s (mc_oper (s.1 82) (zs_el s.1 8) (zs_el s.1 a.toNat) (zs_el s.1 c.toNat)) := sp_Vt hs va vc va
      have v3 : sp_V s (mc_oper (s.1 82) (zs_el s.1 8) (zs_el s.1 b.toNat) (mc_oper (s.1 82) (zs_el s.1 8) (zs_el s.1 a.toNat) (zs_el s.1 c.toNat))) := sp_Vt hs vb v2 vb
      have e1 : mc_oper (s.1 82) (zs_el s.1 8) (zs_el s.1 a.toNat) (zs_el s.1 b.toNat) = zs_oper s (zs_el s.1 a.toNat) (zs_el s.1 b.toNat) := sp_oe hs va vb
      have e2 : mc_oper (s.1 82) (zs_el s.1 8) (zs_el s.1 a.toNat) (zs_el s.1 c.toNat) = zs_oper s (zs_el s.1 a.toNat) (zs_el s.1 c.toNat) := sp_oe hs va vc
      have e3 : mc_oper (s.1 82) (zs_el s.1 8) (mc_oper (s.1 82) (zs_el s.1 8) (zs_el s.1 a.toNat) (zs_el s.1 b.toNat)) (zs_el s.1 c.toNat) = zs_oper s (mc_oper (s.1 82) (zs_el s.1 8) (zs_el s.1 a.toNat) (zs_el s.1 b.toNat)) (zs_el s.1 c.toNat) := sp_oe hs v1 vc
      have e4 : mc_oper (s.1 82) (zs_el s.1 8) (zs_el s.1 b.toNat) (mc_oper (s.1 82) (zs_el s.1 8) (zs_el s.1 a.toNat) (zs_el s.1 c.toNat)) = zs_oper s (zs_el s.1 b.toNat) (mc_oper (s.1 82) (zs_el s.1 8) (zs_el s.1 a.toNat) (zs_el s.1 c.toNat)) := sp_oe hs vb v2
      have e5 : mc_oper (s.1 82) (zs_el s.1 8) (zs_el s.1 a.toNat) (mc_oper (s.1 82) (zs_el s.1 8) (zs_el s.1 b.toNat) (mc_oper (s.1 82) (zs_el s.1 8) (zs_el s.1 a.toNat) (zs_el s.1 c.toNat))) = zs_oper s (zs_el s.1 a.toNat) (mc_oper (s.1 82) (zs_el s.1 8) (zs_el s.1 b.toNat) (mc_oper (s.1 82) (zs_el s.1 8) (zs_el s.1 a.toNat) (zs_el s.1 c.toNat))) := sp_oe hs va v3
      rw [e3, e5, e4, e1, e2] at k2
      rw [e3, e1] at k3
      have o30 : mx_ok (s.1 82) (mx_of (P4 30) 0) := by
        rw [k3, ← e1, ← e3]
        exact (sp_Vt hs v1 vc v1).1
      have hX : sd_X P3 P4 := ⟨fun c hc => k4 c (by omega) (by omega) (by omega) (by omega), by rw [k4 14 (by decide) (by decide) (by decide) (by decide)], fun k _ _ _ _ _ => by rw [k4 35 (by decide) (by decide) (by decide) (by decide)]⟩
      refine gx_istore C dX7_rule_68 (by decide) rfl ?_
      refine gx_iload C dX7_rule_70 rfl ?_
      refine gx_iconst C dX7_rule_72 ?_
      refine gx_icmp_ne C dX7_rule_73 rfl (by unfold gx_3; omega) (by unfold gx_3; omega) (fun hb73 => ?_) (fun hb73 => ?_)
      · have hw0 : ¬ w = 1 := by omega
        refine gx_iload C dX7_rule_91 rfl ?_
        refine gx_if_eq C dX7_rule_93 rfl (by unfold gx_3; omega) (fun hb93 => ?_) (fun hb93 => ?_)
        · refine gx_iconst C dX7_rule_100 ?_
          exact gx_iret C dX7_rule_101 ⟨by unfold sp_rule; rw [if_pos hok, if_pos hw1, if_neg hw0]; exact ⟨Or.inl rfl, ⟨fun h => absurd h (by decide), fun h => absurd (k2.mpr h) (by omega)⟩⟩, hX⟩
        · refine gx_iconst C dX7_rule_96 ?_
          refine gx_goto C dX7_rule_97 rfl ?_
          exact gx_iret C dX7_rule_101 ⟨by unfold sp_rule; rw [if_pos hok, if_pos hw1, if_neg hw0]; exact ⟨Or.inr rfl, ⟨fun _ => k2.mp (by omega), fun _ => rfl⟩⟩, hX⟩
      · have hw0 : w = 1 := by omega
        refine gx_aload_n C dX7_rule_76 rfl ?_
        refine gx_getR C 7 _ 0 rfl (gd_12 hL) rfl (by decide) nX7_rule_7 (gx_hts C _ fX7_rule_12) dX7_rule_77 ?_
        refine gx_aload_n C dX7_rule_80 rfl ?_
        refine gx_getR C 7 _ 0 rfl (gd_12 hL) rfl (by decide) nX7_rule_7 (gx_hts C _ fX7_rule_12) dX7_rule_81 ?_
        refine gx_getRN C 0 _ 4 rfl (gd_13 hL) rfl (by decide) nX7_rule_0 ((gx_hN C).1 ("PeirceDesk", 166, "PeirceDesk$Algebra", "oneSide", "[I", "PeirceDesk") (by decide +kernel) |> va_Nw.use rfl) dX7_rule_84 ?_
        refine gx_callIN C 0 rfl (gd_13 hL) (c_X0_trace hL (m := s.1 82) (by omega) (by rw [hX.1 46 (by omega)]; exact hR.1.2.1) (gd_30 hL) o30) (⟨va_cnB 1 (gx_hts C) gX7_rule_X0_trace_n128 rfl rfl rfl ((gx_hN C).2 ("PeirceDesk", 128, yX0_trace, "PeirceDesk") (by decide +kernel)) ((gx_hts C) (.initialized RX0) (by decide +kernel)) (by decide +kernel) ⟨Nat.le_of_ble_eq_true rfl, Nat.le_of_ble_eq_true rfl⟩, (gx_hts C) (.instanceMethod yX0_trace) (by decide +kernel), (gx_hts C) (.selects RX0 yX0_trace yX0_trace) (by decide +kernel)⟩) rfl rfl (Nat.le_of_ble_eq_true rfl) ⟨Nat.le_refl _, Nat.le_refl _⟩ dX7_rule_87 (fun z2 P5 hz2 => ?_)
        obtain ⟨rfl, hz2⟩ := hz2
        rw [k3] at hz2
        exact gx_iret C dX7_rule_90 ⟨by unfold sp_rule; rw [if_pos hok, if_pos hw1, if_pos hw0]; exact hz2, hX⟩
    · refine gx_if_eq C dX7_rule_25 rfl hw (fun hb25 => ?_) (fun hb25 => ?_)
      · exact at37 0 (by omega)
      · refine gx_iload C dX7_rule_28 rfl ?_
        refine gx_iconst C dX7_rule_30 ?_
        refine gx_icmp_eq C dX7_rule_31 rfl hw (by unfold gx_3; omega) (fun hb31 => ?_) (fun hb31 => ?_)
        · exact at37 0 (by omega)
        · refine gx_bipush C dX7_rule_34 rfl ?_
          exact gx_iret C dX7_rule_36 ⟨by unfold sp_rule; rw [if_pos hok, if_neg (by omega)], sd_Xr _⟩
  · have bad : sp_rule s a b c w (-1) := by unfold sp_rule; rw [if_neg hok]
    refine gx_start_i (L := [gx_R 12, gx_I a, gx_I b, gx_I c, gx_I w, gx_U, gx_U]) (by decide) rfl rfl (Nat.le_of_ble_eq_true rfl) rfl ?_
    intro _ _ _ _ _ _ _ _ _ _ _ _ C
    refine gx_iload_n C dX7_rule_0 rfl ?_
    refine gx_statI C (c_X7_isRegister ha) (cwS 1 (gx_hts C) gX7_rule_X7_isRegister rfl rfl rfl (by decide +kernel) ⟨Nat.le_of_ble_eq_true rfl, Nat.le_of_ble_eq_true rfl⟩) rfl rfl (Nat.le_of_ble_eq_true rfl) ⟨Nat.le_refl _, Nat.le_refl _⟩ dX7_rule_1 (fun z P hz => ?_)
    obtain ⟨rfl, rfl⟩ := hz
    by_cases h1 : 0 ≤ a ∧ a ≤ 7
    · rw [if_pos h1]
      refine gx_if_eq C dX7_rule_4 rfl (by unfold gx_3; omega) (fun hb4 => absurd hb4 (by omega)) (fun hb4 => ?_)
      refine gx_iload_n C dX7_rule_7 rfl ?_
      refine gx_statI C (c_X7_isRegister hb) (cwS 1 (gx_hts C) gX7_rule_X7_isRegister rfl rfl rfl (by decide +kernel) ⟨Nat.le_of_ble_eq_true rfl, Nat.le_of_ble_eq_true rfl⟩) rfl rfl (Nat.le_of_ble_eq_true rfl) ⟨Nat.le_refl _, Nat.le_refl _⟩ dX7_rule_8 (fun z P2 hz => ?_)
      obtain ⟨rfl, rfl⟩ := hz
      by_cases h2 : 0 ≤ b ∧ b ≤ 7
      · rw [if_pos h2]
        refine gx_if_eq C dX7_rule_11 rfl (by unfold gx_3; omega) (fun hb11 => absurd hb11 (by omega)) (fun hb11 => ?_)
        refine gx_iload_n C dX7_rule_14 rfl ?_
        refine gx_statI C (c_X7_isRegister hc) (cwS 1 (gx_hts C) gX7_rule_X7_isRegister rfl rfl rfl (by decide +kernel) ⟨Nat.le_of_ble_eq_true rfl, Nat.le_of_ble_eq_true rfl⟩) rfl rfl (Nat.le_of_ble_eq_true rfl) ⟨Nat.le_refl _, Nat.le_refl _⟩ dX7_rule_15 (fun z P3 hz => ?_)
        obtain ⟨rfl, rfl⟩ := hz
        rw [if_neg (by omega)]
        refine gx_if_ne C dX7_rule_18 rfl (by unfold gx_3; omega) (fun hb18 => absurd hb18 (by omega)) (fun hb18 => ?_)
        refine gx_iconst C dX7_rule_21 ?_
        exact gx_iret C dX7_rule_22 ⟨bad, sd_Xr _⟩
      · rw [if_neg h2]
        refine gx_if_eq C dX7_rule_11 rfl (by unfold gx_3; omega) (fun hb11 => ?_) (fun hb11 => absurd (by omega) hb11)
        refine gx_iconst C dX7_rule_21 ?_
        exact gx_iret C dX7_rule_22 ⟨bad, sd_Xr _⟩
    · rw [if_neg h1]
      refine gx_if_eq C dX7_rule_4 rfl (by unfold gx_3; omega) (fun hb4 => ?_) (fun hb4 => absurd (by omega) hb4)
      refine gx_iconst C dX7_rule_21 ?_
      exact gx_iret C dX7_rule_22 ⟨bad, sd_Xr _⟩
