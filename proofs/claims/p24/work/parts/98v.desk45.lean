/-! the desk: base, split -/
theorem sd_base {Z : Nat → Int} {f : Nat → Int} {M1 M2 : gx_M} (g1 : sd_st Z 46 M1) (h9 : ∀ k, 9 ≤ k → f k = 0) (e : ∀ c, 46 ≤ c → c < 56 → M2 c = M1 c) (e56 : mx_of (M2 56) 0 = f) (e57 : mx_of (M2 57) 0 = mx_inv (Z 81).toNat (Z 82) f) : sd_st (zs_put Z 72 f) 46 M2 := by
  have z81 : zs_put Z 72 f 81 = Z 81 := by
    unfold zs_put
    rw [if_neg (by omega)]
  have z82 : zs_put Z 72 f 82 = Z 82 := by
    unfold zs_put
    rw [if_neg (by omega)]
  have e72 : mx_of (zs_put Z 72 f) 72 = f := by
    funext k
    unfold mx_of
    by_cases k9 : k < 9
    · rw [if_pos k9]
      unfold zs_put
      rw [if_pos (by omega), show 72 + k - 72 = k by omega]
    · rw [if_neg k9, h9 k (by omega)]
  refine ⟨by rw [e 46 (by decide) (by decide), z81]; exact g1.1, by rw [e 46 (by decide) (by decide), z82]; exact g1.2.1, fun r hr => ?_⟩
  unfold zs_el
  by_cases h : r < 9
  · rw [if_pos h]
    by_cases h8 : r = 8
    · subst h8
      exact e56.trans e72.symm
    · have := g1.2.2 r hr
      unfold zs_el at this
      rw [if_pos h] at this
      rw [e (46 + 2 + r) (by omega) (by omega), this]
      exact mx_of_ext (fun k hk => by
        unfold zs_put
        rw [if_neg (by omega)])
  · have : r = 9 := by omega
    subst this
    rw [if_neg (by decide), z81, z82, e72]
    exact e57
set_option maxRecDepth 100000 in
set_option maxHeartbeats 4000000 in
theorem c_X7_base {La : List gx_K} (hL : gd_H La) {M : gx_M} {s : sp_S} (hs : sp_ok s) (hR : sd_R s M) {r : Int} (hr : gx_3 r) : gx_Ci La yX7_base wsX7_base 5 [gx_R 12, gx_I r] M (fun z M' => ∃ s', sp_base s r z s' ∧ sd_Q s' M M') := by
  have hn3 := hs.1.1
  have hm := hs.1.2.1
  have hn6 := hs.2.1
  have hni : s.1 81 = (((s.1 81).toNat : Nat) : Int) := by omega
  by_cases h6 : r = -6
  · obtain ⟨g1, ⟨g2, nx, g3, g4, g5⟩, g6, g7, ⟨g8, g9⟩, g10⟩ := id hR
    have hbel : sp_bel s r = mx_id (s.1 81) := by unfold sp_bel; rw [if_pos h6]
    have hdet : mx_det (s.1 81).toNat (s.1 82) (sp_bel s r) = 1 := by
      rw [hbel]
      have := mx_det_id (sp_nn hs) (sp_p hs)
      unfold zs_nn at this
      rwa [← hni] at this
    refine gx_start_i (L := [gx_R 12, gx_I r, gx_U]) (by decide) rfl rfl (Nat.le_of_ble_eq_true rfl) rfl ?_
    intro _ _ _ _ _ _ _ _ _ _ _ _ C
    refine gx_iload_n C dX7_base_0 rfl ?_
    refine gx_bipush C dX7_base_1 rfl ?_
    refine gx_icmp_eq C dX7_base_3 rfl hr (by unfold gx_3; omega) (fun hb3 => ?_) (fun hb3 => absurd (by omega) hb3)
    refine gx_iload_n C dX7_base_15 rfl ?_
    refine gx_bipush C dX7_base_16 rfl ?_
    refine gx_icmp_ne C dX7_base_18 rfl hr (by unfold gx_3; omega) (fun hb18 => absurd hb18 (by omega)) (fun hb18 => ?_)
    refine gx_iconst C dX7_base_21 ?_
    refine gx_goto C dX7_base_22 rfl ?_
    refine gx_istore_n C dX7_base_44 (by decide) rfl ?_
    refine gx_iload_n C dX7_base_45 rfl ?_
    refine gx_if_ne C dX7_base_46 rfl (by unfold gx_3; omega) (fun hb46 => ?_) (fun hb46 => absurd (by omega) hb46)
    refine gx_aload_n C dX7_base_52 rfl ?_
    refine gx_getR C 7 _ 3 rfl (gd_12 hL) rfl (by decide) nX7_base_7 (gx_hts C _ fX7_base_33) dX7_base_53 ?_
    refine gx_aload_n C dX7_base_56 rfl ?_
    refine gx_getR C 7 _ 0 rfl (gd_12 hL) rfl (by decide) nX7_base_7 (gx_hts C _ fX7_base_12) dX7_base_57 ?_
    refine gx_getRN C 0 _ 0 rfl (gd_13 hL) rfl (by decide) nX7_base_0 ((gx_hN C).1 ("PeirceDesk", 48, "PeirceDesk$Algebra", "now", "LPeirceDesk$State;", "PeirceDesk") (by decide +kernel) |> va_Nw.use rfl) dX7_base_60 ?_
    refine gx_callVN C 2 rfl (gd_16 hL) (c_X2_remember hL g4 g3 g2 hn6) (⟨va_cnB 1 (gx_hts C) gX7_base_X2_remember_n56 rfl rfl rfl ((gx_hN C).2 ("PeirceDesk", 56, yX2_remember, "PeirceDesk") (by decide +kernel)) ((gx_hts C) (.initialized RX2) (by decide +kernel)) (by decide +kernel) ⟨Nat.le_of_ble_eq_true rfl, Nat.le_of_ble_eq_true rfl⟩, (gx_hts C) (.instanceMethod yX2_remember) (by decide +kernel), (gx_hts C) (.selects RX2 yX2_remember yX2_remember) (by decide +kernel)⟩) rfl rfl (Nat.le_of_ble_eq_true rfl) ⟨Nat.le_refl _, Nat.le_refl _⟩ dX7_base_63 (fun P1 h => ?_)
    obtain ⟨r1, r2, r3, r4⟩ := h
    have g1' : sd_st s.1 46 P1 := sd_stf g1 (fun c a b => r4 c (by omega) (by omega))
    refine gx_iload_n C dX7_base_66 rfl ?_
    refine gx_bipush C dX7_base_67 rfl ?_
    refine gx_icmp_ne C dX7_base_69 rfl hr (by unfold gx_3; omega) (fun hb69 => absurd hb69 (by omega)) (fun hb69 => ?_)
    refine gx_aload_n C dX7_base_72 rfl ?_
    refine gx_getR C 7 _ 0 rfl (gd_12 hL) rfl (by decide) nX7_base_7 (gx_hts C _ fX7_base_12) dX7_base_73 ?_
    refine gx_callVN C 0 rfl (gd_13 hL) (c_X0_takeIdentityAsBase hL g1'.1 hn3) (⟨va_cnB 0 (gx_hts C) gX7_base_X0_takeIdentityAsBase_n83 rfl rfl rfl ((gx_hN C).2 ("PeirceDesk", 83, yX0_takeIdentityAsBase, "PeirceDesk") (by decide +kernel)) ((gx_hts C) (.initialized RX0) (by decide +kernel)) (by decide +kernel) ⟨Nat.le_of_ble_eq_true rfl, Nat.le_of_ble_eq_true rfl⟩, (gx_hts C) (.instanceMethod yX0_takeIdentityAsBase) (by decide +kernel), (gx_hts C) (.selects RX0 yX0_takeIdentityAsBase yX0_takeIdentityAsBase) (by decide +kernel)⟩) rfl rfl (Nat.le_of_ble_eq_true rfl) ⟨Nat.le_refl _, Nat.le_refl _⟩ dX7_base_76 (fun P2 h => ?_)
    obtain ⟨p1, p2, p3⟩ := h
    have hnow : sd_st (zs_put s.1 72 (sp_bel s r)) 46 P2 := by
      rw [hbel]
      refine sd_base g1' (mx_id_9 (by omega)) (fun c a b => p3 c (by omega) (by omega)) p1 ?_
      rw [p2]
      exact (mx_inv_id hn3 (sp_p hs)).symm
    have y : sd_Y P1 P2 := ⟨fun c hc => p3 c (by omega) (by omega), by rw [p3 14 (by decide) (by decide)], fun k _ _ _ _ _ => by rw [p3 35 (by decide) (by decide)]⟩
    have fin := sd_push hn6 hR g3 g5 r1 r2 r3 r4 y hnow
    refine gx_goto C dX7_base_79 rfl ?_
    refine gx_iload_n C dX7_base_101 rfl ?_
    exact gx_iret C dX7_base_102 ⟨_, by unfold sp_base; rw [if_pos (Or.inl h6), if_neg (by rw [hdet]; decide)]; exact ⟨hdet.symm, rfl⟩, fin⟩
  · by_cases hok : 0 ≤ r ∧ r ≤ 7
    · have hel := gd_el hL (r := r.toNat) (by omega)
      have va := sp_Vel hs (r := r.toNat) (by omega)
      have hbel : sp_bel s r = zs_el s.1 r.toNat := by
        unfold sp_bel zs_el
        rw [if_neg h6, if_pos (by omega)]
      refine gx_start_i (L := [gx_R 12, gx_I r, gx_U]) (by decide) rfl rfl (Nat.le_of_ble_eq_true rfl) rfl ?_
      intro _ _ _ _ _ _ _ _ _ _ _ _ C
      refine gx_iload_n C dX7_base_0 rfl ?_
      refine gx_bipush C dX7_base_1 rfl ?_
      refine gx_icmp_eq C dX7_base_3 rfl hr (by unfold gx_3; omega) (fun hb3 => absurd hb3 (by omega)) (fun hb3 => ?_)
      refine gx_iload_n C dX7_base_6 rfl ?_
      refine gx_statI C (c_X7_isRegister hr) (cwS 1 (gx_hts C) gX7_base_X7_isRegister rfl rfl rfl (by decide +kernel) ⟨Nat.le_of_ble_eq_true rfl, Nat.le_of_ble_eq_true rfl⟩) rfl rfl (Nat.le_of_ble_eq_true rfl) ⟨Nat.le_refl _, Nat.le_refl _⟩ dX7_base_7 (fun z P hz => ?_)
      obtain ⟨rfl, rfl⟩ := hz
      rw [if_pos hok]
      refine gx_if_ne C dX7_base_10 rfl (by unfold gx_3; omega) (fun hb10 => ?_) (fun hb10 => absurd (by omega) hb10)
      refine gx_iload_n C dX7_base_15 rfl ?_
      refine gx_bipush C dX7_base_16 rfl ?_
      refine gx_icmp_ne C dX7_base_18 rfl hr (by unfold gx_3; omega) (fun hb18 => ?_) (fun hb18 => absurd (by omega) hb18)
      refine gx_aload_n C dX7_base_25 rfl ?_
      refine gx_getR C 7 _ 0 rfl (gd_12 hL) rfl (by decide) nX7_base_7 (gx_hts C _ fX7_base_12) dX7_base_26 ?_
      refine gx_aload_n C dX7_base_29 rfl ?_
      refine gx_getR C 7 _ 0 rfl (gd_12 hL) rfl (by decide) nX7_base_7 (gx_hts C _ fX7_base_12) dX7_base_30 ?_
      refine gx_getRN C 0 _ 0 rfl (gd_13 hL) rfl (by decide) nX7_base_0 ((gx_hN C).1 ("PeirceDesk", 48, "PeirceDesk$Algebra", "now", "LPeirceDesk$State;", "PeirceDesk") (by decide +kernel) |> va_Nw.use rfl) dX7_base_33 ?_
      refine gx_getRN C 6 _ 2 rfl (gd_now hL).1 rfl (by decide) nX7_base_6 ((gx_hN C).1 ("PeirceDesk", 75, "PeirceDesk$State", "elements", "[[I", "PeirceDesk") (by decide +kernel) |> va_Nw.use rfl) dX7_base_36 ?_
      refine gx_iload_n C dX7_base_39 rfl ?_
      refine gx_aaload C (gd_now hL).2.1 (by decide) (by omega) dX7_base_40 (show _ = 48 + 1 * r.toNat by omega) ?_
      refine gx_callIN C 0 rfl (gd_13 hL) (c_X0_determinant hL (n := s.1 81) (m := s.1 82) (by omega) hR.1.1 hn3 hR.1.2.1 hel (by omega) (by rw [sd_el hR (by omega)]; exact va.1)) (⟨va_cnB 1 (gx_hts C) gX7_base_X0_determinant_n79 rfl rfl rfl ((gx_hN C).2 ("PeirceDesk", 79, yX0_determinant, "PeirceDesk") (by decide +kernel)) ((gx_hts C) (.initialized RX0) (by decide +kernel)) (by decide +kernel) ⟨Nat.le_of_ble_eq_true rfl, Nat.le_of_ble_eq_true rfl⟩, (gx_hts C) (.instanceMethod yX0_determinant) (by decide +kernel), (gx_hts C) (.selects RX0 yX0_determinant yX0_determinant) (by decide +kernel)⟩) rfl rfl (Nat.le_of_ble_eq_true rfl) ⟨Nat.le_refl _, Nat.le_refl _⟩ dX7_base_41 (fun z P2 h => ?_)
      obtain ⟨q, ⟨q1, q2, q3, q4, q5, q6⟩, hz⟩ := h
      rw [sd_el hR (by omega)] at q1
      have g := sp_gj hs va q1
      rw [g.2.1, ← hbel] at hz
      have hb := mx_det_b (n := zs_nn s) (m := s.1 82) (by omega) (sp_bel s r)
      rw [← hz] at hb
      have X1 := sd_XO q6
      have hRP := sd_XR hR X1
      refine gx_istore_n C dX7_base_44 (by decide) rfl ?_
      refine gx_iload_n C dX7_base_45 rfl ?_
      refine gx_if_ne C dX7_base_46 rfl (by unfold gx_3; omega) (fun hb46 => ?_) (fun hb46 => ?_)
      · obtain ⟨g1, ⟨g2, nx, g3, g4, g5⟩, g6, g7, ⟨g8, g9⟩, g10⟩ := id hRP
        refine gx_aload_n C dX7_base_52 rfl ?_
        refine gx_getR C 7 _ 3 rfl (gd_12 hL) rfl (by decide) nX7_base_7 (gx_hts C _ fX7_base_33) dX7_base_53 ?_
        refine gx_aload_n C dX7_base_56 rfl ?_
        refine gx_getR C 7 _ 0 rfl (gd_12 hL) rfl (by decide) nX7_base_7 (gx_hts C _ fX7_base_12) dX7_base_57 ?_
        refine gx_getRN C 0 _ 0 rfl (gd_13 hL) rfl (by decide) nX7_base_0 ((gx_hN C).1 ("PeirceDesk", 48, "PeirceDesk$Algebra", "now", "LPeirceDesk$State;", "PeirceDesk") (by decide +kernel) |> va_Nw.use rfl) dX7_base_60 ?_
        refine gx_callVN C 2 rfl (gd_16 hL) (c_X2_remember hL g4 g3 g2 hn6) (⟨va_cnB 1 (gx_hts C) gX7_base_X2_remember_n56 rfl rfl rfl ((gx_hN C).2 ("PeirceDesk", 56, yX2_remember, "PeirceDesk") (by decide +kernel)) ((gx_hts C) (.initialized RX2) (by decide +kernel)) (by decide +kernel) ⟨Nat.le_of_ble_eq_true rfl, Nat.le_of_ble_eq_true rfl⟩, (gx_hts C) (.instanceMethod yX2_remember) (by decide +kernel), (gx_hts C) (.selects RX2 yX2_remember yX2_remember) (by decide +kernel)⟩) rfl rfl (Nat.le_of_ble_eq_true rfl) ⟨Nat.le_refl _, Nat.le_refl _⟩ dX7_base_63 (fun P1 h => ?_)
        obtain ⟨r1, r2, r3, r4⟩ := h
        have g1' : sd_st s.1 46 P1 := sd_stf g1 (fun c a b => r4 c (by omega) (by omega))
        have el1 : mx_of (P1 (48 + 1 * r.toNat)) 0 = zs_el s.1 r.toNat := by
          have := g1'.2.2 r.toNat (by omega)
          rwa [show 46 + 2 + r.toNat = 48 + 1 * r.toNat by omega] at this
        refine gx_iload_n C dX7_base_66 rfl ?_
        refine gx_bipush C dX7_base_67 rfl ?_
        refine gx_icmp_ne C dX7_base_69 rfl hr (by unfold gx_3; omega) (fun hb69 => ?_) (fun hb69 => absurd (by omega) hb69)
        refine gx_aload_n C dX7_base_82 rfl ?_
        refine gx_getR C 7 _ 0 rfl (gd_12 hL) rfl (by decide) nX7_base_7 (gx_hts C _ fX7_base_12) dX7_base_83 ?_
        refine gx_aload_n C dX7_base_86 rfl ?_
        refine gx_getR C 7 _ 0 rfl (gd_12 hL) rfl (by decide) nX7_base_7 (gx_hts C _ fX7_base_12) dX7_base_87 ?_
        refine gx_getRN C 0 _ 0 rfl (gd_13 hL) rfl (by decide) nX7_base_0 ((gx_hN C).1 ("PeirceDesk", 48, "PeirceDesk$Algebra", "now", "LPeirceDesk$State;", "PeirceDesk") (by decide +kernel) |> va_Nw.use rfl) dX7_base_90 ?_
        refine gx_getRN C 6 _ 2 rfl (gd_now hL).1 rfl (by decide) nX7_base_6 ((gx_hN C).1 ("PeirceDesk", 75, "PeirceDesk$State", "elements", "[[I", "PeirceDesk") (by decide +kernel) |> va_Nw.use rfl) dX7_base_93 ?_
        refine gx_iload_n C dX7_base_96 rfl ?_
        refine gx_aaload C (gd_now hL).2.1 (by decide) (by omega) dX7_base_97 (show _ = 48 + 1 * r.toNat by omega) ?_
        refine gx_callVN C 0 rfl (gd_13 hL) (c_X0_takeAsBase hL (n := s.1 81) (m := s.1 82) (by omega) g1'.1 hn3 g1'.2.1 hel (by omega) (by rw [el1]; exact va.1)) (⟨va_cnB 1 (gx_hts C) gX7_base_X0_takeAsBase_n86 rfl rfl rfl ((gx_hN C).2 ("PeirceDesk", 86, yX0_takeAsBase, "PeirceDesk") (by decide +kernel)) ((gx_hts C) (.initialized RX0) (by decide +kernel)) (by decide +kernel) ⟨Nat.le_of_ble_eq_true rfl, Nat.le_of_ble_eq_true rfl⟩, (gx_hts C) (.instanceMethod yX0_takeAsBase) (by decide +kernel), (gx_hts C) (.selects RX0 yX0_takeAsBase yX0_takeAsBase) (by decide +kernel)⟩) rfl rfl (Nat.le_of_ble_eq_true rfl) ⟨Nat.le_refl _, Nat.le_refl _⟩ dX7_base_98 (fun P3 h => ?_)
        obtain ⟨q', M1, ⟨w1, w2, w3, w4, w5, w6⟩, h⟩ := h
        rw [el1] at w1 h
        have g' := sp_gj hs va w1
        rw [g'.2.1, ← hbel] at h
        rcases h with ⟨h1, h2⟩ | ⟨h1, h2, h3, h4⟩
        · exact absurd (hz.trans h1) hb46
        · have hnn : (q'.2.2 : Int) = s.1 81 := g'.2.2.1.mpr (by rw [← hbel]; exact h1)
          rw [g'.2.2.2 hnn, ← hbel] at h2
          have hnow : sd_st (zs_put s.1 72 (sp_bel s r)) 46 P3 := by
            refine sd_base g1' (fun k hk => by rw [hbel]; exact va.2.1.2 k hk) (fun c a b => by rw [h4 c (by omega) (by omega)]; exact w6 c (by omega)) h3 h2
          have y : sd_Y P1 P3 := ⟨fun c hc => by rw [h4 c (by omega) (by omega)]; exact w6 c (by omega), by rw [h4 14 (by decide) (by decide), w6 14 (by omega)], fun k _ _ _ _ _ => by rw [h4 35 (by decide) (by decide), w6 35 (by omega)]⟩
          have fin := sd_Qx X1 (sd_push hn6 hRP g3 g5 r1 r2 r3 r4 y hnow)
          refine gx_iload_n C dX7_base_101 rfl ?_
          exact gx_iret C dX7_base_102 ⟨_, by unfold sp_base; rw [if_pos (Or.inr hok), if_neg (show ¬ mx_det (s.1 81).toNat (s.1 82) (sp_bel s r) = 0 from fun e => hb46 (hz.trans e))]; exact ⟨hz, rfl⟩, fin⟩
      · refine gx_bipush C dX7_base_49 rfl ?_
        exact gx_iret C dX7_base_51 ⟨s, by unfold sp_base; rw [if_pos (Or.inr hok), if_pos (show mx_det (s.1 81).toNat (s.1 82) (sp_bel s r) = 0 from hz.symm.trans (Classical.not_not.mp hb46))]; exact ⟨rfl, rfl⟩, sd_XQ hR X1⟩
    · have bad : ∃ s', sp_base s r (-1) s' ∧ sd_Q s' M M := ⟨s, by unfold sp_base; rw [if_neg (fun h => h.elim h6 hok)]; exact ⟨rfl, rfl⟩, sd_XQ hR (sd_Xr M)⟩
      refine gx_start_i (L := [gx_R 12, gx_I r, gx_U]) (by decide) rfl rfl (Nat.le_of_ble_eq_true rfl) rfl ?_
      intro _ _ _ _ _ _ _ _ _ _ _ _ C
      refine gx_iload_n C dX7_base_0 rfl ?_
      refine gx_bipush C dX7_base_1 rfl ?_
      refine gx_icmp_eq C dX7_base_3 rfl hr (by unfold gx_3; omega) (fun hb3 => absurd hb3 (by omega)) (fun hb3 => ?_)
      refine gx_iload_n C dX7_base_6 rfl ?_
      refine gx_statI C (c_X7_isRegister hr) (cwS 1 (gx_hts C) gX7_base_X7_isRegister rfl rfl rfl (by decide +kernel) ⟨Nat.le_of_ble_eq_true rfl, Nat.le_of_ble_eq_true rfl⟩) rfl rfl (Nat.le_of_ble_eq_true rfl) ⟨Nat.le_refl _, Nat.le_refl _⟩ dX7_base_7 (fun z P hz => ?_)
      obtain ⟨rfl, rfl⟩ := hz
      rw [if_neg hok]
      refine gx_if_ne C dX7_base_10 rfl (by unfold gx_3; omega) (fun hb10 => absurd hb10 (by omega)) (fun hb10 => ?_)
      refine gx_iconst C dX7_base_13 ?_
      exact gx_iret C dX7_base_14 bad
set_option maxRecDepth 100000 in
set_option maxHeartbeats 4000000 in
theorem c_X7_split {La : List gx_K} (hL : gd_H La) {M : gx_M} {s : sp_S} (hs : sp_ok s) (hR : sd_R s M) {a b t : Int} (ha : gx_3 a) (hb : gx_3 b) (ht : gx_3 t) : gx_Ci La yX7_split wsX7_split 5 [gx_R 12, gx_I a, gx_I b, gx_I t] M (fun z M' => ∃ s', sp_split s a b t z s' ∧ sd_Q s' M M') := by
  have hn3 := hs.1.1
  have hm := hs.1.2.1
  have hn6 := hs.2.1
  by_cases hok : (0 ≤ a ∧ a ≤ 7) ∧ (0 ≤ b ∧ b ≤ 7) ∧ (0 ≤ t ∧ t ≤ 5)
  · have hela := gd_el hL (r := a.toNat) (by omega)
    have helb := gd_el hL (r := b.toNat) (by omega)
    have va := sp_Vel hs (r := a.toNat) (by omega)
    have vb := sp_Vel hs (r := b.toNat) (by omega)
    refine gx_start_i (L := [gx_R 12, gx_I a, gx_I b, gx_I t, gx_U, gx_U, gx_U]) (by decide) rfl rfl (Nat.le_of_ble_eq_true rfl) rfl ?_
    intro _ _ _ _ _ _ _ _ _ _ _ _ C
    refine gx_iload_n C dX7_split_0 rfl ?_
    refine gx_statI C (c_X7_isRegister ha) (cwS 1 (gx_hts C) gX7_split_X7_isRegister rfl rfl rfl (by decide +kernel) ⟨Nat.le_of_ble_eq_true rfl, Nat.le_of_ble_eq_true rfl⟩) rfl rfl (Nat.le_of_ble_eq_true rfl) ⟨Nat.le_refl _, Nat.le_refl _⟩ dX7_split_1 (fun z P hz => ?_)
    obtain ⟨rfl, rfl⟩ := hz
    rw [if_pos hok.1]
    refine gx_if_eq C dX7_split_4 rfl (by unfold gx_3; omega) (fun hb4 => absurd hb4 (by omega)) (fun hb4 => ?_)
    refine gx_iload_n C dX7_split_7 rfl ?_
    refine gx_statI C (c_X7_isRegister hb) (cwS 1 (gx_hts C) gX7_split_X7_isRegister rfl rfl rfl (by decide +kernel) ⟨Nat.le_of_ble_eq_true rfl, Nat.le_of_ble_eq_true rfl⟩) rfl rfl (Nat.le_of_ble_eq_true rfl) ⟨Nat.le_refl _, Nat.le_refl _⟩ dX7_split_8 (fun z P2 hz => ?_)
    obtain ⟨rfl, rfl⟩ := hz
    rw [if_pos hok.2.1]
    refine gx_if_eq C dX7_split_11 rfl (by unfold gx_3; omega) (fun hb11 => absurd hb11 (by omega)) (fun hb11 => ?_)
    refine gx_iload_n C dX7_split_14 rfl ?_
    refine gx_if_lt C dX7_split_15 rfl ht (fun hb15 => absurd hb15 (by omega)) (fun hb15 => ?_)
    refine gx_iload_n C dX7_split_18 rfl ?_
    refine gx_iconst C dX7_split_19 ?_
    refine gx_icmp_le C dX7_split_20 rfl ht (by unfold gx_3; omega) (fun hb20 => ?_) (fun hb20 => absurd (by omega) hb20)
    refine gx_aload_n C dX7_split_25 rfl ?_
    refine gx_getR C 7 _ 0 rfl (gd_12 hL) rfl (by decide) nX7_split_7 (gx_hts C _ fX7_split_12) dX7_split_26 ?_
    refine gx_getRN C 0 _ 0 rfl (gd_13 hL) rfl (by decide) nX7_split_0 ((gx_hN C).1 ("PeirceDesk", 48, "PeirceDesk$Algebra", "now", "LPeirceDesk$State;", "PeirceDesk") (by decide +kernel) |> va_Nw.use rfl) dX7_split_29 ?_
    refine gx_getRN C 6 _ 2 rfl (gd_now hL).1 rfl (by decide) nX7_split_6 ((gx_hN C).1 ("PeirceDesk", 75, "PeirceDesk$State", "elements", "[[I", "PeirceDesk") (by decide +kernel) |> va_Nw.use rfl) dX7_split_32 ?_
    refine gx_astore C dX7_split_35 (by decide) rfl ?_
    refine gx_aload_n C dX7_split_37 rfl ?_
    refine gx_getR C 7 _ 0 rfl (gd_12 hL) rfl (by decide) nX7_split_7 (gx_hts C _ fX7_split_12) dX7_split_38 ?_
    refine gx_aload C dX7_split_41 rfl ?_
    refine gx_iload_n C dX7_split_43 rfl ?_
    refine gx_aaload C (gd_now hL).2.1 (by decide) (by omega) dX7_split_44 (show _ = 48 + 1 * a.toNat by omega) ?_
    refine gx_callIN C 0 rfl (gd_13 hL) (c_X0_isOwnSquare hL (sd_A hs hR) hela (by omega) (by rw [sd_el hR (by omega)]; exact va.1)) (⟨va_cnB 1 (gx_hts C) gX7_split_X0_isOwnSquare_n90 rfl rfl rfl ((gx_hN C).2 ("PeirceDesk", 90, yX0_isOwnSquare, "PeirceDesk") (by decide +kernel)) ((gx_hts C) (.initialized RX0) (by decide +kernel)) (by decide +kernel) ⟨Nat.le_of_ble_eq_true rfl, Nat.le_of_ble_eq_true rfl⟩, (gx_hts C) (.instanceMethod yX0_isOwnSquare) (by decide +kernel), (gx_hts C) (.selects RX0 yX0_isOwnSquare yX0_isOwnSquare) (by decide +kernel)⟩) rfl rfl (Nat.le_of_ble_eq_true rfl) ⟨Nat.le_refl _, Nat.le_refl _⟩ dX7_split_45 (fun z P3 hz => ?_)
    obtain ⟨k1, k2, k3⟩ := hz
    rw [sd_el hR (by omega), sp_pe hs va va] at k2
    have hX : sd_X P2 P3 := ⟨fun c hc => k3 c (by omega) (by omega) (by omega), by rw [k3 14 (by decide) (by decide) (by decide)], fun k _ _ _ _ _ => by rw [k3 35 (by decide) (by decide) (by decide)]⟩
    have hRP := sd_XR hR hX
    refine gx_if_ne C dX7_split_48 rfl (by unfold gx_3; omega) (fun hb48 => ?_) (fun hb48 => ?_)
    · have hsq : zs_sq s (zs_el s.1 a.toNat) := k2.mp (by omega)
      obtain ⟨g1, ⟨g2, nx, g3, g4, g5⟩, g6, g7, ⟨g8, g9⟩, g10⟩ := id hRP
      refine gx_aload_n C dX7_split_54 rfl ?_
      refine gx_getR C 7 _ 3 rfl (gd_12 hL) rfl (by decide) nX7_split_7 (gx_hts C _ fX7_split_33) dX7_split_55 ?_
      refine gx_aload_n C dX7_split_58 rfl ?_
      refine gx_getR C 7 _ 0 rfl (gd_12 hL) rfl (by decide) nX7_split_7 (gx_hts C _ fX7_split_12) dX7_split_59 ?_
      refine gx_getRN C 0 _ 0 rfl (gd_13 hL) rfl (by decide) nX7_split_0 ((gx_hN C).1 ("PeirceDesk", 48, "PeirceDesk$Algebra", "now", "LPeirceDesk$State;", "PeirceDesk") (by decide +kernel) |> va_Nw.use rfl) dX7_split_62 ?_
      refine gx_callVN C 2 rfl (gd_16 hL) (c_X2_remember hL g4 g3 g2 hn6) (⟨va_cnB 1 (gx_hts C) gX7_split_X2_remember_n56 rfl rfl rfl ((gx_hN C).2 ("PeirceDesk", 56, yX2_remember, "PeirceDesk") (by decide +kernel)) ((gx_hts C) (.initialized RX2) (by decide +kernel)) (by decide +kernel) ⟨Nat.le_of_ble_eq_true rfl, Nat.le_of_ble_eq_true rfl⟩, (gx_hts C) (.instanceMethod yX2_remember) (by decide +kernel), (gx_hts C) (.selects RX2 yX2_remember yX2_remember) (by decide +kernel)⟩) rfl rfl (Nat.le_of_ble_eq_true rfl) ⟨Nat.le_refl _, Nat.le_refl _⟩ dX7_split_65 (fun P1 h => ?_)
      obtain ⟨r1, r2, r3, r4⟩ := h
      have g1' : sd_st s.1 46 P1 := sd_stf g1 (fun c a b => r4 c (by omega) (by omega))
      have el1 : ∀ q, q < 10 → mx_of (P1 (48 + 1 * q)) 0 = zs_el s.1 q := fun q hq => by
        have := g1'.2.2 q hq
        rwa [show 46 + 2 + q = 48 + 1 * q by omega] at this
      have hA1 : ga_A (s.1 81) (s.1 82) (zs_el s.1 8) (zs_el s.1 9) P1 := ⟨g1'.1, g1'.2.1, el1 8 (by decide), el1 9 (by decide), hn3, by omega, (zs_V hs.1 (by decide)).1, zs_9ok hs.1⟩
      obtain ⟨sp2, sp0, sp1⟩ := sp_parts hs va vb
      refine gx_aload_n C dX7_split_68 rfl ?_
      refine gx_getR C 7 _ 0 rfl (gd_12 hL) rfl (by decide) nX7_split_7 (gx_hts C _ fX7_split_12) dX7_split_69 ?_
      refine gx_aload C dX7_split_72 rfl ?_
      refine gx_iload_n C dX7_split_74 rfl ?_
      refine gx_aaload C (gd_now hL).2.1 (by decide) (by omega) dX7_split_75 (show _ = 48 + 1 * a.toNat by omega) ?_
      refine gx_aload C dX7_split_76 rfl ?_
      refine gx_iload_n C dX7_split_78 rfl ?_
      refine gx_aaload C (gd_now hL).2.1 (by decide) (by omega) dX7_split_79 (show _ = 48 + 1 * b.toNat by omega) ?_
      refine gx_callVN C 0 rfl (gd_13 hL) (c_X0_findParts hL hA1 hela (by omega) (el1 _ (by omega)) va.1 helb (by omega) (el1 _ (by omega)) vb.1) (⟨va_cnB 2 (gx_hts C) gX7_split_X0_findParts_n94 rfl rfl rfl ((gx_hN C).2 ("PeirceDesk", 94, yX0_findParts, "PeirceDesk") (by decide +kernel)) ((gx_hts C) (.initialized RX0) (by decide +kernel)) (by decide +kernel) ⟨Nat.le_of_ble_eq_true rfl, Nat.le_of_ble_eq_true rfl⟩, (gx_hts C) (.instanceMethod yX0_findParts) (by decide +kernel), (gx_hts C) (.selects RX0 yX0_findParts yX0_findParts) (by decide +kernel)⟩) rfl rfl (Nat.le_of_ble_eq_true rfl) ⟨Nat.le_refl _, Nat.le_refl _⟩ dX7_split_80 (fun P4 h => ?_)
      obtain ⟨f2, f0, f1, f4⟩ := h
      rw [sp2] at f2
      rw [sp0] at f0
      rw [sp1] at f1
      have fw : ∀ w, w < 3 → mx_of (P4 (26 + 1 * w)) 0 = zs_part s (zs_el s.1 a.toNat) (zs_el s.1 b.toNat) (w : Int) := fun w hw => by
        rcases (show w = 0 ∨ w = 1 ∨ w = 2 by omega) with rfl | rfl | rfl
        · exact f0
        · exact f1
        · exact f2
      have g4' : sd_st s.1 46 P4 := sd_stf g1' (fun c a b => f4 c (by omega) (by omega) (by omega) (by omega) (by omega))
      refine gx_iconst C dX7_split_83 ?_
      refine gx_istore C dX7_split_84 (by decide) rfl ?_
      refine gx_iconst C dX7_split_86 ?_
      refine gx_istore C dX7_split_87 (by decide) rfl ?_
      refine gx_for 3 (fun k (q : gx_M × Int) => [gx_R 12, gx_I a, gx_I b, gx_I t, gx_R 47, gx_I q.2, gx_I (k : Int)]) (fun q => q.1) (fun k q => zs_c3 s (zs_el s.1 a.toNat) (zs_el s.1 b.toNat) k q.2 ∧ (0 ≤ q.2 ∧ q.2 ≤ k) ∧ (∀ w, w < k → mx_of (q.1 (48 + 1 * (t.toNat + 2 - w))) 0 = zs_part s (zs_el s.1 a.toNat) (zs_el s.1 b.toNat) (w : Int)) ∧ ∀ c, (∀ w, w < k → c ≠ 48 + 1 * (t.toNat + 2 - w)) → q.1 c = P4 c) 0 (P4, 0) (by omega) ⟨rfl, ⟨Int.le_refl 0, Int.le_refl 0⟩, fun w hw => absurd hw (by omega), fun _ _ => rfl⟩ (fun k q hk hI ih => ?_) (fun q hI => ?_)
      · obtain ⟨Q, y⟩ := q
        obtain ⟨i1, i2, i3, i4⟩ := hI
        simp only at i1 i2 i3 i4 ⊢
        have hel := gd_el hL (r := t.toNat + 2 - k) (by omega)
        have hpk := gd_pt hL k hk
        have hpk' : gd_9 La (26 + 1 * k) := by rw [Nat.one_mul]; exact hpk
        have eQ : Q (26 + 1 * k) = P4 (26 + 1 * k) := i4 _ (fun w hw => by omega)
        have ok : mx_ok (s.1 82) (mx_of (Q (26 + 1 * k)) 0) := by rw [eQ, fw k hk]; exact zs_partok hs
        refine gx_iload C dX7_split_89 rfl ?_
        refine gx_iconst C dX7_split_91 ?_
        refine gx_icmp_ge C dX7_split_92 rfl (by unfold gx_3; omega) (by unfold gx_3; omega) (fun hb92 => absurd hb92 (by omega)) (fun hb92 => ?_)
        refine gx_aload_n C dX7_split_95 rfl ?_
        refine gx_getR C 7 _ 0 rfl (gd_12 hL) rfl (by decide) nX7_split_7 (gx_hts C _ fX7_split_12) dX7_split_96 ?_
        refine gx_getRN C 0 _ 2 rfl (gd_13 hL) rfl (by decide) nX7_split_0 ((gx_hN C).1 ("PeirceDesk", 98, "PeirceDesk$Algebra", "parts", "[[I", "PeirceDesk") (by decide +kernel) |> va_Nw.use rfl) dX7_split_99 ?_
        refine gx_iload C dX7_split_102 rfl ?_
        refine gx_aaload C (gd_25 hL) (by decide) (by omega) dX7_split_104 (show _ = 26 + 1 * k by omega) ?_
        refine gx_aload C dX7_split_105 rfl ?_
        refine gx_iload_n C dX7_split_107 rfl ?_
        refine gx_iconst C dX7_split_108 ?_
        refine gx_iadd C dX7_split_109 ?_
        refine gx_iconst C dX7_split_110 ?_
        refine gx_isub C dX7_split_111 ?_
        refine gx_iload C dX7_split_112 rfl ?_
        refine gx_isub C dX7_split_114 ?_
        refine gx_aaload C (gd_now hL).2.1 (by decide) (by omega) dX7_split_115 (show _ = 48 + 1 * (t.toNat + 2 - k) by omega) ?_
        refine gx_statV C (c_X7_copy hpk' hel) (cwS 2 (gx_hts C) gX7_split_X7_copy rfl rfl rfl (by decide +kernel) ⟨Nat.le_of_ble_eq_true rfl, Nat.le_of_ble_eq_true rfl⟩) rfl rfl (Nat.le_of_ble_eq_true rfl) ⟨Nat.le_refl _, Nat.le_refl _⟩ dX7_split_116 (fun Q2 h => ?_)
        have e2 : ∀ c, c ≠ 48 + 1 * (t.toNat + 2 - k) → Q2 c = Q c := fun c hc => by rw [h, gx_blk_nc hc]
        have e3 : mx_of (Q2 (48 + 1 * (t.toNat + 2 - k))) 0 = zs_part s (zs_el s.1 a.toNat) (zs_el s.1 b.toNat) (k : Int) := by
          rw [h, mx_of_blk, mx_cut (f := mx_of (Q (26 + 1 * k)) 0) (fun j hj => if_neg (by omega)), eQ, fw k hk]
        refine gx_iload C dX7_split_119 rfl ?_
        refine gx_aload_n C dX7_split_121 rfl ?_
        refine gx_getR C 7 _ 0 rfl (gd_12 hL) rfl (by decide) nX7_split_7 (gx_hts C _ fX7_split_12) dX7_split_122 ?_
        refine gx_getRN C 0 _ 2 rfl (gd_13 hL) rfl (by decide) nX7_split_0 ((gx_hN C).1 ("PeirceDesk", 98, "PeirceDesk$Algebra", "parts", "[[I", "PeirceDesk") (by decide +kernel) |> va_Nw.use rfl) dX7_split_125 ?_
        refine gx_iload C dX7_split_128 rfl ?_
        refine gx_aaload C (gd_25 hL) (by decide) (by omega) dX7_split_130 (show _ = 26 + 1 * k by omega) ?_
        refine gx_statI C (c_X7_isZero (m := s.1 82) (by omega) hpk' (by rw [e2 _ (by omega)]; exact ok)) (cwS 1 (gx_hts C) gX7_split_X7_isZero rfl rfl rfl (by decide +kernel) ⟨Nat.le_of_ble_eq_true rfl, Nat.le_of_ble_eq_true rfl⟩) rfl rfl (Nat.le_of_ble_eq_true rfl) ⟨Nat.le_refl _, Nat.le_refl _⟩ dX7_split_131 (fun z2 Q3 h2 => ?_)
        obtain ⟨rfl, w1, w2⟩ := h2
        rw [e2 _ (by omega), eQ, fw k hk] at w2
        have nxt : ∀ y', (∃ q, mx_nz (zs_part s (zs_el s.1 a.toNat) (zs_el s.1 b.toNat) (k : Int)) q ∧ (q = 0 ∨ q = 1) ∧ y' = y + q) → (zs_c3 s (zs_el s.1 a.toNat) (zs_el s.1 b.toNat) (k + 1) y' ∧ (0 ≤ y' ∧ y' ≤ ((k + 1 : Nat) : Int)) ∧ (∀ w, w < k + 1 → mx_of (Q3 (48 + 1 * (t.toNat + 2 - w))) 0 = zs_part s (zs_el s.1 a.toNat) (zs_el s.1 b.toNat) (w : Int)) ∧ ∀ c, (∀ w, w < k + 1 → c ≠ 48 + 1 * (t.toNat + 2 - w)) → Q3 c = P4 c) := fun y' ⟨q, q1, q2, q3⟩ => ⟨⟨y, q, i1, q1, q3⟩, by omega, fun w hw => by
          by_cases e : w = k
          · rw [e]; exact e3
          · rw [e2 _ (by omega)]; exact i3 w (by omega), fun c hc => by
          rw [e2 c (hc k (by omega))]
          exact i4 c (fun w hw => hc w (by omega))⟩
        refine gx_if_eq C dX7_split_134 rfl (by unfold gx_3; omega) (fun hb134 => ?_) (fun hb134 => ?_)
        · have hz : z2 = 0 := hb134
          have := nxt (y + 1) ⟨1, Or.inr ⟨fun e => by have := w2.mpr e; omega, rfl⟩, Or.inr rfl, rfl⟩
          refine gx_iconst C dX7_split_141 ?_
          refine gx_iadd C dX7_split_142 ?_
          refine gx_istore C dX7_split_143 (by decide) rfl ?_
          refine gx_iinc C dX7_split_145 (by decide) rfl rfl ?_
          refine gx_goto C dX7_split_148 rfl ?_
          exact ih (Q3, y + 1) this
        · have := nxt (y + 0) ⟨0, Or.inl ⟨w2.mp (by omega), rfl⟩, Or.inl rfl, rfl⟩
          refine gx_iconst C dX7_split_137 ?_
          refine gx_goto C dX7_split_138 rfl ?_
          refine gx_iadd C dX7_split_142 ?_
          refine gx_istore C dX7_split_143 (by decide) rfl ?_
          refine gx_iinc C dX7_split_145 (by decide) rfl rfl ?_
          refine gx_goto C dX7_split_148 rfl ?_
          exact ih (Q3, y + 0) this
      · obtain ⟨Q, y⟩ := q
        obtain ⟨i1, i2, i3, i4⟩ := hI
        simp only at i1 i2 i3 i4 ⊢
        refine gx_iload C dX7_split_89 rfl ?_
        refine gx_iconst C dX7_split_91 ?_
        refine gx_icmp_ge C dX7_split_92 rfl (by unfold gx_3; omega) (by unfold gx_3; omega) (fun hb92 => ?_) (fun hb92 => absurd (by omega) hb92)
        have h9 : ∀ w k, 9 ≤ k → zs_part s (zs_el s.1 a.toNat) (zs_el s.1 b.toNat) w k = 0 := fun w k hk => zs_part9 hs va vb k hk
        have keep : ∀ c, (c < 48 ∨ 56 ≤ c) → Q c = P4 c := fun c hc => i4 c (fun w hw => by omega)
        have hnow : sd_st (zs_sp s (zs_el s.1 a.toNat) (zs_el s.1 b.toNat) t.toNat 3) 46 Q := by
          refine ⟨by rw [keep 46 (by omega), zs_sp_8 (by omega) (by omega)]; exact g4'.1, by rw [keep 46 (by omega), zs_sp_8 (by omega) (by omega)]; exact g4'.2.1, fun q hq => ?_⟩
          rw [zs_sp_el (by omega) h9 hq, show 46 + 2 + q = 48 + 1 * q by omega]
          by_cases c0 : q = t.toNat + 2
          · rw [if_pos c0, c0]
            exact i3 0 (by decide)
          · rw [if_neg c0]
            by_cases c1 : q = t.toNat + 1
            · rw [if_pos c1, c1]
              exact i3 1 (by decide)
            · rw [if_neg c1]
              by_cases c2 : q = t.toNat
              · rw [if_pos c2, c2]
                exact i3 2 (by decide)
              · rw [if_neg c2, i4 _ (fun w hw => by omega), show 48 + 1 * q = 46 + 2 + q by omega]
                exact g4'.2.2 q hq
        have f5 : ∀ c, (c < 26 ∨ 29 ≤ c) → c ≠ 31 → c ≠ 32 → P4 c = P1 c := fun c h1 h2 h3 => f4 c (by omega) (by omega) (by omega) h2 h3
        have y1 : sd_Y P1 Q := ⟨fun c hc => by rw [keep c (by omega)]; exact f5 c (by omega) (by omega) (by omega), by rw [keep 14 (by omega), f5 14 (by omega) (by omega) (by omega)], fun k _ _ _ _ _ => by rw [keep 35 (by omega), f5 35 (by omega) (by omega) (by omega)]⟩
        have fin := sd_Qx hX (sd_push hn6 hRP g3 g5 r1 r2 r3 r4 y1 hnow)
        refine gx_iload C dX7_split_151 rfl ?_
        exact gx_iret C dX7_split_153 ⟨_, by unfold sp_split; rw [if_pos hok]; exact ⟨fun _ => ⟨zs_c3_cn i1, rfl⟩, fun h => absurd hsq h⟩, fin⟩
    · refine gx_bipush C dX7_split_51 rfl ?_
      exact gx_iret C dX7_split_53 ⟨s, by unfold sp_split; rw [if_pos hok]; exact ⟨fun h => absurd (k2.mpr h) (by omega), fun _ => ⟨rfl, rfl⟩⟩, sd_XQ hR hX⟩
  · have bad : ∃ s', sp_split s a b t (-1) s' ∧ sd_Q s' M M := ⟨s, by unfold sp_split; rw [if_neg hok]; exact ⟨rfl, rfl⟩, sd_XQ hR (sd_Xr M)⟩
    refine gx_start_i (L := [gx_R 12, gx_I a, gx_I b, gx_I t, gx_U, gx_U, gx_U]) (by decide) rfl rfl (Nat.le_of_ble_eq_true rfl) rfl ?_
    intro _ _ _ _ _ _ _ _ _ _ _ _ C
    refine gx_iload_n C dX7_split_0 rfl ?_
    refine gx_statI C (c_X7_isRegister ha) (cwS 1 (gx_hts C) gX7_split_X7_isRegister rfl rfl rfl (by decide +kernel) ⟨Nat.le_of_ble_eq_true rfl, Nat.le_of_ble_eq_true rfl⟩) rfl rfl (Nat.le_of_ble_eq_true rfl) ⟨Nat.le_refl _, Nat.le_refl _⟩ dX7_split_1 (fun z P hz => ?_)
    obtain ⟨rfl, rfl⟩ := hz
    by_cases h1 : 0 ≤ a ∧ a ≤ 7
    · rw [if_pos h1]
      refine gx_if_eq C dX7_split_4 rfl (by unfold gx_3; omega) (fun hb4 => absurd hb4 (by omega)) (fun hb4 => ?_)
      refine gx_iload_n C dX7_split_7 rfl ?_
      refine gx_statI C (c_X7_isRegister hb) (cwS 1 (gx_hts C) gX7_split_X7_isRegister rfl rfl rfl (by decide +kernel) ⟨Nat.le_of_ble_eq_true rfl, Nat.le_of_ble_eq_true rfl⟩) rfl rfl (Nat.le_of_ble_eq_true rfl) ⟨Nat.le_refl _, Nat.le_refl _⟩ dX7_split_8 (fun z P2 hz => ?_)
      obtain ⟨rfl, rfl⟩ := hz
      by_cases h2 : 0 ≤ b ∧ b ≤ 7
      · rw [if_pos h2]
        refine gx_if_eq C dX7_split_11 rfl (by unfold gx_3; omega) (fun hb11 => absurd hb11 (by omega)) (fun hb11 => ?_)
        refine gx_iload_n C dX7_split_14 rfl ?_
        refine gx_if_lt C dX7_split_15 rfl ht (fun hb15 => ?_) (fun hb15 => ?_)
        · refine gx_iconst C dX7_split_23 ?_
          exact gx_iret C dX7_split_24 bad
        · refine gx_iload_n C dX7_split_18 rfl ?_
          refine gx_iconst C dX7_split_19 ?_
          refine gx_icmp_le C dX7_split_20 rfl ht (by unfold gx_3; omega) (fun hb20 => absurd hb20 (by omega)) (fun hb20 => ?_)
          refine gx_iconst C dX7_split_23 ?_
          exact gx_iret C dX7_split_24 bad
      · rw [if_neg h2]
        refine gx_if_eq C dX7_split_11 rfl (by unfold gx_3; omega) (fun hb11 => ?_) (fun hb11 => absurd (by omega) hb11)
        refine gx_iconst C dX7_split_23 ?_
        exact gx_iret C dX7_split_24 bad
    · rw [if_neg h1]
      refine gx_if_eq C dX7_split_4 rfl (by unfold gx_3; omega) (fun hb4 => ?_) (fun hb4 => absurd (by omega) hb4)
      refine gx_iconst C dX7_split_23 ?_
      exact gx_iret C dX7_split_24 bad
