/-! the desk: stops, holds, run -/
theorem pq_3 {s : sp_S} (hs : sp_ok s) {z : Int} (h : pd_flt s.2.2.2.2 s.2.2.2.1 z) : gx_3 z := pm_flt_3 hs (pq_flt hs h)
theorem pm_stop_3 {s : sp_S} (hs : sp_ok s) {M : gx_M} {T : pm_S} (hT : pm_fin s T) {z : Int} (hz : z = pm_stop T) (hb : pm_stop T = -6 ∨ (0 ≤ pm_stop T ∧ pm_stop T < 60)) : gx_3 z := by
  unfold gx_3
  omega
theorem pm_stop_b {s : sp_S} {k : Nat} (hk : k ≤ 60) {t : pm_S} (h : pm_run s k = some t) : (∀ i, 1 ≤ i → i ≤ pm_d t → pm_pl t i < 60) ∧ (pm_stop t = -6 ∨ (0 ≤ pm_stop t ∧ pm_stop t < 60)) := by
  induction k generalizing t with
  | zero =>
    have h : some pm_t0 = some t := h
    cases h
    exact ⟨fun i h1 h2 => by have h2 : i ≤ 0 := h2; omega, Or.inl rfl⟩
  | succ k ih =>
    obtain ⟨u, h1, h2⟩ := pm_run_s h
    obtain ⟨i1, i2⟩ := ih (by omega) h1
    have hfac : ∀ {c : Int} {v : pm_S}, pm_fac s u c k = some v → (∀ i, 1 ≤ i → i ≤ pm_d v → pm_pl v i < 60) ∧ (pm_stop v = -6 ∨ (0 ≤ pm_stop v ∧ pm_stop v < 60)) := fun {c v} g => by
      unfold pm_fac at g
      split at g
      · cases g
        exact ⟨i1, i2⟩
      · split at g
        · cases g
          refine ⟨fun i a b => ?_, i2⟩
          show fn_up (pm_pl u) (pm_d u + 1) k i < 60
          have b : i ≤ pm_d u + 1 := b
          by_cases q : i = pm_d u + 1
          · rw [q, fn_up_eq]; omega
          · rw [fn_up_ne q]; exact i1 i a (by omega)
        · cases g
    unfold pm_step at h2
    split at h2
    · split at h2
      · cases h2; exact ⟨i1, i2⟩
      · exact hfac h2
    · split at h2
      · split at h2
        · cases h2; exact ⟨i1, i2⟩
        · cases h2
      · split at h2
        · exact hfac h2
        · split at h2
          · split at h2
            · cases h2; exact ⟨i1, i2⟩
            · cases h2
          · unfold pm_beh at h2
            split at h2
            · cases h2; exact ⟨i1, i2⟩
            · split at h2
              · cases h2; exact ⟨i1, i2⟩
              · split at h2
                · next q =>
                  cases h2
                  refine ⟨fun i a b => i1 i a (Nat.le_trans (show i ≤ pm_d u - 1 from b) (Nat.sub_le _ _)), ?_⟩
                  have e : (pm_cls s u).2.1 = if pm_on u = 1 ∧ pm_let u (pm_d u) = 118 ∧ mx_det (zs_nn s) (s.1 82) (pm_P u (pm_d u) (pm_sm u (pm_d u))) = 0 then ((pm_pl u (pm_d u) : Int), 0) else u.2.1 := rfl
                  unfold pm_stop
                  rw [e]
                  split
                  · have := i1 (pm_d u) (by omega) (Nat.le_refl _)
                    right
                    show 0 ≤ (pm_pl u (pm_d u) : Int) ∧ (pm_pl u (pm_d u) : Int) < 60
                    omega
                  · exact i2
                · split at h2
                  · next q =>
                    cases h2
                    exact ⟨i1, i2⟩
                  · split at h2
                    · next q =>
                      cases h2
                      exact ⟨i1, i2⟩
                    · cases h2
theorem sp_stop3 {s : sp_S} (hs : sp_ok s) {T : pm_S} (hT : pm_fin s T) : gx_3 (pm_stop T) := by
  have := (pm_stop_b (s := s) hs.2.2.2.2.2.1 hT.1).2
  unfold gx_3
  omega
set_option maxRecDepth 100000 in
set_option maxHeartbeats 4000000 in
theorem c_X7_stops {La : List gx_K} (hL : gd_H La) {M : gx_M} {s : sp_S} (hs : sp_ok s) (hR : sd_R s M) : gx_Ci La yX7_stops wsX7_stops 6 [gx_R 12] M (fun z M' => sp_stops s z ∧ sd_X M M') := by
  refine gx_start_i (L := [gx_R 12]) (by decide) rfl rfl (Nat.le_of_ble_eq_true rfl) rfl ?_
  intro _ _ _ _ _ _ _ _ _ _ _ _ C
  refine gx_aload_n C dX7_stops_0 rfl ?_
  refine gx_getR C 7 _ 1 rfl (gd_12 hL) rfl (by decide) nX7_stops_7 (gx_hts C _ fX7_stops_19) dX7_stops_1 ?_
  refine gx_callIN C 3 rfl (gd_14 hL) (c_X3_findFault hL (sd_T hs hR)) (⟨va_cnB 0 (gx_hts C) gX7_stops_X3_findFault_n107 rfl rfl rfl ((gx_hN C).2 ("PeirceDesk", 107, yX3_findFault, "PeirceDesk") (by decide +kernel)) ((gx_hts C) (.initialized RX3) (by decide +kernel)) (by decide +kernel) ⟨Nat.le_of_ble_eq_true rfl, Nat.le_of_ble_eq_true rfl⟩, (gx_hts C) (.instanceMethod yX3_findFault) (by decide +kernel), (gx_hts C) (.selects RX3 yX3_findFault yX3_findFault) (by decide +kernel)⟩) rfl rfl (Nat.le_of_ble_eq_true rfl) ⟨Nat.le_refl _, Nat.le_refl _⟩ dX7_stops_4 (fun z P h => ?_)
  obtain ⟨h1, h2⟩ := h
  have hz3 := pq_3 hs h1
  have X1 := sd_XF h2
  have hRP := sd_XR hR X1
  refine gx_bipush C dX7_stops_7 rfl ?_
  refine gx_icmp_eq C dX7_stops_9 rfl hz3 (by unfold gx_3; omega) (fun hb9 => ?_) (fun hb9 => ?_)
  · have hb9 : z = -6 := hb9
    subst hb9
    obtain ⟨T, hT⟩ := pq_fin hs h1
    refine gx_aload_n C dX7_stops_17 rfl ?_
    refine gx_getR C 7 _ 2 rfl (gd_12 hL) rfl (by decide) nX7_stops_7 (gx_hts C _ fX7_stops_26) dX7_stops_18 ?_
    refine gx_aload_n C dX7_stops_21 rfl ?_
    refine gx_getR C 7 _ 1 rfl (gd_12 hL) rfl (by decide) nX7_stops_7 (gx_hts C _ fX7_stops_19) dX7_stops_22 ?_
    refine gx_aload_n C dX7_stops_25 rfl ?_
    refine gx_getR C 7 _ 0 rfl (gd_12 hL) rfl (by decide) nX7_stops_7 (gx_hts C _ fX7_stops_12) dX7_stops_26 ?_
    refine gx_callIN C 4 rfl (gd_15 hL) (c_X4_carryOut hL hs hRP hT) (⟨va_cnB 2 (gx_hts C) gX7_stops_X4_carryOut_n114 rfl rfl rfl ((gx_hN C).2 ("PeirceDesk", 114, yX4_carryOut, "PeirceDesk") (by decide +kernel)) ((gx_hts C) (.initialized RX4) (by decide +kernel)) (by decide +kernel) ⟨Nat.le_of_ble_eq_true rfl, Nat.le_of_ble_eq_true rfl⟩, (gx_hts C) (.instanceMethod yX4_carryOut) (by decide +kernel), (gx_hts C) (.selects RX4 yX4_carryOut yX4_carryOut) (by decide +kernel)⟩) rfl rfl (Nat.le_of_ble_eq_true rfl) ⟨Nat.le_refl _, Nat.le_refl _⟩ dX7_stops_29 (fun z2 P2 h => ?_)
    obtain ⟨w1, w2, w3⟩ := h
    exact gx_iret C dX7_stops_32 ⟨Or.inr ⟨T, hT, w1⟩, sd_Xt X1 w3⟩
  · refine gx_bipush C dX7_stops_12 rfl ?_
    refine gx_goto C dX7_stops_14 rfl ?_
    exact gx_iret C dX7_stops_32 ⟨Or.inl ⟨pm_no (pq_flt hs h1) hb9, rfl⟩, X1⟩
set_option maxRecDepth 100000 in
set_option maxHeartbeats 4000000 in
theorem c_X7_holds {La : List gx_K} (hL : gd_H La) {M : gx_M} {s : sp_S} (hs : sp_ok s) (hR : sd_R s M) : gx_Ci La yX7_holds wsX7_holds 6 [gx_R 12] M (fun z M' => sp_holds s z ∧ sd_X M M') := by
  have hm := hs.1.2.1
  refine gx_start_i (L := [gx_R 12]) (by decide) rfl rfl (Nat.le_of_ble_eq_true rfl) rfl ?_
  intro _ _ _ _ _ _ _ _ _ _ _ _ C
  refine gx_aload_n C dX7_holds_0 rfl ?_
  refine gx_getR C 7 _ 1 rfl (gd_12 hL) rfl (by decide) nX7_holds_7 (gx_hts C _ fX7_holds_19) dX7_holds_1 ?_
  refine gx_callIN C 3 rfl (gd_14 hL) (c_X3_findFault hL (sd_T hs hR)) (⟨va_cnB 0 (gx_hts C) gX7_holds_X3_findFault_n107 rfl rfl rfl ((gx_hN C).2 ("PeirceDesk", 107, yX3_findFault, "PeirceDesk") (by decide +kernel)) ((gx_hts C) (.initialized RX3) (by decide +kernel)) (by decide +kernel) ⟨Nat.le_of_ble_eq_true rfl, Nat.le_of_ble_eq_true rfl⟩, (gx_hts C) (.instanceMethod yX3_findFault) (by decide +kernel), (gx_hts C) (.selects RX3 yX3_findFault yX3_findFault) (by decide +kernel)⟩) rfl rfl (Nat.le_of_ble_eq_true rfl) ⟨Nat.le_refl _, Nat.le_refl _⟩ dX7_holds_4 (fun z P h => ?_)
  obtain ⟨h1, h2⟩ := h
  have hz3 := pq_3 hs h1
  have X1 := sd_XF h2
  have hRP := sd_XR hR X1
  refine gx_bipush C dX7_holds_7 rfl ?_
  refine gx_icmp_eq C dX7_holds_9 rfl hz3 (by unfold gx_3; omega) (fun hb9 => ?_) (fun hb9 => ?_)
  · have hb9 : z = -6 := hb9
    subst hb9
    obtain ⟨T, hT⟩ := pq_fin hs h1
    have hst3 := sp_stop3 hs hT
    refine gx_aload_n C dX7_holds_15 rfl ?_
    refine gx_getR C 7 _ 1 rfl (gd_12 hL) rfl (by decide) nX7_holds_7 (gx_hts C _ fX7_holds_19) dX7_holds_16 ?_
    refine gx_callIN C 3 rfl (gd_14 hL) (c_X3_target hL (sd_T hs hRP)) (⟨va_cnB 0 (gx_hts C) gX7_holds_X3_target_n111 rfl rfl rfl ((gx_hN C).2 ("PeirceDesk", 111, yX3_target, "PeirceDesk") (by decide +kernel)) ((gx_hts C) (.initialized RX3) (by decide +kernel)) (by decide +kernel) ⟨Nat.le_of_ble_eq_true rfl, Nat.le_of_ble_eq_true rfl⟩, (gx_hts C) (.instanceMethod yX3_target) (by decide +kernel), (gx_hts C) (.selects RX3 yX3_target yX3_target) (by decide +kernel)⟩) rfl rfl (Nat.le_of_ble_eq_true rfl) ⟨Nat.le_refl _, Nat.le_refl _⟩ dX7_holds_19 (fun z2 P2 hz => ?_)
    obtain ⟨rfl, rfl⟩ := hz
    have h3b : gx_3 (pd_tg s.2.2.2.2 s.2.2.2.1) := by
      unfold pd_tg gx_3
      split <;> omega
    have bad : ∀ {Q : gx_M}, (pm_f T = 1 ∨ pm_stop T ≠ -6) → sd_X P2 Q → sp_holds s (-5) ∧ sd_X M Q := fun {Q} h x => ⟨Or.inr ⟨T, hT, by rw [if_pos h]⟩, sd_Xt X1 x⟩
    by_cases hf : pm_f T = 1
    · have ht := ((pm_tg hT).1 hf)
      refine gx_bipush C dX7_holds_22 rfl ?_
      refine gx_icmp_ne C dX7_holds_24 rfl h3b (by unfold gx_3; omega) (fun hb24 => ?_) (fun hb24 => absurd (by omega) hb24)
      refine gx_bipush C dX7_holds_47 rfl ?_
      exact gx_iret C dX7_holds_49 (bad (Or.inl hf) (sd_Xr _))
    · have ht := ((pm_tg hT).2 hf)
      refine gx_bipush C dX7_holds_22 rfl ?_
      refine gx_icmp_ne C dX7_holds_24 rfl h3b (by unfold gx_3; omega) (fun hb24 => absurd hb24 (by omega)) (fun hb24 => ?_)
      refine gx_aload_n C dX7_holds_27 rfl ?_
      refine gx_getR C 7 _ 2 rfl (gd_12 hL) rfl (by decide) nX7_holds_7 (gx_hts C _ fX7_holds_26) dX7_holds_28 ?_
      refine gx_aload_n C dX7_holds_31 rfl ?_
      refine gx_getR C 7 _ 1 rfl (gd_12 hL) rfl (by decide) nX7_holds_7 (gx_hts C _ fX7_holds_19) dX7_holds_32 ?_
      refine gx_aload_n C dX7_holds_35 rfl ?_
      refine gx_getR C 7 _ 0 rfl (gd_12 hL) rfl (by decide) nX7_holds_7 (gx_hts C _ fX7_holds_12) dX7_holds_36 ?_
      refine gx_callIN C 4 rfl (gd_15 hL) (c_X4_carryOut hL hs hRP hT) (⟨va_cnB 2 (gx_hts C) gX7_holds_X4_carryOut_n114 rfl rfl rfl ((gx_hN C).2 ("PeirceDesk", 114, yX4_carryOut, "PeirceDesk") (by decide +kernel)) ((gx_hts C) (.initialized RX4) (by decide +kernel)) (by decide +kernel) ⟨Nat.le_of_ble_eq_true rfl, Nat.le_of_ble_eq_true rfl⟩, (gx_hts C) (.instanceMethod yX4_carryOut) (by decide +kernel), (gx_hts C) (.selects RX4 yX4_carryOut yX4_carryOut) (by decide +kernel)⟩) rfl rfl (Nat.le_of_ble_eq_true rfl) ⟨Nat.le_refl _, Nat.le_refl _⟩ dX7_holds_39 (fun z3 P3 h => ?_)
      obtain ⟨w1, w2, w3⟩ := h
      subst w1
      refine gx_bipush C dX7_holds_42 rfl ?_
      refine gx_icmp_eq C dX7_holds_44 rfl hst3 (by unfold gx_3; omega) (fun hb44 => ?_) (fun hb44 => ?_)
      · obtain ⟨v1, v2, v3⟩ := w2 hb44
        have he : pm_e T = 1 := by
          rcases hT.2.2.2 with h | h
          · exact absurd h hf
          · exact h
        obtain ⟨v4, v5⟩ := v3 he
        refine gx_aload_n C dX7_holds_50 rfl ?_
        refine gx_getR C 7 _ 2 rfl (gd_12 hL) rfl (by decide) nX7_holds_7 (gx_hts C _ fX7_holds_26) dX7_holds_51 ?_
        refine gx_getRN C 4 _ 2 rfl (gd_15 hL) rfl (by decide) nX7_holds_4 ((gx_hN C).1 ("PeirceDesk", 177, "PeirceDesk$Reckoner", "leftSide", "[I", "PeirceDesk") (by decide +kernel) |> va_Nw.use rfl) dX7_holds_54 ?_
        refine gx_aload_n C dX7_holds_57 rfl ?_
        refine gx_getR C 7 _ 2 rfl (gd_12 hL) rfl (by decide) nX7_holds_7 (gx_hts C _ fX7_holds_26) dX7_holds_58 ?_
        refine gx_callRN C 4 rfl (gd_15 hL) (c_X4_result hL) (⟨va_cnB 0 (gx_hts C) gX7_holds_X4_result_n118 rfl rfl rfl ((gx_hN C).2 ("PeirceDesk", 118, yX4_result, "PeirceDesk") (by decide +kernel)) ((gx_hts C) (.initialized RX4) (by decide +kernel)) (by decide +kernel) ⟨Nat.le_of_ble_eq_true rfl, Nat.le_of_ble_eq_true rfl⟩, (gx_hts C) (.instanceMethod yX4_result) (by decide +kernel), (gx_hts C) (.selects RX4 yX4_result yX4_result) (by decide +kernel)⟩) rfl rfl (Nat.le_of_ble_eq_true rfl) ⟨Nat.le_refl _, Nat.le_refl _⟩ dX7_holds_61 (fun c P4 h => ?_)
        obtain ⟨rfl, rfl⟩ := h
        refine gx_statI C (c_X7_same (m := s.1 82) (by omega) (gd_44 hL) (gd_F1 (gd_f hL 0 (by decide))) (by rw [v4]; exact v5) (by rw [show 154 + 4 * 0 + 1 = 155 from rfl, v1]; exact v2.1)) (cwS 2 (gx_hts C) gX7_holds_X7_same rfl rfl rfl (by decide +kernel) ⟨Nat.le_of_ble_eq_true rfl, Nat.le_of_ble_eq_true rfl⟩) rfl rfl (Nat.le_of_ble_eq_true rfl) ⟨Nat.le_refl _, Nat.le_refl _⟩ dX7_holds_64 (fun z4 P5 h => ?_)
        obtain ⟨rfl, k1, k2⟩ := h
        rw [v4] at k2
        have k3 : z4 = 1 ↔ pm_L T = mx_of (P5 155) 0 := k2
        rw [v1] at k3
        have fin : sp_holds s z4 ∧ sd_X M P5 := ⟨Or.inr ⟨T, hT, by rw [if_neg (fun h => h.elim hf (fun g => g hb44))]; exact ⟨k1, k3⟩⟩, sd_Xt X1 w3⟩
        refine gx_if_eq C dX7_holds_67 rfl (by unfold gx_3; omega) (fun hb67 => ?_) (fun hb67 => ?_)
        · have : z4 = 0 := hb67
          subst this
          refine gx_iconst C dX7_holds_74 ?_
          exact gx_iret C dX7_holds_75 fin
        · have : z4 = 1 := by omega
          subst this
          refine gx_iconst C dX7_holds_70 ?_
          refine gx_goto C dX7_holds_71 rfl ?_
          exact gx_iret C dX7_holds_75 fin
      · refine gx_bipush C dX7_holds_47 rfl ?_
        exact gx_iret C dX7_holds_49 (bad (Or.inr hb44) w3)
  · refine gx_bipush C dX7_holds_12 rfl ?_
    exact gx_iret C dX7_holds_14 ⟨Or.inl ⟨pm_no (pq_flt hs h1) hb9, rfl⟩, X1⟩
set_option maxRecDepth 100000 in
set_option maxHeartbeats 4000000 in
theorem c_X7_run {La : List gx_K} (hL : gd_H La) {M : gx_M} {s : sp_S} (hs : sp_ok s) (hR : sd_R s M) : gx_Ci La yX7_run wsX7_run 6 [gx_R 12] M (fun z M' => ∃ s', sp_run s z s' ∧ sp_ok s' ∧ sd_Q s' M M') := by
  have hm := hs.1.2.1
  have hn6 := hs.2.1
  refine gx_start_i (L := [gx_R 12, gx_U]) (by decide) rfl rfl (Nat.le_of_ble_eq_true rfl) rfl ?_
  intro _ _ _ _ _ _ _ _ _ _ _ _ C
  refine gx_aload_n C dX7_run_0 rfl ?_
  refine gx_getR C 7 _ 1 rfl (gd_12 hL) rfl (by decide) nX7_run_7 (gx_hts C _ fX7_run_19) dX7_run_1 ?_
  refine gx_callIN C 3 rfl (gd_14 hL) (c_X3_findFault hL (sd_T hs hR)) (⟨va_cnB 0 (gx_hts C) gX7_run_X3_findFault_n107 rfl rfl rfl ((gx_hN C).2 ("PeirceDesk", 107, yX3_findFault, "PeirceDesk") (by decide +kernel)) ((gx_hts C) (.initialized RX3) (by decide +kernel)) (by decide +kernel) ⟨Nat.le_of_ble_eq_true rfl, Nat.le_of_ble_eq_true rfl⟩, (gx_hts C) (.instanceMethod yX3_findFault) (by decide +kernel), (gx_hts C) (.selects RX3 yX3_findFault yX3_findFault) (by decide +kernel)⟩) rfl rfl (Nat.le_of_ble_eq_true rfl) ⟨Nat.le_refl _, Nat.le_refl _⟩ dX7_run_4 (fun z P h => ?_)
  obtain ⟨h1, h2⟩ := h
  have hz3 := pq_3 hs h1
  have X1 := sd_XF h2
  have hRP := sd_XR hR X1
  refine gx_bipush C dX7_run_7 rfl ?_
  refine gx_icmp_eq C dX7_run_9 rfl hz3 (by unfold gx_3; omega) (fun hb9 => ?_) (fun hb9 => ?_)
  · have hb9 : z = -6 := hb9
    subst hb9
    obtain ⟨T, hT⟩ := pq_fin hs h1
    have hst3 := sp_stop3 hs hT
    refine gx_aload_n C dX7_run_15 rfl ?_
    refine gx_getR C 7 _ 1 rfl (gd_12 hL) rfl (by decide) nX7_run_7 (gx_hts C _ fX7_run_19) dX7_run_16 ?_
    refine gx_callIN C 3 rfl (gd_14 hL) (c_X3_target hL (sd_T hs hRP)) (⟨va_cnB 0 (gx_hts C) gX7_run_X3_target_n111 rfl rfl rfl ((gx_hN C).2 ("PeirceDesk", 111, yX3_target, "PeirceDesk") (by decide +kernel)) ((gx_hts C) (.initialized RX3) (by decide +kernel)) (by decide +kernel) ⟨Nat.le_of_ble_eq_true rfl, Nat.le_of_ble_eq_true rfl⟩, (gx_hts C) (.instanceMethod yX3_target) (by decide +kernel), (gx_hts C) (.selects RX3 yX3_target yX3_target) (by decide +kernel)⟩) rfl rfl (Nat.le_of_ble_eq_true rfl) ⟨Nat.le_refl _, Nat.le_refl _⟩ dX7_run_19 (fun z2 P2 hz => ?_)
    obtain ⟨rfl, rfl⟩ := hz
    have h3b : gx_3 (pd_tg s.2.2.2.2 s.2.2.2.1) := by
      unfold pd_tg gx_3
      split <;> omega
    have bad : ∀ {Q : gx_M}, ¬ (pm_f T = 1 ∧ pm_stop T = -6) → sd_X P2 Q → ∃ s', sp_run s (-5) s' ∧ sp_ok s' ∧ sd_Q s' M Q := fun {Q} h x => ⟨s, Or.inr ⟨T, hT, by rw [if_neg h]; exact ⟨rfl, rfl⟩⟩, hs, sd_XQ hR (sd_Xt X1 x)⟩
    refine gx_istore_n C dX7_run_22 (by decide) rfl ?_
    refine gx_iload_n C dX7_run_23 rfl ?_
    refine gx_statI C (c_X7_isRegister h3b) (cwS 1 (gx_hts C) gX7_run_X7_isRegister rfl rfl rfl (by decide +kernel) ⟨Nat.le_of_ble_eq_true rfl, Nat.le_of_ble_eq_true rfl⟩) rfl rfl (Nat.le_of_ble_eq_true rfl) ⟨Nat.le_refl _, Nat.le_refl _⟩ dX7_run_24 (fun z3 P3 hz => ?_)
    obtain ⟨rfl, rfl⟩ := hz
    by_cases hf : pm_f T = 1
    · obtain ⟨ht, ht1, ht2, ht3⟩ := ((pm_tg hT).1 hf)
      rw [if_pos (by omega)]
      have hreg := gd_el hL (r := (s.2.2.2.2 0 - 65).toNat) (by omega)
      refine gx_if_eq C dX7_run_27 rfl (by unfold gx_3; omega) (fun hb27 => absurd hb27 (by omega)) (fun hb27 => ?_)
      refine gx_aload_n C dX7_run_30 rfl ?_
      refine gx_getR C 7 _ 2 rfl (gd_12 hL) rfl (by decide) nX7_run_7 (gx_hts C _ fX7_run_26) dX7_run_31 ?_
      refine gx_aload_n C dX7_run_34 rfl ?_
      refine gx_getR C 7 _ 1 rfl (gd_12 hL) rfl (by decide) nX7_run_7 (gx_hts C _ fX7_run_19) dX7_run_35 ?_
      refine gx_aload_n C dX7_run_38 rfl ?_
      refine gx_getR C 7 _ 0 rfl (gd_12 hL) rfl (by decide) nX7_run_7 (gx_hts C _ fX7_run_12) dX7_run_39 ?_
      refine gx_callIN C 4 rfl (gd_15 hL) (c_X4_carryOut hL hs hRP hT) (⟨va_cnB 2 (gx_hts C) gX7_run_X4_carryOut_n114 rfl rfl rfl ((gx_hN C).2 ("PeirceDesk", 114, yX4_carryOut, "PeirceDesk") (by decide +kernel)) ((gx_hts C) (.initialized RX4) (by decide +kernel)) (by decide +kernel) ⟨Nat.le_of_ble_eq_true rfl, Nat.le_of_ble_eq_true rfl⟩, (gx_hts C) (.instanceMethod yX4_carryOut) (by decide +kernel), (gx_hts C) (.selects RX4 yX4_carryOut yX4_carryOut) (by decide +kernel)⟩) rfl rfl (Nat.le_of_ble_eq_true rfl) ⟨Nat.le_refl _, Nat.le_refl _⟩ dX7_run_42 (fun z4 P4 h => ?_)
      obtain ⟨w1, w2, w3⟩ := h
      subst w1
      have hR4 := sd_XR hRP w3
      refine gx_bipush C dX7_run_45 rfl ?_
      refine gx_icmp_eq C dX7_run_47 rfl hst3 (by unfold gx_3; omega) (fun hb47 => ?_) (fun hb47 => ?_)
      · obtain ⟨v1, v2, v3⟩ := w2 hb47
        obtain ⟨g1, ⟨g2, nx, g3, g4, g5⟩, g6, g7, ⟨g8, g9⟩, g10⟩ := id hR4
        refine gx_aload_n C dX7_run_53 rfl ?_
        refine gx_getR C 7 _ 3 rfl (gd_12 hL) rfl (by decide) nX7_run_7 (gx_hts C _ fX7_run_33) dX7_run_54 ?_
        refine gx_aload_n C dX7_run_57 rfl ?_
        refine gx_getR C 7 _ 0 rfl (gd_12 hL) rfl (by decide) nX7_run_7 (gx_hts C _ fX7_run_12) dX7_run_58 ?_
        refine gx_getRN C 0 _ 0 rfl (gd_13 hL) rfl (by decide) nX7_run_0 ((gx_hN C).1 ("PeirceDesk", 48, "PeirceDesk$Algebra", "now", "LPeirceDesk$State;", "PeirceDesk") (by decide +kernel) |> va_Nw.use rfl) dX7_run_61 ?_
        refine gx_callVN C 2 rfl (gd_16 hL) (c_X2_remember hL g4 g3 g2 hn6) (⟨va_cnB 1 (gx_hts C) gX7_run_X2_remember_n56 rfl rfl rfl ((gx_hN C).2 ("PeirceDesk", 56, yX2_remember, "PeirceDesk") (by decide +kernel)) ((gx_hts C) (.initialized RX2) (by decide +kernel)) (by decide +kernel) ⟨Nat.le_of_ble_eq_true rfl, Nat.le_of_ble_eq_true rfl⟩, (gx_hts C) (.instanceMethod yX2_remember) (by decide +kernel), (gx_hts C) (.selects RX2 yX2_remember yX2_remember) (by decide +kernel)⟩) rfl rfl (Nat.le_of_ble_eq_true rfl) ⟨Nat.le_refl _, Nat.le_refl _⟩ dX7_run_64 (fun P1 h => ?_)
        obtain ⟨r1, r2, r3, r4⟩ := h
        have g1' : sd_st s.1 46 P1 := sd_stf g1 (fun c a b => r4 c (by omega) (by omega))
        have e155 : mx_of (P1 155) 0 = pm_P T 0 0 := by rw [r4 155 (by omega) (by omega)]; exact v1
        refine gx_aload_n C dX7_run_67 rfl ?_
        refine gx_getR C 7 _ 2 rfl (gd_12 hL) rfl (by decide) nX7_run_7 (gx_hts C _ fX7_run_26) dX7_run_68 ?_
        refine gx_callRN C 4 rfl (gd_15 hL) (c_X4_result hL) (⟨va_cnB 0 (gx_hts C) gX7_run_X4_result_n118 rfl rfl rfl ((gx_hN C).2 ("PeirceDesk", 118, yX4_result, "PeirceDesk") (by decide +kernel)) ((gx_hts C) (.initialized RX4) (by decide +kernel)) (by decide +kernel) ⟨Nat.le_of_ble_eq_true rfl, Nat.le_of_ble_eq_true rfl⟩, (gx_hts C) (.instanceMethod yX4_result) (by decide +kernel), (gx_hts C) (.selects RX4 yX4_result yX4_result) (by decide +kernel)⟩) rfl rfl (Nat.le_of_ble_eq_true rfl) ⟨Nat.le_refl _, Nat.le_refl _⟩ dX7_run_71 (fun c P5 h => ?_)
        obtain ⟨rfl, rfl⟩ := h
        refine gx_aload_n C dX7_run_74 rfl ?_
        refine gx_getR C 7 _ 0 rfl (gd_12 hL) rfl (by decide) nX7_run_7 (gx_hts C _ fX7_run_12) dX7_run_75 ?_
        refine gx_getRN C 0 _ 0 rfl (gd_13 hL) rfl (by decide) nX7_run_0 ((gx_hN C).1 ("PeirceDesk", 48, "PeirceDesk$Algebra", "now", "LPeirceDesk$State;", "PeirceDesk") (by decide +kernel) |> va_Nw.use rfl) dX7_run_78 ?_
        refine gx_getRN C 6 _ 2 rfl (gd_now hL).1 rfl (by decide) nX7_run_6 ((gx_hN C).1 ("PeirceDesk", 75, "PeirceDesk$State", "elements", "[[I", "PeirceDesk") (by decide +kernel) |> va_Nw.use rfl) dX7_run_81 ?_
        refine gx_iload_n C dX7_run_84 rfl ?_
        refine gx_aaload C (gd_now hL).2.1 (by decide) (by omega) dX7_run_85 (show _ = 48 + 1 * (s.2.2.2.2 0 - 65).toNat by omega) ?_
        refine gx_statV C (c_X7_copy (gd_F1 (gd_f hL 0 (by decide))) hreg) (cwS 2 (gx_hts C) gX7_run_X7_copy rfl rfl rfl (by decide +kernel) ⟨Nat.le_of_ble_eq_true rfl, Nat.le_of_ble_eq_true rfl⟩) rfl rfl (Nat.le_of_ble_eq_true rfl) ⟨Nat.le_refl _, Nat.le_refl _⟩ dX7_run_86 (fun P6 h => ?_)
        have h' : P6 = gx_blk P5 (48 + 1 * (s.2.2.2.2 0 - 65).toNat) 0 9 (pm_P T 0 0) := by
          rw [h, show 154 + 4 * 0 + 1 = 155 from rfl, e155]
        have e6 : ∀ c, c ≠ 48 + 1 * (s.2.2.2.2 0 - 65).toNat → P6 c = P5 c := fun c hc => by rw [h', gx_blk_nc hc]
        refine gx_aload_n C dX7_run_89 rfl ?_
        refine gx_getR C 7 _ 1 rfl (gd_12 hL) rfl (by decide) nX7_run_7 (gx_hts C _ fX7_run_19) dX7_run_90 ?_
        refine gx_iconst C dX7_run_93 ?_
        refine gx_putIN C 3 _ 1 rfl (gd_14 hL) rfl (by decide) nX7_run_3 tyX3 tyX3_ok nmX3 ((gx_hN C).1 ("PeirceDesk", 122, "PeirceDesk$Pad", "length", "I", "PeirceDesk") (by decide +kernel) |> va_Nw.use rfl) rfl rfl dX7_run_94 ?_
        refine gx_iload_n C dX7_run_97 rfl ?_
        have y : sd_Y P5 P6 := ⟨fun c hc => e6 c (by omega), by rw [e6 14 (by omega)], fun k _ _ _ _ _ => by rw [e6 35 (by omega)]⟩
        have hnow : sd_st (zs_put s.1 (9 * (s.2.2.2.2 0 - 65).toNat) (pm_P T 0 0)) 46 P6 := by
          have z81 : zs_put s.1 (9 * (s.2.2.2.2 0 - 65).toNat) (pm_P T 0 0) 81 = s.1 81 := by
            unfold zs_put
            rw [if_neg (by omega)]
          have z82 : zs_put s.1 (9 * (s.2.2.2.2 0 - 65).toNat) (pm_P T 0 0) 82 = s.1 82 := by
            unfold zs_put
            rw [if_neg (by omega)]
          refine ⟨by rw [e6 46 (by omega), z81]; exact g1'.1, by rw [e6 46 (by omega), z82]; exact g1'.2.1, fun q hq => ?_⟩
          rw [zs_put_el (by omega) v2.2.1.2 hq, show 46 + 2 + q = 48 + 1 * q by omega]
          by_cases e : q = (s.2.2.2.2 0 - 65).toNat
          · rw [if_pos e, e, h', mx_of_blk, mx_cut v2.2.1.2]
          · rw [if_neg e, e6 _ (by omega), show 48 + 1 * q = 46 + 2 + q by omega]
            exact g1'.2.2 q hq
        have fin := sd_Qx (sd_Xt X1 w3) (sd_push hn6 hR4 g3 g5 r1 r2 r3 r4 y hnow)
        have fin2 : sd_Q (sp_emp (sp_push s (zs_put s.1 (9 * (s.2.2.2.2 0 - 65).toNat) (pm_P T 0 0)))) M (gx_u P6 14 1 0) := by
          obtain ⟨⟨a1, a2, a3, a4, ⟨a5, a6⟩, a7⟩, a8⟩ := fin
          have f0 : ∀ c, c ≠ 14 → gx_u P6 14 1 0 c = P6 c := fun c hc => gx_u_nc hc
          obtain ⟨b1, nx', b2, b3, b4⟩ := a2
          exact ⟨⟨sd_stf a1 (fun c a b => f0 c (by omega)), ⟨by rw [f0 16 (by omega)]; exact b1, nx', b2, by rw [f0 16 (by omega)]; exact b3, fun i hi => sd_stf (b4 i hi) (fun c a b => f0 c (by omega))⟩, fun j hj => by rw [f0 18 (by omega)]; exact a3 j hj, fun j hj e => sd_stf (a4 j hj e) (fun c a b => f0 c (by omega)), ⟨gx_u_eq _ _ _ _, fun i hi => absurd (show i < 0 from hi) (by omega)⟩, fun k a b c d e => by rw [f0 35 (by omega)]; exact a7 k a b c d e⟩, fun c hc => by rw [f0 c (by omega)]; exact a8 c hc⟩
        rw [ht]
        exact gx_iret C dX7_run_98 ⟨_, Or.inr ⟨T, hT, by rw [if_pos ⟨hf, hb47⟩]; exact ⟨rfl, rfl⟩⟩, sp_emp_ok (sp_ok_push hs (zs_put_ok hs.1 (by omega) v2 (fun e => by omega))), fin2⟩
      · refine gx_bipush C dX7_run_50 rfl ?_
        exact gx_iret C dX7_run_52 (bad (fun h => hb47 h.2) w3)
    · have ht := ((pm_tg hT).2 hf)
      rw [if_neg (by omega)]
      refine gx_if_eq C dX7_run_27 rfl (by unfold gx_3; omega) (fun hb27 => ?_) (fun hb27 => absurd (by omega) hb27)
      refine gx_bipush C dX7_run_50 rfl ?_
      exact gx_iret C dX7_run_52 (bad (fun h => hf h.1) (sd_Xr _))
  · refine gx_bipush C dX7_run_12 rfl ?_
    exact gx_iret C dX7_run_14 ⟨s, Or.inl ⟨pm_no (pq_flt hs h1) hb9, rfl, rfl⟩, hs, sd_XQ hR X1⟩
