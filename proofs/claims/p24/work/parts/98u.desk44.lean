/-! the desk: of -/
set_option maxRecDepth 100000 in
set_option maxHeartbeats 4000000 in
theorem c_X7_of {La : List gx_K} (hL : gd_H La) {M : gx_M} {s : sp_S} (hs : sp_ok s) (hR : sd_R s M) {r w : Int} (hr : gx_3 r) (hw : gx_3 w) : gx_Ci La yX7_of wsX7_of 5 [gx_R 12, gx_I r, gx_I w] M (fun z M' => sp_of s r w z ∧ sd_X M M') := by
  have hn3 := hs.1.1
  have hm := hs.1.2.1
  by_cases hok : 0 ≤ r ∧ r ≤ 9
  · have hel := gd_el hL (r := r.toNat) (by omega)
    have va := sp_Vel10 hs (r := r.toNat) (by omega)
    refine gx_start_i (L := [gx_R 12, gx_I r, gx_I w, gx_U]) (by decide) rfl rfl (Nat.le_of_ble_eq_true rfl) rfl ?_
    intro _ _ _ _ _ _ _ _ _ _ _ _ C
    refine gx_iload_n C dX7_of_0 rfl ?_
    refine gx_statI C (c_X7_isElement hr) (cwS 1 (gx_hts C) gX7_of_X7_isElement rfl rfl rfl (by decide +kernel) ⟨Nat.le_of_ble_eq_true rfl, Nat.le_of_ble_eq_true rfl⟩) rfl rfl (Nat.le_of_ble_eq_true rfl) ⟨Nat.le_refl _, Nat.le_refl _⟩ dX7_of_1 (fun z P hz => ?_)
    obtain ⟨rfl, rfl⟩ := hz
    rw [if_pos hok]
    refine gx_if_ne C dX7_of_4 rfl (by unfold gx_3; omega) (fun hb4 => ?_) (fun hb4 => absurd (by omega) hb4)
    refine gx_aload_n C dX7_of_9 rfl ?_
    refine gx_getR C 7 _ 0 rfl (gd_12 hL) rfl (by decide) nX7_of_7 (gx_hts C _ fX7_of_12) dX7_of_10 ?_
    refine gx_getRN C 0 _ 0 rfl (gd_13 hL) rfl (by decide) nX7_of_0 ((gx_hN C).1 ("PeirceDesk", 48, "PeirceDesk$Algebra", "now", "LPeirceDesk$State;", "PeirceDesk") (by decide +kernel) |> va_Nw.use rfl) dX7_of_13 ?_
    refine gx_getRN C 6 _ 2 rfl (gd_now hL).1 rfl (by decide) nX7_of_6 ((gx_hN C).1 ("PeirceDesk", 75, "PeirceDesk$State", "elements", "[[I", "PeirceDesk") (by decide +kernel) |> va_Nw.use rfl) dX7_of_16 ?_
    refine gx_iload_n C dX7_of_19 rfl ?_
    refine gx_aaload C (gd_now hL).2.1 (by decide) (by omega) dX7_of_20 (show _ = 48 + 1 * r.toNat by omega) ?_
    refine gx_astore_n C dX7_of_21 (by decide) rfl ?_
    refine gx_iload_n C dX7_of_22 rfl ?_
    have oa : mx_ok (s.1 82) (mx_of (P (48 + 1 * r.toNat)) 0) := by rw [sd_el hR (by omega)]; exact va.1
    by_cases hw7 : 0 ≤ w ∧ w ≤ 7
    · rcases (show w = 0 ∨ w = 1 ∨ w = 2 ∨ w = 3 ∨ w = 4 ∨ w = 5 ∨ w = 6 ∨ w = 7 by omega) with rfl | rfl | rfl | rfl | rfl | rfl | rfl | rfl
      · refine gx_tabIn (tgt := 68) C dX7_of_23 hw (by decide) (by decide) rfl rfl ?_
        refine gx_aload_n C dX7_of_68 rfl ?_
        refine gx_getR C 7 _ 0 rfl (gd_12 hL) rfl (by decide) nX7_of_7 (gx_hts C _ fX7_of_12) dX7_of_69 ?_
        refine gx_aload_n C dX7_of_72 rfl ?_
        refine gx_callIN C 0 rfl (gd_13 hL) (c_X0_trace hL (by omega) hR.1.2.1 hel oa) (⟨va_cnB 1 (gx_hts C) gX7_of_X0_trace_n128 rfl rfl rfl ((gx_hN C).2 ("PeirceDesk", 128, yX0_trace, "PeirceDesk") (by decide +kernel)) ((gx_hts C) (.initialized RX0) (by decide +kernel)) (by decide +kernel) ⟨Nat.le_of_ble_eq_true rfl, Nat.le_of_ble_eq_true rfl⟩, (gx_hts C) (.instanceMethod yX0_trace) (by decide +kernel), (gx_hts C) (.selects RX0 yX0_trace yX0_trace) (by decide +kernel)⟩) rfl rfl (Nat.le_of_ble_eq_true rfl) ⟨Nat.le_refl _, Nat.le_refl _⟩ dX7_of_73 (fun z P2 h => ?_)
        obtain ⟨rfl, h⟩ := h
        rw [sd_el hR (by omega)] at h
        exact gx_iret C dX7_of_76 ⟨by unfold sp_of; rw [if_pos hok]; exact h, sd_Xr _⟩
      · refine gx_tabIn (tgt := 77) C dX7_of_23 hw (by decide) (by decide) rfl rfl ?_
        refine gx_aload_n C dX7_of_77 rfl ?_
        refine gx_getR C 7 _ 0 rfl (gd_12 hL) rfl (by decide) nX7_of_7 (gx_hts C _ fX7_of_12) dX7_of_78 ?_
        refine gx_aload_n C dX7_of_81 rfl ?_
        refine gx_callIN C 0 rfl (gd_13 hL) (c_X0_determinant hL (n := s.1 81) (m := s.1 82) (by omega) hR.1.1 hn3 hR.1.2.1 hel (by omega) oa) (⟨va_cnB 1 (gx_hts C) gX7_of_X0_determinant_n79 rfl rfl rfl ((gx_hN C).2 ("PeirceDesk", 79, yX0_determinant, "PeirceDesk") (by decide +kernel)) ((gx_hts C) (.initialized RX0) (by decide +kernel)) (by decide +kernel) ⟨Nat.le_of_ble_eq_true rfl, Nat.le_of_ble_eq_true rfl⟩, (gx_hts C) (.instanceMethod yX0_determinant) (by decide +kernel), (gx_hts C) (.selects RX0 yX0_determinant yX0_determinant) (by decide +kernel)⟩) rfl rfl (Nat.le_of_ble_eq_true rfl) ⟨Nat.le_refl _, Nat.le_refl _⟩ dX7_of_82 (fun z P2 h => ?_)
        obtain ⟨q, ⟨q1, q2, q3, q4, q5, q6⟩, rfl⟩ := h
        rw [sd_el hR (by omega)] at q1
        have g := sp_gj hs va q1
        exact gx_iret C dX7_of_85 ⟨by unfold sp_of; rw [if_pos hok]; exact g.2.1, sd_XO q6⟩
      · refine gx_tabIn (tgt := 86) C dX7_of_23 hw (by decide) (by decide) rfl rfl ?_
        refine gx_aload_n C dX7_of_86 rfl ?_
        refine gx_getR C 7 _ 0 rfl (gd_12 hL) rfl (by decide) nX7_of_7 (gx_hts C _ fX7_of_12) dX7_of_87 ?_
        refine gx_aload_n C dX7_of_90 rfl ?_
        refine gx_callIN C 0 rfl (gd_13 hL) (c_X0_rank hL (n := s.1 81) (m := s.1 82) (by omega) hR.1.1 hn3 hR.1.2.1 hel (by omega) oa) (⟨va_cnB 1 (gx_hts C) gX7_of_X0_rank_n131 rfl rfl rfl ((gx_hN C).2 ("PeirceDesk", 131, yX0_rank, "PeirceDesk") (by decide +kernel)) ((gx_hts C) (.initialized RX0) (by decide +kernel)) (by decide +kernel) ⟨Nat.le_of_ble_eq_true rfl, Nat.le_of_ble_eq_true rfl⟩, (gx_hts C) (.instanceMethod yX0_rank) (by decide +kernel), (gx_hts C) (.selects RX0 yX0_rank yX0_rank) (by decide +kernel)⟩) rfl rfl (Nat.le_of_ble_eq_true rfl) ⟨Nat.le_refl _, Nat.le_refl _⟩ dX7_of_91 (fun z P2 h => ?_)
        obtain ⟨q, ⟨q1, q2, q3, q4, q5, q6⟩, rfl⟩ := h
        rw [sd_el hR (by omega)] at q1
        have g := sp_gj hs va q1
        have e : (q.2.2 : Int) = (mx_rank (zs_nn s) (s.1 82) (zs_el s.1 r.toNat) : Int) := by rw [g.1]
        exact gx_iret C dX7_of_94 ⟨by unfold sp_of; rw [if_pos hok]; exact e, sd_XO q6⟩
      · refine gx_tabIn (tgt := 95) C dX7_of_23 hw (by decide) (by decide) rfl rfl ?_
        refine gx_aload_n C dX7_of_95 rfl ?_
        refine gx_getR C 7 _ 0 rfl (gd_12 hL) rfl (by decide) nX7_of_7 (gx_hts C _ fX7_of_12) dX7_of_96 ?_
        refine gx_aload_n C dX7_of_99 rfl ?_
        refine gx_callIN C 0 rfl (gd_13 hL) (c_X0_isOwnSquare hL (sd_A hs hR) hel (by omega) oa) (⟨va_cnB 1 (gx_hts C) gX7_of_X0_isOwnSquare_n90 rfl rfl rfl ((gx_hN C).2 ("PeirceDesk", 90, yX0_isOwnSquare, "PeirceDesk") (by decide +kernel)) ((gx_hts C) (.initialized RX0) (by decide +kernel)) (by decide +kernel) ⟨Nat.le_of_ble_eq_true rfl, Nat.le_of_ble_eq_true rfl⟩, (gx_hts C) (.instanceMethod yX0_isOwnSquare) (by decide +kernel), (gx_hts C) (.selects RX0 yX0_isOwnSquare yX0_isOwnSquare) (by decide +kernel)⟩) rfl rfl (Nat.le_of_ble_eq_true rfl) ⟨Nat.le_refl _, Nat.le_refl _⟩ dX7_of_100 (fun z P2 hz => ?_)
        obtain ⟨k1, k2, k3⟩ := hz
        rw [sd_el hR (by omega), sp_pe hs va va] at k2
        have hX : sd_X P P2 := ⟨fun c hc => k3 c (by omega) (by omega) (by omega), by rw [k3 14 (by decide) (by decide) (by decide)], fun k _ _ _ _ _ => by rw [k3 35 (by decide) (by decide) (by decide)]⟩
        have fin : sp_of s r 3 z ∧ sd_X P P2 := ⟨by unfold sp_of; rw [if_pos hok]; exact ⟨k1, k2⟩, hX⟩
        refine gx_if_eq C dX7_of_103 rfl (by unfold gx_3; omega) (fun hb103 => ?_) (fun hb103 => ?_)
        · have : z = 0 := hb103
          subst this
          refine gx_iconst C dX7_of_110 ?_
          exact gx_iret C dX7_of_111 fin
        · have : z = 1 := by omega
          subst this
          refine gx_iconst C dX7_of_106 ?_
          refine gx_goto C dX7_of_107 rfl ?_
          exact gx_iret C dX7_of_111 fin
      · refine gx_tabIn (tgt := 112) C dX7_of_23 hw (by decide) (by decide) rfl rfl ?_
        refine gx_aload_n C dX7_of_112 rfl ?_
        refine gx_getR C 7 _ 0 rfl (gd_12 hL) rfl (by decide) nX7_of_7 (gx_hts C _ fX7_of_12) dX7_of_113 ?_
        refine gx_aload_n C dX7_of_116 rfl ?_
        refine gx_callIN C 0 rfl (gd_13 hL) (c_X0_determinant hL (n := s.1 81) (m := s.1 82) (by omega) hR.1.1 hn3 hR.1.2.1 hel (by omega) oa) (⟨va_cnB 1 (gx_hts C) gX7_of_X0_determinant_n79 rfl rfl rfl ((gx_hN C).2 ("PeirceDesk", 79, yX0_determinant, "PeirceDesk") (by decide +kernel)) ((gx_hts C) (.initialized RX0) (by decide +kernel)) (by decide +kernel) ⟨Nat.le_of_ble_eq_true rfl, Nat.le_of_ble_eq_true rfl⟩, (gx_hts C) (.instanceMethod yX0_determinant) (by decide +kernel), (gx_hts C) (.selects RX0 yX0_determinant yX0_determinant) (by decide +kernel)⟩) rfl rfl (Nat.le_of_ble_eq_true rfl) ⟨Nat.le_refl _, Nat.le_refl _⟩ dX7_of_117 (fun z P2 h => ?_)
        obtain ⟨q, ⟨q1, q2, q3, q4, q5, q6⟩, hz⟩ := h
        rw [sd_el hR (by omega)] at q1
        have g := sp_gj hs va q1
        rw [g.2.1] at hz
        have hb := mx_det_b (n := zs_nn s) (m := s.1 82) (by omega) (zs_el s.1 r.toNat)
        rw [← hz] at hb
        refine gx_if_eq C dX7_of_120 rfl (by unfold gx_3; omega) (fun hb120 => ?_) (fun hb120 => ?_)
        · refine gx_iconst C dX7_of_127 ?_
          exact gx_iret C dX7_of_128 ⟨by unfold sp_of; rw [if_pos hok]; exact ⟨Or.inl rfl, fun _ => hz.symm.trans hb120, fun _ => rfl⟩, sd_XO q6⟩
        · refine gx_iconst C dX7_of_123 ?_
          refine gx_goto C dX7_of_124 rfl ?_
          exact gx_iret C dX7_of_128 ⟨by unfold sp_of; rw [if_pos hok]; exact ⟨Or.inr rfl, fun h => absurd h (by decide), fun h => absurd (hz.trans h) hb120⟩, sd_XO q6⟩
      · refine gx_tabIn (tgt := 129) C dX7_of_23 hw (by decide) (by decide) rfl rfl ?_
        refine gx_aload_n C dX7_of_129 rfl ?_
        refine gx_getR C 7 _ 0 rfl (gd_12 hL) rfl (by decide) nX7_of_7 (gx_hts C _ fX7_of_12) dX7_of_130 ?_
        refine gx_aload_n C dX7_of_133 rfl ?_
        refine gx_callIN C 0 rfl (gd_13 hL) (c_X0_order hL (sd_A hs hR) hel (by omega) oa) (⟨va_cnB 1 (gx_hts C) gX7_of_X0_order_n134 rfl rfl rfl ((gx_hN C).2 ("PeirceDesk", 134, yX0_order, "PeirceDesk") (by decide +kernel)) ((gx_hts C) (.initialized RX0) (by decide +kernel)) (by decide +kernel) ⟨Nat.le_of_ble_eq_true rfl, Nat.le_of_ble_eq_true rfl⟩, (gx_hts C) (.instanceMethod yX0_order) (by decide +kernel), (gx_hts C) (.selects RX0 yX0_order yX0_order) (by decide +kernel)⟩) rfl rfl (Nat.le_of_ble_eq_true rfl) ⟨Nat.le_refl _, Nat.le_refl _⟩ dX7_of_134 (fun z P2 h => ?_)
        obtain ⟨q, M1, ⟨q1, q2, q3, q4, q5, q6⟩, h⟩ := h
        rw [sd_el hR (by omega)] at q1
        have g := sp_gj hs va q1
        rw [g.2.1, sd_el hR (by omega)] at h
        have X1 := sd_XO q6
        rcases h with ⟨h1, h2, h3⟩ | ⟨h1, h2, h3⟩
        · subst h3
          exact gx_iret C dX7_of_137 ⟨by unfold sp_of; rw [if_pos hok]; exact Or.inr ⟨fun j _ => sp_ord hs va h1 j, h2⟩, X1⟩
        · have e : (fun k => mc_po (s.1 82) (zs_el s.1 8) (zs_el s.1 r.toNat) (zs_el s.1 r.toNat) k = zs_el s.1 9) = (fun k => zs_po s (zs_el s.1 r.toNat) (zs_el s.1 r.toNat) k = zs_el s.1 9) := by
            funext k
            rw [(sp_poV hs va va k).1]
          rw [e] at h2
          have X2 : sd_X M1 P2 := ⟨fun c hc => h3 c (by omega) (by omega) (by omega), by rw [h3 14 (by decide) (by decide) (by decide)], fun k _ _ _ _ _ => by rw [h3 35 (by decide) (by decide) (by decide)]⟩
          exact gx_iret C dX7_of_137 ⟨by unfold sp_of; rw [if_pos hok]; exact h2, sd_Xt X1 X2⟩
      · refine gx_tabIn (tgt := 138) C dX7_of_23 hw (by decide) (by decide) rfl rfl ?_
        refine gx_aload_n C dX7_of_138 rfl ?_
        refine gx_getR C 7 _ 0 rfl (gd_12 hL) rfl (by decide) nX7_of_7 (gx_hts C _ fX7_of_12) dX7_of_139 ?_
        refine gx_aload_n C dX7_of_142 rfl ?_
        refine gx_callIN C 0 rfl (gd_13 hL) (c_X0_degree hL (sd_A hs hR) hel (by omega) (sd_el hR (by omega)) va.1) (⟨va_cnB 1 (gx_hts C) gX7_of_X0_degree_n137 rfl rfl rfl ((gx_hN C).2 ("PeirceDesk", 137, yX0_degree, "PeirceDesk") (by decide +kernel)) ((gx_hts C) (.initialized RX0) (by decide +kernel)) (by decide +kernel) ⟨Nat.le_of_ble_eq_true rfl, Nat.le_of_ble_eq_true rfl⟩, (gx_hts C) (.instanceMethod yX0_degree) (by decide +kernel), (gx_hts C) (.selects RX0 yX0_degree yX0_degree) (by decide +kernel)⟩) rfl rfl (Nat.le_of_ble_eq_true rfl) ⟨Nat.le_refl _, Nat.le_refl _⟩ dX7_of_143 (fun z P2 h => ?_)
        obtain ⟨h1, h3⟩ := h
        have X2 : sd_X P P2 := ⟨fun c hc => h3 c (by omega) (by omega) (by omega) (by omega), by rw [h3 14 (by decide) (by decide) (by decide) (by decide)], fun k _ _ _ _ _ => by rw [h3 35 (by decide) (by decide) (by decide) (by decide)]⟩
        have g := sp_dg hs va h1
        exact gx_iret C dX7_of_146 ⟨by unfold sp_of; rw [if_pos hok]; exact g, X2⟩
      · refine gx_tabIn (tgt := 147) C dX7_of_23 hw (by decide) (by decide) rfl rfl ?_
        refine gx_aload_n C dX7_of_147 rfl ?_
        refine gx_getR C 7 _ 0 rfl (gd_12 hL) rfl (by decide) nX7_of_7 (gx_hts C _ fX7_of_12) dX7_of_148 ?_
        refine gx_aload_n C dX7_of_151 rfl ?_
        refine gx_callIN C 0 rfl (gd_13 hL) (c_X0_leastZeroPower hL (sd_A hs hR) hel (by omega) oa) (⟨va_cnB 1 (gx_hts C) gX7_of_X0_leastZeroPower_n140 rfl rfl rfl ((gx_hN C).2 ("PeirceDesk", 140, yX0_leastZeroPower, "PeirceDesk") (by decide +kernel)) ((gx_hts C) (.initialized RX0) (by decide +kernel)) (by decide +kernel) ⟨Nat.le_of_ble_eq_true rfl, Nat.le_of_ble_eq_true rfl⟩, (gx_hts C) (.instanceMethod yX0_leastZeroPower) (by decide +kernel), (gx_hts C) (.selects RX0 yX0_leastZeroPower yX0_leastZeroPower) (by decide +kernel)⟩) rfl rfl (Nat.le_of_ble_eq_true rfl) ⟨Nat.le_refl _, Nat.le_refl _⟩ dX7_of_152 (fun z P2 h => ?_)
        obtain ⟨h2, h3⟩ := h
        rw [sd_el hR (by omega)] at h2
        have e : (fun k => mc_po (s.1 82) (zs_el s.1 8) (zs_el s.1 r.toNat) (zs_el s.1 r.toNat) k = fun _ => 0) = (fun k => zs_po s (zs_el s.1 r.toNat) (zs_el s.1 r.toNat) k = fun _ => 0) := by
          funext k
          rw [(sp_poV hs va va k).1]
        rw [e] at h2
        have X2 : sd_X P P2 := ⟨fun c hc => h3 c (by omega) (by omega) (by omega), by rw [h3 14 (by decide) (by decide) (by decide)], fun k _ _ _ _ _ => by rw [h3 35 (by decide) (by decide) (by decide)]⟩
        exact gx_iret C dX7_of_155 ⟨by unfold sp_of; rw [if_pos hok]; exact h2, X2⟩
    · refine gx_tabOut (tgt := 156) C dX7_of_23 hw (by omega) rfl ?_
      refine gx_bipush C dX7_of_156 rfl ?_
      exact gx_iret C dX7_of_158 ⟨by unfold sp_of; rw [if_pos hok, if_neg (by omega), if_neg (by omega), if_neg (by omega), if_neg (by omega), if_neg (by omega), if_neg (by omega), if_neg (by omega), if_neg (by omega)], sd_Xr _⟩
  · have bad : sp_of s r w (-1) := by unfold sp_of; rw [if_neg hok]
    refine gx_start_i (L := [gx_R 12, gx_I r, gx_I w, gx_U]) (by decide) rfl rfl (Nat.le_of_ble_eq_true rfl) rfl ?_
    intro _ _ _ _ _ _ _ _ _ _ _ _ C
    refine gx_iload_n C dX7_of_0 rfl ?_
    refine gx_statI C (c_X7_isElement hr) (cwS 1 (gx_hts C) gX7_of_X7_isElement rfl rfl rfl (by decide +kernel) ⟨Nat.le_of_ble_eq_true rfl, Nat.le_of_ble_eq_true rfl⟩) rfl rfl (Nat.le_of_ble_eq_true rfl) ⟨Nat.le_refl _, Nat.le_refl _⟩ dX7_of_1 (fun z P hz => ?_)
    obtain ⟨rfl, rfl⟩ := hz
    rw [if_neg hok]
    refine gx_if_ne C dX7_of_4 rfl (by unfold gx_3; omega) (fun hb4 => absurd hb4 (by omega)) (fun hb4 => ?_)
    refine gx_iconst C dX7_of_7 ?_
    exact gx_iret C dX7_of_8 ⟨bad, sd_Xr _⟩
