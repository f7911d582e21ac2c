def sp_deg (s : sp_S) (a : Nat → Int) (K : Nat) : Prop := K ≤ 8 ∧ (∀ k, k ≤ K → (mx_dst (zs_nn s) (s.1 82) (zs_el s.1 8) a (zs_el s.1 9) k).1 = k) ∧ (mx_dst (zs_nn s) (s.1 82) (zs_el s.1 8) a (zs_el s.1 9) (K + 1)).1 = K
def sp_of (s : sp_S) (r w : Int) (z : Int) : Prop :=
  if 0 ≤ r ∧ r ≤ 9 then
    (if w = 0 then z = mx_tr (s.1 82) (zs_el s.1 r.toNat) else if w = 1 then z = mx_det (zs_nn s) (s.1 82) (zs_el s.1 r.toNat)
     else if w = 2 then z = mx_rank (zs_nn s) (s.1 82) (zs_el s.1 r.toNat) else if w = 3 then (z = 0 ∨ z = 1) ∧ (z = 1 ↔ zs_sq s (zs_el s.1 r.toNat))
     else if w = 4 then (z = 0 ∨ z = 1) ∧ (z = 0 ↔ mx_det (zs_nn s) (s.1 82) (zs_el s.1 r.toNat) = 0)
     else if w = 5 then mx_fst (fun k => zs_po s (zs_el s.1 r.toNat) (zs_el s.1 r.toNat) k = zs_el s.1 9) 2000 z
     else if w = 6 then ∃ K : Nat, sp_deg s (zs_el s.1 r.toNat) K ∧ z = K
     else if w = 7 then mx_fst (fun k => zs_po s (zs_el s.1 r.toNat) (zs_el s.1 r.toNat) k = fun _ => 0) 10 z else z = -2) else z = -1
set_option maxRecDepth 100000 in
set_option maxHeartbeats 4000000 in
theorem c_X8_of {La : List gx_K} (hM : gm_H La) {M : gx_M} {s : sp_S} (hs : sp_ok s) (hR : sm_R s M) (hdeg : ∀ r, r < 10 → ∃ K, sp_deg s (zs_el s.1 r) K) {r w : Int} (hr : gx_3 r) (hw : gx_3 w) : gx_Ci La yX8_of wsX8_of 5 [gx_R 0, gx_I r, gx_I w] M (fun z M' => sp_of s r w z ∧ sm_Q s M M') := by
  have hz := sm_Z hs hR
  have hzm := gm_Zm hz
  refine gx_start_i (L := [gx_R 0, gx_I r, gx_I w]) (by decide) rfl rfl (Nat.le_of_ble_eq_true rfl) rfl ?_
  intro _ _ _ _ _ _ _ _ _ _ _ _ C
  refine gx_iload_n C dX8_of_0 rfl ?_
  refine gx_iconst C dX8_of_1 ?_
  refine gx_bipush C dX8_of_2 rfl ?_
  refine gx_statI C (c_X8_in hr (by unfold gx_3; omega) (by unfold gx_3; omega)) (cwS 3 (gx_hts C) gX8_of_X8_in rfl rfl rfl (by decide +kernel) ⟨Nat.le_of_ble_eq_true rfl, Nat.le_of_ble_eq_true rfl⟩) rfl rfl (Nat.le_of_ble_eq_true rfl) ⟨Nat.le_refl _, Nat.le_refl _⟩ dX8_of_4 (fun z M1 h1 => ?_)
  obtain ⟨rfl, h1⟩ := h1
  by_cases hq : 0 ≤ r ∧ r ≤ 9
  · rw [if_pos hq] at h1
    subst h1
    obtain ⟨r', rfl⟩ : ∃ k : Nat, r = k := ⟨r.toNat, by omega⟩
    have oa := zs_el_ok hs.1 (r := r') (by omega)
    have ou := zs_el_ok hs.1 (r := 8) (by omega)
    have ov := zs_el_ok hs.1 (r := 9) (by omega)
    refine gx_if_ne C dX8_of_7 rfl (by unfold gx_3; omega) (fun hb7 => ?_) (fun hb7 => absurd (by omega) hb7)
    refine gx_aload_n C dX8_of_12 rfl ?_
    refine gx_iload_n C dX8_of_13 rfl ?_
    refine gx_iconst C dX8_of_14 ?_
    refine gx_callV C 8 rfl (gm_0 hM) (c_X8_loadS hM hs hR (r := r') (t := 0) rfl (by omega) (by omega) (by omega)) (cwV 2 (gx_hts C) gX8_of_X8_load rfl rfl rfl (by decide +kernel) ⟨Nat.le_of_ble_eq_true rfl, Nat.le_of_ble_eq_true rfl⟩) rfl rfl (Nat.le_of_ble_eq_true rfl) ⟨Nat.le_refl _, Nat.le_refl _⟩ dX8_of_15 (fun M2 h2 => ?_)
    obtain ⟨g1, g2, g3, g4⟩ := h2
    have z2 := gm_Ez g4 hz
    have X2 := gm_X6 g4
    refine gx_iload_n C dX8_of_18 rfl ?_
    by_cases hw8 : 0 ≤ w ∧ w ≤ 7
    · rcases (show w = 0 ∨ w = 1 ∨ w = 2 ∨ w = 3 ∨ w = 4 ∨ w = 5 ∨ w = 6 ∨ w = 7 by omega) with rfl | rfl | rfl | rfl | rfl | rfl | rfl | rfl
      · refine gx_tabIn (tgt := 64) C dX8_of_19 hw (by decide) (by decide) rfl rfl ?_
        refine gx_aload_n C dX8_of_64 rfl ?_
        refine gx_iconst C dX8_of_65 ?_
        refine gx_callI C 8 rfl (gm_0 hM) (c_X8_trace hM z2 (a := 0) (by omega) (mx_ok_e g1 oa)) (cwV 1 (gx_hts C) gX8_of_X8_trace rfl rfl rfl (by decide +kernel) ⟨Nat.le_of_ble_eq_true rfl, Nat.le_of_ble_eq_true rfl⟩) rfl rfl (Nat.le_of_ble_eq_true rfl) ⟨Nat.le_refl _, Nat.le_refl _⟩ dX8_of_66 (fun z M3 h3 => ?_)
        obtain ⟨rfl, h3⟩ := h3
        rw [g1] at h3
        exact gx_iret C dX8_of_69 ⟨by unfold sp_of; rw [if_pos hq]; exact h3, sm_XQ hR X2⟩
      · refine gx_tabIn (tgt := 70) C dX8_of_19 hw (by decide) (by decide) rfl rfl ?_
        refine gx_aload_n C dX8_of_70 rfl ?_
        refine gx_iconst C dX8_of_71 ?_
        refine gx_callI C 8 rfl (gm_0 hM) (c_X8_determinant hM z2 (a := 0) (by omega) (mx_ok_e g1 oa)) (cwV 1 (gx_hts C) gX8_of_X8_determinant rfl rfl rfl (by decide +kernel) ⟨Nat.le_of_ble_eq_true rfl, Nat.le_of_ble_eq_true rfl⟩) rfl rfl (Nat.le_of_ble_eq_true rfl) ⟨Nat.le_refl _, Nat.le_refl _⟩ dX8_of_72 (fun z M3 h3 => ?_)
        obtain ⟨rfl, h3⟩ := h3
        rw [g1] at h3
        exact gx_iret C dX8_of_75 ⟨by unfold sp_of; rw [if_pos hq]; exact h3, sm_XQ hR X2⟩
      · refine gx_tabIn (tgt := 76) C dX8_of_19 hw (by decide) (by decide) rfl rfl ?_
        refine gx_aload_n C dX8_of_76 rfl ?_
        refine gx_iconst C dX8_of_77 ?_
        refine gx_callI C 8 rfl (gm_0 hM) (c_X8_rankOf hM z2 (a := 0) (by omega) (by omega) (mx_ok_e g1 oa)) (cwV 1 (gx_hts C) gX8_of_X8_rankOf rfl rfl rfl (by decide +kernel) ⟨Nat.le_of_ble_eq_true rfl, Nat.le_of_ble_eq_true rfl⟩) rfl rfl (Nat.le_of_ble_eq_true rfl) ⟨Nat.le_refl _, Nat.le_refl _⟩ dX8_of_78 (fun z M3 h3 => ?_)
        obtain ⟨h3, h4⟩ := h3
        rw [g1] at h3
        exact gx_iret C dX8_of_81 ⟨by unfold sp_of; rw [if_pos hq]; exact h3, sm_XQ hR (gm_Xt X2 (gm_XY h4))⟩
      · refine gx_tabIn (tgt := 82) C dX8_of_19 hw (by decide) (by decide) rfl rfl ?_
        refine gx_aload_n C dX8_of_82 rfl ?_
        refine gx_iconst C dX8_of_83 ?_
        refine gx_callI C 8 rfl (gm_0 hM) (c_X8_isOwnSquare hM z2 (a := 0) (by omega) (by omega) (mx_ok_e g1 oa) (mx_ok_e g2 ou)) (cwV 1 (gx_hts C) gX8_of_X8_isOwnSquare rfl rfl rfl (by decide +kernel) ⟨Nat.le_of_ble_eq_true rfl, Nat.le_of_ble_eq_true rfl⟩) rfl rfl (Nat.le_of_ble_eq_true rfl) ⟨Nat.le_refl _, Nat.le_refl _⟩ dX8_of_84 (fun z M3 h3 => ?_)
        obtain ⟨h6, h7, h8⟩ := h3
        rw [g1, g2] at h7
        have fin : sp_of s r' 3 z ∧ sm_Q s M1 M3 := ⟨by unfold sp_of; rw [if_pos hq]; exact ⟨h6, h7⟩, sm_XQ hR (gm_Xt X2 (gm_X6 h8))⟩
        refine gx_if_eq C dX8_of_87 rfl (by unfold gx_3; omega) (fun hb87 => ?_) (fun hb87 => ?_)
        · have : z = 0 := hb87
          subst this
          refine gx_iconst C dX8_of_94 ?_
          exact gx_iret C dX8_of_95 fin
        · have : z = 1 := by omega
          subst this
          refine gx_iconst C dX8_of_90 ?_
          refine gx_goto C dX8_of_91 rfl ?_
          exact gx_iret C dX8_of_95 fin
      · refine gx_tabIn (tgt := 96) C dX8_of_19 hw (by decide) (by decide) rfl rfl ?_
        refine gx_aload_n C dX8_of_96 rfl ?_
        refine gx_iconst C dX8_of_97 ?_
        refine gx_callI C 8 rfl (gm_0 hM) (c_X8_determinant hM z2 (a := 0) (by omega) (mx_ok_e g1 oa)) (cwV 1 (gx_hts C) gX8_of_X8_determinant rfl rfl rfl (by decide +kernel) ⟨Nat.le_of_ble_eq_true rfl, Nat.le_of_ble_eq_true rfl⟩) rfl rfl (Nat.le_of_ble_eq_true rfl) ⟨Nat.le_refl _, Nat.le_refl _⟩ dX8_of_98 (fun z M3 h3 => ?_)
        obtain ⟨rfl, h3⟩ := h3
        rw [g1] at h3
        have hdb := mx_det_b (n := (s.1 81).toNat) (m := s.1 82) hzm.1 (zs_el s.1 r')
        subst h3
        refine gx_if_ne C dX8_of_101 rfl (by unfold gx_3; omega) (fun hb101 => ?_) (fun hb101 => ?_)
        · refine gx_iconst C dX8_of_108 ?_
          exact gx_iret C dX8_of_109 ⟨by unfold sp_of; rw [if_pos hq]; exact ⟨Or.inr rfl, ⟨fun h => absurd h (by decide), fun h => absurd h hb101⟩⟩, sm_XQ hR X2⟩
        · refine gx_iconst C dX8_of_104 ?_
          refine gx_goto C dX8_of_105 rfl ?_
          exact gx_iret C dX8_of_109 ⟨by unfold sp_of; rw [if_pos hq]; exact ⟨Or.inl rfl, ⟨fun _ => Classical.not_not.mp hb101, fun _ => rfl⟩⟩, sm_XQ hR X2⟩
      · refine gx_tabIn (tgt := 110) C dX8_of_19 hw (by decide) (by decide) rfl rfl ?_
        refine gx_aload_n C dX8_of_110 rfl ?_
        refine gx_iconst C dX8_of_111 ?_
        refine gx_callI C 8 rfl (gm_0 hM) (c_X8_orderOf hM z2 (a := 0) (by omega) (by omega) (mx_ok_e g1 oa) (mx_ok_e g2 ou) (mx_ok_e g3 ov)) (cwV 1 (gx_hts C) gX8_of_X8_orderOf rfl rfl rfl (by decide +kernel) ⟨Nat.le_of_ble_eq_true rfl, Nat.le_of_ble_eq_true rfl⟩) rfl rfl (Nat.le_of_ble_eq_true rfl) ⟨Nat.le_refl _, Nat.le_refl _⟩ dX8_of_112 (fun z M3 h3 => ?_)
        obtain ⟨h3, h4⟩ := h3
        rw [g1, g2, g3] at h3
        exact gx_iret C dX8_of_115 ⟨by unfold sp_of; rw [if_pos hq]; exact h3, sm_XQ hR (gm_Xt X2 (gm_X6 h4))⟩
      · refine gx_tabIn (tgt := 116) C dX8_of_19 hw (by decide) (by decide) rfl rfl ?_
        obtain ⟨K, hK0⟩ := hdeg r' (by omega)
        have hK := hK0
        obtain ⟨k1, k2, k3⟩ := hK
        refine gx_aload_n C dX8_of_116 rfl ?_
        refine gx_iconst C dX8_of_117 ?_
        refine gx_callI C 8 rfl (gm_0 hM) (c_X8_degreeOf hM z2 (a := 0) (K := K) (by omega) (by omega) (mx_ok_e g1 oa) (mx_ok_e g2 ou) (mx_ok_e g3 ov) k1 (by rw [g1, g2, g3]; exact k2) (by rw [g1, g2, g3]; exact k3)) (cwV 1 (gx_hts C) gX8_of_X8_degreeOf rfl rfl rfl (by decide +kernel) ⟨Nat.le_of_ble_eq_true rfl, Nat.le_of_ble_eq_true rfl⟩) rfl rfl (Nat.le_of_ble_eq_true rfl) ⟨Nat.le_refl _, Nat.le_refl _⟩ dX8_of_118 (fun z M3 h3 => ?_)
        obtain ⟨h3, h4⟩ := h3
        exact gx_iret C dX8_of_121 ⟨by unfold sp_of; rw [if_pos hq]; exact ⟨K, hK0, h3⟩, sm_XQ hR (gm_Xt X2 (gm_XY h4))⟩
      · refine gx_tabIn (tgt := 122) C dX8_of_19 hw (by decide) (by decide) rfl rfl ?_
        refine gx_aload_n C dX8_of_122 rfl ?_
        refine gx_iconst C dX8_of_123 ?_
        refine gx_callI C 8 rfl (gm_0 hM) (c_X8_endOf hM z2 (a := 0) (by omega) (by omega) (mx_ok_e g1 oa) (mx_ok_e g2 ou)) (cwV 1 (gx_hts C) gX8_of_X8_endOf rfl rfl rfl (by decide +kernel) ⟨Nat.le_of_ble_eq_true rfl, Nat.le_of_ble_eq_true rfl⟩) rfl rfl (Nat.le_of_ble_eq_true rfl) ⟨Nat.le_refl _, Nat.le_refl _⟩ dX8_of_124 (fun z M3 h3 => ?_)
        obtain ⟨h3, h4⟩ := h3
        rw [g1, g2] at h3
        exact gx_iret C dX8_of_127 ⟨by unfold sp_of; rw [if_pos hq]; exact h3, sm_XQ hR (gm_Xt X2 (gm_X6 h4))⟩
    · refine gx_tabOut (tgt := 128) C dX8_of_19 hw (by omega) rfl ?_
      refine gx_bipush C dX8_of_128 rfl ?_
      exact gx_iret C dX8_of_130 ⟨by unfold sp_of; rw [if_pos hq, if_neg (by omega), if_neg (by omega), if_neg (by omega), if_neg (by omega), if_neg (by omega), if_neg (by omega), if_neg (by omega), if_neg (by omega)], sm_XQ hR X2⟩
  · rw [if_neg hq] at h1
    subst h1
    refine gx_if_ne C dX8_of_7 rfl (by unfold gx_3; omega) (fun hb7 => absurd hb7 (by omega)) (fun hb7 => ?_)
    refine gx_iconst C dX8_of_10 ?_
    exact gx_iret C dX8_of_11 ⟨by unfold sp_of; rw [if_neg hq], sm_XQ hR (gm_Xr M1)⟩
set_option maxRecDepth 100000 in
set_option maxHeartbeats 4000000 in
theorem c_X8_rule {La : List gx_K} (hM : gm_H La) {M : gx_M} {s : sp_S} (hs : sp_ok s) (hR : sm_R s M) {a b c w : Int} (ha : gx_3 a) (hb : gx_3 b) (hc : gx_3 c) (hw : gx_3 w) : gx_Ci La yX8_rule wsX8_rule 5 [gx_R 0, gx_I a, gx_I b, gx_I c, gx_I w] M (fun z M' => sp_rule s a b c w z ∧ sm_Q s M M') := by
  have hz := sm_Z hs hR
  have hzm := gm_Zm hz
  have bad : ¬((0 ≤ a ∧ a ≤ 7) ∧ (0 ≤ b ∧ b ≤ 7) ∧ (0 ≤ c ∧ c ≤ 7)) → sp_rule s a b c w (-1) ∧ sm_Q s M M := fun h => ⟨by unfold sp_rule; rw [if_neg h], sm_XQ hR (gm_Xr M)⟩
  refine gx_start_i (L := [gx_R 0, gx_I a, gx_I b, gx_I c, gx_I w]) (by decide) rfl rfl (Nat.le_of_ble_eq_true rfl) rfl ?_
  intro _ _ _ _ _ _ _ _ _ _ _ _ C
  refine gx_iload_n C dX8_rule_0 rfl ?_
  refine gx_statI C (c_X8_isRegister ha) (cwS 1 (gx_hts C) gX8_rule_X8_isRegister rfl rfl rfl (by decide +kernel) ⟨Nat.le_of_ble_eq_true rfl, Nat.le_of_ble_eq_true rfl⟩) rfl rfl (Nat.le_of_ble_eq_true rfl) ⟨Nat.le_refl _, Nat.le_refl _⟩ dX8_rule_1 (fun z M1 h1 => ?_)
  obtain ⟨rfl, h1⟩ := h1
  by_cases hq1 : 0 ≤ a ∧ a ≤ 7
  · rw [if_pos hq1] at h1
    subst h1
    refine gx_if_eq C dX8_rule_4 rfl (by unfold gx_3; omega) (fun hb4 => absurd hb4 (by omega)) (fun hb4 => ?_)
    refine gx_iload_n C dX8_rule_7 rfl ?_
    refine gx_statI C (c_X8_isRegister hb) (cwS 1 (gx_hts C) gX8_rule_X8_isRegister rfl rfl rfl (by decide +kernel) ⟨Nat.le_of_ble_eq_true rfl, Nat.le_of_ble_eq_true rfl⟩) rfl rfl (Nat.le_of_ble_eq_true rfl) ⟨Nat.le_refl _, Nat.le_refl _⟩ dX8_rule_8 (fun z M2 h1 => ?_)
    obtain ⟨rfl, h1⟩ := h1
    by_cases hq2 : 0 ≤ b ∧ b ≤ 7
    · rw [if_pos hq2] at h1
      subst h1
      refine gx_if_eq C dX8_rule_11 rfl (by unfold gx_3; omega) (fun hb11 => absurd hb11 (by omega)) (fun hb11 => ?_)
      refine gx_iload_n C dX8_rule_14 rfl ?_
      refine gx_statI C (c_X8_isRegister hc) (cwS 1 (gx_hts C) gX8_rule_X8_isRegister rfl rfl rfl (by decide +kernel) ⟨Nat.le_of_ble_eq_true rfl, Nat.le_of_ble_eq_true rfl⟩) rfl rfl (Nat.le_of_ble_eq_true rfl) ⟨Nat.le_refl _, Nat.le_refl _⟩ dX8_rule_15 (fun z M3 h1 => ?_)
      obtain ⟨rfl, h1⟩ := h1
      by_cases hq3 : 0 ≤ c ∧ c ≤ 7
      · rw [if_pos hq3] at h1
        subst h1
        have hg := And.intro hq1 (And.intro hq2 hq3)
        refine gx_if_ne C dX8_rule_18 rfl (by unfold gx_3; omega) (fun hb18 => ?_) (fun hb18 => absurd (by omega) hb18)
        refine gx_iload C dX8_rule_23 rfl ?_
        refine gx_iconst C dX8_rule_25 ?_
        refine gx_iconst C dX8_rule_26 ?_
        refine gx_statI C (c_X8_in hw (by unfold gx_3; omega) (by unfold gx_3; omega)) (cwS 3 (gx_hts C) gX8_rule_X8_in rfl rfl rfl (by decide +kernel) ⟨Nat.le_of_ble_eq_true rfl, Nat.le_of_ble_eq_true rfl⟩) rfl rfl (Nat.le_of_ble_eq_true rfl) ⟨Nat.le_refl _, Nat.le_refl _⟩ dX8_rule_27 (fun z M4 h1 => ?_)
        obtain ⟨rfl, h1⟩ := h1
        by_cases hu : 0 ≤ w ∧ w ≤ 1
        · rw [if_pos hu] at h1
          subst h1
          obtain ⟨a', rfl⟩ : ∃ k : Nat, a = k := ⟨a.toNat, by omega⟩
          obtain ⟨b', rfl⟩ : ∃ k : Nat, b = k := ⟨b.toNat, by omega⟩
          obtain ⟨c', rfl⟩ : ∃ k : Nat, c = k := ⟨c.toNat, by omega⟩
          have oa := zs_el_ok hs.1 (r := a') (by omega)
          have ob := zs_el_ok hs.1 (r := b') (by omega)
          have oc := zs_el_ok hs.1 (r := c') (by omega)
          have ou := zs_el_ok hs.1 (r := 8) (by omega)
          have oo : ∀ x y, mx_ok (s.1 82) (zs_oper s x y) := fun x y => mx_mul_ok hzm.1 _ _
          have S81 : ∀ {P Q : gx_M} {t a : Nat}, gm_E (gm_S t) P Q → (a + 9 ≤ 45 ∨ 81 ≤ a) → (a + 9 ≤ t ∨ t + 9 ≤ a) → mx_of (Q 6) a = mx_of (P 6) a := fun h h2 h3 => gm_Eo h (fun j h1 h2 => by unfold gm_S; omega)
          have L81 : ∀ {P Q : gx_M} {t a : Nat}, gm_E (fun j => (27 ≤ j ∧ j < 45) ∨ (t ≤ j ∧ j < t + 9)) P Q → (a + 9 ≤ 27 ∨ 45 ≤ a) → (a + 9 ≤ t ∨ t + 9 ≤ a) → mx_of (Q 6) a = mx_of (P 6) a := fun h h2 h3 => gm_Eo h (fun j h1 h2 => by omega)
          refine gx_if_ne C dX8_rule_30 rfl (by unfold gx_3; omega) (fun hb30 => ?_) (fun hb30 => absurd (by omega) hb30)
          refine gx_aload_n C dX8_rule_36 rfl ?_
          refine gx_iload_n C dX8_rule_37 rfl ?_
          refine gx_iconst C dX8_rule_38 ?_
          refine gx_callV C 8 rfl (gm_0 hM) (c_X8_loadS hM hs hR (r := a') (t := 0) rfl (by omega) (by omega) (by omega)) (cwV 2 (gx_hts C) gX8_rule_X8_load rfl rfl rfl (by decide +kernel) ⟨Nat.le_of_ble_eq_true rfl, Nat.le_of_ble_eq_true rfl⟩) rfl rfl (Nat.le_of_ble_eq_true rfl) ⟨Nat.le_refl _, Nat.le_refl _⟩ dX8_rule_39 (fun P1 h2 => ?_)
          obtain ⟨a1, -, -, E1⟩ := h2
          have X1 := gm_X6 E1
          refine gx_aload_n C dX8_rule_42 rfl ?_
          refine gx_iload_n C dX8_rule_43 rfl ?_
          refine gx_bipush C dX8_rule_44 rfl ?_
          refine gx_callV C 8 rfl (gm_0 hM) (c_X8_loadS hM hs (sm_X hR X1) (r := b') (t := 9) rfl (by omega) (by omega) (by omega)) (cwV 2 (gx_hts C) gX8_rule_X8_load rfl rfl rfl (by decide +kernel) ⟨Nat.le_of_ble_eq_true rfl, Nat.le_of_ble_eq_true rfl⟩) rfl rfl (Nat.le_of_ble_eq_true rfl) ⟨Nat.le_refl _, Nat.le_refl _⟩ dX8_rule_46 (fun P2 h2 => ?_)
          obtain ⟨b2, -, -, E2⟩ := h2
          have a2 : mx_of (P2 6) 0 = zs_el s.1 a' := by rw [L81 E2 (by omega) (by omega), a1]
          have X2 := gm_Xt X1 (gm_X6 E2)
          refine gx_aload_n C dX8_rule_49 rfl ?_
          refine gx_iload_n C dX8_rule_50 rfl ?_
          refine gx_bipush C dX8_rule_51 rfl ?_
          refine gx_callV C 8 rfl (gm_0 hM) (c_X8_loadS hM hs (sm_X hR X2) (r := c') (t := 18) rfl (by omega) (by omega) (by omega)) (cwV 2 (gx_hts C) gX8_rule_X8_load rfl rfl rfl (by decide +kernel) ⟨Nat.le_of_ble_eq_true rfl, Nat.le_of_ble_eq_true rfl⟩) rfl rfl (Nat.le_of_ble_eq_true rfl) ⟨Nat.le_refl _, Nat.le_refl _⟩ dX8_rule_53 (fun P3 h2 => ?_)
          obtain ⟨c3, u3, -, E3⟩ := h2
          have a3 : mx_of (P3 6) 0 = zs_el s.1 a' := by rw [L81 E3 (by omega) (by omega), a2]
          have b3 : mx_of (P3 6) 9 = zs_el s.1 b' := by rw [L81 E3 (by omega) (by omega), b2]
          have X3 := gm_Xt X2 (gm_X6 E3)
          refine gx_aload_n C dX8_rule_56 rfl ?_
          refine gx_iconst C dX8_rule_57 ?_
          refine gx_bipush C dX8_rule_58 rfl ?_
          refine gx_bipush C dX8_rule_60 rfl ?_
          refine gx_callV C 8 rfl (gm_0 hM) (c_X8_operator hM (sm_Z hs (sm_X hR X3)) (a := 0) (b := 9) (t := 90) (by omega) (by omega) (by omega) (by omega) (by omega) (by omega) (mx_ok_e a3 oa) (mx_ok_e b3 ob) (mx_ok_e u3 ou)) (cwV 3 (gx_hts C) gX8_rule_X8_operator rfl rfl rfl (by decide +kernel) ⟨Nat.le_of_ble_eq_true rfl, Nat.le_of_ble_eq_true rfl⟩) rfl rfl (Nat.le_of_ble_eq_true rfl) ⟨Nat.le_refl _, Nat.le_refl _⟩ dX8_rule_62 (fun P4 h2 => ?_)
          obtain ⟨e4, E4⟩ := h2
          rw [u3, a3, b3] at e4
          have a4 : mx_of (P4 6) 0 = zs_el s.1 a' := by rw [S81 E4 (by omega) (by omega), a3]
          have b4 : mx_of (P4 6) 9 = zs_el s.1 b' := by rw [S81 E4 (by omega) (by omega), b3]
          have c4 : mx_of (P4 6) 18 = zs_el s.1 c' := by rw [S81 E4 (by omega) (by omega), c3]
          have u4 : mx_of (P4 6) 27 = zs_el s.1 8 := by rw [S81 E4 (by omega) (by omega), u3]
          have e4 : mx_of (P4 6) 90 = zs_oper s (zs_el s.1 a') (zs_el s.1 b') := e4
          have X4 := gm_Xt X3 (gm_X6 E4)
          refine gx_aload_n C dX8_rule_65 rfl ?_
          refine gx_bipush C dX8_rule_66 rfl ?_
          refine gx_bipush C dX8_rule_68 rfl ?_
          refine gx_bipush C dX8_rule_70 rfl ?_
          refine gx_callV C 8 rfl (gm_0 hM) (c_X8_operator hM (sm_Z hs (sm_X hR X4)) (a := 90) (b := 18) (t := 81) (by omega) (by omega) (by omega) (by omega) (by omega) (by omega) (mx_ok_e e4 (oo _ _)) (mx_ok_e c4 oc) (mx_ok_e u4 ou)) (cwV 3 (gx_hts C) gX8_rule_X8_operator rfl rfl rfl (by decide +kernel) ⟨Nat.le_of_ble_eq_true rfl, Nat.le_of_ble_eq_true rfl⟩) rfl rfl (Nat.le_of_ble_eq_true rfl) ⟨Nat.le_refl _, Nat.le_refl _⟩ dX8_rule_72 (fun P5 h2 => ?_)
          obtain ⟨r5, E5⟩ := h2
          rw [u4, e4, c4] at r5
          have r5 : mx_of (P5 6) 81 = zs_oper s (zs_oper s (zs_el s.1 a') (zs_el s.1 b')) (zs_el s.1 c') := r5
          have a5 : mx_of (P5 6) 0 = zs_el s.1 a' := by rw [S81 E5 (by omega) (by omega), a4]
          have b5 : mx_of (P5 6) 9 = zs_el s.1 b' := by rw [S81 E5 (by omega) (by omega), b4]
          have c5 : mx_of (P5 6) 18 = zs_el s.1 c' := by rw [S81 E5 (by omega) (by omega), c4]
          have u5 : mx_of (P5 6) 27 = zs_el s.1 8 := by rw [S81 E5 (by omega) (by omega), u4]
          have X5 := gm_Xt X4 (gm_X6 E5)
          refine gx_aload_n C dX8_rule_75 rfl ?_
          refine gx_iconst C dX8_rule_76 ?_
          refine gx_bipush C dX8_rule_77 rfl ?_
          refine gx_bipush C dX8_rule_79 rfl ?_
          refine gx_callV C 8 rfl (gm_0 hM) (c_X8_operator hM (sm_Z hs (sm_X hR X5)) (a := 0) (b := 18) (t := 99) (by omega) (by omega) (by omega) (by omega) (by omega) (by omega) (mx_ok_e a5 oa) (mx_ok_e c5 oc) (mx_ok_e u5 ou)) (cwV 3 (gx_hts C) gX8_rule_X8_operator rfl rfl rfl (by decide +kernel) ⟨Nat.le_of_ble_eq_true rfl, Nat.le_of_ble_eq_true rfl⟩) rfl rfl (Nat.le_of_ble_eq_true rfl) ⟨Nat.le_refl _, Nat.le_refl _⟩ dX8_rule_81 (fun P6 h2 => ?_)
          obtain ⟨f6, E6⟩ := h2
          rw [u5, a5, c5] at f6
          have f6 : mx_of (P6 6) 99 = zs_oper s (zs_el s.1 a') (zs_el s.1 c') := f6
          have r6 : mx_of (P6 6) 81 = zs_oper s (zs_oper s (zs_el s.1 a') (zs_el s.1 b')) (zs_el s.1 c') := by rw [S81 E6 (by omega) (by omega), r5]
          have a6 : mx_of (P6 6) 0 = zs_el s.1 a' := by rw [S81 E6 (by omega) (by omega), a5]
          have b6 : mx_of (P6 6) 9 = zs_el s.1 b' := by rw [S81 E6 (by omega) (by omega), b5]
          have u6 : mx_of (P6 6) 27 = zs_el s.1 8 := by rw [S81 E6 (by omega) (by omega), u5]
          have X6 := gm_Xt X5 (gm_X6 E6)
          refine gx_aload_n C dX8_rule_84 rfl ?_
          refine gx_bipush C dX8_rule_85 rfl ?_
          refine gx_bipush C dX8_rule_87 rfl ?_
          refine gx_bipush C dX8_rule_89 rfl ?_
          refine gx_callV C 8 rfl (gm_0 hM) (c_X8_operator hM (sm_Z hs (sm_X hR X6)) (a := 9) (b := 99) (t := 99) (by omega) (by omega) (by omega) (by omega) (by omega) (by omega) (mx_ok_e b6 ob) (mx_ok_e f6 (oo _ _)) (mx_ok_e u6 ou)) (cwV 3 (gx_hts C) gX8_rule_X8_operator rfl rfl rfl (by decide +kernel) ⟨Nat.le_of_ble_eq_true rfl, Nat.le_of_ble_eq_true rfl⟩) rfl rfl (Nat.le_of_ble_eq_true rfl) ⟨Nat.le_refl _, Nat.le_refl _⟩ dX8_rule_91 (fun P7 h2 => ?_)
          obtain ⟨f7, E7⟩ := h2
          rw [u6, b6, f6] at f7
          have f7 : mx_of (P7 6) 99 = zs_oper s (zs_el s.1 b') (zs_oper s (zs_el s.1 a') (zs_el s.1 c')) := f7
          have r7 : mx_of (P7 6) 81 = zs_oper s (zs_oper s (zs_el s.1 a') (zs_el s.1 b')) (zs_el s.1 c') := by rw [S81 E7 (by omega) (by omega), r6]
          have a7 : mx_of (P7 6) 0 = zs_el s.1 a' := by rw [S81 E7 (by omega) (by omega), a6]
          have u7 : mx_of (P7 6) 27 = zs_el s.1 8 := by rw [S81 E7 (by omega) (by omega), u6]
          have X7 := gm_Xt X6 (gm_X6 E7)
          refine gx_aload_n C dX8_rule_94 rfl ?_
          refine gx_iconst C dX8_rule_95 ?_
          refine gx_bipush C dX8_rule_96 rfl ?_
          refine gx_bipush C dX8_rule_98 rfl ?_
          refine gx_callV C 8 rfl (gm_0 hM) (c_X8_operator hM (sm_Z hs (sm_X hR X7)) (a := 0) (b := 99) (t := 99) (by omega) (by omega) (by omega) (by omega) (by omega) (by omega) (mx_ok_e a7 oa) (mx_ok_e f7 (oo _ _)) (mx_ok_e u7 ou)) (cwV 3 (gx_hts C) gX8_rule_X8_operator rfl rfl rfl (by decide +kernel) ⟨Nat.le_of_ble_eq_true rfl, Nat.le_of_ble_eq_true rfl⟩) rfl rfl (Nat.le_of_ble_eq_true rfl) ⟨Nat.le_refl _, Nat.le_refl _⟩ dX8_rule_100 (fun P8 h2 => ?_)
          obtain ⟨f8, E8⟩ := h2
          rw [u7, a7, f7] at f8
          have f8 : mx_of (P8 6) 99 = zs_oper s (zs_el s.1 a') (zs_oper s (zs_el s.1 b') (zs_oper s (zs_el s.1 a') (zs_el s.1 c'))) := f8
          have r8 : mx_of (P8 6) 81 = zs_oper s (zs_oper s (zs_el s.1 a') (zs_el s.1 b')) (zs_el s.1 c') := by rw [S81 E8 (by omega) (by omega), r7]
          have X8 := gm_Xt X7 (gm_X6 E8)
          refine gx_iload C dX8_rule_103 rfl ?_
          refine gx_iconst C dX8_rule_105 ?_
          rcases (show w = 0 ∨ w = 1 by omega) with rfl | rfl
          · refine gx_icmp_ne C dX8_rule_106 rfl (by unfold gx_3; omega) (by unfold gx_3; omega) (fun hb106 => ?_) (fun hb106 => absurd (by omega) hb106)
            refine gx_aload_n C dX8_rule_118 rfl ?_
            refine gx_bipush C dX8_rule_119 rfl ?_
            refine gx_bipush C dX8_rule_121 rfl ?_
            refine gx_callI C 8 rfl (gm_0 hM) (c_X8_areAlike hM (m := s.1 82) (by omega) (a := 81) (b := 99) (by omega) (by omega) (mx_ok_e r8 (oo _ _)) (mx_ok_e f8 (oo _ _))) (cwV 2 (gx_hts C) gX8_rule_X8_areAlike rfl rfl rfl (by decide +kernel) ⟨Nat.le_of_ble_eq_true rfl, Nat.le_of_ble_eq_true rfl⟩) rfl rfl (Nat.le_of_ble_eq_true rfl) ⟨Nat.le_refl _, Nat.le_refl _⟩ dX8_rule_123 (fun z P9 h3 => ?_)
            obtain ⟨rfl, h5, h6⟩ := h3
            rw [r8, f8] at h6
            have fin : sp_rule s a' b' c' 0 z ∧ sm_Q s M4 P9 := ⟨by unfold sp_rule; rw [if_pos hg, if_pos hu, if_neg (by decide)]; exact ⟨h5, h6⟩, sm_XQ hR X8⟩
            refine gx_if_eq C dX8_rule_126 rfl (by unfold gx_3; omega) (fun hb126 => ?_) (fun hb126 => ?_)
            · have : z = 0 := hb126
              subst this
              refine gx_iconst C dX8_rule_133 ?_
              exact gx_iret C dX8_rule_134 fin
            · have : z = 1 := by omega
              subst this
              refine gx_iconst C dX8_rule_129 ?_
              refine gx_goto C dX8_rule_130 rfl ?_
              exact gx_iret C dX8_rule_134 fin
          · refine gx_icmp_ne C dX8_rule_106 rfl (by unfold gx_3; omega) (by unfold gx_3; omega) (fun hb106 => absurd hb106 (by omega)) (fun hb106 => ?_)
            refine gx_aload_n C dX8_rule_109 rfl ?_
            refine gx_bipush C dX8_rule_110 rfl ?_
            refine gx_callI C 8 rfl (gm_0 hM) (c_X8_trace hM (sm_Z hs (sm_X hR X8)) (a := 81) (by omega) (mx_ok_e r8 (oo _ _))) (cwV 1 (gx_hts C) gX8_rule_X8_trace rfl rfl rfl (by decide +kernel) ⟨Nat.le_of_ble_eq_true rfl, Nat.le_of_ble_eq_true rfl⟩) rfl rfl (Nat.le_of_ble_eq_true rfl) ⟨Nat.le_refl _, Nat.le_refl _⟩ dX8_rule_112 (fun z P9 h3 => ?_)
            obtain ⟨rfl, h3⟩ := h3
            rw [r8] at h3
            refine gx_goto C dX8_rule_115 rfl ?_
            exact gx_iret C dX8_rule_134 ⟨by unfold sp_rule; rw [if_pos hg, if_pos hu, if_pos rfl]; exact h3, sm_XQ hR X8⟩
        · rw [if_neg hu] at h1
          subst h1
          refine gx_if_ne C dX8_rule_30 rfl (by unfold gx_3; omega) (fun hb30 => absurd hb30 (by omega)) (fun hb30 => ?_)
          refine gx_bipush C dX8_rule_33 rfl ?_
          exact gx_iret C dX8_rule_35 ⟨by unfold sp_rule; rw [if_pos hg, if_neg hu], sm_XQ hR (gm_Xr M4)⟩
      · rw [if_neg hq3] at h1
        subst h1
        refine gx_if_ne C dX8_rule_18 rfl (by unfold gx_3; omega) (fun hb18 => absurd hb18 (by omega)) (fun hb18 => ?_)
        refine gx_iconst C dX8_rule_21 ?_
        exact gx_iret C dX8_rule_22 (bad (by omega))
    · rw [if_neg hq2] at h1
      subst h1
      refine gx_if_eq C dX8_rule_11 rfl (by unfold gx_3; omega) (fun hb11 => ?_) (fun hb11 => absurd (by omega) hb11)
      refine gx_iconst C dX8_rule_21 ?_
      exact gx_iret C dX8_rule_22 (bad (by omega))
  · rw [if_neg hq1] at h1
    subst h1
    refine gx_if_eq C dX8_rule_4 rfl (by unfold gx_3; omega) (fun hb4 => ?_) (fun hb4 => absurd (by omega) hb4)
    refine gx_iconst C dX8_rule_21 ?_
    exact gx_iret C dX8_rule_22 (bad (by omega))
