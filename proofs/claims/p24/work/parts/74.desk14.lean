theorem pd_Pz {M M' : gx_M} {o : Option pd_S} {z : Int} (h : pd_P M o z M') : z = 0 ∨ z = 1 := by
  rcases h.2 with ⟨_, _, h, _⟩ | ⟨_, h⟩ <;> omega
set_option maxRecDepth 100000 in
set_option maxHeartbeats 4000000 in
theorem c_X3_takesInside {La : List gx_K} (hL : gd_H La) {M : gx_M} {t : pd_S} (hR : pd_R t M) (ok : pd_ok t) (ho : 0 < t.1.1) {c : Int} (hc : gx_3 c) : gx_Ci La yX3_takesInside wsX3_takesInside 1 [gx_R 14, gx_I c] M (fun z M' => pd_P M (pd_ins t c) z M') := by
  obtain ⟨⟨o, nx, aw, dv⟩, cm⟩ := t
  obtain ⟨r1, r2, r3, r4, r5⟩ := id hR
  obtain ⟨k1, k2, k3, k4, k5⟩ := id ok
  simp only at r1 r2 r3 r4 r5 k1 k2 k3 k4 k5 ho
  have e1 : M 42 (((o : Int) - 1).toNat) = cm (o - 1) := by
    rw [show ((o : Int) - 1).toNat = o - 1 by omega]
    exact r5 _ (by omega)
  have d1 := k5 (o - 1) (by omega)
  have hs : ¬ (c = 41 ∧ cm (o - 1) = 0) → ¬ (c = 44 ∧ 0 < cm (o - 1)) → pd_ins ((o, nx, aw, dv), cm) c = pd_sgn ((o, nx, aw, dv), cm) c := fun a b => by
    show (if c = 41 ∧ cm (o - 1) = 0 then _ else _) = _
    rw [if_neg a]
    exact if_neg b
  refine gx_start_i (L := [gx_R 14, gx_I c, gx_U]) (by decide) rfl rfl (Nat.le_of_ble_eq_true rfl) rfl ?_
  intro _ _ _ _ _ _ _ _ _ _ _ _ C
  refine gx_aload_n C dX3_takesInside_0 rfl ?_
  refine gx_getR C 3 _ 2 rfl (gd_14 hL) rfl (by decide) nX3_takesInside_3 (gx_hts C _ fX3_takesInside_15) dX3_takesInside_1 ?_
  refine gx_aload_n C dX3_takesInside_4 rfl ?_
  refine gx_getI C 3 _ 3 rfl (gd_14 hL) rfl (by decide) nX3_takesInside_3 (gx_hts C _ fX3_takesInside_29) dX3_takesInside_5 r1 ?_
  refine gx_iconst C dX3_takesInside_8 ?_
  refine gx_isub C dX3_takesInside_9 ?_
  refine gx_iaload C (gd_42 hL) (by omega) dX3_takesInside_10 e1 ?_
  refine gx_istore_n C dX3_takesInside_11 (by decide) rfl ?_
  refine gx_iload_n C dX3_takesInside_12 rfl ?_
  refine gx_bipush C dX3_takesInside_13 rfl ?_
  refine gx_cut 34 (fun (_ : Int) => [gx_R 14, gx_I c, gx_I (cm (o - 1))]) (fun _ => []) (fun _ => M) (fun _ => ¬ (c = 41 ∧ cm (o - 1) = 0)) (fun v hv => ?_) (fun fin => ?_)
  · refine gx_cut 65 (fun (_ : Int) => [gx_R 14, gx_I c, gx_I (cm (o - 1))]) (fun _ => []) (fun _ => M) (fun _ => ¬ (c = 44 ∧ 0 < cm (o - 1))) (fun v hv2 => ?_) (fun fin2 => ?_)
    · refine gx_aload_n C dX3_takesInside_65 rfl ?_
      refine gx_iload_n C dX3_takesInside_66 rfl ?_
      refine gx_callI C 3 rfl (gd_14 hL) (c_X3_takesSign hL hR ok hc) (cwV 1 (gx_hts C) gX3_takesInside_X3_takesSign rfl rfl rfl (by decide +kernel) ⟨Nat.le_of_ble_eq_true rfl, Nat.le_of_ble_eq_true rfl⟩) rfl rfl (Nat.le_of_ble_eq_true rfl) ⟨Nat.le_refl _, Nat.le_refl _⟩ dX3_takesInside_67 (fun z P hz => ?_)
      exact gx_zret C (pd_Pz hz) dX3_takesInside_70 (by rw [hs hv hv2]; exact hz)
    · refine gx_iload_n C dX3_takesInside_34 rfl ?_
      refine gx_bipush C dX3_takesInside_35 rfl ?_
      refine gx_icmp_ne C dX3_takesInside_37 rfl hc (by unfold gx_3; omega) (fun hb37 => ?_) (fun hb37 => ?_)
      · exact fin2 0 (by omega)
      · refine gx_iload_n C dX3_takesInside_40 rfl ?_
        refine gx_if_le C dX3_takesInside_41 rfl (by unfold gx_3; omega) (fun hb41 => ?_) (fun hb41 => ?_)
        · exact fin2 0 (by omega)
        · refine gx_aload_n C dX3_takesInside_44 rfl ?_
          refine gx_getR C 3 _ 2 rfl (gd_14 hL) rfl (by decide) nX3_takesInside_3 (gx_hts C _ fX3_takesInside_15) dX3_takesInside_45 ?_
          refine gx_aload_n C dX3_takesInside_48 rfl ?_
          refine gx_getI C 3 _ 3 rfl (gd_14 hL) rfl (by decide) nX3_takesInside_3 (gx_hts C _ fX3_takesInside_29) dX3_takesInside_49 r1 ?_
          refine gx_iconst C dX3_takesInside_52 ?_
          refine gx_isub C dX3_takesInside_53 ?_
          refine gx_iload_n C dX3_takesInside_54 rfl ?_
          refine gx_iconst C dX3_takesInside_55 ?_
          refine gx_isub C dX3_takesInside_56 ?_
          refine gx_iastore C (gd_42 hL) (by omega) dX3_takesInside_57 (show _ = o - 1 by omega) ?_
          refine gx_aload_n C dX3_takesInside_58 rfl ?_
          refine gx_iconst C dX3_takesInside_59 ?_
          refine gx_putI C 3 _ 5 rfl (gd_14 hL) rfl (by decide) nX3_takesInside_3 tyX3 tyX3_ok nmX3 (gx_hts C _ fX3_takesInside_35) rfl rfl dX3_takesInside_60 ?_
          refine gx_iconst C dX3_takesInside_63 ?_
          have h : pd_R ((o, nx, 0, dv), fn_up cm (o - 1) (cm (o - 1) - 1)) (gx_u (gx_u M 42 (o - 1) (cm (o - 1) - 1)) 14 5 0) := by
            refine ⟨by rw [gx_u_ne (by decide), gx_u_nc (by decide)]; exact r1, by rw [gx_u_ne (by decide), gx_u_nc (by decide)]; exact r2, gx_u_eq _ _ _ _, by rw [gx_u_ne (by decide), gx_u_nc (by decide)]; exact r4, fun i hi => ?_⟩
            rw [gx_u_nc (by decide)]
            show _ = if i = o - 1 then cm (o - 1) - 1 else cm i
            by_cases e : i = o - 1
            · rw [if_pos e, e, gx_u_eq]
            · rw [if_neg e, gx_u_ne (by omega)]
              exact r5 i hi
          have g : pd_ok ((o, nx, 0, dv), fn_up cm (o - 1) (cm (o - 1) - 1)) := by
            refine ⟨k1, k2, show 0 ≤ (0 : Int) ∧ (0 : Int) ≤ 4 from by decide, k4, fun i hi => ?_⟩
            show 0 ≤ (if i = o - 1 then cm (o - 1) - 1 else cm i) ∧ (if i = o - 1 then cm (o - 1) - 1 else cm i) ≤ 2
            by_cases e : i = o - 1
            · rw [if_pos e]; omega
            · rw [if_neg e]; exact k5 i hi
          have e5 : pd_ins ((o, nx, aw, dv), cm) c = some ((o, nx, 0, dv), fn_up cm (o - 1) (cm (o - 1) - 1)) := by
            show (if c = 41 ∧ cm (o - 1) = 0 then _ else _) = _
            rw [if_neg hv]
            exact if_pos ⟨by omega, show 0 < cm (o - 1) by omega⟩
          exact gx_zret C (by omega) dX3_takesInside_64 ⟨pd_Ft pd_Fc (pd_Fu (by decide)), Or.inl ⟨_, e5, rfl, h, g⟩⟩
  · refine gx_icmp_ne C dX3_takesInside_15 rfl hc (by unfold gx_3; omega) (fun hb15 => ?_) (fun hb15 => ?_)
    · exact fin 0 (by omega)
    · refine gx_iload_n C dX3_takesInside_18 rfl ?_
      refine gx_if_ne C dX3_takesInside_19 rfl (by unfold gx_3; omega) (fun hb19 => ?_) (fun hb19 => ?_)
      · exact fin 0 (fun h => hb19 h.2)
      · refine gx_aload_n C dX3_takesInside_22 rfl ?_
        refine gx_dup C dX3_takesInside_23 rfl ?_
        refine gx_getI C 3 _ 3 rfl (gd_14 hL) rfl (by decide) nX3_takesInside_3 (gx_hts C _ fX3_takesInside_29) dX3_takesInside_24 r1 ?_
        refine gx_iconst C dX3_takesInside_27 ?_
        refine gx_isub C dX3_takesInside_28 ?_
        refine gx_putI C 3 _ 3 rfl (gd_14 hL) rfl (by decide) nX3_takesInside_3 tyX3 tyX3_ok nmX3 (gx_hts C _ fX3_takesInside_29) rfl rfl dX3_takesInside_29 ?_
        refine gx_iconst C dX3_takesInside_32 ?_
        have h : pd_R ((o - 1, nx, aw, dv), cm) (gx_u M 14 3 ((o : Int) - 1)) := by
          refine ⟨by rw [gx_u_eq]; show (o : Int) - 1 = ((o - 1 : Nat) : Int); omega, by rw [gx_u_ne (by decide)]; exact r2, by rw [gx_u_ne (by decide)]; exact r3, by rw [gx_u_ne (by decide)]; exact r4, fun i hi => ?_⟩
          rw [gx_u_nc (by decide)]
          exact r5 i (by have : i < o - 1 := hi; omega)
        have g : pd_ok ((o - 1, nx, aw, dv), cm) := ⟨by show o - 1 ≤ 60; omega, k2, k3, k4, fun i hi => k5 i (by have : i < o - 1 := hi; omega)⟩
        have e5 : pd_ins ((o, nx, aw, dv), cm) c = some ((o - 1, nx, aw, dv), cm) := if_pos ⟨by omega, by show cm (o - 1) = 0; omega⟩
        exact gx_zret C (by omega) dX3_takesInside_33 ⟨pd_Fu (by decide), Or.inl ⟨_, e5, rfl, h, g⟩⟩
set_option maxRecDepth 100000 in
set_option maxHeartbeats 4000000 in
theorem c_X3_takesOutside {La : List gx_K} (hL : gd_H La) {M : gx_M} {t : pd_S} (hR : pd_R t M) (ok : pd_ok t) {c : Int} (hc : gx_3 c) {k : Nat} (hk : k ≤ 60) {p0 : Int} (h0 : M 41 0 = p0) (hp : 0 ≤ p0 ∧ p0 ≤ 65535) : gx_Ci La yX3_takesOutside wsX3_takesOutside 1 [gx_R 14, gx_I c, gx_I k] M (fun z M' => pd_P M (pd_out t c k p0) z M') := by
  obtain ⟨⟨o, nx, aw, dv⟩, cm⟩ := t
  obtain ⟨r1, r2, r3, r4, r5⟩ := id hR
  obtain ⟨k1, k2, k3, k4, k5⟩ := id ok
  simp only at r1 r2 r3 r4 r5 k1 k2 k3 k4 k5
  refine gx_start_i (L := [gx_R 14, gx_I c, gx_I k, gx_U]) (by decide) rfl rfl (Nat.le_of_ble_eq_true rfl) rfl ?_
  intro _ _ _ _ _ _ _ _ _ _ _ _ C
  refine gx_iload_n C dX3_takesOutside_0 rfl ?_
  refine gx_bipush C dX3_takesOutside_1 rfl ?_
  refine gx_cut 36 (fun (_ : Int) => [gx_R 14, gx_I c, gx_I k, gx_U]) (fun v => [gx_I v]) (fun _ => M) (fun v => (v = 1 ∧ (c = 61 ∨ (c = 58 ∧ k = 1 ∧ 65 ≤ p0 ∧ p0 ≤ 72))) ∨ (v = 0 ∧ ¬ (c = 61 ∨ (c = 58 ∧ k = 1 ∧ 65 ≤ p0 ∧ p0 ≤ 72)))) (fun v hv => ?_) (fun fin => ?_)
  · have hs : ¬ ((c = 61 ∨ (c = 58 ∧ k = 1 ∧ 65 ≤ p0 ∧ p0 ≤ 72)) ∧ dv = 0) → pd_out ((o, nx, aw, dv), cm) c k p0 = pd_sgn ((o, nx, aw, dv), cm) c := fun h => if_neg h
    refine gx_istore_n C dX3_takesOutside_36 (by decide) rfl ?_
    refine gx_iload_n C dX3_takesOutside_37 rfl ?_
    refine gx_if_eq C dX3_takesOutside_38 rfl (by unfold gx_3; omega) (fun hb38 => ?_) (fun hb38 => ?_)
    · refine gx_aload_n C dX3_takesOutside_60 rfl ?_
      refine gx_iload_n C dX3_takesOutside_61 rfl ?_
      refine gx_callI C 3 rfl (gd_14 hL) (c_X3_takesSign hL hR ok hc) (cwV 1 (gx_hts C) gX3_takesOutside_X3_takesSign rfl rfl rfl (by decide +kernel) ⟨Nat.le_of_ble_eq_true rfl, Nat.le_of_ble_eq_true rfl⟩) rfl rfl (Nat.le_of_ble_eq_true rfl) ⟨Nat.le_refl _, Nat.le_refl _⟩ dX3_takesOutside_62 (fun z P hz => ?_)
      exact gx_zret C (pd_Pz hz) dX3_takesOutside_65 (by rw [hs (fun h => hv.elim (fun e => absurd e.1 (by omega)) (fun e => e.2 h.1))]; exact hz)
    · refine gx_aload_n C dX3_takesOutside_41 rfl ?_
      refine gx_getI C 3 _ 6 rfl (gd_14 hL) rfl (by decide) nX3_takesOutside_3 (gx_hts C _ fX3_takesOutside_38) dX3_takesOutside_42 r4 ?_
      refine gx_if_ne C dX3_takesOutside_45 rfl (by unfold gx_3; omega) (fun hb45 => ?_) (fun hb45 => ?_)
      · refine gx_aload_n C dX3_takesOutside_60 rfl ?_
        refine gx_iload_n C dX3_takesOutside_61 rfl ?_
        refine gx_callI C 3 rfl (gd_14 hL) (c_X3_takesSign hL hR ok hc) (cwV 1 (gx_hts C) gX3_takesOutside_X3_takesSign rfl rfl rfl (by decide +kernel) ⟨Nat.le_of_ble_eq_true rfl, Nat.le_of_ble_eq_true rfl⟩) rfl rfl (Nat.le_of_ble_eq_true rfl) ⟨Nat.le_refl _, Nat.le_refl _⟩ dX3_takesOutside_62 (fun z P hz => ?_)
        exact gx_zret C (pd_Pz hz) dX3_takesOutside_65 (by rw [hs (fun h => hb45 h.2)]; exact hz)
      · have hv1 : c = 61 ∨ (c = 58 ∧ k = 1 ∧ 65 ≤ p0 ∧ p0 ≤ 72) := by
          rcases hv with ⟨_, e⟩ | ⟨e, _⟩
          · exact e
          · omega
        obtain ⟨g1, g2⟩ := pd_dv hR ok (v := 1) (by decide)
        obtain ⟨g3, g4⟩ := pd_aw g1 g2 (v := 0) (by decide)
        have e5 : pd_out ((o, nx, aw, dv), cm) c k p0 = some ((o, nx, 0, 1), cm) := if_pos ⟨hv1, by show dv = 0; omega⟩
        refine gx_aload_n C dX3_takesOutside_48 rfl ?_
        refine gx_iconst C dX3_takesOutside_49 ?_
        refine gx_putZ C 3 _ 6 rfl (gd_14 hL) rfl (by decide) nX3_takesOutside_3 tyX3 tyX3_ok nmX3 (gx_hts C _ fX3_takesOutside_38) rfl rfl (by omega) dX3_takesOutside_50 ?_
        refine gx_aload_n C dX3_takesOutside_53 rfl ?_
        refine gx_iconst C dX3_takesOutside_54 ?_
        refine gx_putI C 3 _ 5 rfl (gd_14 hL) rfl (by decide) nX3_takesOutside_3 tyX3 tyX3_ok nmX3 (gx_hts C _ fX3_takesOutside_35) rfl rfl dX3_takesOutside_55 ?_
        refine gx_iconst C dX3_takesOutside_58 ?_
        exact gx_zret C (by omega) dX3_takesOutside_59 ⟨pd_Ft (pd_Fu (by decide)) (pd_Fu (by decide)), Or.inl ⟨_, e5, rfl, g3, g4⟩⟩
  · refine gx_icmp_eq C dX3_takesOutside_3 rfl hc (by unfold gx_3; omega) (fun hb3 => ?_) (fun hb3 => ?_)
    · refine gx_iconst C dX3_takesOutside_31 ?_
      refine gx_goto C dX3_takesOutside_32 rfl ?_
      exact fin 1 (Or.inl ⟨rfl, by omega⟩)
    · refine gx_iload_n C dX3_takesOutside_6 rfl ?_
      refine gx_bipush C dX3_takesOutside_7 rfl ?_
      refine gx_icmp_ne C dX3_takesOutside_9 rfl hc (by unfold gx_3; omega) (fun hb9 => ?_) (fun hb9 => ?_)
      · refine gx_iconst C dX3_takesOutside_35 ?_
        exact fin 0 (Or.inr ⟨rfl, by omega⟩)
      · refine gx_iload_n C dX3_takesOutside_12 rfl ?_
        refine gx_iconst C dX3_takesOutside_13 ?_
        refine gx_icmp_ne C dX3_takesOutside_14 rfl (by unfold gx_3; omega) (by unfold gx_3; omega) (fun hb14 => ?_) (fun hb14 => ?_)
        · refine gx_iconst C dX3_takesOutside_35 ?_
          exact fin 0 (Or.inr ⟨rfl, by omega⟩)
        · refine gx_aload_n C dX3_takesOutside_17 rfl ?_
          refine gx_getR C 3 _ 0 rfl (gd_14 hL) rfl (by decide) nX3_takesOutside_3 (gx_hts C _ fX3_takesOutside_9) dX3_takesOutside_18 ?_
          refine gx_iconst C dX3_takesOutside_21 ?_
          refine gx_caload C (gd_41 hL) (by omega) dX3_takesOutside_22 h0 ?_
          refine gx_statIN C (c_X7_registerOf (c := p0) (by unfold gx_3; omega)) (⟨va_cnB 1 (gx_hts C) gX3_takesOutside_X7_registerOf_n25 rfl rfl rfl ((gx_hN C).2 ("PeirceDesk$Pad", 25, yX7_registerOf, "PeirceDesk") (by decide +kernel)) ((gx_hts C) (.initialized RX7) (by decide +kernel)) (by decide +kernel) ⟨Nat.le_of_ble_eq_true rfl, Nat.le_of_ble_eq_true rfl⟩, (gx_hts C) (.static yX7_registerOf) (by decide +kernel), trivial⟩) rfl rfl (Nat.le_of_ble_eq_true rfl) ⟨Nat.le_refl _, Nat.le_refl _⟩ dX3_takesOutside_23 (fun z P hz => ?_)
          obtain ⟨rfl, hz⟩ := hz
          have hz3 : -6 ≤ z ∧ z ≤ 7 ∧ (z = -6 ↔ ¬ (65 ≤ p0 ∧ p0 ≤ 72)) := by
            rw [hz]
            split <;> omega
          refine gx_bipush C dX3_takesOutside_26 rfl ?_
          refine gx_icmp_eq C dX3_takesOutside_28 rfl (by unfold gx_3; omega) (by unfold gx_3; omega) (fun hb28 => ?_) (fun hb28 => ?_)
          · refine gx_iconst C dX3_takesOutside_35 ?_
            exact fin 0 (Or.inr ⟨rfl, by omega⟩)
          · refine gx_iconst C dX3_takesOutside_31 ?_
            refine gx_goto C dX3_takesOutside_32 rfl ?_
            exact fin 1 (Or.inl ⟨rfl, by omega⟩)
set_option maxRecDepth 100000 in
set_option maxHeartbeats 4000000 in
theorem c_X3_takes {La : List gx_K} (hL : gd_H La) {M : gx_M} {t : pd_S} (hR : pd_R t M) (ok : pd_ok t) {c : Int} (hc : gx_3 c) {k : Nat} (hk : k ≤ 60) {p0 : Int} (h0 : M 41 0 = p0) (hp : 0 ≤ p0 ∧ p0 ≤ 65535) : gx_Ci La yX3_takes wsX3_takes 2 [gx_R 14, gx_I c, gx_I k] M (fun z M' => pd_P M (pd_tk t c k p0) z M') := by
  obtain ⟨r1, r2, r3, r4, r5⟩ := id hR
  obtain ⟨k1, k2, k3, k4, k5⟩ := id ok
  refine gx_start_i (L := [gx_R 14, gx_I c, gx_I k]) (by decide) rfl rfl (Nat.le_of_ble_eq_true rfl) rfl ?_
  intro _ _ _ _ _ _ _ _ _ _ _ _ C
  refine gx_aload_n C dX3_takes_0 rfl ?_
  refine gx_getI C 3 _ 5 rfl (gd_14 hL) rfl (by decide) nX3_takes_3 (gx_hts C _ fX3_takes_35) dX3_takes_1 r3 ?_
  by_cases a0 : t.1.2.2.1 = 0
  · have et : pd_tk t c k p0 = if 48 ≤ c ∧ c ≤ 57 then pd_dig t c else pd_fac t c := if_pos a0
    rw [a0]
    refine gx_tabIn C dX3_takes_4 (by unfold gx_3; omega) (by decide) (by decide) rfl (tgt := 36) (by decide) ?_
    refine gx_aload_n C dX3_takes_36 rfl ?_
    refine gx_iload_n C dX3_takes_37 rfl ?_
    refine gx_callI C 3 rfl (gd_14 hL) (c_X3_takesDigit hL hR ok hc) (cwV 1 (gx_hts C) gX3_takes_X3_takesDigit rfl rfl rfl (by decide +kernel) ⟨Nat.le_of_ble_eq_true rfl, Nat.le_of_ble_eq_true rfl⟩) rfl rfl (Nat.le_of_ble_eq_true rfl) ⟨Nat.le_refl _, Nat.le_refl _⟩ dX3_takes_38 (fun z P hz => ?_)
    rcases hz with ⟨z1, z2, z3, z4⟩ | ⟨z1, z2, z3⟩
    · subst z4
      refine gx_if_ne C dX3_takes_41 rfl (by unfold gx_3; omega) (fun hb41 => ?_) (fun hb41 => absurd (by omega) hb41)
      refine gx_iconst C dX3_takes_52 ?_
      refine gx_goto C dX3_takes_53 rfl ?_
      exact gx_zret C (by omega) dX3_takes_57 (by rw [et, if_pos ⟨z1, z2⟩]; exact z3)
    · subst z2
      subst z3
      refine gx_if_ne C dX3_takes_41 rfl (by unfold gx_3; omega) (fun hb41 => absurd hb41 (by omega)) (fun hb41 => ?_)
      refine gx_aload_n C dX3_takes_44 rfl ?_
      refine gx_iload_n C dX3_takes_45 rfl ?_
      refine gx_callI C 3 rfl (gd_14 hL) (c_X3_takesFactor hL hR ok hc) (cwV 1 (gx_hts C) gX3_takes_X3_takesFactor rfl rfl rfl (by decide +kernel) ⟨Nat.le_of_ble_eq_true rfl, Nat.le_of_ble_eq_true rfl⟩) rfl rfl (Nat.le_of_ble_eq_true rfl) ⟨Nat.le_refl _, Nat.le_refl _⟩ dX3_takes_46 (fun z P hz => ?_)
      have hzz := pd_Pz hz
      refine gx_if_eq C dX3_takes_49 rfl (by unfold gx_3; omega) (fun hb49 => ?_) (fun hb49 => ?_)
      · have e0 : z = 0 := by omega
        subst e0
        refine gx_iconst C dX3_takes_56 ?_
        exact gx_zret C (by omega) dX3_takes_57 (by rw [et, if_neg z1]; exact hz)
      · have e0 : z = 1 := by omega
        subst e0
        refine gx_iconst C dX3_takes_52 ?_
        refine gx_goto C dX3_takes_53 rfl ?_
        exact gx_zret C (by omega) dX3_takes_57 (by rw [et, if_neg z1]; exact hz)
  · by_cases a1 : t.1.2.2.1 = 1
    · have et : pd_tk t c k p0 = if c = 42 then some ((t.1.1, t.1.2.1, 2, t.1.2.2.2), t.2) else none := by unfold pd_tk; rw [if_neg a0, if_pos a1]
      obtain ⟨g1, g2⟩ := pd_aw hR ok (v := 2) (by decide)
      have hF : pd_F M (gx_u M 14 5 2) := pd_Fu (by decide)
      rw [a1]
      refine gx_tabIn C dX3_takes_4 (by unfold gx_3; omega) (by decide) (by decide) rfl (tgt := 58) (by decide) ?_
      refine gx_aload_n C dX3_takes_58 rfl ?_
      refine gx_iconst C dX3_takes_59 ?_
      refine gx_putI C 3 _ 5 rfl (gd_14 hL) rfl (by decide) nX3_takes_3 tyX3 tyX3_ok nmX3 (gx_hts C _ fX3_takes_35) rfl rfl dX3_takes_60 ?_
      refine gx_iload_n C dX3_takes_63 rfl ?_
      refine gx_bipush C dX3_takes_64 rfl ?_
      refine gx_icmp_ne C dX3_takes_66 rfl hc (by unfold gx_3; omega) (fun hb66 => ?_) (fun hb66 => ?_)
      · refine gx_iconst C dX3_takes_73 ?_
        exact gx_zret C (by omega) dX3_takes_74 ⟨hF, Or.inr ⟨by rw [et, if_neg (by omega)], rfl⟩⟩
      · refine gx_iconst C dX3_takes_69 ?_
        refine gx_goto C dX3_takes_70 rfl ?_
        exact gx_zret C (by omega) dX3_takes_74 ⟨hF, Or.inl ⟨_, by rw [et, if_pos (by omega)], rfl, g1, g2⟩⟩
    · by_cases a2 : t.1.2.2.1 = 2
      · have et : pd_tk t c k p0 = pd_fac t c := by unfold pd_tk; rw [if_neg a0, if_neg a1, if_pos a2]
        rw [a2]
        refine gx_tabIn C dX3_takes_4 (by unfold gx_3; omega) (by decide) (by decide) rfl (tgt := 75) (by decide) ?_
        refine gx_aload_n C dX3_takes_75 rfl ?_
        refine gx_iload_n C dX3_takes_76 rfl ?_
        refine gx_callI C 3 rfl (gd_14 hL) (c_X3_takesFactor hL hR ok hc) (cwV 1 (gx_hts C) gX3_takes_X3_takesFactor rfl rfl rfl (by decide +kernel) ⟨Nat.le_of_ble_eq_true rfl, Nat.le_of_ble_eq_true rfl⟩) rfl rfl (Nat.le_of_ble_eq_true rfl) ⟨Nat.le_refl _, Nat.le_refl _⟩ dX3_takes_77 (fun z P hz => ?_)
        exact gx_zret C (pd_Pz hz) dX3_takes_80 (by rw [et]; exact hz)
      · by_cases a3 : t.1.2.2.1 = 3
        · have et : pd_tk t c k p0 = if c = 40 then pd_bra t else none := by unfold pd_tk; rw [if_neg a0, if_neg a1, if_neg a2, if_pos a3]
          rw [a3]
          refine gx_tabIn C dX3_takes_4 (by unfold gx_3; omega) (by decide) (by decide) rfl (tgt := 81) (by decide) ?_
          refine gx_iload_n C dX3_takes_81 rfl ?_
          refine gx_bipush C dX3_takes_82 rfl ?_
          refine gx_icmp_ne C dX3_takes_84 rfl hc (by unfold gx_3; omega) (fun hb84 => ?_) (fun hb84 => ?_)
          · refine gx_iconst C dX3_takes_98 ?_
            exact gx_zret C (by omega) dX3_takes_99 ⟨pd_Fr M, Or.inr ⟨by rw [et, if_neg (by omega)], rfl⟩⟩
          · refine gx_aload_n C dX3_takes_87 rfl ?_
            refine gx_callI C 3 rfl (gd_14 hL) (c_X3_takesBracket hL hR ok) (cwV 0 (gx_hts C) gX3_takes_X3_takesBracket rfl rfl rfl (by decide +kernel) ⟨Nat.le_of_ble_eq_true rfl, Nat.le_of_ble_eq_true rfl⟩) rfl rfl (Nat.le_of_ble_eq_true rfl) ⟨Nat.le_refl _, Nat.le_refl _⟩ dX3_takes_88 (fun z P hz => ?_)
            have hzz := pd_Pz hz
            refine gx_if_eq C dX3_takes_91 rfl (by unfold gx_3; omega) (fun hb91 => ?_) (fun hb91 => ?_)
            · have e0 : z = 0 := by omega
              subst e0
              refine gx_iconst C dX3_takes_98 ?_
              exact gx_zret C (by omega) dX3_takes_99 (by rw [et, if_pos (by omega)]; exact hz)
            · have e0 : z = 1 := by omega
              subst e0
              refine gx_iconst C dX3_takes_94 ?_
              refine gx_goto C dX3_takes_95 rfl ?_
              exact gx_zret C (by omega) dX3_takes_99 (by rw [et, if_pos (by omega)]; exact hz)
        · have et : pd_tk t c k p0 = if 0 < t.1.1 then pd_ins t c else pd_out t c k p0 := by unfold pd_tk; rw [if_neg a0, if_neg a1, if_neg a2, if_neg a3]
          refine gx_tabOut C dX3_takes_4 (by unfold gx_3; omega) (by omega) (tgt := 100) (by decide) ?_
          refine gx_aload_n C dX3_takes_100 rfl ?_
          refine gx_getI C 3 _ 3 rfl (gd_14 hL) rfl (by decide) nX3_takes_3 (gx_hts C _ fX3_takes_29) dX3_takes_101 r1 ?_
          refine gx_if_le C dX3_takes_104 rfl (by unfold gx_3; omega) (fun hb104 => ?_) (fun hb104 => ?_)
          · refine gx_aload_n C dX3_takes_115 rfl ?_
            refine gx_iload_n C dX3_takes_116 rfl ?_
            refine gx_iload_n C dX3_takes_117 rfl ?_
            refine gx_callI C 3 rfl (gd_14 hL) (c_X3_takesOutside hL hR ok hc hk h0 hp) (cwV 2 (gx_hts C) gX3_takes_X3_takesOutside rfl rfl rfl (by decide +kernel) ⟨Nat.le_of_ble_eq_true rfl, Nat.le_of_ble_eq_true rfl⟩) rfl rfl (Nat.le_of_ble_eq_true rfl) ⟨Nat.le_refl _, Nat.le_refl _⟩ dX3_takes_118 (fun z P hz => ?_)
            exact gx_zret C (pd_Pz hz) dX3_takes_121 (by rw [et, if_neg (by omega)]; exact hz)
          · refine gx_aload_n C dX3_takes_107 rfl ?_
            refine gx_iload_n C dX3_takes_108 rfl ?_
            refine gx_callI C 3 rfl (gd_14 hL) (c_X3_takesInside hL hR ok (by omega) hc) (cwV 1 (gx_hts C) gX3_takes_X3_takesInside rfl rfl rfl (by decide +kernel) ⟨Nat.le_of_ble_eq_true rfl, Nat.le_of_ble_eq_true rfl⟩) rfl rfl (Nat.le_of_ble_eq_true rfl) ⟨Nat.le_refl _, Nat.le_refl _⟩ dX3_takes_109 (fun z P hz => ?_)
            refine gx_goto C dX3_takes_112 rfl ?_
            exact gx_zret C (pd_Pz hz) dX3_takes_121 (by rw [et, if_pos (by omega)]; exact hz)
