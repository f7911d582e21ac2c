set_option maxRecDepth 100000 in
set_option maxHeartbeats 4000000 in
theorem c_X0_order {La : List gx_K} (hL : gd_H La) {M : gx_M} {n m : Int} {U V : Nat → Int} (hA : ga_A n m U V M) {a : Nat} (ha : gd_9 La a) (na : 46 ≤ a) (oa : mx_ok m (mx_of (M a) 0)) : gx_Ci La yX0_order wsX0_order 4 [gx_R 13, gx_R a] M (fun z M' => ∃ q M1, gr_D m n (mx_of (M a) 0) M M1 q ∧ (((if (q.2.2 : Int) = n then q.2.1 % m else 0) = 0 ∧ z = -6 ∧ M' = M1) ∨ ((if (q.2.2 : Int) = n then q.2.1 % m else 0) ≠ 0 ∧ mx_fst (fun k => mc_po m U (mx_of (M a) 0) (mx_of (M a) 0) k = V) 2000 z ∧ ∀ c, c ≠ 29 → c ≠ 31 → c ≠ 32 → M' c = M1 c))) := by
  obtain ⟨b0, b1, b2, b3, b4, b5, b6, b7⟩ := id hA
  refine gx_start_i (L := [gx_R 13, gx_R a, gx_U]) (by decide) rfl rfl (Nat.le_of_ble_eq_true rfl) rfl ?_
  intro _ _ _ _ _ _ _ _ _ _ _ _ C
  refine gx_aload_n C dX0_order_0 rfl ?_
  refine gx_aload_n C dX0_order_1 rfl ?_
  refine gx_callI C 0 rfl (gd_13 hL) (c_X0_determinant hL b5 b0 b4 b1 ha (by omega) oa) (cwV 1 (gx_hts C) gX0_order_X0_determinant rfl rfl rfl (by decide +kernel) ⟨Nat.le_of_ble_eq_true rfl, Nat.le_of_ble_eq_true rfl⟩) rfl rfl (Nat.le_of_ble_eq_true rfl) ⟨Nat.le_refl _, Nat.le_refl _⟩ dX0_order_2 (fun z P h2 => ?_)
  obtain ⟨q, hD, hz⟩ := h2
  have hzb : 0 ≤ z ∧ z < m := by
    have := mx_md (m := m) (by omega) q.2.1
    rw [hz]
    split <;> omega
  have hO := hD.2.2.2.2.2
  have hAP : ga_A n m U V P := ga_Af hA (fun c hc => hO c (by omega))
  have eaP : mx_of (P a) 0 = mx_of (M a) 0 := by rw [hO a (by omega)]
  refine gx_if_ne C dX0_order_5 rfl (by unfold gx_3; omega) (fun hb5 => ?_) (fun hb5 => ?_)
  · refine gx_aload_n C dX0_order_11 rfl ?_
    refine gx_aload_n C dX0_order_12 rfl ?_
    refine gx_getR C 0 _ 3 rfl (gd_13 hL) rfl (by decide) nX0_order_0 (gx_hts C _ fX0_order_30) dX0_order_13 ?_
    refine gx_statVN C (c_X7_copy ha (gd_29 hL)) (⟨va_cnB 2 (gx_hts C) gX0_order_X7_copy_n110 rfl rfl rfl ((gx_hN C).2 ("PeirceDesk$Algebra", 110, yX7_copy, "PeirceDesk") (by decide +kernel)) ((gx_hts C) (.initialized RX7) (by decide +kernel)) (by decide +kernel) ⟨Nat.le_of_ble_eq_true rfl, Nat.le_of_ble_eq_true rfl⟩, (gx_hts C) (.static yX7_copy) (by decide +kernel), trivial⟩) rfl rfl (Nat.le_of_ble_eq_true rfl) ⟨Nat.le_refl _, Nat.le_refl _⟩ dX0_order_16 (fun P1 h1 => ?_)
    have e29 : mx_of (P1 29) 0 = mx_of (M a) 0 := by rw [h1, mx_of_cp]; exact eaP
    refine gx_iconst C dX0_order_19 ?_
    refine gx_istore_n C dX0_order_20 (by decide) rfl ?_
    refine gx_for 2000 (fun k (_ : gx_M) => [gx_R 13, gx_R a, gx_I ((k : Int) + 1)]) (fun Q => Q) (fun k Q => mx_of (Q 29) 0 = mc_po m U (mx_of (M a) 0) (mx_of (M a) 0) k ∧ (∀ j, j < k → ¬ mc_po m U (mx_of (M a) 0) (mx_of (M a) 0) j = V) ∧ ∀ c, c ≠ 29 → c ≠ 31 → c ≠ 32 → Q c = P c) 0 P1 (by omega) ⟨e29, fun j hj => absurd hj (Nat.not_lt_zero j), fun c c1 _ _ => by rw [h1, gx_blk_nc c1]⟩ (fun k Q hk hI ih => ?_) (fun Q hI => ?_)
    · obtain ⟨i1, i2, i3⟩ := hI
      have hAQ : ga_A n m U V Q := ga_Af hAP (fun c hc => i3 c (by omega) (by omega) (by omega))
      obtain ⟨a0, a1, a2, a3, a4, a5, a6, a7⟩ := hAQ
      have o1 := mc_po_ok a5.1 (u := U) (a := mx_of (M a) 0) oa k
      have eQ : mx_of (Q a) 0 = mx_of (M a) 0 := by rw [i3 a (by omega) (by omega) (by omega)]; exact eaP
      refine gx_iload_n C dX0_order_21 rfl ?_
      refine gx_sipush C dX0_order_22 rfl ?_
      refine gx_icmp_gt C dX0_order_25 rfl (by unfold gx_3; omega) (by unfold gx_3; omega) (fun hb25 => absurd hb25 (by omega)) (fun hb25 => ?_)
      refine gx_aload_n C dX0_order_28 rfl ?_
      refine gx_getR C 0 _ 3 rfl (gd_13 hL) rfl (by decide) nX0_order_0 (gx_hts C _ fX0_order_30) dX0_order_29 ?_
      refine gx_aload_n C dX0_order_32 rfl ?_
      refine gx_callR C 0 rfl (gd_13 hL) (c_X0_unit hL) (cwV 0 (gx_hts C) gX0_order_X0_unit rfl rfl rfl (by decide +kernel) ⟨Nat.le_of_ble_eq_true rfl, Nat.le_of_ble_eq_true rfl⟩) rfl rfl (Nat.le_of_ble_eq_true rfl) ⟨Nat.le_refl _, Nat.le_refl _⟩ dX0_order_33 (fun u P6 h7 => ?_)
      obtain ⟨rfl, rfl⟩ := h7
      refine gx_statIN C (c_X7_same (m := m) a5.2 (gd_29 hL) (gd_57 hL) (by rw [i1]; exact o1) (by rw [a3]; exact a7)) (⟨va_cnB 2 (gx_hts C) gX0_order_X7_same_n116 rfl rfl rfl ((gx_hN C).2 ("PeirceDesk$Algebra", 116, yX7_same, "PeirceDesk") (by decide +kernel)) ((gx_hts C) (.initialized RX7) (by decide +kernel)) (by decide +kernel) ⟨Nat.le_of_ble_eq_true rfl, Nat.le_of_ble_eq_true rfl⟩, (gx_hts C) (.static yX7_same) (by decide +kernel), trivial⟩) rfl rfl (Nat.le_of_ble_eq_true rfl) ⟨Nat.le_refl _, Nat.le_refl _⟩ dX0_order_36 (fun z2 Q2 h3 => ?_)
      obtain ⟨rfl, h4, h5⟩ := h3
      rw [i1, a3] at h5
      refine gx_if_eq C dX0_order_39 rfl (by unfold gx_3; omega) (fun hb39 => ?_) (fun hb39 => ?_)
      · refine gx_aload_n C dX0_order_44 rfl ?_
        refine gx_aload_n C dX0_order_45 rfl ?_
        refine gx_getR C 0 _ 3 rfl (gd_13 hL) rfl (by decide) nX0_order_0 (gx_hts C _ fX0_order_30) dX0_order_46 ?_
        refine gx_aload_n C dX0_order_49 rfl ?_
        refine gx_aload_n C dX0_order_50 rfl ?_
        refine gx_getR C 0 _ 3 rfl (gd_13 hL) rfl (by decide) nX0_order_0 (gx_hts C _ fX0_order_30) dX0_order_51 ?_
        refine gx_callV C 0 rfl (gd_13 hL) (c_X0_product hL a5 a1 (gd_29 hL) ha (gd_29 hL) (by decide) (by omega) (by decide) (by rw [i1]; exact o1) (by rw [eQ]; exact oa) (by rw [a2]; exact a6)) (cwV 3 (gx_hts C) gX0_order_X0_product rfl rfl rfl (by decide +kernel) ⟨Nat.le_of_ble_eq_true rfl, Nat.le_of_ble_eq_true rfl⟩) rfl rfl (Nat.le_of_ble_eq_true rfl) ⟨Nat.le_refl _, Nat.le_refl _⟩ dX0_order_54 (fun P3 h6 => ?_)
        obtain ⟨p1, p2⟩ := h6
        rw [a2, i1, eQ] at p1
        refine gx_iinc C dX0_order_57 (by decide) rfl rfl ?_
        refine gx_goto C dX0_order_60 rfl ?_
        refine gx_weak (L' := [gx_R 13, gx_R a, gx_I (((k + 1 : Nat) : Int) + 1)]) ⟨Or.inr rfl, Or.inr rfl, Or.inr (by rw [Int.natCast_add]; rfl), trivial⟩ (ih P3 ⟨p1, fun j hj => ?_, fun c c1 c2 c3 => by rw [p2 c c2 c3 c1]; exact i3 c c1 c2 c3⟩)
        rcases (show j < k ∨ j = k by omega) with g | g
        · exact i2 j g
        · rw [g]
          exact fun e => absurd (h5.mpr e) (by omega)
      · refine gx_iload_n C dX0_order_42 rfl ?_
        exact gx_iret C dX0_order_43 ⟨q, P, hD, Or.inr ⟨by rw [← hz]; exact hb5, Or.inl ⟨k, hk, h5.mp (by omega), i2, rfl⟩, i3⟩⟩
    · refine gx_iload_n C dX0_order_21 rfl ?_
      refine gx_sipush C dX0_order_22 rfl ?_
      refine gx_icmp_gt C dX0_order_25 rfl (by unfold gx_3; omega) (by unfold gx_3; omega) (fun hb25 => ?_) (fun hb25 => absurd (by omega) hb25)
      refine gx_bipush C dX0_order_63 rfl ?_
      exact gx_iret C dX0_order_65 ⟨q, P, hD, Or.inr ⟨by rw [← hz]; exact hb5, Or.inr ⟨hI.2.1, rfl⟩, hI.2.2⟩⟩
  · refine gx_bipush C dX0_order_8 rfl ?_
    exact gx_iret C dX0_order_10 ⟨q, P, hD, Or.inl ⟨by rw [← hz]; omega, rfl, rfl⟩⟩
abbrev mc_oper (m : Int) (u a b : Nat → Int) : Nat → Int := mc_trip m u a b a
set_option maxRecDepth 100000 in
set_option maxHeartbeats 4000000 in
theorem c_X0_tryRule {La : List gx_K} (hL : gd_H La) {M : gx_M} {n m : Int} {U V A B Z : Nat → Int} (hA : ga_A n m U V M) {a b c : Nat} (ha : gd_9 La a) (na : 46 ≤ a) (eA : mx_of (M a) 0 = A) (oA : mx_ok m A) (hb : gd_9 La b) (nb : 46 ≤ b) (eB : mx_of (M b) 0 = B) (oB : mx_ok m B) (hc : gd_9 La c) (nc : 46 ≤ c) (eZ : mx_of (M c) 0 = Z) (oZ : mx_ok m Z) : gx_Ci La yX0_tryRule wsX0_tryRule 4 [gx_R 13, gx_R a, gx_R b, gx_R c] M (fun z M' => (z = 0 ∨ z = 1) ∧ (z = 1 ↔ mc_oper m U (mc_oper m U A B) Z = mc_oper m U A (mc_oper m U B (mc_oper m U A Z))) ∧ mx_of (M' 30) 0 = mc_oper m U (mc_oper m U A B) Z ∧ ∀ c, c ≠ 30 → c ≠ 31 → c ≠ 32 → c ≠ 34 → M' c = M c) := by
  obtain ⟨b0, b1, b2, b3, b4, b5, b6, b7⟩ := id hA
  have ok := fun a b => mc_trip_ok b5.1 U a b a
  refine gx_start_i (L := [gx_R 13, gx_R a, gx_R b, gx_R c]) (by decide) rfl rfl (Nat.le_of_ble_eq_true rfl) rfl ?_
  intro _ _ _ _ _ _ _ _ _ _ _ _ C
  refine gx_aload_n C dX0_tryRule_0 rfl ?_
  refine gx_aload_n C dX0_tryRule_1 rfl ?_
  refine gx_aload_n C dX0_tryRule_2 rfl ?_
  refine gx_aload_n C dX0_tryRule_3 rfl ?_
  refine gx_getR C 0 _ 8 rfl (gd_13 hL) rfl (by decide) nX0_tryRule_0 (gx_hts C _ fX0_tryRule_46) dX0_tryRule_4 ?_
  refine gx_callV C 0 rfl (gd_13 hL) (c_X0_operator hL b5 b1 ha hb (gd_34 hL) (by omega) (by omega) (by decide) (by rw [eA]; exact oA) (by rw [eB]; exact oB) (by rw [b2]; exact b6)) (cwV 3 (gx_hts C) gX0_tryRule_X0_operator rfl rfl rfl (by decide +kernel) ⟨Nat.le_of_ble_eq_true rfl, Nat.le_of_ble_eq_true rfl⟩) rfl rfl (Nat.le_of_ble_eq_true rfl) ⟨Nat.le_refl _, Nat.le_refl _⟩ dX0_tryRule_7 (fun P1 h1 => ?_)
  rw [b2, eA, eB] at h1
  have f1 : ∀ c, c ≠ 30 → c ≠ 31 → c ≠ 32 → c ≠ 34 → P1 c = M c := fun c c1 c2 c3 c4 => h1.2 c c2 c3 c4
  have g1 : ∀ c, 46 ≤ c → P1 c = M c := fun c h => f1 c (by omega) (by omega) (by omega) (by omega)
  refine gx_aload_n C dX0_tryRule_10 rfl ?_
  refine gx_aload_n C dX0_tryRule_11 rfl ?_
  refine gx_getR C 0 _ 8 rfl (gd_13 hL) rfl (by decide) nX0_tryRule_0 (gx_hts C _ fX0_tryRule_46) dX0_tryRule_12 ?_
  refine gx_aload_n C dX0_tryRule_15 rfl ?_
  refine gx_aload_n C dX0_tryRule_16 rfl ?_
  refine gx_getR C 0 _ 4 rfl (gd_13 hL) rfl (by decide) nX0_tryRule_0 (gx_hts C _ fX0_tryRule_34) dX0_tryRule_17 ?_
  refine gx_callV C 0 rfl (gd_13 hL) (c_X0_operator hL b5 (show P1 46 1 = m by rw [g1 46 (by decide)]; exact b1) (gd_34 hL) hc (gd_30 hL) (by decide) (by omega) (by decide) (by rw [h1.1]; exact ok _ _) (by rw [g1 c nc, eZ]; exact oZ) (by rw [g1 56 (by decide), b2]; exact b6)) (cwV 3 (gx_hts C) gX0_tryRule_X0_operator rfl rfl rfl (by decide +kernel) ⟨Nat.le_of_ble_eq_true rfl, Nat.le_of_ble_eq_true rfl⟩) rfl rfl (Nat.le_of_ble_eq_true rfl) ⟨Nat.le_refl _, Nat.le_refl _⟩ dX0_tryRule_20 (fun P2 h2 => ?_)
  rw [h1.1, g1 c nc, g1 56 (by decide), b2, eZ] at h2
  have f2 : ∀ c, c ≠ 30 → c ≠ 31 → c ≠ 32 → c ≠ 34 → P2 c = M c := fun c c1 c2 c3 c4 => (h2.2 c c2 c3 c1).trans (f1 c c1 c2 c3 c4)
  have g2 : ∀ c, 46 ≤ c → P2 c = M c := fun c h => f2 c (by omega) (by omega) (by omega) (by omega)
  refine gx_aload_n C dX0_tryRule_23 rfl ?_
  refine gx_aload_n C dX0_tryRule_24 rfl ?_
  refine gx_aload_n C dX0_tryRule_25 rfl ?_
  refine gx_aload_n C dX0_tryRule_26 rfl ?_
  refine gx_getR C 0 _ 8 rfl (gd_13 hL) rfl (by decide) nX0_tryRule_0 (gx_hts C _ fX0_tryRule_46) dX0_tryRule_27 ?_
  refine gx_callV C 0 rfl (gd_13 hL) (c_X0_operator hL b5 (show P2 46 1 = m by rw [g2 46 (by decide)]; exact b1) ha hc (gd_34 hL) (by omega) (by omega) (by decide) (by rw [g2 a na, eA]; exact oA) (by rw [g2 c nc, eZ]; exact oZ) (by rw [g2 56 (by decide), b2]; exact b6)) (cwV 3 (gx_hts C) gX0_tryRule_X0_operator rfl rfl rfl (by decide +kernel) ⟨Nat.le_of_ble_eq_true rfl, Nat.le_of_ble_eq_true rfl⟩) rfl rfl (Nat.le_of_ble_eq_true rfl) ⟨Nat.le_refl _, Nat.le_refl _⟩ dX0_tryRule_30 (fun P3 h3 => ?_)
  rw [g2 a na, g2 c nc, g2 56 (by decide), b2, eA, eZ] at h3
  have s3 : mx_of (P3 30) 0 = mc_oper m U (mc_oper m U A B) Z := by rw [h3.2 30 (by decide) (by decide) (by decide)]; exact h2.1
  have f3 : ∀ c, c ≠ 30 → c ≠ 31 → c ≠ 32 → c ≠ 34 → P3 c = M c := fun c c1 c2 c3 c4 => (h3.2 c c2 c3 c4).trans (f2 c c1 c2 c3 c4)
  have g3 : ∀ c, 46 ≤ c → P3 c = M c := fun c h => f3 c (by omega) (by omega) (by omega) (by omega)
  refine gx_aload_n C dX0_tryRule_33 rfl ?_
  refine gx_aload_n C dX0_tryRule_34 rfl ?_
  refine gx_aload_n C dX0_tryRule_35 rfl ?_
  refine gx_getR C 0 _ 8 rfl (gd_13 hL) rfl (by decide) nX0_tryRule_0 (gx_hts C _ fX0_tryRule_46) dX0_tryRule_36 ?_
  refine gx_aload_n C dX0_tryRule_39 rfl ?_
  refine gx_getR C 0 _ 8 rfl (gd_13 hL) rfl (by decide) nX0_tryRule_0 (gx_hts C _ fX0_tryRule_46) dX0_tryRule_40 ?_
  refine gx_callV C 0 rfl (gd_13 hL) (c_X0_operator hL b5 (show P3 46 1 = m by rw [g3 46 (by decide)]; exact b1) hb (gd_34 hL) (gd_34 hL) (by omega) (by decide) (by decide) (by rw [g3 b nb, eB]; exact oB) (by rw [h3.1]; exact ok _ _) (by rw [g3 56 (by decide), b2]; exact b6)) (cwV 3 (gx_hts C) gX0_tryRule_X0_operator rfl rfl rfl (by decide +kernel) ⟨Nat.le_of_ble_eq_true rfl, Nat.le_of_ble_eq_true rfl⟩) rfl rfl (Nat.le_of_ble_eq_true rfl) ⟨Nat.le_refl _, Nat.le_refl _⟩ dX0_tryRule_43 (fun P4 h4 => ?_)
  rw [g3 b nb, g3 56 (by decide), b2, eB, h3.1] at h4
  have s4 : mx_of (P4 30) 0 = mc_oper m U (mc_oper m U A B) Z := by rw [h4.2 30 (by decide) (by decide) (by decide)]; exact s3
  have f4 : ∀ c, c ≠ 30 → c ≠ 31 → c ≠ 32 → c ≠ 34 → P4 c = M c := fun c c1 c2 c3 c4 => (h4.2 c c2 c3 c4).trans (f3 c c1 c2 c3 c4)
  have g4 : ∀ c, 46 ≤ c → P4 c = M c := fun c h => f4 c (by omega) (by omega) (by omega) (by omega)
  refine gx_aload_n C dX0_tryRule_46 rfl ?_
  refine gx_aload_n C dX0_tryRule_47 rfl ?_
  refine gx_aload_n C dX0_tryRule_48 rfl ?_
  refine gx_getR C 0 _ 8 rfl (gd_13 hL) rfl (by decide) nX0_tryRule_0 (gx_hts C _ fX0_tryRule_46) dX0_tryRule_49 ?_
  refine gx_aload_n C dX0_tryRule_52 rfl ?_
  refine gx_getR C 0 _ 8 rfl (gd_13 hL) rfl (by decide) nX0_tryRule_0 (gx_hts C _ fX0_tryRule_46) dX0_tryRule_53 ?_
  refine gx_callV C 0 rfl (gd_13 hL) (c_X0_operator hL b5 (show P4 46 1 = m by rw [g4 46 (by decide)]; exact b1) ha (gd_34 hL) (gd_34 hL) (by omega) (by decide) (by decide) (by rw [g4 a na, eA]; exact oA) (by rw [h4.1]; exact ok _ _) (by rw [g4 56 (by decide), b2]; exact b6)) (cwV 3 (gx_hts C) gX0_tryRule_X0_operator rfl rfl rfl (by decide +kernel) ⟨Nat.le_of_ble_eq_true rfl, Nat.le_of_ble_eq_true rfl⟩) rfl rfl (Nat.le_of_ble_eq_true rfl) ⟨Nat.le_refl _, Nat.le_refl _⟩ dX0_tryRule_56 (fun P5 h5 => ?_)
  rw [g4 a na, g4 56 (by decide), b2, eA, h4.1] at h5
  have s5 : mx_of (P5 30) 0 = mc_oper m U (mc_oper m U A B) Z := by rw [h5.2 30 (by decide) (by decide) (by decide)]; exact s4
  have f5 : ∀ c, c ≠ 30 → c ≠ 31 → c ≠ 32 → c ≠ 34 → P5 c = M c := fun c c1 c2 c3 c4 => (h5.2 c c2 c3 c4).trans (f4 c c1 c2 c3 c4)
  refine gx_aload_n C dX0_tryRule_59 rfl ?_
  refine gx_getR C 0 _ 4 rfl (gd_13 hL) rfl (by decide) nX0_tryRule_0 (gx_hts C _ fX0_tryRule_34) dX0_tryRule_60 ?_
  refine gx_aload_n C dX0_tryRule_63 rfl ?_
  refine gx_getR C 0 _ 8 rfl (gd_13 hL) rfl (by decide) nX0_tryRule_0 (gx_hts C _ fX0_tryRule_46) dX0_tryRule_64 ?_
  refine gx_statIN C (c_X7_same (m := m) b5.2 (gd_30 hL) (gd_34 hL) (by rw [s5]; exact ok _ _) (by rw [h5.1]; exact ok _ _)) (⟨va_cnB 2 (gx_hts C) gX0_tryRule_X7_same_n116 rfl rfl rfl ((gx_hN C).2 ("PeirceDesk$Algebra", 116, yX7_same, "PeirceDesk") (by decide +kernel)) ((gx_hts C) (.initialized RX7) (by decide +kernel)) (by decide +kernel) ⟨Nat.le_of_ble_eq_true rfl, Nat.le_of_ble_eq_true rfl⟩, (gx_hts C) (.static yX7_same) (by decide +kernel), trivial⟩) rfl rfl (Nat.le_of_ble_eq_true rfl) ⟨Nat.le_refl _, Nat.le_refl _⟩ dX0_tryRule_67 (fun z P6 h6 => ?_)
  obtain ⟨rfl, h7, h8⟩ := h6
  rw [s5, h5.1] at h8
  exact gx_zret C (by omega) dX0_tryRule_70 ⟨h7, h8, s5, f5⟩
theorem mx_at0 {f A : Nat → Int} {k : Nat} (h : mx_of f 0 = A) (hk : k < 9) : f (((k : Int)).toNat) = A k := by
  rw [← h, mx_of_at hk, Nat.zero_add]
  rfl
/-- the three parts -/
def mc_sub (m : Int) (a b : Nat → Int) : Nat → Int := fun k => if k < 9 then (a k - b k) % m else 0
def mc_sb2 (m : Int) (a b c : Nat → Int) : Nat → Int := fun k => if k < 9 then (a k - b k - c k) % m else 0
theorem mc_sub_ok {m : Int} (h : 3 ≤ m) (a b : Nat → Int) : mx_ok m (mc_sub m a b) := fun k hk => by
  unfold mc_sub
  rw [if_pos hk]
  exact mx_md h _
theorem mc_sub_9 {m : Int} {a b : Nat → Int} : ∀ k, 9 ≤ k → mc_sub m a b k = 0 := fun k hk => if_neg (by omega)
theorem mc_sb2_9 {m : Int} {a b c : Nat → Int} : ∀ k, 9 ≤ k → mc_sb2 m a b c k = 0 := fun k hk => if_neg (by omega)
set_option maxRecDepth 100000 in
set_option maxHeartbeats 4000000 in
theorem c_X0_findParts {La : List gx_K} (hL : gd_H La) {M : gx_M} {n m : Int} {U V A B : Nat → Int} (hA : ga_A n m U V M) {a b : Nat} (ha : gd_9 La a) (na : 46 ≤ a) (eA : mx_of (M a) 0 = A) (oA : mx_ok m A) (hb : gd_9 La b) (nb : 46 ≤ b) (eB : mx_of (M b) 0 = B) (oB : mx_ok m B) : gx_Cv La yX0_findParts wsX0_findParts 4 [gx_R 13, gx_R a, gx_R b] M (fun M' => mx_of (M' 28) 0 = mc_oper m U A B ∧ mx_of (M' 26) 0 = mc_oper m U (mc_sub m V A) B ∧ mx_of (M' 27) 0 = mc_sb2 m B (mc_oper m U A B) (mc_oper m U (mc_sub m V A) B) ∧ ∀ c, c ≠ 26 → c ≠ 27 → c ≠ 28 → c ≠ 31 → c ≠ 32 → M' c = M c) := by
  obtain ⟨b0, b1, b2, b3, b4, b5, b6, b7⟩ := id hA
  have ok := fun a b => mc_trip_ok b5.1 U a b a
  have h26 : gd_9 La 26 := gd_pt hL 0 (by decide)
  have h27 : gd_9 La 27 := gd_pt hL 1 (by decide)
  have h28 : gd_9 La 28 := gd_pt hL 2 (by decide)
  refine gx_start_v (L := [gx_R 13, gx_R a, gx_R b, gx_U]) (by decide) rfl rfl (Nat.le_of_ble_eq_true rfl) rfl ?_
  intro _ _ _ _ _ _ _ _ _ _ _ _ C
  refine gx_aload_n C dX0_findParts_0 rfl ?_
  refine gx_aload_n C dX0_findParts_1 rfl ?_
  refine gx_aload_n C dX0_findParts_2 rfl ?_
  refine gx_aload_n C dX0_findParts_3 rfl ?_
  refine gx_getR C 0 _ 2 rfl (gd_13 hL) rfl (by decide) nX0_findParts_0 (gx_hts C _ fX0_findParts_27) dX0_findParts_4 ?_
  refine gx_iconst C dX0_findParts_7 ?_
  refine gx_aaload C (gd_25 hL) (by decide) (by omega) dX0_findParts_8 (show _ = 28 from rfl) ?_
  refine gx_callV C 0 rfl (gd_13 hL) (c_X0_operator hL b5 b1 ha hb h28 (by omega) (by omega) (by decide) (by rw [eA]; exact oA) (by rw [eB]; exact oB) (by rw [b2]; exact b6)) (cwV 3 (gx_hts C) gX0_findParts_X0_operator rfl rfl rfl (by decide +kernel) ⟨Nat.le_of_ble_eq_true rfl, Nat.le_of_ble_eq_true rfl⟩) rfl rfl (Nat.le_of_ble_eq_true rfl) ⟨Nat.le_refl _, Nat.le_refl _⟩ dX0_findParts_9 (fun P1 h1 => ?_)
  rw [b2, eA, eB] at h1
  have f1 : ∀ c, c ≠ 26 → c ≠ 27 → c ≠ 28 → c ≠ 31 → c ≠ 32 → P1 c = M c := fun c c1 c2 c3 c4 c5 => h1.2 c c4 c5 c3
  refine gx_iconst C dX0_findParts_12 ?_
  refine gx_istore_n C dX0_findParts_13 (by decide) rfl ?_
  refine gx_for 9 (fun k (_ : gx_M) => [gx_R 13, gx_R a, gx_R b, gx_I (k : Int)]) (fun Q => Q) (fun k Q => Q = gx_blk P1 27 0 k (mc_sub m V A)) 0 P1 (by omega) gx_blk_0.symm (fun k Q hk hI ih => ?_) (fun Q hI => ?_)
  · have fQ : ∀ c, 46 ≤ c → Q c = M c := fun c h => by rw [hI, gx_blk_nc (by omega)]; exact f1 c (by omega) (by omega) (by omega) (by omega) (by omega)
    have ev : Q 57 (((k : Int)).toNat) = V k := mx_at0 (by rw [fQ 57 (by decide), b3]) hk
    have ee : Q a (((k : Int)).toNat) = A k := mx_at0 (by rw [fQ a na, eA]) hk
    have em : Q 46 1 = m := by rw [fQ 46 (by decide)]; exact b1
    have v1 := b7 k hk
    have v2 := oA k hk
    refine gx_iload_n C dX0_findParts_14 rfl ?_
    refine gx_bipush C dX0_findParts_15 rfl ?_
    refine gx_icmp_ge C dX0_findParts_17 rfl (by unfold gx_3; omega) (by unfold gx_3; omega) (fun hb17 => absurd hb17 (by omega)) (fun hb17 => ?_)
    refine gx_aload_n C dX0_findParts_20 rfl ?_
    refine gx_getR C 0 _ 2 rfl (gd_13 hL) rfl (by decide) nX0_findParts_0 (gx_hts C _ fX0_findParts_27) dX0_findParts_21 ?_
    refine gx_iconst C dX0_findParts_24 ?_
    refine gx_aaload C (gd_25 hL) (by decide) (by omega) dX0_findParts_25 (show _ = 27 from rfl) ?_
    refine gx_iload_n C dX0_findParts_26 rfl ?_
    refine gx_aload_n C dX0_findParts_27 rfl ?_
    refine gx_callR C 0 rfl (gd_13 hL) (c_X0_unit hL) (cwV 0 (gx_hts C) gX0_findParts_X0_unit rfl rfl rfl (by decide +kernel) ⟨Nat.le_of_ble_eq_true rfl, Nat.le_of_ble_eq_true rfl⟩) rfl rfl (Nat.le_of_ble_eq_true rfl) ⟨Nat.le_refl _, Nat.le_refl _⟩ dX0_findParts_28 (fun u P6 h7 => ?_)
    obtain ⟨rfl, rfl⟩ := h7
    refine gx_iload_n C dX0_findParts_31 rfl ?_
    refine gx_iaload C (gd_57 hL) (by omega) dX0_findParts_32 ev ?_
    refine gx_aload_n C dX0_findParts_33 rfl ?_
    refine gx_iload_n C dX0_findParts_34 rfl ?_
    refine gx_iaload C ha (by omega) dX0_findParts_35 ee ?_
    refine gx_isub C dX0_findParts_36 ?_
    refine gx_aload_n C dX0_findParts_37 rfl ?_
    refine gx_getR C 0 _ 0 rfl (gd_13 hL) rfl (by decide) nX0_findParts_0 (gx_hts C _ fX0_findParts_12) dX0_findParts_38 ?_
    refine gx_getIN C 6 _ 1 rfl (gd_now hL).1 rfl (by decide) nX0_findParts_6 ((gx_hN C).1 ("PeirceDesk$Algebra", 58, "PeirceDesk$State", "modulus", "I", "PeirceDesk") (by decide +kernel) |> va_Nw.use rfl) dX0_findParts_41 em ?_
    refine gx_statIN C (c_X7_reduced (x := V k - A k) (m := m) (by omega) (by omega)) (⟨va_cnB 2 (gx_hts C) gX0_findParts_X7_reduced_n62 rfl rfl rfl ((gx_hN C).2 ("PeirceDesk$Algebra", 62, yX7_reduced, "PeirceDesk") (by decide +kernel)) ((gx_hts C) (.initialized RX7) (by decide +kernel)) (by decide +kernel) ⟨Nat.le_of_ble_eq_true rfl, Nat.le_of_ble_eq_true rfl⟩, (gx_hts C) (.static yX7_reduced) (by decide +kernel), trivial⟩) rfl rfl (Nat.le_of_ble_eq_true rfl) ⟨Nat.le_refl _, Nat.le_refl _⟩ dX0_findParts_44 (fun z P3 hz => ?_)
    obtain ⟨rfl, rfl⟩ := hz
    refine gx_iastore C h27 (by omega) dX0_findParts_47 (show _ = 0 + k by omega) ?_
    refine gx_iinc C dX0_findParts_48 (by decide) rfl rfl ?_
    refine gx_goto C dX0_findParts_51 rfl ?_
    refine ih _ ?_
    rw [hI]
    exact gx_blk_s (by unfold mc_sub; rw [if_pos hk])
  · have fQ : ∀ c, c ≠ 27 → Q c = P1 c := fun c h => by rw [hI, gx_blk_nc h]
    have d27 : mx_of (Q 27) 0 = mc_sub m V A := by rw [hI, mx_of_blk, mx_cut mc_sub_9]
    have gQ : ∀ c, 46 ≤ c → Q c = M c := fun c h => by rw [fQ c (by omega)]; exact f1 c (by omega) (by omega) (by omega) (by omega) (by omega)
    refine gx_iload_n C dX0_findParts_14 rfl ?_
    refine gx_bipush C dX0_findParts_15 rfl ?_
    refine gx_icmp_ge C dX0_findParts_17 rfl (by unfold gx_3; omega) (by unfold gx_3; omega) (fun hb17 => ?_) (fun hb17 => absurd (by omega) hb17)
    refine gx_aload_n C dX0_findParts_54 rfl ?_
    refine gx_aload_n C dX0_findParts_55 rfl ?_
    refine gx_getR C 0 _ 2 rfl (gd_13 hL) rfl (by decide) nX0_findParts_0 (gx_hts C _ fX0_findParts_27) dX0_findParts_56 ?_
    refine gx_iconst C dX0_findParts_59 ?_
    refine gx_aaload C (gd_25 hL) (by decide) (by omega) dX0_findParts_60 (show _ = 27 from rfl) ?_
    refine gx_aload_n C dX0_findParts_61 rfl ?_
    refine gx_aload_n C dX0_findParts_62 rfl ?_
    refine gx_getR C 0 _ 2 rfl (gd_13 hL) rfl (by decide) nX0_findParts_0 (gx_hts C _ fX0_findParts_27) dX0_findParts_63 ?_
    refine gx_iconst C dX0_findParts_66 ?_
    refine gx_aaload C (gd_25 hL) (by decide) (by omega) dX0_findParts_67 (show _ = 26 from rfl) ?_
    refine gx_callV C 0 rfl (gd_13 hL) (c_X0_operator hL b5 (show Q 46 1 = m by rw [gQ 46 (by decide)]; exact b1) h27 hb h26 (by decide) (by omega) (by decide) (by rw [d27]; exact mc_sub_ok b5.1 _ _) (by rw [gQ b nb, eB]; exact oB) (by rw [gQ 56 (by decide), b2]; exact b6)) (cwV 3 (gx_hts C) gX0_findParts_X0_operator rfl rfl rfl (by decide +kernel) ⟨Nat.le_of_ble_eq_true rfl, Nat.le_of_ble_eq_true rfl⟩) rfl rfl (Nat.le_of_ble_eq_true rfl) ⟨Nat.le_refl _, Nat.le_refl _⟩ dX0_findParts_68 (fun P2 h2 => ?_)
    rw [d27, gQ b nb, gQ 56 (by decide), b2, eB] at h2
    have f2 : ∀ c, c ≠ 26 → c ≠ 27 → c ≠ 28 → c ≠ 31 → c ≠ 32 → P2 c = M c := fun c c1 c2 c3 c4 c5 => by rw [h2.2 c c4 c5 c1, fQ c c2, f1 c c1 c2 c3 c4 c5]
    have s28 : mx_of (P2 28) 0 = mc_oper m U A B := by rw [h2.2 28 (by decide) (by decide) (by decide), fQ 28 (by decide)]; exact h1.1
    refine gx_iconst C dX0_findParts_71 ?_
    refine gx_istore_n C dX0_findParts_72 (by decide) rfl ?_
    refine gx_for 9 (fun k (_ : gx_M) => [gx_R 13, gx_R a, gx_R b, gx_I (k : Int)]) (fun Q => Q) (fun k Q => Q = gx_blk P2 27 0 k (mc_sb2 m B (mc_oper m U A B) (mc_oper m U (mc_sub m V A) B))) 0 P2 (by omega) gx_blk_0.symm (fun k Q2 hk hI2 ih => ?_) (fun Q2 hI2 => ?_)
    · have fQ2 : ∀ c, c ≠ 27 → Q2 c = P2 c := fun c h => by rw [hI2, gx_blk_nc h]
      have e1 : Q2 b (((k : Int)).toNat) = B k := mx_at0 (by rw [fQ2 b (by omega), f2 b (by omega) (by omega) (by omega) (by omega) (by omega), eB]) hk
      have e2 : Q2 28 (((k : Int)).toNat) = mc_oper m U A B k := mx_at0 (by rw [fQ2 28 (by decide), s28]) hk
      have e3 : Q2 26 (((k : Int)).toNat) = mc_oper m U (mc_sub m V A) B k := mx_at0 (by rw [fQ2 26 (by decide), h2.1]) hk
      have em : Q2 46 1 = m := by rw [fQ2 46 (by decide), f2 46 (by decide) (by decide) (by decide) (by decide) (by decide)]; exact b1
      have v1 := oB k hk
      have v2 : 0 ≤ mc_oper m U A B k ∧ mc_oper m U A B k < m := ok A B k hk
      have v3 : 0 ≤ mc_oper m U (mc_sub m V A) B k ∧ mc_oper m U (mc_sub m V A) B k < m := ok (mc_sub m V A) B k hk
      refine gx_iload_n C dX0_findParts_73 rfl ?_
      refine gx_bipush C dX0_findParts_74 rfl ?_
      refine gx_icmp_ge C dX0_findParts_76 rfl (by unfold gx_3; omega) (by unfold gx_3; omega) (fun hb76 => absurd hb76 (by omega)) (fun hb76 => ?_)
      refine gx_aload_n C dX0_findParts_79 rfl ?_
      refine gx_getR C 0 _ 2 rfl (gd_13 hL) rfl (by decide) nX0_findParts_0 (gx_hts C _ fX0_findParts_27) dX0_findParts_80 ?_
      refine gx_iconst C dX0_findParts_83 ?_
      refine gx_aaload C (gd_25 hL) (by decide) (by omega) dX0_findParts_84 (show _ = 27 from rfl) ?_
      refine gx_iload_n C dX0_findParts_85 rfl ?_
      refine gx_aload_n C dX0_findParts_86 rfl ?_
      refine gx_iload_n C dX0_findParts_87 rfl ?_
      refine gx_iaload C hb (by omega) dX0_findParts_88 e1 ?_
      refine gx_aload_n C dX0_findParts_89 rfl ?_
      refine gx_getR C 0 _ 2 rfl (gd_13 hL) rfl (by decide) nX0_findParts_0 (gx_hts C _ fX0_findParts_27) dX0_findParts_90 ?_
      refine gx_iconst C dX0_findParts_93 ?_
      refine gx_aaload C (gd_25 hL) (by decide) (by omega) dX0_findParts_94 (show _ = 28 from rfl) ?_
      refine gx_iload_n C dX0_findParts_95 rfl ?_
      refine gx_iaload C h28 (by omega) dX0_findParts_96 e2 ?_
      refine gx_isub C dX0_findParts_97 ?_
      refine gx_aload_n C dX0_findParts_98 rfl ?_
      refine gx_getR C 0 _ 2 rfl (gd_13 hL) rfl (by decide) nX0_findParts_0 (gx_hts C _ fX0_findParts_27) dX0_findParts_99 ?_
      refine gx_iconst C dX0_findParts_102 ?_
      refine gx_aaload C (gd_25 hL) (by decide) (by omega) dX0_findParts_103 (show _ = 26 from rfl) ?_
      refine gx_iload_n C dX0_findParts_104 rfl ?_
      refine gx_iaload C h26 (by omega) dX0_findParts_105 e3 ?_
      refine gx_isub C dX0_findParts_106 ?_
      refine gx_aload_n C dX0_findParts_107 rfl ?_
      refine gx_getR C 0 _ 0 rfl (gd_13 hL) rfl (by decide) nX0_findParts_0 (gx_hts C _ fX0_findParts_12) dX0_findParts_108 ?_
      refine gx_getIN C 6 _ 1 rfl (gd_now hL).1 rfl (by decide) nX0_findParts_6 ((gx_hN C).1 ("PeirceDesk$Algebra", 58, "PeirceDesk$State", "modulus", "I", "PeirceDesk") (by decide +kernel) |> va_Nw.use rfl) dX0_findParts_111 em ?_
      refine gx_statIN C (c_X7_reduced (x := B k - mc_oper m U A B k - mc_oper m U (mc_sub m V A) B k) (m := m) (by omega) (by omega)) (⟨va_cnB 2 (gx_hts C) gX0_findParts_X7_reduced_n62 rfl rfl rfl ((gx_hN C).2 ("PeirceDesk$Algebra", 62, yX7_reduced, "PeirceDesk") (by decide +kernel)) ((gx_hts C) (.initialized RX7) (by decide +kernel)) (by decide +kernel) ⟨Nat.le_of_ble_eq_true rfl, Nat.le_of_ble_eq_true rfl⟩, (gx_hts C) (.static yX7_reduced) (by decide +kernel), trivial⟩) rfl rfl (Nat.le_of_ble_eq_true rfl) ⟨Nat.le_refl _, Nat.le_refl _⟩ dX0_findParts_114 (fun z P3 hz => ?_)
      obtain ⟨rfl, rfl⟩ := hz
      refine gx_iastore C h27 (by omega) dX0_findParts_117 (show _ = 0 + k by omega) ?_
      refine gx_iinc C dX0_findParts_118 (by decide) rfl rfl ?_
      refine gx_goto C dX0_findParts_121 rfl ?_
      refine ih _ ?_
      rw [hI2]
      exact gx_blk_s (by unfold mc_sb2; rw [if_pos hk])
    · have fQ2 : ∀ c, c ≠ 27 → Q2 c = P2 c := fun c h => by rw [hI2, gx_blk_nc h]
      refine gx_iload_n C dX0_findParts_73 rfl ?_
      refine gx_bipush C dX0_findParts_74 rfl ?_
      refine gx_icmp_ge C dX0_findParts_76 rfl (by unfold gx_3; omega) (by unfold gx_3; omega) (fun hb76 => ?_) (fun hb76 => absurd (by omega) hb76)
      exact gx_vret C dX0_findParts_124 ⟨by rw [fQ2 28 (by decide)]; exact s28, by rw [fQ2 26 (by decide)]; exact h2.1, by rw [hI2, mx_of_blk, mx_cut mc_sb2_9], fun c c1 c2 c3 c4 c5 => by rw [fQ2 c c2, f2 c c1 c2 c3 c4 c5]⟩
