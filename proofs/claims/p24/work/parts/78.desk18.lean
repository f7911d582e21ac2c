/-- what a bracket makes of its arguments -/
def fr_fn (m n : Int) (U V : Nat → Int) (f : fr_S) (o : Option (Nat → Int)) : Prop :=
  if f.2.2.1 = 112 then o = some (mc_prod m U f.1.2.1 f.1.1) else if f.2.2.1 = 117 then o = some (mc_oper m U f.1.2.1 f.1.1) else if f.2.2.1 = 116 then o = some (mc_trip m U f.1.2.1 f.1.2.2 f.1.1) else if f.2.2.1 = 118 then ∃ q, rr_run m (rr_ld n f.1.1, 1, 0) 3 q ∧ o = if (q.2.2 : Int) = n then some (mx_mul 3 m (mx_mul 3 m V (rr_inv q.1)) V) else none else o = some f.1.1
def fr_G (c : Nat) (M M' : gx_M) : Prop := ∀ c', c' ≠ c + 1 → (c' < 19 ∨ 25 ≤ c') → c' ≠ 31 → c' ≠ 32 → M' c' = M c'
set_option maxRecDepth 100000 in
set_option maxHeartbeats 4000000 in
theorem c_X1_finish {La : List gx_K} (hL : gd_H La) {c : Nat} (hF : gd_F La c) (hc : 154 ≤ c) {M : gx_M} {f : fr_S} (hR : fr_R f c M) {n m : Int} {U V : Nat → Int} (hA : ga_A n m U V M) (o1 : mx_ok m f.1.1) (o2 : f.2.2.1 = 112 ∨ f.2.2.1 = 116 ∨ f.2.2.1 = 117 → mx_ok m f.1.2.1) (o3 : f.2.2.1 = 116 → mx_ok m f.1.2.2) (hk : (0 ≤ f.2.2.1 ∧ f.2.2.1 < 112) ∨ f.2.2.1 = 112 ∨ f.2.2.1 = 116 ∨ f.2.2.1 = 117 ∨ f.2.2.1 = 118) : gx_Ci La yX1_finish wsX1_finish 4 [gx_R c, gx_R 13] M (fun z M' => fr_G c M M' ∧ ((∃ S, fr_fn m n U V f (some S) ∧ z = 1 ∧ mx_of (M' (c + 1)) 0 = S) ∨ (fr_fn m n U V f none ∧ z = 0))) := by
  obtain ⟨r1, r2, r3, r4, r5, r6, r7, r8⟩ := hR
  obtain ⟨⟨S, F1, F2⟩, ar, kd, pl, sg, tm⟩ := f
  simp only at r1 r2 r3 r4 r5 r6 r7 r8 o1 o2 o3 hk
  obtain ⟨b0, b1, b2, b3, b4, b5, b6, b7⟩ := id hA
  have hG : ∀ P, ga_O (c + 1) M P → fr_G c M P := fun P h c' c1 _ c3 c4 => h c' c3 c4 c1
  refine gx_start_i (L := [gx_R c, gx_R 13]) (by decide) rfl rfl (Nat.le_of_ble_eq_true rfl) rfl ?_
  intro _ _ _ _ _ _ _ _ _ _ _ _ C
  refine gx_aload_n C dX1_finish_0 rfl ?_
  refine gx_getI C 1 _ 4 rfl hF.1 rfl (by decide) nX1_finish_1 (gx_hts C _ fX1_finish_21) dX1_finish_1 r5 ?_
  rcases hk with hk | rfl | rfl | rfl | rfl
  · refine gx_tabOut C dX1_finish_4 (by unfold gx_3; omega) (by omega) (tgt := 119) (by decide) ?_
    refine gx_iconst C dX1_finish_119 ?_
    have e : fr_fn m n U V ((S, F1, F2), (ar, kd, pl, sg, tm)) (some S) := by
      unfold fr_fn
      simp only
      rw [if_neg (by omega), if_neg (by omega), if_neg (by omega), if_neg (by omega)]
      trivial
    exact gx_zret C (by omega) dX1_finish_120 ⟨fun _ _ _ _ _ => rfl, Or.inl ⟨S, e, rfl, r1⟩⟩
  · refine gx_tabIn C dX1_finish_4 (by unfold gx_3; omega) (by decide) (by decide) rfl (tgt := 48) (by decide) ?_
    refine gx_aload_n C dX1_finish_48 rfl ?_
    refine gx_aload_n C dX1_finish_49 rfl ?_
    refine gx_getR C 1 _ 1 rfl hF.1 rfl (by decide) nX1_finish_1 (gx_hts C _ fX1_finish_15) dX1_finish_50 ?_
    refine gx_aload_n C dX1_finish_53 rfl ?_
    refine gx_getR C 1 _ 0 rfl hF.1 rfl (by decide) nX1_finish_1 (gx_hts C _ fX1_finish_9) dX1_finish_54 ?_
    refine gx_aload_n C dX1_finish_57 rfl ?_
    refine gx_getR C 1 _ 0 rfl hF.1 rfl (by decide) nX1_finish_1 (gx_hts C _ fX1_finish_9) dX1_finish_58 ?_
    refine gx_callVN C 0 rfl (gd_13 hL) (c_X0_product hL b5 b1 (gd_F2 hF) (gd_F1 hF) (gd_F1 hF) (by omega) (by omega) (by omega) (by rw [r2]; exact o2 (by decide)) (by rw [r1]; exact o1) (by rw [b2]; exact b6)) (⟨va_cnB 3 (gx_hts C) gX1_finish_X0_product_n49 rfl rfl rfl ((gx_hN C).2 ("PeirceDesk$Frame", 49, yX0_product, "PeirceDesk") (by decide +kernel)) ((gx_hts C) (.initialized RX0) (by decide +kernel)) (by decide +kernel) ⟨Nat.le_of_ble_eq_true rfl, Nat.le_of_ble_eq_true rfl⟩, (gx_hts C) (.instanceMethod yX0_product) (by decide +kernel), (gx_hts C) (.selects RX0 yX0_product yX0_product) (by decide +kernel)⟩) rfl rfl (Nat.le_of_ble_eq_true rfl) ⟨Nat.le_refl _, Nat.le_refl _⟩ dX1_finish_61 (fun P h => ?_)
    rw [b2, r1, r2] at h
    refine gx_iconst C dX1_finish_64 ?_
    exact gx_zret C (by omega) dX1_finish_65 ⟨hG _ h.2, Or.inl ⟨_, by unfold fr_fn; rw [if_pos rfl], rfl, h.1⟩⟩
  · refine gx_tabIn C dX1_finish_4 (by unfold gx_3; omega) (by decide) (by decide) rfl (tgt := 84) (by decide) ?_
    refine gx_aload_n C dX1_finish_84 rfl ?_
    refine gx_aload_n C dX1_finish_85 rfl ?_
    refine gx_getR C 1 _ 1 rfl hF.1 rfl (by decide) nX1_finish_1 (gx_hts C _ fX1_finish_15) dX1_finish_86 ?_
    refine gx_aload_n C dX1_finish_89 rfl ?_
    refine gx_getR C 1 _ 2 rfl hF.1 rfl (by decide) nX1_finish_1 (gx_hts C _ fX1_finish_18) dX1_finish_90 ?_
    refine gx_aload_n C dX1_finish_93 rfl ?_
    refine gx_getR C 1 _ 0 rfl hF.1 rfl (by decide) nX1_finish_1 (gx_hts C _ fX1_finish_9) dX1_finish_94 ?_
    refine gx_aload_n C dX1_finish_97 rfl ?_
    refine gx_getR C 1 _ 0 rfl hF.1 rfl (by decide) nX1_finish_1 (gx_hts C _ fX1_finish_9) dX1_finish_98 ?_
    refine gx_callVN C 0 rfl (gd_13 hL) (c_X0_triple hL b5 b1 (gd_F2 hF) (gd_F3 hF) (gd_F1 hF) (gd_F1 hF) (by omega) (by omega) (by omega) (by omega) (by rw [r2]; exact o2 (by decide)) (by rw [r3]; exact o3 rfl) (by rw [r1]; exact o1) (by rw [b2]; exact b6)) (⟨va_cnB 4 (gx_hts C) gX1_finish_X0_triple_n58 rfl rfl rfl ((gx_hN C).2 ("PeirceDesk$Frame", 58, yX0_triple, "PeirceDesk") (by decide +kernel)) ((gx_hts C) (.initialized RX0) (by decide +kernel)) (by decide +kernel) ⟨Nat.le_of_ble_eq_true rfl, Nat.le_of_ble_eq_true rfl⟩, (gx_hts C) (.instanceMethod yX0_triple) (by decide +kernel), (gx_hts C) (.selects RX0 yX0_triple yX0_triple) (by decide +kernel)⟩) rfl rfl (Nat.le_of_ble_eq_true rfl) ⟨Nat.le_refl _, Nat.le_refl _⟩ dX1_finish_101 (fun P h => ?_)
    rw [b2, r1, r2, r3] at h
    refine gx_iconst C dX1_finish_104 ?_
    exact gx_zret C (by omega) dX1_finish_105 ⟨hG _ h.2, Or.inl ⟨_, by simp [fr_fn], rfl, h.1⟩⟩
  · refine gx_tabIn C dX1_finish_4 (by unfold gx_3; omega) (by decide) (by decide) rfl (tgt := 66) (by decide) ?_
    refine gx_aload_n C dX1_finish_66 rfl ?_
    refine gx_aload_n C dX1_finish_67 rfl ?_
    refine gx_getR C 1 _ 1 rfl hF.1 rfl (by decide) nX1_finish_1 (gx_hts C _ fX1_finish_15) dX1_finish_68 ?_
    refine gx_aload_n C dX1_finish_71 rfl ?_
    refine gx_getR C 1 _ 0 rfl hF.1 rfl (by decide) nX1_finish_1 (gx_hts C _ fX1_finish_9) dX1_finish_72 ?_
    refine gx_aload_n C dX1_finish_75 rfl ?_
    refine gx_getR C 1 _ 0 rfl hF.1 rfl (by decide) nX1_finish_1 (gx_hts C _ fX1_finish_9) dX1_finish_76 ?_
    refine gx_callVN C 0 rfl (gd_13 hL) (c_X0_operator hL b5 b1 (gd_F2 hF) (gd_F1 hF) (gd_F1 hF) (by omega) (by omega) (by omega) (by rw [r2]; exact o2 (by decide)) (by rw [r1]; exact o1) (by rw [b2]; exact b6)) (⟨va_cnB 3 (gx_hts C) gX1_finish_X0_operator_n55 rfl rfl rfl ((gx_hN C).2 ("PeirceDesk$Frame", 55, yX0_operator, "PeirceDesk") (by decide +kernel)) ((gx_hts C) (.initialized RX0) (by decide +kernel)) (by decide +kernel) ⟨Nat.le_of_ble_eq_true rfl, Nat.le_of_ble_eq_true rfl⟩, (gx_hts C) (.instanceMethod yX0_operator) (by decide +kernel), (gx_hts C) (.selects RX0 yX0_operator yX0_operator) (by decide +kernel)⟩) rfl rfl (Nat.le_of_ble_eq_true rfl) ⟨Nat.le_refl _, Nat.le_refl _⟩ dX1_finish_79 (fun P h => ?_)
    rw [b2, r1, r2] at h
    refine gx_iconst C dX1_finish_82 ?_
    exact gx_zret C (by omega) dX1_finish_83 ⟨hG _ h.2, Or.inl ⟨_, by simp [fr_fn], rfl, h.1⟩⟩
  · refine gx_tabIn C dX1_finish_4 (by unfold gx_3; omega) (by decide) (by decide) rfl (tgt := 106) (by decide) ?_
    refine gx_aload_n C dX1_finish_106 rfl ?_
    refine gx_aload_n C dX1_finish_107 rfl ?_
    refine gx_getR C 1 _ 0 rfl hF.1 rfl (by decide) nX1_finish_1 (gx_hts C _ fX1_finish_9) dX1_finish_108 ?_
    refine gx_aload_n C dX1_finish_111 rfl ?_
    refine gx_getR C 1 _ 0 rfl hF.1 rfl (by decide) nX1_finish_1 (gx_hts C _ fX1_finish_9) dX1_finish_112 ?_
    refine gx_callIN C 0 rfl (gd_13 hL) (c_X0_inverse hL b5 b0 b4 b1 (gd_F1 hF) (by omega) (gd_F1 hF) (by omega) (by rw [r1]; exact o1) (by rw [b3]; exact b7)) (⟨va_cnB 2 (gx_hts C) gX1_finish_X0_inverse_n62 rfl rfl rfl ((gx_hN C).2 ("PeirceDesk$Frame", 62, yX0_inverse, "PeirceDesk") (by decide +kernel)) ((gx_hts C) (.initialized RX0) (by decide +kernel)) (by decide +kernel) ⟨Nat.le_of_ble_eq_true rfl, Nat.le_of_ble_eq_true rfl⟩, (gx_hts C) (.instanceMethod yX0_inverse) (by decide +kernel), (gx_hts C) (.selects RX0 yX0_inverse yX0_inverse) (by decide +kernel)⟩) rfl rfl (Nat.le_of_ble_eq_true rfl) ⟨Nat.le_refl _, Nat.le_refl _⟩ dX1_finish_115 (fun z P h => ?_)
    rw [b3, r1] at h
    obtain ⟨q, M1, hD, h⟩ := h
    have e : ∀ o, (o = if (q.2.2 : Int) = n then some (mx_mul 3 m (mx_mul 3 m V (rr_inv q.1)) V) else none) → fr_fn m n U V ((S, F1, F2), (ar, 118, pl, sg, tm)) o := fun o ho => by
      unfold fr_fn
      simp only
      rw [if_neg (by decide), if_neg (by decide), if_neg (by decide), if_pos trivial]
      exact ⟨q, hD.1, ho⟩
    have hO := hD.2.2.2.2.2
    have fin : fr_G c M P ∧ ((∃ S', fr_fn m n U V ((S, F1, F2), (ar, 118, pl, sg, tm)) (some S') ∧ z = 1 ∧ mx_of (P (c + 1)) 0 = S') ∨ (fr_fn m n U V ((S, F1, F2), (ar, 118, pl, sg, tm)) none ∧ z = 0)) := by
      rcases h with ⟨h1, h2, h3⟩ | ⟨h1, h2, h3, h4⟩
      · exact ⟨fun c' _ c2 _ _ => by rw [h3, hO c' c2], Or.inr ⟨e none (if_neg h1).symm, h2⟩⟩
      · exact ⟨fun c' c1 c2 c3 _ => by rw [h4 c' c3 c1, hO c' c2], Or.inl ⟨_, e _ (if_pos h1).symm, h2, h3⟩⟩
    exact gx_zret C (by rcases h with ⟨_, h, _⟩ | ⟨_, h, _⟩ <;> omega) dX1_finish_118 fin
set_option maxRecDepth 100000 in
set_option maxHeartbeats 4000000 in
theorem c_X4_result {La : List gx_K} (hL : gd_H La) {M : gx_M} : gx_Cr La yX4_result wsX4_result 0 [gx_R 15] M (fun c M' => M' = M ∧ c = 155) := by
  have hF := gd_f hL 0 (by decide)
  refine gx_start_r (L := [gx_R 15]) (by decide) rfl rfl (Nat.le_of_ble_eq_true rfl) rfl ?_
  intro _ _ _ _ _ _ _ _ _ _ _ _ C
  refine gx_aload_n C dX4_result_0 rfl ?_
  refine gx_getR C 4 _ 0 rfl (gd_15 hL) rfl (by decide) nX4_result_4 (gx_hts C _ fX4_result_11) dX4_result_1 ?_
  refine gx_iconst C dX4_result_4 ?_
  refine gx_aaload C (gd_43 hL) (by decide) (by omega) dX4_result_5 (show _ = 154 + 4 * 0 from rfl) ?_
  refine gx_getRN C 1 _ 0 rfl hF.1 rfl (by decide) nX4_result_1 ((gx_hN C).1 ("PeirceDesk$Reckoner", 22, "PeirceDesk$Frame", "sum", "[I", "PeirceDesk") (by decide +kernel) |> va_Nw.use rfl) dX4_result_6 ?_
  exact gx_aret C (post := fun c M' => M' = M ∧ c = 155) dX4_result_9 ⟨rfl, rfl⟩
set_option maxRecDepth 100000 in
set_option maxHeartbeats 4000000 in
theorem c_X4_openBracket {La : List gx_K} (hL : gd_H La) {M : gx_M} {d : Nat} (hd : M 15 1 = (d : Int)) (hd2 : d + 1 < 30) {k p : Int} (hk : 0 ≤ k ∧ k < 65536) : gx_Cv La yX4_openBracket wsX4_openBracket 2 [gx_R 15, gx_I k, gx_I p] M (fun M' => M' 15 1 = ((d + 1 : Nat) : Int) ∧ (∃ a b, fr_R ((fun _ => 0, a, b), (0, k, p, 1, 1)) (154 + 4 * (d + 1)) M') ∧ ∀ c', c' ≠ 15 → (c' < 154 + 4 * (d + 1) ∨ 154 + 4 * (d + 1) + 4 ≤ c') → M' c' = M c') := by
  have hF := gd_f hL (d + 1) hd2
  refine gx_start_v (L := [gx_R 15, gx_I k, gx_I p]) (by decide) rfl rfl (Nat.le_of_ble_eq_true rfl) rfl ?_
  intro _ _ _ _ _ _ _ _ _ _ _ _ C
  refine gx_aload_n C dX4_openBracket_0 rfl ?_
  refine gx_getI C 4 _ 1 rfl (gd_15 hL) rfl (by decide) nX4_openBracket_4 (gx_hts C _ fX4_openBracket_25) dX4_openBracket_1 hd ?_
  refine gx_iconst C dX4_openBracket_4 ?_
  refine gx_iadd C dX4_openBracket_5 ?_
  refine gx_aload_n C dX4_openBracket_6 rfl ?_
  refine gx_getR C 4 _ 0 rfl (gd_15 hL) rfl (by decide) nX4_openBracket_4 (gx_hts C _ fX4_openBracket_11) dX4_openBracket_7 ?_
  refine gx_alen C (gd_43 hL) (by decide) dX4_openBracket_10 ?_
  refine gx_icmp_ge C dX4_openBracket_11 rfl (by unfold gx_3; omega) (by unfold gx_3; omega) (fun hb11 => absurd hb11 (by omega)) (fun hb11 => ?_)
  have e1 : gx_u M 15 1 ((d : Int) + 1) 15 1 = (d : Int) + 1 := gx_u_eq _ _ _ _
  refine gx_aload_n C dX4_openBracket_14 rfl ?_
  refine gx_dup C dX4_openBracket_15 rfl ?_
  refine gx_getI C 4 _ 1 rfl (gd_15 hL) rfl (by decide) nX4_openBracket_4 (gx_hts C _ fX4_openBracket_25) dX4_openBracket_16 hd ?_
  refine gx_iconst C dX4_openBracket_19 ?_
  refine gx_iadd C dX4_openBracket_20 ?_
  refine gx_putI C 4 _ 1 rfl (gd_15 hL) rfl (by decide) nX4_openBracket_4 tyX4 tyX4_ok nmX4 (gx_hts C _ fX4_openBracket_25) rfl rfl dX4_openBracket_21 ?_
  refine gx_aload_n C dX4_openBracket_24 rfl ?_
  refine gx_getR C 4 _ 0 rfl (gd_15 hL) rfl (by decide) nX4_openBracket_4 (gx_hts C _ fX4_openBracket_11) dX4_openBracket_25 ?_
  refine gx_aload_n C dX4_openBracket_28 rfl ?_
  refine gx_getI C 4 _ 1 rfl (gd_15 hL) rfl (by decide) nX4_openBracket_4 (gx_hts C _ fX4_openBracket_25) dX4_openBracket_29 e1 ?_
  refine gx_aaload C (gd_43 hL) (by decide) (by omega) dX4_openBracket_32 (show _ = 154 + 4 * (d + 1) by omega) ?_
  refine gx_iload_n C dX4_openBracket_33 rfl ?_
  refine gx_iload_n C dX4_openBracket_34 rfl ?_
  refine gx_callVN C 1 rfl hF.1 (c_X1_open hF hk) (⟨va_cnB 2 (gx_hts C) gX4_openBracket_X1_open_n29 rfl rfl rfl ((gx_hN C).2 ("PeirceDesk$Reckoner", 29, yX1_open, "PeirceDesk") (by decide +kernel)) ((gx_hts C) (.initialized RX1) (by decide +kernel)) (by decide +kernel) ⟨Nat.le_of_ble_eq_true rfl, Nat.le_of_ble_eq_true rfl⟩, (gx_hts C) (.instanceMethod yX1_open) (by decide +kernel), (gx_hts C) (.selects RX1 yX1_open yX1_open) (by decide +kernel)⟩) rfl rfl (Nat.le_of_ble_eq_true rfl) ⟨Nat.le_refl _, Nat.le_refl _⟩ dX4_openBracket_35 (fun P h => ?_)
  exact gx_vret C dX4_openBracket_38 ⟨by rw [h.2 15 (by omega), gx_u_eq]; omega, h.1, fun c' c1 c2 => by rw [h.2 c' c2, gx_u_nc c1]⟩
set_option maxRecDepth 100000 in
set_option maxHeartbeats 4000000 in
theorem c_X4_closeBracket {La : List gx_K} (hL : gd_H La) {M : gx_M} {d : Nat} (hd : M 15 1 = ((d + 1 : Nat) : Int)) (hd2 : d + 1 < 30) {f : fr_S} (hR : fr_R f (154 + 4 * d) M) {m : Int} (hm : 3 ≤ m ∧ m ≤ 11) (os : mx_ok m f.1.1) (hs : f.2.2.2.2.1 = 1 ∨ f.2.2.2.2.1 = -1) (ht : 0 ≤ f.2.2.2.2.2 ∧ f.2.2.2.2.2 ≤ 9) {A : Nat → Int} (eA : mx_of (M (154 + 4 * (d + 1) + 1)) 0 = A) (oA : mx_ok m A) : gx_Cv La yX4_closeBracket wsX4_closeBracket 2 [gx_R 15, gx_I m] M (fun M' => M' 15 1 = (d : Int) ∧ fr_R (fr_ad m f A) (154 + 4 * d) M' ∧ ∀ c', c' ≠ 15 → (c' < 154 + 4 * d ∨ 154 + 4 * d + 4 ≤ c') → M' c' = M c') := by
  have hF := gd_f hL d (by omega)
  have hF2 := gd_f hL (d + 1) hd2
  refine gx_start_v (L := [gx_R 15, gx_I m]) (by decide) rfl rfl (Nat.le_of_ble_eq_true rfl) rfl ?_
  intro _ _ _ _ _ _ _ _ _ _ _ _ C
  refine gx_aload_n C dX4_closeBracket_0 rfl ?_
  refine gx_getI C 4 _ 1 rfl (gd_15 hL) rfl (by decide) nX4_closeBracket_4 (gx_hts C _ fX4_closeBracket_25) dX4_closeBracket_1 hd ?_
  refine gx_if_le C dX4_closeBracket_4 rfl (by unfold gx_3; omega) (fun hb4 => absurd hb4 (by omega)) (fun hb4 => ?_)
  have e1 : gx_u M 15 1 ((d + 1 : Nat) - 1 : Int) 15 1 = (d : Int) := by rw [gx_u_eq]; omega
  have hR1 : fr_R f (154 + 4 * d) (gx_u M 15 1 ((d + 1 : Nat) - 1 : Int)) := by
    unfold fr_R
    rw [gx_u_nc (by omega), gx_u_nc (by omega), gx_u_nc (by omega), gx_u_nc (by omega)]
    exact hR
  have eA1 : mx_of (gx_u M 15 1 ((d + 1 : Nat) - 1 : Int) (154 + 4 * (d + 1) + 1)) 0 = A := by rw [gx_u_nc (by omega)]; exact eA
  refine gx_aload_n C dX4_closeBracket_7 rfl ?_
  refine gx_dup C dX4_closeBracket_8 rfl ?_
  refine gx_getI C 4 _ 1 rfl (gd_15 hL) rfl (by decide) nX4_closeBracket_4 (gx_hts C _ fX4_closeBracket_25) dX4_closeBracket_9 hd ?_
  refine gx_iconst C dX4_closeBracket_12 ?_
  refine gx_isub C dX4_closeBracket_13 ?_
  refine gx_putI C 4 _ 1 rfl (gd_15 hL) rfl (by decide) nX4_closeBracket_4 tyX4 tyX4_ok nmX4 (gx_hts C _ fX4_closeBracket_25) rfl rfl dX4_closeBracket_14 ?_
  refine gx_aload_n C dX4_closeBracket_17 rfl ?_
  refine gx_getR C 4 _ 0 rfl (gd_15 hL) rfl (by decide) nX4_closeBracket_4 (gx_hts C _ fX4_closeBracket_11) dX4_closeBracket_18 ?_
  refine gx_aload_n C dX4_closeBracket_21 rfl ?_
  refine gx_getI C 4 _ 1 rfl (gd_15 hL) rfl (by decide) nX4_closeBracket_4 (gx_hts C _ fX4_closeBracket_25) dX4_closeBracket_22 e1 ?_
  refine gx_aaload C (gd_43 hL) (by decide) (by omega) dX4_closeBracket_25 (show _ = 154 + 4 * d by omega) ?_
  refine gx_aload_n C dX4_closeBracket_26 rfl ?_
  refine gx_getR C 4 _ 0 rfl (gd_15 hL) rfl (by decide) nX4_closeBracket_4 (gx_hts C _ fX4_closeBracket_11) dX4_closeBracket_27 ?_
  refine gx_aload_n C dX4_closeBracket_30 rfl ?_
  refine gx_getI C 4 _ 1 rfl (gd_15 hL) rfl (by decide) nX4_closeBracket_4 (gx_hts C _ fX4_closeBracket_25) dX4_closeBracket_31 e1 ?_
  refine gx_iconst C dX4_closeBracket_34 ?_
  refine gx_iadd C dX4_closeBracket_35 ?_
  refine gx_aaload C (gd_43 hL) (by decide) (by omega) dX4_closeBracket_36 (show _ = 154 + 4 * (d + 1) by omega) ?_
  refine gx_getRN C 1 _ 0 rfl hF2.1 rfl (by decide) nX4_closeBracket_1 ((gx_hN C).1 ("PeirceDesk$Reckoner", 22, "PeirceDesk$Frame", "sum", "[I", "PeirceDesk") (by decide +kernel) |> va_Nw.use rfl) dX4_closeBracket_37 ?_
  refine gx_iload_n C dX4_closeBracket_40 rfl ?_
  refine gx_callVN C 1 rfl hF.1 (c_X1_add hF hR1 hm os hs ht (gd_F1 hF2) (by omega) eA1 oA) (⟨va_cnB 2 (gx_hts C) gX4_closeBracket_X1_add_n74 rfl rfl rfl ((gx_hN C).2 ("PeirceDesk$Reckoner", 74, yX1_add, "PeirceDesk") (by decide +kernel)) ((gx_hts C) (.initialized RX1) (by decide +kernel)) (by decide +kernel) ⟨Nat.le_of_ble_eq_true rfl, Nat.le_of_ble_eq_true rfl⟩, (gx_hts C) (.instanceMethod yX1_add) (by decide +kernel), (gx_hts C) (.selects RX1 yX1_add yX1_add) (by decide +kernel)⟩) rfl rfl (Nat.le_of_ble_eq_true rfl) ⟨Nat.le_refl _, Nat.le_refl _⟩ dX4_closeBracket_41 (fun P h => ?_)
  exact gx_vret C dX4_closeBracket_44 ⟨by rw [h.2 15 (by omega)]; exact e1, h.1, fun c' c1 c2 => by rw [h.2 c' c2, gx_u_nc c1]⟩
