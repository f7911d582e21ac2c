set_option maxRecDepth 100000 in
set_option maxHeartbeats 4000000 in
theorem c_X7_save {La : List gx_K} (hL : gd_H La) {M : gx_M} {s : sp_S} (hR : sd_R s M) {j : Int} (hj : gx_3 j) : gx_Ci La yX7_save wsX7_save 3 [gx_R 12, gx_I j] M (fun z M' => ∃ s', sp_save s j z s' ∧ sd_Q s' M M') := by
  have h0 := hR
  obtain ⟨g1, ⟨g2, nx, g3, g4, g5⟩, g6, g7, ⟨g8, g9⟩, g10⟩ := hR
  by_cases hok : 0 ≤ j ∧ j ≤ 1
  · have hS := gd_sl hL j.toNat (by omega)
    refine gx_start_i (L := [gx_R 12, gx_I j]) (by decide) rfl rfl (Nat.le_of_ble_eq_true rfl) rfl ?_
    intro _ _ _ _ _ _ _ _ _ _ _ _ C
    refine gx_iload_n C dX7_save_0 rfl ?_
    refine gx_if_lt C dX7_save_1 rfl hj (fun hb1 => absurd hb1 (by omega)) (fun hb1 => ?_)
    refine gx_iload_n C dX7_save_4 rfl ?_
    refine gx_iconst C dX7_save_5 ?_
    refine gx_icmp_lt C dX7_save_6 rfl hj (by unfold gx_3; omega) (fun hb6 => ?_) (fun hb6 => absurd (by omega) hb6)
    refine gx_aload_n C dX7_save_12 rfl ?_
    refine gx_getR C 7 _ 4 rfl (gd_12 hL) rfl (by decide) nX7_save_7 (gx_hts C _ fX7_save_39) dX7_save_13 ?_
    refine gx_iload_n C dX7_save_16 rfl ?_
    refine gx_aaload C (gd_17 hL) (by decide) (by omega) dX7_save_17 (show _ = 58 + 12 * j.toNat by omega) ?_
    refine gx_aload_n C dX7_save_18 rfl ?_
    refine gx_getR C 7 _ 0 rfl (gd_12 hL) rfl (by decide) nX7_save_7 (gx_hts C _ fX7_save_12) dX7_save_19 ?_
    refine gx_getRN C 0 _ 0 rfl (gd_13 hL) rfl (by decide) nX7_save_0 ((gx_hN C).1 ("PeirceDesk", 48, "PeirceDesk$Algebra", "now", "LPeirceDesk$State;", "PeirceDesk") (by decide +kernel) |> va_Nw.use rfl) dX7_save_22 ?_
    refine gx_callVN C 6 rfl hS.1 (c_X6_copyFrom hS (gd_now hL) (by omega)) (⟨va_cnB 1 (gx_hts C) gX7_save_X6_copyFrom_n191 rfl rfl rfl ((gx_hN C).2 ("PeirceDesk", 191, yX6_copyFrom, "PeirceDesk") (by decide +kernel)) ((gx_hts C) (.initialized RX6) (by decide +kernel)) (by decide +kernel) ⟨Nat.le_of_ble_eq_true rfl, Nat.le_of_ble_eq_true rfl⟩, (gx_hts C) (.instanceMethod yX6_copyFrom) (by decide +kernel), (gx_hts C) (.selects RX6 yX6_copyFrom yX6_copyFrom) (by decide +kernel)⟩) rfl rfl (Nat.le_of_ble_eq_true rfl) ⟨Nat.le_refl _, Nat.le_refl _⟩ dX7_save_25 (fun P h => ?_)
    obtain ⟨p1, p2, p3, p4⟩ := h
    have e46 : gx_u P 18 j.toNat 1 46 0 = s.1 81 := by rw [gx_u_nc (by decide), p4 46 (by omega)]; exact g1.1
    refine gx_aload_n C dX7_save_28 rfl ?_
    refine gx_getR C 7 _ 5 rfl (gd_12 hL) rfl (by decide) nX7_save_7 (gx_hts C _ fX7_save_44) dX7_save_29 ?_
    refine gx_iload_n C dX7_save_32 rfl ?_
    refine gx_iconst C dX7_save_33 ?_
    refine gx_bastore C (gd_18 hL) (by omega) (by omega) dX7_save_34 (show _ = j.toNat from rfl) ?_
    refine gx_aload_n C dX7_save_35 rfl ?_
    refine gx_getR C 7 _ 0 rfl (gd_12 hL) rfl (by decide) nX7_save_7 (gx_hts C _ fX7_save_12) dX7_save_36 ?_
    refine gx_getRN C 0 _ 0 rfl (gd_13 hL) rfl (by decide) nX7_save_0 ((gx_hN C).1 ("PeirceDesk", 48, "PeirceDesk$Algebra", "now", "LPeirceDesk$State;", "PeirceDesk") (by decide +kernel) |> va_Nw.use rfl) dX7_save_39 ?_
    refine gx_getIN C 6 _ 0 rfl (gd_now hL).1 rfl (by decide) nX7_save_6 ((gx_hN C).1 ("PeirceDesk", 52, "PeirceDesk$State", "size", "I", "PeirceDesk") (by decide +kernel) |> va_Nw.use rfl) dX7_save_42 e46 ?_
    have e : ∀ c, c ≠ 18 → (c < 58 + 12 * j.toNat ∨ 58 + 12 * j.toNat + 12 ≤ c) → gx_u P 18 j.toNat 1 c = M c := fun c a b => by rw [gx_u_nc a]; exact p4 c (by omega)
    have hnew : sd_st s.1 (58 + 12 * j.toNat) (gx_u P 18 j.toNat 1) := sd_stf (sd_cp g1 ⟨p1, p2, p3⟩) (fun c a b => gx_u_nc (by omega))
    have fin : sd_Q (s.1, s.2.1, (fun (i : Nat) => if (i : Int) = j then 1 else s.2.2.1.1 i, fun (i : Nat) => if (i : Int) = j then s.1 else s.2.2.1.2 i), s.2.2.2) M (gx_u P 18 j.toNat 1) := by
      refine ⟨⟨sd_stf g1 (fun c a b => e c (by omega) (by omega)), ⟨by rw [e 16 (by omega) (by omega)]; exact g2, nx, g3, by rw [e 16 (by omega) (by omega)]; exact g4, fun i hi => ?_⟩, fun i hi => ?_, fun i hi e1 => ?_, ⟨by rw [e 14 (by omega) (by omega)]; exact g8, fun i hi => by rw [e 41 (by omega) (by omega)]; exact g9 i hi⟩, fun k a b c d e1 => by rw [e 35 (by omega) (by omega)]; exact g10 k a b c d e1⟩, fun c hc => e c (by omega) (by omega)⟩
      · have h6 : (nx + 6 - s.2.1.1 + i) % 6 < 6 := Nat.mod_lt _ (by decide)
        exact sd_stf (g5 i hi) (fun c a b => e c (by omega) (by omega))
      · show _ = if (i : Int) = j then 1 else s.2.2.1.1 i
        by_cases ei : (i : Int) = j
        · rw [if_pos ei, show i = j.toNat by omega, gx_u_eq]
        · rw [if_neg ei, gx_u_ne (by omega), p4 18 (by omega)]
          exact g6 i hi
      · have e1 : (if (i : Int) = j then (1 : Int) else s.2.2.1.1 i) = 1 := e1
        show sd_st (if (i : Int) = j then s.1 else s.2.2.1.2 i) (58 + 12 * i) _
        by_cases ei : (i : Int) = j
        · rw [if_pos ei, show i = j.toNat by omega]
          exact hnew
        · rw [if_neg ei] at e1 ⊢
          exact sd_stf (g7 i hi e1) (fun c a b => e c (by omega) (by omega))
    exact gx_iret C dX7_save_45 ⟨_, by unfold sp_save; rw [if_pos hok]; exact ⟨rfl, rfl⟩, fin⟩
  · have bad : sp_save s j (-2) s := by unfold sp_save; rw [if_neg hok]; exact ⟨rfl, rfl⟩
    refine gx_start_i (L := [gx_R 12, gx_I j]) (by decide) rfl rfl (Nat.le_of_ble_eq_true rfl) rfl ?_
    intro _ _ _ _ _ _ _ _ _ _ _ _ C
    refine gx_iload_n C dX7_save_0 rfl ?_
    refine gx_if_lt C dX7_save_1 rfl hj (fun hb1 => ?_) (fun hb1 => ?_)
    · refine gx_bipush C dX7_save_9 rfl ?_
      exact gx_iret C dX7_save_11 ⟨s, bad, sd_XQ h0 (sd_Xr M)⟩
    · refine gx_iload_n C dX7_save_4 rfl ?_
      refine gx_iconst C dX7_save_5 ?_
      refine gx_icmp_lt C dX7_save_6 rfl hj (by unfold gx_3; omega) (fun hb6 => absurd hb6 (by omega)) (fun hb6 => ?_)
      refine gx_bipush C dX7_save_9 rfl ?_
      exact gx_iret C dX7_save_11 ⟨s, bad, sd_XQ h0 (sd_Xr M)⟩
set_option maxRecDepth 100000 in
set_option maxHeartbeats 4000000 in
theorem c_X7_restore {La : List gx_K} (hL : gd_H La) {M : gx_M} {s : sp_S} (hs : sp_ok s) (hR : sd_R s M) {j : Int} (hj : gx_3 j) : gx_Ci La yX7_restore wsX7_restore 4 [gx_R 12, gx_I j] M (fun z M' => ∃ s', sp_restore s j z s' ∧ sd_Q s' M M') := by
  have h0 := hR
  have hn6 := hs.2.1
  obtain ⟨g1, ⟨g2, nx, g3, g4, g5⟩, g6, g7, ⟨g8, g9⟩, g10⟩ := hR
  by_cases hok : 0 ≤ j ∧ j ≤ 1
  · have hS := gd_sl hL j.toNat (by omega)
    have hsv := g6 j.toNat (by omega)
    have hsv2 := hs.2.2.2.1 j.toNat (by omega)
    refine gx_start_i (L := [gx_R 12, gx_I j]) (by decide) rfl rfl (Nat.le_of_ble_eq_true rfl) rfl ?_
    intro _ _ _ _ _ _ _ _ _ _ _ _ C
    refine gx_iload_n C dX7_restore_0 rfl ?_
    refine gx_if_lt C dX7_restore_1 rfl hj (fun hb1 => absurd hb1 (by omega)) (fun hb1 => ?_)
    refine gx_iload_n C dX7_restore_4 rfl ?_
    refine gx_iconst C dX7_restore_5 ?_
    refine gx_icmp_lt C dX7_restore_6 rfl hj (by unfold gx_3; omega) (fun hb6 => ?_) (fun hb6 => absurd (by omega) hb6)
    refine gx_aload_n C dX7_restore_12 rfl ?_
    refine gx_getR C 7 _ 5 rfl (gd_12 hL) rfl (by decide) nX7_restore_7 (gx_hts C _ fX7_restore_44) dX7_restore_13 ?_
    refine gx_iload_n C dX7_restore_16 rfl ?_
    refine gx_baload C (gd_18 hL) (by omega) dX7_restore_17 hsv ?_
    refine gx_if_ne C dX7_restore_18 rfl (by unfold gx_3; omega) (fun hb18 => ?_) (fun hb18 => ?_)
    · refine gx_aload_n C dX7_restore_24 rfl ?_
      refine gx_getR C 7 _ 3 rfl (gd_12 hL) rfl (by decide) nX7_restore_7 (gx_hts C _ fX7_restore_33) dX7_restore_25 ?_
      refine gx_aload_n C dX7_restore_28 rfl ?_
      refine gx_getR C 7 _ 0 rfl (gd_12 hL) rfl (by decide) nX7_restore_7 (gx_hts C _ fX7_restore_12) dX7_restore_29 ?_
      refine gx_getRN C 0 _ 0 rfl (gd_13 hL) rfl (by decide) nX7_restore_0 ((gx_hN C).1 ("PeirceDesk", 48, "PeirceDesk$Algebra", "now", "LPeirceDesk$State;", "PeirceDesk") (by decide +kernel) |> va_Nw.use rfl) dX7_restore_32 ?_
      refine gx_callVN C 2 rfl (gd_16 hL) (c_X2_remember hL g4 g3 g2 hn6) (⟨va_cnB 1 (gx_hts C) gX7_restore_X2_remember_n56 rfl rfl rfl ((gx_hN C).2 ("PeirceDesk", 56, yX2_remember, "PeirceDesk") (by decide +kernel)) ((gx_hts C) (.initialized RX2) (by decide +kernel)) (by decide +kernel) ⟨Nat.le_of_ble_eq_true rfl, Nat.le_of_ble_eq_true rfl⟩, (gx_hts C) (.instanceMethod yX2_remember) (by decide +kernel), (gx_hts C) (.selects RX2 yX2_remember yX2_remember) (by decide +kernel)⟩) rfl rfl (Nat.le_of_ble_eq_true rfl) ⟨Nat.le_refl _, Nat.le_refl _⟩ dX7_restore_35 (fun P1 h => ?_)
      obtain ⟨r1, r2, r3, r4⟩ := h
      refine gx_aload_n C dX7_restore_38 rfl ?_
      refine gx_getR C 7 _ 0 rfl (gd_12 hL) rfl (by decide) nX7_restore_7 (gx_hts C _ fX7_restore_12) dX7_restore_39 ?_
      refine gx_getRN C 0 _ 0 rfl (gd_13 hL) rfl (by decide) nX7_restore_0 ((gx_hN C).1 ("PeirceDesk", 48, "PeirceDesk$Algebra", "now", "LPeirceDesk$State;", "PeirceDesk") (by decide +kernel) |> va_Nw.use rfl) dX7_restore_42 ?_
      refine gx_aload_n C dX7_restore_45 rfl ?_
      refine gx_getR C 7 _ 4 rfl (gd_12 hL) rfl (by decide) nX7_restore_7 (gx_hts C _ fX7_restore_39) dX7_restore_46 ?_
      refine gx_iload_n C dX7_restore_49 rfl ?_
      refine gx_aaload C (gd_17 hL) (by decide) (by omega) dX7_restore_50 (show _ = 58 + 12 * j.toNat by omega) ?_
      refine gx_callVN C 6 rfl (gd_now hL).1 (c_X6_copyFrom (gd_now hL) hS (by omega)) (⟨va_cnB 1 (gx_hts C) gX7_restore_X6_copyFrom_n191 rfl rfl rfl ((gx_hN C).2 ("PeirceDesk", 191, yX6_copyFrom, "PeirceDesk") (by decide +kernel)) ((gx_hts C) (.initialized RX6) (by decide +kernel)) (by decide +kernel) ⟨Nat.le_of_ble_eq_true rfl, Nat.le_of_ble_eq_true rfl⟩, (gx_hts C) (.instanceMethod yX6_copyFrom) (by decide +kernel), (gx_hts C) (.selects RX6 yX6_copyFrom yX6_copyFrom) (by decide +kernel)⟩) rfl rfl (Nat.le_of_ble_eq_true rfl) ⟨Nat.le_refl _, Nat.le_refl _⟩ dX7_restore_51 (fun P2 h => ?_)
      obtain ⟨p1, p2, p3, p4⟩ := h
      have hsl : sd_st (s.2.2.1.2 j.toNat) (58 + 12 * j.toNat) P1 := sd_stf (g7 j.toNat (by omega) (by omega)) (fun c a b => r4 c (by omega) (by omega))
      have hnow : sd_st (s.2.2.1.2 j.toNat) 46 P2 := sd_cp hsl ⟨p1, p2, p3⟩
      have fin := sd_push hn6 h0 g3 g5 r1 r2 r3 r4 (sd_Yo p4) hnow
      refine gx_aload_n C dX7_restore_54 rfl ?_
      refine gx_getR C 7 _ 0 rfl (gd_12 hL) rfl (by decide) nX7_restore_7 (gx_hts C _ fX7_restore_12) dX7_restore_55 ?_
      refine gx_getRN C 0 _ 0 rfl (gd_13 hL) rfl (by decide) nX7_restore_0 ((gx_hN C).1 ("PeirceDesk", 48, "PeirceDesk$Algebra", "now", "LPeirceDesk$State;", "PeirceDesk") (by decide +kernel) |> va_Nw.use rfl) dX7_restore_58 ?_
      refine gx_getIN C 6 _ 0 rfl (gd_now hL).1 rfl (by decide) nX7_restore_6 ((gx_hN C).1 ("PeirceDesk", 52, "PeirceDesk$State", "size", "I", "PeirceDesk") (by decide +kernel) |> va_Nw.use rfl) dX7_restore_61 hnow.1 ?_
      exact gx_iret C dX7_restore_64 ⟨_, by unfold sp_restore; rw [if_pos hok, if_pos (by omega)]; exact ⟨rfl, rfl⟩, fin⟩
    · refine gx_bipush C dX7_restore_21 rfl ?_
      exact gx_iret C dX7_restore_23 ⟨s, by unfold sp_restore; rw [if_pos hok, if_neg (by omega)]; exact ⟨rfl, rfl⟩, sd_XQ h0 (sd_Xr M)⟩
  · have bad : sp_restore s j (-2) s := by unfold sp_restore; rw [if_neg hok]; exact ⟨rfl, rfl⟩
    refine gx_start_i (L := [gx_R 12, gx_I j]) (by decide) rfl rfl (Nat.le_of_ble_eq_true rfl) rfl ?_
    intro _ _ _ _ _ _ _ _ _ _ _ _ C
    refine gx_iload_n C dX7_restore_0 rfl ?_
    refine gx_if_lt C dX7_restore_1 rfl hj (fun hb1 => ?_) (fun hb1 => ?_)
    · refine gx_bipush C dX7_restore_9 rfl ?_
      exact gx_iret C dX7_restore_11 ⟨s, bad, sd_XQ h0 (sd_Xr M)⟩
    · refine gx_iload_n C dX7_restore_4 rfl ?_
      refine gx_iconst C dX7_restore_5 ?_
      refine gx_icmp_lt C dX7_restore_6 rfl hj (by unfold gx_3; omega) (fun hb6 => absurd hb6 (by omega)) (fun hb6 => ?_)
      refine gx_bipush C dX7_restore_9 rfl ?_
      exact gx_iret C dX7_restore_11 ⟨s, bad, sd_XQ h0 (sd_Xr M)⟩
set_option maxRecDepth 100000 in
theorem mx_inv_id {n m : Int} (hn : n = 2 ∨ n = 3) (hm : m = 3 ∨ m = 5 ∨ m = 7 ∨ m = 11) : mx_inv n.toNat m (mx_id n) = mx_id n := by
  have key : ∀ k : Fin 9, mx_inv n.toNat m (mx_id n) k.val = mx_id n k.val := by
    rcases hn with rfl | rfl <;> rcases hm with rfl | rfl | rfl | rfl <;> decide +kernel
  funext k
  by_cases h : k < 9
  · exact key ⟨k, h⟩
  · rw [mx_id_9 (by omega) k (by omega)]
    exact mx_inv_9 k (by omega)
set_option maxRecDepth 100000 in
set_option maxHeartbeats 4000000 in
theorem c_X7_begin {La : List gx_K} (hL : gd_H La) {M : gx_M} {s : sp_S} (hs : sp_ok s) (hR : sd_R s M) {a b : Int} (ha : gx_3 a) (hb : gx_3 b) : gx_Ci La yX7_begin wsX7_begin 4 [gx_R 12, gx_I a, gx_I b] M (fun z M' => ∃ s', sp_begin s a b z s' ∧ sd_Q s' M M') := by
  have h0 := hR
  have hn6 := hs.2.1
  obtain ⟨g1, ⟨g2, nx, g3, g4, g5⟩, g6, g7, ⟨g8, g9⟩, g10⟩ := hR
  have bad : ¬ ((a = 2 ∨ a = 3) ∧ (b = 3 ∨ b = 5 ∨ b = 7 ∨ b = 11)) → ∃ s', sp_begin s a b (-2) s' ∧ sd_Q s' M M := fun h => ⟨s, by unfold sp_begin; rw [if_neg h]; exact ⟨rfl, rfl⟩, sd_XQ h0 (sd_Xr M)⟩
  refine gx_start_i (L := [gx_R 12, gx_I a, gx_I b, gx_U]) (by decide) rfl rfl (Nat.le_of_ble_eq_true rfl) rfl ?_
  intro _ _ _ _ _ _ _ _ _ _ _ _ C
  refine gx_cut 13 (fun (_ : Int) => [gx_R 12, gx_I a, gx_I b, gx_U]) (fun _ => []) (fun _ => M) (fun _ => a = 2 ∨ a = 3) (fun v hva => ?_) (fun at13 => ?_)
  · refine gx_cut 38 (fun (_ : Int) => [gx_R 12, gx_I a, gx_I b, gx_U]) (fun _ => []) (fun _ => M) (fun _ => b = 3 ∨ b = 5 ∨ b = 7 ∨ b = 11) (fun v hvb => ?_) (fun at38 => ?_)
    · refine gx_aload_n C dX7_begin_38 rfl ?_
      refine gx_getR C 7 _ 0 rfl (gd_12 hL) rfl (by decide) nX7_begin_7 (gx_hts C _ fX7_begin_12) dX7_begin_39 ?_
      refine gx_getRN C 0 _ 0 rfl (gd_13 hL) rfl (by decide) nX7_begin_0 ((gx_hN C).1 ("PeirceDesk", 48, "PeirceDesk$Algebra", "now", "LPeirceDesk$State;", "PeirceDesk") (by decide +kernel) |> va_Nw.use rfl) dX7_begin_42 ?_
      refine gx_getIN C 6 _ 0 rfl (gd_now hL).1 rfl (by decide) nX7_begin_6 ((gx_hN C).1 ("PeirceDesk", 52, "PeirceDesk$State", "size", "I", "PeirceDesk") (by decide +kernel) |> va_Nw.use rfl) dX7_begin_45 g1.1 ?_
      refine gx_istore_n C dX7_begin_48 (by decide) rfl ?_
      refine gx_aload_n C dX7_begin_49 rfl ?_
      refine gx_getR C 7 _ 3 rfl (gd_12 hL) rfl (by decide) nX7_begin_7 (gx_hts C _ fX7_begin_33) dX7_begin_50 ?_
      refine gx_aload_n C dX7_begin_53 rfl ?_
      refine gx_getR C 7 _ 0 rfl (gd_12 hL) rfl (by decide) nX7_begin_7 (gx_hts C _ fX7_begin_12) dX7_begin_54 ?_
      refine gx_getRN C 0 _ 0 rfl (gd_13 hL) rfl (by decide) nX7_begin_0 ((gx_hN C).1 ("PeirceDesk", 48, "PeirceDesk$Algebra", "now", "LPeirceDesk$State;", "PeirceDesk") (by decide +kernel) |> va_Nw.use rfl) dX7_begin_57 ?_
      refine gx_callVN C 2 rfl (gd_16 hL) (c_X2_remember hL g4 g3 g2 hn6) (⟨va_cnB 1 (gx_hts C) gX7_begin_X2_remember_n56 rfl rfl rfl ((gx_hN C).2 ("PeirceDesk", 56, yX2_remember, "PeirceDesk") (by decide +kernel)) ((gx_hts C) (.initialized RX2) (by decide +kernel)) (by decide +kernel) ⟨Nat.le_of_ble_eq_true rfl, Nat.le_of_ble_eq_true rfl⟩, (gx_hts C) (.instanceMethod yX2_remember) (by decide +kernel), (gx_hts C) (.selects RX2 yX2_remember yX2_remember) (by decide +kernel)⟩) rfl rfl (Nat.le_of_ble_eq_true rfl) ⟨Nat.le_refl _, Nat.le_refl _⟩ dX7_begin_60 (fun P1 h => ?_)
      obtain ⟨r1, r2, r3, r4⟩ := h
      refine gx_aload_n C dX7_begin_63 rfl ?_
      refine gx_getR C 7 _ 0 rfl (gd_12 hL) rfl (by decide) nX7_begin_7 (gx_hts C _ fX7_begin_12) dX7_begin_64 ?_
      refine gx_getRN C 0 _ 0 rfl (gd_13 hL) rfl (by decide) nX7_begin_0 ((gx_hN C).1 ("PeirceDesk", 48, "PeirceDesk$Algebra", "now", "LPeirceDesk$State;", "PeirceDesk") (by decide +kernel) |> va_Nw.use rfl) dX7_begin_67 ?_
      refine gx_iload_n C dX7_begin_70 rfl ?_
      refine gx_iload_n C dX7_begin_71 rfl ?_
      refine gx_callVN C 6 rfl (gd_now hL).1 (c_X6_clear (gd_now hL) hva) (⟨va_cnB 2 (gx_hts C) gX7_begin_X6_clear_n60 rfl rfl rfl ((gx_hN C).2 ("PeirceDesk", 60, yX6_clear, "PeirceDesk") (by decide +kernel)) ((gx_hts C) (.initialized RX6) (by decide +kernel)) (by decide +kernel) ⟨Nat.le_of_ble_eq_true rfl, Nat.le_of_ble_eq_true rfl⟩, (gx_hts C) (.instanceMethod yX6_clear) (by decide +kernel), (gx_hts C) (.selects RX6 yX6_clear yX6_clear) (by decide +kernel)⟩) rfl rfl (Nat.le_of_ble_eq_true rfl) ⟨Nat.le_refl _, Nat.le_refl _⟩ dX7_begin_72 (fun P2 h => ?_)
      obtain ⟨p1, p2, p3, p4, p5, p6⟩ := h
      have e81 : zs_new a b 81 = a := rfl
      have e82 : zs_new a b 82 = b := rfl
      have hbase : mx_of (zs_new a b) 72 = mx_id a := by
        have := zs_new_el (m := b) hva (r := 8) (by decide)
        unfold zs_el at this
        rw [if_pos (by decide), if_pos rfl] at this
        exact this
      have hnow : sd_st (zs_new a b) 46 P2 := by
        refine ⟨p1, p2, fun r hr => ?_⟩
        by_cases e9 : r = 9
        · rw [e9, p5]
          unfold zs_el
          rw [if_neg (by decide), e81, e82, hbase, mx_inv_id hva hvb]
        · rw [zs_new_el hva (by omega)]
          by_cases e8 : r = 8
          · rw [if_pos e8, e8]
            exact p4
          · rw [if_neg e8]
            exact p3 r (by omega)
      have fin := sd_push hn6 h0 g3 g5 r1 r2 r3 r4 (sd_Yo p6) hnow
      refine gx_iload_n C dX7_begin_75 rfl ?_
      exact gx_iret C dX7_begin_76 ⟨_, by unfold sp_begin; rw [if_pos ⟨hva, hvb⟩]; exact ⟨rfl, rfl⟩, fin⟩
    · refine gx_iload_n C dX7_begin_13 rfl ?_
      refine gx_iconst C dX7_begin_14 ?_
      refine gx_icmp_eq C dX7_begin_15 rfl hb (by unfold gx_3; omega) (fun hb15 => ?_) (fun hb15 => ?_)
      · exact at38 0 (by omega)
      · refine gx_iload_n C dX7_begin_18 rfl ?_
        refine gx_iconst C dX7_begin_19 ?_
        refine gx_icmp_eq C dX7_begin_20 rfl hb (by unfold gx_3; omega) (fun hb20 => ?_) (fun hb20 => ?_)
        · exact at38 0 (by omega)
        · refine gx_iload_n C dX7_begin_23 rfl ?_
          refine gx_bipush C dX7_begin_24 rfl ?_
          refine gx_icmp_eq C dX7_begin_26 rfl hb (by unfold gx_3; omega) (fun hb26 => ?_) (fun hb26 => ?_)
          · exact at38 0 (by omega)
          · refine gx_iload_n C dX7_begin_29 rfl ?_
            refine gx_bipush C dX7_begin_30 rfl ?_
            refine gx_icmp_eq C dX7_begin_32 rfl hb (by unfold gx_3; omega) (fun hb32 => ?_) (fun hb32 => ?_)
            · exact at38 0 (by omega)
            · refine gx_bipush C dX7_begin_35 rfl ?_
              exact gx_iret C dX7_begin_37 (bad (by omega))
  · refine gx_iload_n C dX7_begin_0 rfl ?_
    refine gx_iconst C dX7_begin_1 ?_
    refine gx_icmp_eq C dX7_begin_2 rfl ha (by unfold gx_3; omega) (fun hb2 => ?_) (fun hb2 => ?_)
    · exact at13 0 (by omega)
    · refine gx_iload_n C dX7_begin_5 rfl ?_
      refine gx_iconst C dX7_begin_6 ?_
      refine gx_icmp_eq C dX7_begin_7 rfl ha (by unfold gx_3; omega) (fun hb7 => ?_) (fun hb7 => ?_)
      · exact at13 0 (by omega)
      · refine gx_bipush C dX7_begin_10 rfl ?_
        exact gx_iret C dX7_begin_12 (bad (by omega))
