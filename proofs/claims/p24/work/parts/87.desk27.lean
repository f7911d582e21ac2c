set_option maxRecDepth 100000 in
set_option maxHeartbeats 4000000 in
theorem c_X7_registersNotZero {La : List gx_K} (hL : gd_H La) {M : gx_M} {s : sp_S} (hs : sp_ok s) (hR : sd_R s M) : gx_Ci La yX7_registersNotZero wsX7_registersNotZero 1 [gx_R 12] M (fun z M' => mx_bit (fun r => ¬ zs_el s.1 r = fun _ => 0) 8 z ∧ M' = M) := by
  have hm : s.1 82 ≤ 11 := by have := hs.1.2.1; omega
  refine gx_start_i (L := [gx_R 12, gx_U, gx_U]) (by decide) rfl rfl (Nat.le_of_ble_eq_true rfl) rfl ?_
  intro _ _ _ _ _ _ _ _ _ _ _ _ C
  refine gx_iconst C dX7_registersNotZero_0 ?_
  refine gx_istore_n C dX7_registersNotZero_1 (by decide) rfl ?_
  refine gx_iconst C dX7_registersNotZero_2 ?_
  refine gx_istore_n C dX7_registersNotZero_3 (by decide) rfl ?_
  refine gx_for 8 (fun r (y : Int) => [gx_R 12, gx_I y, gx_I (r : Int)]) (fun _ => M) (fun r y => mx_bit (fun r => ¬ zs_el s.1 r = fun _ => 0) r y) 0 0 (by omega) rfl (fun r y hr h1 ih => ?_) (fun y hI => ?_)
  · have hel := gd_el hL (r := r) (by omega)
    have hyb := mx_bit_b r y h1
    have hv := sp_Vel hs (r := r) (by omega)
    refine gx_iload_n C dX7_registersNotZero_4 rfl ?_
    refine gx_bipush C dX7_registersNotZero_5 rfl ?_
    refine gx_icmp_ge C dX7_registersNotZero_7 rfl (by unfold gx_3; omega) (by unfold gx_3; omega) (fun hb7 => absurd hb7 (by omega)) (fun hb7 => ?_)
    refine gx_aload_n C dX7_registersNotZero_10 rfl ?_
    refine gx_getR C 7 _ 0 rfl (gd_12 hL) rfl (by decide) nX7_registersNotZero_7 (gx_hts C _ fX7_registersNotZero_12) dX7_registersNotZero_11 ?_
    refine gx_getRN C 0 _ 0 rfl (gd_13 hL) rfl (by decide) nX7_registersNotZero_0 ((gx_hN C).1 ("PeirceDesk", 48, "PeirceDesk$Algebra", "now", "LPeirceDesk$State;", "PeirceDesk") (by decide +kernel) |> va_Nw.use rfl) dX7_registersNotZero_14 ?_
    refine gx_getRN C 6 _ 2 rfl (gd_now hL).1 rfl (by decide) nX7_registersNotZero_6 ((gx_hN C).1 ("PeirceDesk", 75, "PeirceDesk$State", "elements", "[[I", "PeirceDesk") (by decide +kernel) |> va_Nw.use rfl) dX7_registersNotZero_17 ?_
    refine gx_iload_n C dX7_registersNotZero_20 rfl ?_
    refine gx_aaload C (gd_now hL).2.1 (by decide) (by omega) dX7_registersNotZero_21 (show _ = 48 + 1 * r from rfl) ?_
    refine gx_statI C (c_X7_isZero (m := s.1 82) hm hel (by rw [sd_el hR (by omega)]; exact hv.1)) (cwS 1 (gx_hts C) gX7_registersNotZero_X7_isZero rfl rfl rfl (by decide +kernel) ⟨Nat.le_of_ble_eq_true rfl, Nat.le_of_ble_eq_true rfl⟩) rfl rfl (Nat.le_of_ble_eq_true rfl) ⟨Nat.le_refl _, Nat.le_refl _⟩ dX7_registersNotZero_22 (fun z P2 hz => ?_)
    obtain ⟨rfl, k1, k2⟩ := hz
    rw [sd_el hR (by omega)] at k2
    refine gx_if_ne C dX7_registersNotZero_25 rfl (by unfold gx_3; omega) (fun hb25 => ?_) (fun hb25 => ?_)
    · refine gx_iinc C dX7_registersNotZero_34 (by decide) rfl rfl ?_
      refine gx_goto C dX7_registersNotZero_37 rfl ?_
      exact ih y ⟨y, h1, Or.inr ⟨fun h => h (k2.mp (by omega)), rfl⟩⟩
    · have hy : y < 256 := by
        have hp : (2 : Nat) ^ r ≤ 2 ^ 8 := Nat.pow_le_pow_right (by decide) (by omega)
        omega
      have e1 := gx_sh1 ⟨r, hr⟩
      have e2 := gx_or1 ⟨r, hr⟩ ⟨y.toNat, by omega⟩ (by show y.toNat < 2 ^ r; omega)
      simp only [show ((y.toNat : Nat) : Int) = y by omega] at e2
      refine gx_iload_n C dX7_registersNotZero_28 rfl ?_
      refine gx_iconst C dX7_registersNotZero_29 ?_
      refine gx_iload_n C dX7_registersNotZero_30 rfl ?_
      refine gx_ishl C dX7_registersNotZero_31 e1 ?_
      refine gx_ior C dX7_registersNotZero_32 e2 ?_
      refine gx_istore_n C dX7_registersNotZero_33 (by decide) rfl ?_
      refine gx_iinc C dX7_registersNotZero_34 (by decide) rfl rfl ?_
      refine gx_goto C dX7_registersNotZero_37 rfl ?_
      exact ih (((y.toNat + 2 ^ r : Nat) : Int)) ⟨y, h1, Or.inl ⟨fun h => absurd (k2.mpr h) (by omega), by omega⟩⟩
  · refine gx_iload_n C dX7_registersNotZero_4 rfl ?_
    refine gx_bipush C dX7_registersNotZero_5 rfl ?_
    refine gx_icmp_ge C dX7_registersNotZero_7 rfl (by unfold gx_3; omega) (by unfold gx_3; omega) (fun hb7 => ?_) (fun hb7 => absurd (by omega) hb7)
    refine gx_iload_n C dX7_registersNotZero_40 rfl ?_
    exact gx_iret C dX7_registersNotZero_41 ⟨hI, rfl⟩
set_option maxRecDepth 100000 in
set_option maxHeartbeats 4000000 in
theorem c_X7_count {La : List gx_K} (hL : gd_H La) {M : gx_M} {s : sp_S} (hs : sp_ok s) (hR : sd_R s M) {w : Int} (hw : gx_3 w) : gx_Ci La yX7_count wsX7_count 5 [gx_R 12, gx_I w] M (fun z M' => sp_count s w z ∧ sd_X M M') := by
  have h0 := hR
  obtain ⟨g1, ⟨g2, nx, g3, g4, g5⟩, g6, g7, ⟨g8, g9⟩, g10⟩ := hR
  refine gx_start_i (L := [gx_R 12, gx_I w]) (by decide) rfl rfl (Nat.le_of_ble_eq_true rfl) rfl ?_
  intro _ _ _ _ _ _ _ _ _ _ _ _ C
  refine gx_iload_n C dX7_count_0 rfl ?_
  by_cases hok : 0 ≤ w ∧ w ≤ 5
  · rcases (show w = 0 ∨ w = 1 ∨ w = 2 ∨ w = 3 ∨ w = 4 ∨ w = 5 by omega) with rfl | rfl | rfl | rfl | rfl | rfl
    · refine gx_tabIn C dX7_count_1 hw (by decide) (by decide) rfl (tgt := 40) (by decide) ?_
      refine gx_aload_n C dX7_count_40 rfl ?_
      refine gx_getR C 7 _ 0 rfl (gd_12 hL) rfl (by decide) nX7_count_7 (gx_hts C _ fX7_count_12) dX7_count_41 ?_
      refine gx_getRN C 0 _ 0 rfl (gd_13 hL) rfl (by decide) nX7_count_0 ((gx_hN C).1 ("PeirceDesk", 48, "PeirceDesk$Algebra", "now", "LPeirceDesk$State;", "PeirceDesk") (by decide +kernel) |> va_Nw.use rfl) dX7_count_44 ?_
      refine gx_getIN C 6 _ 0 rfl (gd_now hL).1 rfl (by decide) nX7_count_6 ((gx_hN C).1 ("PeirceDesk", 52, "PeirceDesk$State", "size", "I", "PeirceDesk") (by decide +kernel) |> va_Nw.use rfl) dX7_count_47 g1.1 ?_
      exact gx_iret C dX7_count_50 ⟨by simp [sp_count], sd_Xr M⟩
    · refine gx_tabIn C dX7_count_1 hw (by decide) (by decide) rfl (tgt := 51) (by decide) ?_
      refine gx_aload_n C dX7_count_51 rfl ?_
      refine gx_getR C 7 _ 0 rfl (gd_12 hL) rfl (by decide) nX7_count_7 (gx_hts C _ fX7_count_12) dX7_count_52 ?_
      refine gx_getRN C 0 _ 0 rfl (gd_13 hL) rfl (by decide) nX7_count_0 ((gx_hN C).1 ("PeirceDesk", 48, "PeirceDesk$Algebra", "now", "LPeirceDesk$State;", "PeirceDesk") (by decide +kernel) |> va_Nw.use rfl) dX7_count_55 ?_
      refine gx_getIN C 6 _ 1 rfl (gd_now hL).1 rfl (by decide) nX7_count_6 ((gx_hN C).1 ("PeirceDesk", 72, "PeirceDesk$State", "modulus", "I", "PeirceDesk") (by decide +kernel) |> va_Nw.use rfl) dX7_count_58 g1.2.1 ?_
      exact gx_iret C dX7_count_61 ⟨by simp [sp_count], sd_Xr M⟩
    · refine gx_tabIn C dX7_count_1 hw (by decide) (by decide) rfl (tgt := 62) (by decide) ?_
      refine gx_aload_n C dX7_count_62 rfl ?_
      refine gx_callI C 7 rfl (gd_12 hL) (c_X7_registersNotZero hL hs h0) (cwV 0 (gx_hts C) gX7_count_X7_registersNotZero rfl rfl rfl (by decide +kernel) ⟨Nat.le_of_ble_eq_true rfl, Nat.le_of_ble_eq_true rfl⟩) rfl rfl (Nat.le_of_ble_eq_true rfl) ⟨Nat.le_refl _, Nat.le_refl _⟩ dX7_count_63 (fun z P hz => ?_)
      obtain ⟨hz, rfl⟩ := hz
      exact gx_iret C dX7_count_66 ⟨by simpa [sp_count] using hz, sd_Xr _⟩
    · refine gx_tabIn C dX7_count_1 hw (by decide) (by decide) rfl (tgt := 67) (by decide) ?_
      refine gx_aload_n C dX7_count_67 rfl ?_
      refine gx_callI C 7 rfl (gd_12 hL) (c_X7_registersOwnSquares hL hs h0) (cwV 0 (gx_hts C) gX7_count_X7_registersOwnSquares rfl rfl rfl (by decide +kernel) ⟨Nat.le_of_ble_eq_true rfl, Nat.le_of_ble_eq_true rfl⟩) rfl rfl (Nat.le_of_ble_eq_true rfl) ⟨Nat.le_refl _, Nat.le_refl _⟩ dX7_count_68 (fun z P hz => ?_)
      exact gx_iret C dX7_count_71 ⟨by simpa [sp_count] using hz.1, hz.2⟩
    · refine gx_tabIn C dX7_count_1 hw (by decide) (by decide) rfl (tgt := 72) (by decide) ?_
      refine gx_aload_n C dX7_count_72 rfl ?_
      refine gx_getR C 7 _ 1 rfl (gd_12 hL) rfl (by decide) nX7_count_7 (gx_hts C _ fX7_count_19) dX7_count_73 ?_
      refine gx_getIN C 3 _ 1 rfl (gd_14 hL) rfl (by decide) nX7_count_3 ((gx_hN C).1 ("PeirceDesk", 122, "PeirceDesk$Pad", "length", "I", "PeirceDesk") (by decide +kernel) |> va_Nw.use rfl) dX7_count_76 g8 ?_
      exact gx_iret C dX7_count_79 ⟨by simp [sp_count], sd_Xr M⟩
    · refine gx_tabIn C dX7_count_1 hw (by decide) (by decide) rfl (tgt := 80) (by decide) ?_
      refine gx_aload_n C dX7_count_80 rfl ?_
      refine gx_getR C 7 _ 3 rfl (gd_12 hL) rfl (by decide) nX7_count_7 (gx_hts C _ fX7_count_33) dX7_count_81 ?_
      refine gx_getIN C 2 _ 2 rfl (gd_16 hL) rfl (by decide) nX7_count_2 ((gx_hN C).1 ("PeirceDesk", 149, "PeirceDesk$History", "length", "I", "PeirceDesk") (by decide +kernel) |> va_Nw.use rfl) dX7_count_84 g2 ?_
      exact gx_iret C dX7_count_87 ⟨by simp [sp_count], sd_Xr M⟩
  · refine gx_tabOut C dX7_count_1 hw (by omega) (tgt := 88) (by decide) ?_
    refine gx_bipush C dX7_count_88 rfl ?_
    exact gx_iret C dX7_count_90 ⟨by unfold sp_count; rw [if_neg (by omega), if_neg (by omega), if_neg (by omega), if_neg (by omega), if_neg (by omega), if_neg (by omega)], sd_Xr M⟩
