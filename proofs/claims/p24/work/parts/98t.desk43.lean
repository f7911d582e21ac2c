/-! the desk: fault, howMany, partSize -/
theorem sd_T {s : sp_S} (hs : sp_ok s) {M : gx_M} (hR : sd_R s M) : pd_T s.2.2.2.2 s.2.2.2.1 M := by
  obtain ⟨-, -, -, -, ⟨h8, h9⟩, -⟩ := hR
  exact ⟨h8, hs.2.2.2.2.2.1, fun i hi => ⟨h9 i hi, hs.2.2.2.2.2.2 i hi⟩⟩
theorem sd_XF {M M' : gx_M} (h : pd_F M M') : sd_X M M' := ⟨fun c hc => h.1 c (by omega) (by omega), h.2, fun k _ _ _ _ _ => by rw [h.1 35 (by decide) (by decide)]⟩
theorem sd_XO {M M' : gx_M} (h : rr_O M M') : sd_X M M' := ⟨fun c hc => h c (by omega), by rw [h 14 (by omega)], fun k _ _ _ _ _ => by rw [h 35 (by omega)]⟩
theorem sd_Qx {s' : sp_S} {M P M' : gx_M} (x : sd_X M P) (h : sd_Q s' P M') : sd_Q s' M M' := ⟨h.1, fun c hc => (h.2 c hc).trans (x.1 c (by omega))⟩
theorem sp_gj {s : sp_S} (hs : sp_ok s) {a : Nat → Int} (ha : sp_V s a) {q : rr_S} (hq : rr_run (s.1 82) (rr_ld (s.1 81) a, 1, 0) 3 q) : mx_rank (zs_nn s) (s.1 82) a = q.2.2 ∧ (if (q.2.2 : Int) = s.1 81 then q.2.1 % s.1 82 else 0) = mx_det (zs_nn s) (s.1 82) a ∧ ((q.2.2 : Int) = s.1 81 ↔ mx_det (zs_nn s) (s.1 82) a ≠ 0) ∧ ((q.2.2 : Int) = s.1 81 → rr_inv q.1 = mx_inv (zs_nn s) (s.1 82) a) := by
  have hni : s.1 81 = ((zs_nn s : Nat) : Int) := by have := hs.1.1; unfold zs_nn; omega
  rw [hni] at hq ⊢
  obtain ⟨c1, c2, c3, c4, c5⟩ := ls_gj (sp_nn hs) (sp_p hs) ha hq
  exact ⟨c1, c2, c3, c4⟩
set_option maxRecDepth 100000 in
set_option maxHeartbeats 4000000 in
theorem c_X7_fault {La : List gx_K} (hL : gd_H La) {M : gx_M} {s : sp_S} (hs : sp_ok s) (hR : sd_R s M) : gx_Ci La yX7_fault wsX7_fault 4 [gx_R 12] M (fun z M' => pm_flt s z ∧ sd_X M M') := by
  refine gx_start_i (L := [gx_R 12]) (by decide) rfl rfl (Nat.le_of_ble_eq_true rfl) rfl ?_
  intro _ _ _ _ _ _ _ _ _ _ _ _ C
  refine gx_aload_n C dX7_fault_0 rfl ?_
  refine gx_getR C 7 _ 1 rfl (gd_12 hL) rfl (by decide) nX7_fault_7 (gx_hts C _ fX7_fault_19) dX7_fault_1 ?_
  refine gx_callIN C 3 rfl (gd_14 hL) (c_X3_findFault hL (sd_T hs hR)) (⟨va_cnB 0 (gx_hts C) gX7_fault_X3_findFault_n107 rfl rfl rfl ((gx_hN C).2 ("PeirceDesk", 107, yX3_findFault, "PeirceDesk") (by decide +kernel)) ((gx_hts C) (.initialized RX3) (by decide +kernel)) (by decide +kernel) ⟨Nat.le_of_ble_eq_true rfl, Nat.le_of_ble_eq_true rfl⟩, (gx_hts C) (.instanceMethod yX3_findFault) (by decide +kernel), (gx_hts C) (.selects RX3 yX3_findFault yX3_findFault) (by decide +kernel)⟩) rfl rfl (Nat.le_of_ble_eq_true rfl) ⟨Nat.le_refl _, Nat.le_refl _⟩ dX7_fault_4 (fun z P h => ?_)
  exact gx_iret C dX7_fault_7 ⟨pq_flt hs h.1, sd_XF h.2⟩
set_option maxRecDepth 100000 in
set_option maxHeartbeats 4000000 in
theorem c_X7_howMany {La : List gx_K} (hL : gd_H La) {M : gx_M} {s : sp_S} (hs : sp_ok s) (hR : sd_R s M) {w : Int} (hw : gx_3 w) : gx_Ci La yX7_howMany wsX7_howMany 6 [gx_R 12, gx_I w] M (fun z M' => sp_many s w z ∧ sd_X M M') := by
  have hn3 := hs.1.1
  have hm := hs.1.2.1
  have hn : M 46 0 = s.1 81 := hR.1.1
  have bad : ¬ (0 ≤ w ∧ w ≤ 3) → sp_many s w (-2) := fun h => by unfold sp_many; rw [if_neg h]
  refine gx_start_i (L := [gx_R 12, gx_I w]) (by decide) rfl rfl (Nat.le_of_ble_eq_true rfl) rfl ?_
  intro _ _ _ _ _ _ _ _ _ _ _ _ C
  refine gx_iload_n C dX7_howMany_0 rfl ?_
  refine gx_if_lt C dX7_howMany_1 rfl hw (fun hb1 => ?_) (fun hb1 => ?_)
  · refine gx_bipush C dX7_howMany_9 rfl ?_
    exact gx_iret C dX7_howMany_11 ⟨bad (by omega), sd_Xr _⟩
  · refine gx_iload_n C dX7_howMany_4 rfl ?_
    refine gx_iconst C dX7_howMany_5 ?_
    refine gx_icmp_le C dX7_howMany_6 rfl hw (by unfold gx_3; omega) (fun hb6 => ?_) (fun hb6 => ?_)
    · refine gx_aload_n C dX7_howMany_12 rfl ?_
      refine gx_getR C 7 _ 0 rfl (gd_12 hL) rfl (by decide) nX7_howMany_7 (gx_hts C _ fX7_howMany_12) dX7_howMany_13 ?_
      refine gx_getRN C 0 _ 0 rfl (gd_13 hL) rfl (by decide) nX7_howMany_0 ((gx_hN C).1 ("PeirceDesk", 48, "PeirceDesk$Algebra", "now", "LPeirceDesk$State;", "PeirceDesk") (by decide +kernel) |> va_Nw.use rfl) dX7_howMany_16 ?_
      refine gx_getIN C 6 _ 0 rfl (gd_now hL).1 rfl (by decide) nX7_howMany_6 ((gx_hN C).1 ("PeirceDesk", 52, "PeirceDesk$State", "size", "I", "PeirceDesk") (by decide +kernel) |> va_Nw.use rfl) dX7_howMany_19 hn ?_
      refine gx_iconst C dX7_howMany_22 ?_
      refine gx_icmp_eq C dX7_howMany_23 rfl (by unfold gx_3; omega) (by unfold gx_3; omega) (fun hb23 => ?_) (fun hb23 => ?_)
      · refine gx_aload_n C dX7_howMany_29 rfl ?_
        refine gx_getR C 7 _ 0 rfl (gd_12 hL) rfl (by decide) nX7_howMany_7 (gx_hts C _ fX7_howMany_12) dX7_howMany_30 ?_
        refine gx_iload_n C dX7_howMany_33 rfl ?_
        refine gx_callIN C 0 rfl (gd_13 hL) (c_X0_countKind hL (sd_A hs hR) (q := (s.1 82).toNat) (by omega) hR.2.2.2.2.2 (w := w) (by omega)) (⟨va_cnB 1 (gx_hts C) gX7_howMany_X0_countKind_n173 rfl rfl rfl ((gx_hN C).2 ("PeirceDesk", 173, yX0_countKind, "PeirceDesk") (by decide +kernel)) ((gx_hts C) (.initialized RX0) (by decide +kernel)) (by decide +kernel) ⟨Nat.le_of_ble_eq_true rfl, Nat.le_of_ble_eq_true rfl⟩, (gx_hts C) (.instanceMethod yX0_countKind) (by decide +kernel), (gx_hts C) (.selects RX0 yX0_countKind yX0_countKind) (by decide +kernel)⟩) rfl rfl (Nat.le_of_ble_eq_true rfl) ⟨Nat.le_refl _, Nat.le_refl _⟩ dX7_howMany_34 (fun z P h => ?_)
        obtain ⟨h1, h2, h3⟩ := h
        have hX : sd_X M P := ⟨fun c hc => h3 c (by omega) (by omega) (by omega) (by omega) (by omega), by rw [h3 14 (by omega) (by omega) (by omega) (by omega) (by omega)], fun k a b c d e => by rw [h2 k a b c d e, hR.2.2.2.2.2 k a b c d e]⟩
        exact gx_iret C dX7_howMany_37 ⟨sp_manyof hs (by omega) (by omega) (q := (s.1 82).toNat) (by omega) h1, hX⟩
      · refine gx_bipush C dX7_howMany_26 rfl ?_
        exact gx_iret C dX7_howMany_28 ⟨by unfold sp_many; rw [if_pos (by omega), if_pos (by omega)], sd_Xr _⟩
    · refine gx_bipush C dX7_howMany_9 rfl ?_
      exact gx_iret C dX7_howMany_11 ⟨bad (by omega), sd_Xr _⟩
set_option maxRecDepth 100000 in
set_option maxHeartbeats 4000000 in
theorem c_X7_partSize {La : List gx_K} (hL : gd_H La) {M : gx_M} {s : sp_S} (hs : sp_ok s) (hR : sd_R s M) {r w : Int} (hr : gx_3 r) (hw : gx_3 w) : gx_Ci La yX7_partSize wsX7_partSize 4 [gx_R 12, gx_I r, gx_I w] M (fun z M' => sp_psize s r w z ∧ sd_X M M') := by
  have hn3 := hs.1.1
  have hm := hs.1.2.1
  by_cases hok : 0 ≤ r ∧ r ≤ 7
  · have hel := gd_el hL (r := r.toNat) (by omega)
    have va := sp_Vel hs (r := r.toNat) (by omega)
    have bad : ¬ (0 ≤ w ∧ w ≤ 2) → sp_psize s r w (-2) := fun h => by unfold sp_psize; rw [if_pos hok, if_neg h]
    refine gx_start_i (L := [gx_R 12, gx_I r, gx_I w, gx_U, gx_U]) (by decide) rfl rfl (Nat.le_of_ble_eq_true rfl) rfl ?_
    intro _ _ _ _ _ _ _ _ _ _ _ _ C
    refine gx_iload_n C dX7_partSize_0 rfl ?_
    refine gx_statI C (c_X7_isRegister hr) (cwS 1 (gx_hts C) gX7_partSize_X7_isRegister rfl rfl rfl (by decide +kernel) ⟨Nat.le_of_ble_eq_true rfl, Nat.le_of_ble_eq_true rfl⟩) rfl rfl (Nat.le_of_ble_eq_true rfl) ⟨Nat.le_refl _, Nat.le_refl _⟩ dX7_partSize_1 (fun z P hz => ?_)
    obtain ⟨rfl, rfl⟩ := hz
    rw [if_pos hok]
    refine gx_if_ne C dX7_partSize_4 rfl (by unfold gx_3; omega) (fun hb4 => ?_) (fun hb4 => absurd (by omega) hb4)
    refine gx_iload_n C dX7_partSize_9 rfl ?_
    refine gx_if_lt C dX7_partSize_10 rfl hw (fun hb10 => ?_) (fun hb10 => ?_)
    · refine gx_bipush C dX7_partSize_18 rfl ?_
      exact gx_iret C dX7_partSize_20 ⟨bad (by omega), sd_Xr _⟩
    · refine gx_iload_n C dX7_partSize_13 rfl ?_
      refine gx_iconst C dX7_partSize_14 ?_
      refine gx_icmp_lt C dX7_partSize_15 rfl hw (by unfold gx_3; omega) (fun hb15 => ?_) (fun hb15 => ?_)
      · refine gx_aload_n C dX7_partSize_21 rfl ?_
        refine gx_getR C 7 _ 0 rfl (gd_12 hL) rfl (by decide) nX7_partSize_7 (gx_hts C _ fX7_partSize_12) dX7_partSize_22 ?_
        refine gx_getRN C 0 _ 0 rfl (gd_13 hL) rfl (by decide) nX7_partSize_0 ((gx_hN C).1 ("PeirceDesk", 48, "PeirceDesk$Algebra", "now", "LPeirceDesk$State;", "PeirceDesk") (by decide +kernel) |> va_Nw.use rfl) dX7_partSize_25 ?_
        refine gx_getRN C 6 _ 2 rfl (gd_now hL).1 rfl (by decide) nX7_partSize_6 ((gx_hN C).1 ("PeirceDesk", 75, "PeirceDesk$State", "elements", "[[I", "PeirceDesk") (by decide +kernel) |> va_Nw.use rfl) dX7_partSize_28 ?_
        refine gx_iload_n C dX7_partSize_31 rfl ?_
        refine gx_aaload C (gd_now hL).2.1 (by decide) (by omega) dX7_partSize_32 (show _ = 48 + 1 * r.toNat by omega) ?_
        refine gx_astore_n C dX7_partSize_33 (by decide) rfl ?_
        refine gx_aload_n C dX7_partSize_34 rfl ?_
        refine gx_getR C 7 _ 0 rfl (gd_12 hL) rfl (by decide) nX7_partSize_7 (gx_hts C _ fX7_partSize_12) dX7_partSize_35 ?_
        refine gx_aload_n C dX7_partSize_38 rfl ?_
        refine gx_callIN C 0 rfl (gd_13 hL) (c_X0_isOwnSquare hL (sd_A hs hR) hel (by omega) (by rw [sd_el hR (by omega)]; exact va.1)) (⟨va_cnB 1 (gx_hts C) gX7_partSize_X0_isOwnSquare_n90 rfl rfl rfl ((gx_hN C).2 ("PeirceDesk", 90, yX0_isOwnSquare, "PeirceDesk") (by decide +kernel)) ((gx_hts C) (.initialized RX0) (by decide +kernel)) (by decide +kernel) ⟨Nat.le_of_ble_eq_true rfl, Nat.le_of_ble_eq_true rfl⟩, (gx_hts C) (.instanceMethod yX0_isOwnSquare) (by decide +kernel), (gx_hts C) (.selects RX0 yX0_isOwnSquare yX0_isOwnSquare) (by decide +kernel)⟩) rfl rfl (Nat.le_of_ble_eq_true rfl) ⟨Nat.le_refl _, Nat.le_refl _⟩ dX7_partSize_39 (fun z P2 hz => ?_)
        obtain ⟨k1, k2, k3⟩ := hz
        rw [sd_el hR (by omega), sp_pe hs va va] at k2
        have hX : sd_X P P2 := ⟨fun c hc => k3 c (by omega) (by omega) (by omega), by rw [k3 14 (by decide) (by decide) (by decide)], fun k _ _ _ _ _ => by rw [k3 35 (by decide) (by decide) (by decide)]⟩
        have hRP := sd_XR hR hX
        refine gx_if_ne C dX7_partSize_42 rfl (by unfold gx_3; omega) (fun hb42 => ?_) (fun hb42 => ?_)
        · have hsq : zs_sq s (zs_el s.1 r.toNat) := k2.mp (by omega)
          refine gx_aload_n C dX7_partSize_48 rfl ?_
          refine gx_getR C 7 _ 0 rfl (gd_12 hL) rfl (by decide) nX7_partSize_7 (gx_hts C _ fX7_partSize_12) dX7_partSize_49 ?_
          refine gx_aload_n C dX7_partSize_52 rfl ?_
          refine gx_callIN C 0 rfl (gd_13 hL) (c_X0_rank hL (n := s.1 81) (m := s.1 82) (by omega) hRP.1.1 hn3 hRP.1.2.1 hel (by omega) (by rw [sd_el hRP (by omega)]; exact va.1)) (⟨va_cnB 1 (gx_hts C) gX7_partSize_X0_rank_n131 rfl rfl rfl ((gx_hN C).2 ("PeirceDesk", 131, yX0_rank, "PeirceDesk") (by decide +kernel)) ((gx_hts C) (.initialized RX0) (by decide +kernel)) (by decide +kernel) ⟨Nat.le_of_ble_eq_true rfl, Nat.le_of_ble_eq_true rfl⟩, (gx_hts C) (.instanceMethod yX0_rank) (by decide +kernel), (gx_hts C) (.selects RX0 yX0_rank yX0_rank) (by decide +kernel)⟩) rfl rfl (Nat.le_of_ble_eq_true rfl) ⟨Nat.le_refl _, Nat.le_refl _⟩ dX7_partSize_53 (fun z2 P3 hq => ?_)
          obtain ⟨q, ⟨q1, q2, q3, q4, q5, q6⟩, rfl⟩ := hq
          rw [sd_el hRP (by omega)] at q1
          obtain ⟨e1, e2⟩ := sp_psz hs va hsq q1 (w := w) (by omega)
          have hX2 : sd_X P2 P3 := sd_XO q6
          have hX3 := sd_Xt hX hX2
          refine gx_istore C dX7_partSize_56 (by decide) rfl ?_
          refine gx_iload_n C dX7_partSize_58 rfl ?_
          refine gx_iload C dX7_partSize_59 rfl ?_
          refine gx_aload_n C dX7_partSize_61 rfl ?_
          refine gx_getR C 7 _ 0 rfl (gd_12 hL) rfl (by decide) nX7_partSize_7 (gx_hts C _ fX7_partSize_12) dX7_partSize_62 ?_
          refine gx_getRN C 0 _ 0 rfl (gd_13 hL) rfl (by decide) nX7_partSize_0 ((gx_hN C).1 ("PeirceDesk", 48, "PeirceDesk$Algebra", "now", "LPeirceDesk$State;", "PeirceDesk") (by decide +kernel) |> va_Nw.use rfl) dX7_partSize_65 ?_
          refine gx_getIN C 6 _ 0 rfl (gd_now hL).1 rfl (by decide) nX7_partSize_6 ((gx_hN C).1 ("PeirceDesk", 52, "PeirceDesk$State", "size", "I", "PeirceDesk") (by decide +kernel) |> va_Nw.use rfl) dX7_partSize_68 (sd_XR hRP hX2).1.1 ?_
          refine gx_iload C dX7_partSize_71 rfl ?_
          refine gx_isub C dX7_partSize_73 ?_
          refine gx_statI C (c_X7_partExponent hw (r := (q.2.2 : Int)) (t := s.1 81 - (q.2.2 : Int)) (by omega) (by omega)) (cwS 3 (gx_hts C) gX7_partSize_X7_partExponent rfl rfl rfl (by decide +kernel) ⟨Nat.le_of_ble_eq_true rfl, Nat.le_of_ble_eq_true rfl⟩) rfl rfl (Nat.le_of_ble_eq_true rfl) ⟨Nat.le_refl _, Nat.le_refl _⟩ dX7_partSize_74 (fun z3 P4 h4 => ?_)
          obtain ⟨rfl, rfl⟩ := h4
          exact gx_iret C dX7_partSize_77 ⟨by unfold sp_psize; rw [if_pos hok, if_pos (by omega)]; exact ⟨fun _ => e1, fun h => absurd hsq h⟩, hX3⟩
        · refine gx_bipush C dX7_partSize_45 rfl ?_
          exact gx_iret C dX7_partSize_47 ⟨by unfold sp_psize; rw [if_pos hok, if_pos (by omega)]; exact ⟨fun h => absurd (k2.mpr h) (by omega), fun _ => rfl⟩, hX⟩
      · refine gx_bipush C dX7_partSize_18 rfl ?_
        exact gx_iret C dX7_partSize_20 ⟨bad (by omega), sd_Xr _⟩
  · have bad : sp_psize s r w (-1) := by unfold sp_psize; rw [if_neg hok]
    refine gx_start_i (L := [gx_R 12, gx_I r, gx_I w, gx_U, gx_U]) (by decide) rfl rfl (Nat.le_of_ble_eq_true rfl) rfl ?_
    intro _ _ _ _ _ _ _ _ _ _ _ _ C
    refine gx_iload_n C dX7_partSize_0 rfl ?_
    refine gx_statI C (c_X7_isRegister hr) (cwS 1 (gx_hts C) gX7_partSize_X7_isRegister rfl rfl rfl (by decide +kernel) ⟨Nat.le_of_ble_eq_true rfl, Nat.le_of_ble_eq_true rfl⟩) rfl rfl (Nat.le_of_ble_eq_true rfl) ⟨Nat.le_refl _, Nat.le_refl _⟩ dX7_partSize_1 (fun z P hz => ?_)
    obtain ⟨rfl, rfl⟩ := hz
    rw [if_neg hok]
    refine gx_if_ne C dX7_partSize_4 rfl (by unfold gx_3; omega) (fun hb4 => absurd hb4 (by omega)) (fun hb4 => ?_)
    refine gx_iconst C dX7_partSize_7 ?_
    exact gx_iret C dX7_partSize_8 ⟨bad, sd_Xr _⟩
