set_option maxRecDepth 100000 in
theorem mx_inv_id {n m : Int} (hn : n = 2 ∨ n = 3) (hm : m = 3 ∨ m = 5 ∨ m = 7 ∨ m = 11) : mx_inv n.toNat m (mx_id n) = mx_id n := by
  have key : ∀ k : Fin 9, mx_inv n.toNat m (mx_id n) k.val = mx_id n k.val := by
    rcases hn with rfl | rfl <;> rcases hm with rfl | rfl | rfl | rfl <;> decide +kernel
  funext k
  by_cases h : k < 9
  · exact key ⟨k, h⟩
  · rw [mx_id_9 (by omega) k (by omega)]
    exact mx_inv_9 k (by omega)
set_option maxRecDepth 100000 in
set_option maxHeartbeats 4000000 in
theorem c_X7_begin {La : List gx_K} (hL : gd_H La) {M : gx_M} {s : sp_S} (hs : sp_ok s) (hR : sd_R s M) {a b : Int} (ha : gx_3 a) (hb : gx_3 b) : gx_Ci La yX7_begin wsX7_begin 4 [gx_R 12, gx_I a, gx_I b] M (fun z M' => ∃ s', sp_begin s a b z s' ∧ sd_Q s' M M') := by
  have h0 := hR
  have hn6 := hs.2.1
  obtain ⟨g1, ⟨g2, nx, g3, g4, g5⟩, g6, g7, ⟨g8, g9⟩, g10⟩ := hR
  have bad : ¬ ((a = 2 ∨ a = 3) ∧ (b = 3 ∨ b = 5 ∨ b = 7 ∨ b = 11)) → ∃ s', sp_begin s a b (-2) s' ∧ sd_Q s' M M := fun h => ⟨s, by unfold sp_begin; rw [if_neg h]; exact ⟨rfl, rfl⟩, sd_XQ h0 (sd_Xr M)⟩
  refine gx_start_i (L := [gx_R 12, gx_I a, gx_I b, gx_U]) (by decide) rfl rfl (Nat.le_of_ble_eq_true rfl) rfl ?_
  intro _ _ _ _ _ _ _ _ _ _ _ _ C
  refine gx_cut 13 (fun (_ : Int) => [gx_R 12, gx_I a, gx_I b, gx_U]) (fun _ => []) (fun _ => M) (fun _ => a = 2 ∨ a = 3) (fun v hva => ?_) (fun at13 => ?_)
  · refine gx_cut 38 (fun (_ : Int) => [gx_R 12, gx_I a, gx_I b, gx_U]) (fun _ => []) (fun _ => M) (fun _ => b = 3 ∨ b = 5 ∨ b = 7 ∨ b = 11) (fun v hvb => ?_) (fun at38 => ?_)
    · refine gx_aload_n C dX7_begin_38 rfl ?_
      refine gx_getR C 7 _ 0 rfl (gd_12 hL) rfl (by decide) nX7_begin_7 (gx_hts C _ fX7_begin_12) dX7_begin_39 ?_
      refine gx_getRN C 0 _ 0 rfl (gd_13 hL) rfl (by decide) nX7_begin_0 ((gx_hN C).1 ("PeirceDesk", 48, "PeirceDesk$Algebra", "now", "LPeirceDesk$State;", "PeirceDesk") (by decide +kernel) |> va_Nw.use rfl) dX7_begin_42 ?_
      refine gx_getIN C 6 _ 0 rfl (gd_now hL).1 rfl (by decide) nX7_begin_6 ((gx_hN C).1 ("PeirceDesk", 52, "PeirceDesk$State", "size", "I", "PeirceDesk") (by decide +kernel) |> va_Nw.use rfl) dX7_begin_45 g1.1 ?_
      refine gx_istore_n C dX7_begin_48 (by decide) rfl ?_
      refine gx_aload_n C dX7_begin_49 rfl ?_
      refine gx_getR C 7 _ 3 rfl (gd_12 hL) rfl (by decide) nX7_begin_7 (gx_hts C _ fX7_begin_33) dX7_begin_50 ?_
      refine gx_aload_n C dX7_begin_53 rfl ?_
      refine gx_getR C 7 _ 0 rfl (gd_12 hL) rfl (by decide) nX7_begin_7 (gx_hts C _ fX7_begin_12) dX7_begin_54 ?_
      refine gx_getRN C 0 _ 0 rfl (gd_13 hL) rfl (by decide) nX7_begin_0 ((gx_hN C).1 ("PeirceDesk", 48, "PeirceDesk$Algebra", "now", "LPeirceDesk$State;", "PeirceDesk") (by decide +kernel) |> va_Nw.use rfl) dX7_begin_57 ?_
      refine gx_callVN C 2 rfl (gd_16 hL) (c_X2_remember hL g4 g3 g2 hn6) (⟨va_cnB 1 (gx_hts C) gX7_begin_X2_remember_n56 rfl rfl rfl ((gx_hN C).2 ("PeirceDesk", 56, yX2_remember, "PeirceDesk") (by decide +kernel)) ((gx_hts C) (.initialized RX2) (by decide +kernel)) (by decide +kernel) ⟨Nat.le_of_ble_eq_true rfl, Nat.le_of_ble_eq_true rfl⟩, (gx_hts C) (.instanceMethod yX2_remember) (by decide +kernel), (gx_hts C) (.selects RX2 yX2_remember yX2_remember) (by decide +kernel)⟩) rfl rfl (Nat.le_of_ble_eq_true rfl) ⟨Nat.le_refl _, Nat.le_refl _⟩ dX7_begin_60 (fun P1 h => ?_)
      obtain ⟨r1, r2, r3, r4⟩ := h
      refine gx_aload_n C dX7_begin_63 rfl ?_
      refine gx_getR C 7 _ 0 rfl (gd_12 hL) rfl (by decide) nX7_begin_7 (gx_hts C _ fX7_begin_12) dX7_begin_64 ?_
      refine gx_getRN C 0 _ 0 rfl (gd_13 hL) rfl (by decide) nX7_begin_0 ((gx_hN C).1 ("PeirceDesk", 48, "PeirceDesk$Algebra", "now", "LPeirceDesk$State;", "PeirceDesk") (by decide +kernel) |> va_Nw.use rfl) dX7_begin_67 ?_
      refine gx_iload_n C dX7_begin_70 rfl ?_
      refine gx_iload_n C dX7_begin_71 rfl ?_
      refine gx_callVN C 6 rfl (gd_now hL).1 (c_X6_clear (gd_now hL) hva) (⟨va_cnB 2 (gx_hts C) gX7_begin_X6_clear_n60 rfl rfl rfl ((gx_hN C).2 ("PeirceDesk", 60, yX6_clear, "PeirceDesk") (by decide +kernel)) ((gx_hts C) (.initialized RX6) (by decide +kernel)) (by decide +kernel) ⟨Nat.le_of_ble_eq_true rfl, Nat.le_of_ble_eq_true rfl⟩, (gx_hts C) (.instanceMethod yX6_clear) (by decide +kernel), (gx_hts C) (.selects RX6 yX6_clear yX6_clear) (by decide +kernel)⟩) rfl rfl (Nat.le_of_ble_eq_true rfl) ⟨Nat.le_refl _, Nat.le_refl _⟩ dX7_begin_72 (fun P2 h => ?_)
      obtain ⟨p1, p2, p3, p4, p5, p6⟩ := h
      have e81 : zs_new a b 81 = a := rfl
      have e82 : zs_new a b 82 = b := rfl
      have hbase : mx_of (zs_new a b) 72 = mx_id a := by
        have := zs_new_el (m := b) hva (r := 8) (by decide)
        unfold zs_el at this
        rw [if_pos (by decide), if_pos rfl] at this
        exact this
      have hnow : sd_st (zs_new a b) 46 P2 := by
        refine ⟨p1, p2, fun r hr => ?_⟩
        by_cases e9 : r = 9
        · rw [e9, p5]
          unfold zs_el
          rw [if_neg (by decide), e81, e82, hbase, mx_inv_id hva hvb]
        · rw [zs_new_el hva (by omega)]
          by_cases e8 : r = 8
          · rw [if_pos e8, e8]
            exact p4
          · rw [if_neg e8]
            exact p3 r (by omega)
      have fin := sd_push hn6 h0 g3 g5 r1 r2 r3 r4 (sd_Yo p6) hnow
      refine gx_iload_n C dX7_begin_75 rfl ?_
      exact gx_iret C dX7_begin_76 ⟨_, by unfold sp_begin; rw [if_pos ⟨hva, hvb⟩]; exact ⟨rfl, rfl⟩, fin⟩
    · refine gx_iload_n C dX7_begin_13 rfl ?_
      refine gx_iconst C dX7_begin_14 ?_
      refine gx_icmp_eq C dX7_begin_15 rfl hb (by unfold gx_3; omega) (fun hb15 => ?_) (fun hb15 => ?_)
      · exact at38 0 (by omega)
      · refine gx_iload_n C dX7_begin_18 rfl ?_
        refine gx_iconst C dX7_begin_19 ?_
        refine gx_icmp_eq C dX7_begin_20 rfl hb (by unfold gx_3; omega) (fun hb20 => ?_) (fun hb20 => ?_)
        · exact at38 0 (by omega)
        · refine gx_iload_n C dX7_begin_23 rfl ?_
          refine gx_bipush C dX7_begin_24 rfl ?_
          refine gx_icmp_eq C dX7_begin_26 rfl hb (by unfold gx_3; omega) (fun hb26 => ?_) (fun hb26 => ?_)
          · exact at38 0 (by omega)
          · refine gx_iload_n C dX7_begin_29 rfl ?_
            refine gx_bipush C dX7_begin_30 rfl ?_
            refine gx_icmp_eq C dX7_begin_32 rfl hb (by unfold gx_3; omega) (fun hb32 => ?_) (fun hb32 => ?_)
            · exact at38 0 (by omega)
            · refine gx_bipush C dX7_begin_35 rfl ?_
              exact gx_iret C dX7_begin_37 (bad (by omega))
  · refine gx_iload_n C dX7_begin_0 rfl ?_
    refine gx_iconst C dX7_begin_1 ?_
    refine gx_icmp_eq C dX7_begin_2 rfl ha (by unfold gx_3; omega) (fun hb2 => ?_) (fun hb2 => ?_)
    · exact at13 0 (by omega)
    · refine gx_iload_n C dX7_begin_5 rfl ?_
      refine gx_iconst C dX7_begin_6 ?_
      refine gx_icmp_eq C dX7_begin_7 rfl ha (by unfold gx_3; omega) (fun hb7 => ?_) (fun hb7 => ?_)
      · exact at13 0 (by omega)
      · refine gx_bipush C dX7_begin_10 rfl ?_
        exact gx_iret C dX7_begin_12 (bad (by omega))
