theorem zs_9ok {Z : Nat → Int} (h : zs_ok Z) : mx_ok (Z 82) (zs_el Z 9) := by
  have hm := h.2.1
  unfold zs_el
  rw [if_neg (by decide)]
  exact mx_inv_ok (by omega) _
theorem sd_A {s : sp_S} (hs : sp_ok s) {M : gx_M} (hR : sd_R s M) : ga_A (s.1 81) (s.1 82) (zs_el s.1 8) (zs_el s.1 9) M := by
  have hZ := hs.1
  have hm := hZ.2.1
  exact ⟨hR.1.1, hR.1.2.1, hR.1.2.2 8 (by decide), hR.1.2.2 9 (by decide), hZ.1, by omega, (zs_V hZ (by decide)).1, zs_9ok hZ⟩
/-- an element of this desk -/
def sp_V (s : sp_S) (a : Nat → Int) : Prop := mx_V (zs_nn s) (s.1 82) a
theorem sp_Vel {s : sp_S} (hs : sp_ok s) {r : Nat} (hr : r < 9) : sp_V s (zs_el s.1 r) := zs_V hs.1 hr
theorem sp_nn {s : sp_S} (hs : sp_ok s) : zs_nn s = 2 ∨ zs_nn s = 3 := zs_n hs.1
theorem sp_Vp {s : sp_S} (hs : sp_ok s) {a b : Nat → Int} (ha : sp_V s a) (hb : sp_V s b) : sp_V s (mc_prod (s.1 82) (zs_el s.1 8) a b) := mc_prod_V (sp_nn hs) (by have := hs.1.2.1; omega) ha.2.1 (sp_Vel hs (by decide)).2.1 hb.2.1
theorem sp_Vt {s : sp_S} (hs : sp_ok s) {a b c : Nat → Int} (ha : sp_V s a) (hb : sp_V s b) (hc : sp_V s c) : sp_V s (mc_trip (s.1 82) (zs_el s.1 8) a b c) := mc_trip_V (sp_nn hs) (by have := hs.1.2.1; omega) ha.2.1 (sp_Vel hs (by decide)).2.1 hb.2.1 hc.2.1
theorem sp_pe {s : sp_S} (hs : sp_ok s) {a b : Nat → Int} (ha : sp_V s a) (hb : sp_V s b) : mc_prod (s.1 82) (zs_el s.1 8) a b = zs_prod s a b := mc_prod_eq (sp_nn hs) hs.1.2.1 ha.2.1 (sp_Vel hs (by decide)).2.1 hb.2.1 ha.2.2 (sp_Vel hs (by decide)).2.2 hb.2.2
theorem sp_oe {s : sp_S} (hs : sp_ok s) {a b : Nat → Int} (ha : sp_V s a) (hb : sp_V s b) : mc_oper (s.1 82) (zs_el s.1 8) a b = zs_oper s a b := mc_oper_eq (sp_nn hs) hs.1.2.1 ha.2.1 (sp_Vel hs (by decide)).2.1 hb.2.1 ha.2.2 (sp_Vel hs (by decide)).2.2 hb.2.2
set_option maxRecDepth 100000 in
set_option maxHeartbeats 4000000 in
theorem c_X7_registersOwnSquares {La : List gx_K} (hL : gd_H La) {M : gx_M} {s : sp_S} (hs : sp_ok s) (hR : sd_R s M) : gx_Ci La yX7_registersOwnSquares wsX7_registersOwnSquares 4 [gx_R 12] M (fun z M' => mx_bit (fun r => zs_sq s (zs_el s.1 r)) 8 z ∧ sd_X M M') := by
  refine gx_start_i (L := [gx_R 12, gx_U, gx_U]) (by decide) rfl rfl (Nat.le_of_ble_eq_true rfl) rfl ?_
  intro _ _ _ _ _ _ _ _ _ _ _ _ C
  refine gx_iconst C dX7_registersOwnSquares_0 ?_
  refine gx_istore_n C dX7_registersOwnSquares_1 (by decide) rfl ?_
  refine gx_iconst C dX7_registersOwnSquares_2 ?_
  refine gx_istore_n C dX7_registersOwnSquares_3 (by decide) rfl ?_
  refine gx_for 8 (fun r (q : gx_M × Int) => [gx_R 12, gx_I q.2, gx_I (r : Int)]) (fun q => q.1) (fun r q => mx_bit (fun r => zs_sq s (zs_el s.1 r)) r q.2 ∧ sd_X M q.1) 0 (M, 0) (by omega) ⟨rfl, sd_Xr M⟩ (fun r q hr hI ih => ?_) (fun q hI => ?_)
  · obtain ⟨P, y⟩ := q
    obtain ⟨h1, h2⟩ := hI
    simp only at h1 h2 ⊢
    have hel := gd_el hL (r := r) (by omega)
    have hRP := sd_XR hR h2
    have hyb := mx_bit_b r y h1
    have hv := sp_Vel hs (r := r) (by omega)
    refine gx_iload_n C dX7_registersOwnSquares_4 rfl ?_
    refine gx_bipush C dX7_registersOwnSquares_5 rfl ?_
    refine gx_icmp_ge C dX7_registersOwnSquares_7 rfl (by unfold gx_3; omega) (by unfold gx_3; omega) (fun hb7 => absurd hb7 (by omega)) (fun hb7 => ?_)
    refine gx_aload_n C dX7_registersOwnSquares_10 rfl ?_
    refine gx_getR C 7 _ 0 rfl (gd_12 hL) rfl (by decide) nX7_registersOwnSquares_7 (gx_hts C _ fX7_registersOwnSquares_12) dX7_registersOwnSquares_11 ?_
    refine gx_aload_n C dX7_registersOwnSquares_14 rfl ?_
    refine gx_getR C 7 _ 0 rfl (gd_12 hL) rfl (by decide) nX7_registersOwnSquares_7 (gx_hts C _ fX7_registersOwnSquares_12) dX7_registersOwnSquares_15 ?_
    refine gx_getRN C 0 _ 0 rfl (gd_13 hL) rfl (by decide) nX7_registersOwnSquares_0 ((gx_hN C).1 ("PeirceDesk", 48, "PeirceDesk$Algebra", "now", "LPeirceDesk$State;", "PeirceDesk") (by decide +kernel) |> va_Nw.use rfl) dX7_registersOwnSquares_18 ?_
    refine gx_getRN C 6 _ 2 rfl (gd_now hL).1 rfl (by decide) nX7_registersOwnSquares_6 ((gx_hN C).1 ("PeirceDesk", 75, "PeirceDesk$State", "elements", "[[I", "PeirceDesk") (by decide +kernel) |> va_Nw.use rfl) dX7_registersOwnSquares_21 ?_
    refine gx_iload_n C dX7_registersOwnSquares_24 rfl ?_
    refine gx_aaload C (gd_now hL).2.1 (by decide) (by omega) dX7_registersOwnSquares_25 (show _ = 48 + 1 * r from rfl) ?_
    refine gx_callIN C 0 rfl (gd_13 hL) (c_X0_isOwnSquare hL (sd_A hs hRP) hel (by omega) (by rw [sd_el hRP (by omega)]; exact hv.1)) (⟨va_cnB 1 (gx_hts C) gX7_registersOwnSquares_X0_isOwnSquare_n90 rfl rfl rfl ((gx_hN C).2 ("PeirceDesk", 90, yX0_isOwnSquare, "PeirceDesk") (by decide +kernel)) ((gx_hts C) (.initialized RX0) (by decide +kernel)) (by decide +kernel) ⟨Nat.le_of_ble_eq_true rfl, Nat.le_of_ble_eq_true rfl⟩, (gx_hts C) (.instanceMethod yX0_isOwnSquare) (by decide +kernel), (gx_hts C) (.selects RX0 yX0_isOwnSquare yX0_isOwnSquare) (by decide +kernel)⟩) rfl rfl (Nat.le_of_ble_eq_true rfl) ⟨Nat.le_refl _, Nat.le_refl _⟩ dX7_registersOwnSquares_26 (fun z P2 hz => ?_)
    obtain ⟨k1, k2, k3⟩ := hz
    rw [sd_el hRP (by omega), sp_pe hs hv hv] at k2
    have hX : sd_X P P2 := ⟨fun c hc => k3 c (by omega) (by omega) (by omega), by rw [k3 14 (by decide) (by decide) (by decide)], fun k _ _ _ _ _ => by rw [k3 35 (by decide) (by decide) (by decide)]⟩
    refine gx_if_eq C dX7_registersOwnSquares_29 rfl (by unfold gx_3; omega) (fun hb29 => ?_) (fun hb29 => ?_)
    · refine gx_iinc C dX7_registersOwnSquares_38 (by decide) rfl rfl ?_
      refine gx_goto C dX7_registersOwnSquares_41 rfl ?_
      exact ih (P2, y) ⟨⟨y, h1, Or.inr ⟨fun h => absurd (k2.mpr h) (by omega), rfl⟩⟩, sd_Xt h2 hX⟩
    · have hy : y < 256 := by
        have hp : (2 : Nat) ^ r ≤ 2 ^ 8 := Nat.pow_le_pow_right (by decide) (by omega)
        omega
      have e1 := gx_sh1 ⟨r, hr⟩
      have e2 := gx_or1 ⟨r, hr⟩ ⟨y.toNat, by omega⟩ (by show y.toNat < 2 ^ r; omega)
      simp only [show ((y.toNat : Nat) : Int) = y by omega] at e2
      refine gx_iload_n C dX7_registersOwnSquares_32 rfl ?_
      refine gx_iconst C dX7_registersOwnSquares_33 ?_
      refine gx_iload_n C dX7_registersOwnSquares_34 rfl ?_
      refine gx_ishl C dX7_registersOwnSquares_35 e1 ?_
      refine gx_ior C dX7_registersOwnSquares_36 e2 ?_
      refine gx_istore_n C dX7_registersOwnSquares_37 (by decide) rfl ?_
      refine gx_iinc C dX7_registersOwnSquares_38 (by decide) rfl rfl ?_
      refine gx_goto C dX7_registersOwnSquares_41 rfl ?_
      exact ih (P2, ((y.toNat + 2 ^ r : Nat) : Int)) ⟨⟨y, h1, Or.inl ⟨k2.mp (by omega), by omega⟩⟩, sd_Xt h2 hX⟩
  · obtain ⟨P, y⟩ := q
    obtain ⟨h1, h2⟩ := hI
    simp only at h1 h2 ⊢
    refine gx_iload_n C dX7_registersOwnSquares_4 rfl ?_
    refine gx_bipush C dX7_registersOwnSquares_5 rfl ?_
    refine gx_icmp_ge C dX7_registersOwnSquares_7 rfl (by unfold gx_3; omega) (by unfold gx_3; omega) (fun hb7 => ?_) (fun hb7 => absurd (by omega) hb7)
    refine gx_iload_n C dX7_registersOwnSquares_44 rfl ?_
    exact gx_iret C dX7_registersOwnSquares_45 ⟨h1, h2⟩
