/-! the desk -/
def sd_st (Z : Nat → Int) (c : Nat) (M : gx_M) : Prop := M c 0 = Z 81 ∧ M c 1 = Z 82 ∧ ∀ r, r < 10 → mx_of (M (c + 2 + r)) 0 = zs_el Z r
/-- the class's numbers are this desk -/
def sd_R (s : sp_S) (M : gx_M) : Prop :=
  sd_st s.1 46 M ∧ (M 16 2 = (s.2.1.1 : Int) ∧ ∃ nx : Nat, nx < 6 ∧ M 16 1 = (nx : Int) ∧ ∀ i, i < s.2.1.1 → sd_st (s.2.1.2 i) (82 + 12 * ((nx + 6 - s.2.1.1 + i) % 6)) M) ∧ (∀ j, j < 2 → M 18 j = s.2.2.1.1 j) ∧ (∀ j, j < 2 → s.2.2.1.1 j = 1 → sd_st (s.2.2.1.2 j) (58 + 12 * j) M) ∧ (M 14 1 = (s.2.2.2.1 : Int) ∧ ∀ i, i < s.2.2.2.1 → M 41 i = s.2.2.2.2 i) ∧ ∀ k, k < 9 → k ≠ 0 → k ≠ 1 → k ≠ 3 → k ≠ 4 → M 35 k = 0
def sd_Q (s : sp_S) (M M' : gx_M) : Prop := sd_R s M' ∧ ∀ c, c < 12 → M' c = M c
theorem sd_stf {Z : Nat → Int} {c : Nat} {M M' : gx_M} (h : sd_st Z c M) (e : ∀ c', c ≤ c' → c' < c + 12 → M' c' = M c') : sd_st Z c M' := by
  refine ⟨by rw [e c (by omega) (by omega)]; exact h.1, by rw [e c (by omega) (by omega)]; exact h.2.1, fun r hr => by rw [e _ (by omega) (by omega)]; exact h.2.2 r hr⟩
/-- scratch alone has changed -/
def sd_X (M M' : gx_M) : Prop := (∀ c, (c < 14 ∨ (15 < c ∧ c < 19) ∨ c = 41 ∨ (46 ≤ c ∧ c < 154)) → M' c = M c) ∧ M' 14 1 = M 14 1 ∧ ∀ k, k < 9 → k ≠ 0 → k ≠ 1 → k ≠ 3 → k ≠ 4 → M' 35 k = M 35 k
theorem sd_Xr (M : gx_M) : sd_X M M := ⟨fun _ _ => rfl, rfl, fun _ _ _ _ _ _ => rfl⟩
theorem sd_Xt {M M1 M2 : gx_M} (h : sd_X M M1) (g : sd_X M1 M2) : sd_X M M2 := ⟨fun c hc => (g.1 c hc).trans (h.1 c hc), g.2.1.trans h.2.1, fun k a b c d e => (g.2.2 k a b c d e).trans (h.2.2 k a b c d e)⟩
theorem sd_XR {s : sp_S} {M M' : gx_M} (h : sd_R s M) (x : sd_X M M') : sd_R s M' := by
  obtain ⟨h1, ⟨h2, nx, h3, h4, h5⟩, h6, h7, ⟨h8, h9⟩, h10⟩ := h
  obtain ⟨x1, x2, x3⟩ := x
  exact ⟨sd_stf h1 (fun c a b => x1 c (by omega)), ⟨by rw [x1 16 (by omega)]; exact h2, nx, h3, by rw [x1 16 (by omega)]; exact h4, fun i hi => sd_stf (h5 i hi) (fun c a b => x1 c (by omega))⟩, fun j hj => by rw [x1 18 (by omega)]; exact h6 j hj, fun j hj e => sd_stf (h7 j hj e) (fun c a b => x1 c (by omega)), ⟨by rw [x2]; exact h8, fun i hi => by rw [x1 41 (by omega)]; exact h9 i hi⟩, fun k a b c d e => by rw [x3 k a b c d e]; exact h10 k a b c d e⟩
theorem sd_XQ {s : sp_S} {M M' : gx_M} (h : sd_R s M) (x : sd_X M M') : sd_Q s M M' := ⟨sd_XR h x, fun c hc => x.1 c (by omega)⟩
theorem sd_el {s : sp_S} {M : gx_M} (h : sd_R s M) {r : Nat} (hr : r < 10) : mx_of (M (48 + 1 * r)) 0 = zs_el s.1 r := by
  have := h.1.2.2 r hr
  rwa [show 46 + 2 + r = 48 + 1 * r by omega] at this
theorem gd_el {La : List gx_K} (hL : gd_H La) {r : Nat} (hr : r < 10) : gd_9 La (48 + 1 * r) := by
  have := (gd_now hL).2.2 r hr
  rwa [show 46 + 2 + r = 48 + 1 * r by omega] at this
set_option maxRecDepth 100000 in
set_option maxHeartbeats 4000000 in
theorem c_X7_entry {La : List gx_K} (hL : gd_H La) {M : gx_M} {s : sp_S} (hs : sp_ok s) (hR : sd_R s M) {r i j : Int} (hr : gx_3 r) (hi : gx_3 i) (hj : gx_3 j) : gx_Ci La yX7_entry wsX7_entry 1 [gx_R 12, gx_I r, gx_I i, gx_I j] M (fun z M' => sp_entry s r i j z ∧ M' = M) := by
  have hn3 := hs.1.1
  have hn : M 46 0 = s.1 81 := hR.1.1
  by_cases hok : (0 ≤ r ∧ r ≤ 9) ∧ (0 ≤ i ∧ i < s.1 81 ∧ 0 ≤ j ∧ j < s.1 81)
  · have hel := gd_el hL (r := r.toNat) (by omega)
    have e1 : M (48 + 1 * r.toNat) ((3 * i + j).toNat) = zs_el s.1 r.toNat (3 * i.toNat + j.toNat) := by
      rw [← sd_el hR (by omega), mx_of_at (by omega), Nat.zero_add, show (3 * i + j).toNat = 3 * i.toNat + j.toNat by omega]
    refine gx_start_i (L := [gx_R 12, gx_I r, gx_I i, gx_I j]) (by decide) rfl rfl (Nat.le_of_ble_eq_true rfl) rfl ?_
    intro _ _ _ _ _ _ _ _ _ _ _ _ C
    refine gx_iload_n C dX7_entry_0 rfl ?_
    refine gx_statI C (c_X7_isElement hr) (cwS 1 (gx_hts C) gX7_entry_X7_isElement rfl rfl rfl (by decide +kernel) ⟨Nat.le_of_ble_eq_true rfl, Nat.le_of_ble_eq_true rfl⟩) rfl rfl (Nat.le_of_ble_eq_true rfl) ⟨Nat.le_refl _, Nat.le_refl _⟩ dX7_entry_1 (fun z P hz => ?_)
    obtain ⟨rfl, rfl⟩ := hz
    rw [if_pos (by omega)]
    refine gx_if_eq C dX7_entry_4 rfl (by unfold gx_3; omega) (fun hb4 => absurd hb4 (by omega)) (fun hb4 => ?_)
    refine gx_aload_n C dX7_entry_7 rfl ?_
    refine gx_iload_n C dX7_entry_8 rfl ?_
    refine gx_iload_n C dX7_entry_9 rfl ?_
    refine gx_callI C 7 rfl (gd_12 hL) (c_X7_isPlace hL hn hn3 hi hj) (cwV 2 (gx_hts C) gX7_entry_X7_isPlace rfl rfl rfl (by decide +kernel) ⟨Nat.le_of_ble_eq_true rfl, Nat.le_of_ble_eq_true rfl⟩) rfl rfl (Nat.le_of_ble_eq_true rfl) ⟨Nat.le_refl _, Nat.le_refl _⟩ dX7_entry_10 (fun z P2 hz => ?_)
    obtain ⟨rfl, rfl⟩ := hz
    rw [if_pos (by omega)]
    refine gx_if_ne C dX7_entry_13 rfl (by unfold gx_3; omega) (fun hb13 => ?_) (fun hb13 => absurd (by omega) hb13)
    refine gx_aload_n C dX7_entry_18 rfl ?_
    refine gx_getR C 7 _ 0 rfl (gd_12 hL) rfl (by decide) nX7_entry_7 (gx_hts C _ fX7_entry_12) dX7_entry_19 ?_
    refine gx_getRN C 0 _ 0 rfl (gd_13 hL) rfl (by decide) nX7_entry_0 ((gx_hN C).1 ("PeirceDesk", 48, "PeirceDesk$Algebra", "now", "LPeirceDesk$State;", "PeirceDesk") (by decide +kernel) |> va_Nw.use rfl) dX7_entry_22 ?_
    refine gx_getRN C 6 _ 2 rfl (gd_now hL).1 rfl (by decide) nX7_entry_6 ((gx_hN C).1 ("PeirceDesk", 75, "PeirceDesk$State", "elements", "[[I", "PeirceDesk") (by decide +kernel) |> va_Nw.use rfl) dX7_entry_25 ?_
    refine gx_iload_n C dX7_entry_28 rfl ?_
    refine gx_aaload C (gd_now hL).2.1 (by decide) (by omega) dX7_entry_29 (show _ = 48 + 1 * r.toNat by omega) ?_
    refine gx_iconst C dX7_entry_30 ?_
    refine gx_iload_n C dX7_entry_31 rfl ?_
    refine gx_imul C dX7_entry_32 ?_
    refine gx_iload_n C dX7_entry_33 rfl ?_
    refine gx_iadd C dX7_entry_34 ?_
    refine gx_iaload C hel (by omega) dX7_entry_35 e1 ?_
    exact gx_iret C dX7_entry_36 ⟨by unfold sp_entry; rw [if_pos hok], rfl⟩
  · have bad : sp_entry s r i j (-1) := by unfold sp_entry; rw [if_neg hok]
    refine gx_start_i (L := [gx_R 12, gx_I r, gx_I i, gx_I j]) (by decide) rfl rfl (Nat.le_of_ble_eq_true rfl) rfl ?_
    intro _ _ _ _ _ _ _ _ _ _ _ _ C
    refine gx_iload_n C dX7_entry_0 rfl ?_
    refine gx_statI C (c_X7_isElement hr) (cwS 1 (gx_hts C) gX7_entry_X7_isElement rfl rfl rfl (by decide +kernel) ⟨Nat.le_of_ble_eq_true rfl, Nat.le_of_ble_eq_true rfl⟩) rfl rfl (Nat.le_of_ble_eq_true rfl) ⟨Nat.le_refl _, Nat.le_refl _⟩ dX7_entry_1 (fun z P hz => ?_)
    obtain ⟨rfl, rfl⟩ := hz
    by_cases h1 : 0 ≤ r ∧ r ≤ 9
    · rw [if_pos h1]
      refine gx_if_eq C dX7_entry_4 rfl (by unfold gx_3; omega) (fun hb4 => absurd hb4 (by omega)) (fun hb4 => ?_)
      refine gx_aload_n C dX7_entry_7 rfl ?_
      refine gx_iload_n C dX7_entry_8 rfl ?_
      refine gx_iload_n C dX7_entry_9 rfl ?_
      refine gx_callI C 7 rfl (gd_12 hL) (c_X7_isPlace hL hn hn3 hi hj) (cwV 2 (gx_hts C) gX7_entry_X7_isPlace rfl rfl rfl (by decide +kernel) ⟨Nat.le_of_ble_eq_true rfl, Nat.le_of_ble_eq_true rfl⟩) rfl rfl (Nat.le_of_ble_eq_true rfl) ⟨Nat.le_refl _, Nat.le_refl _⟩ dX7_entry_10 (fun z P2 hz => ?_)
      obtain ⟨rfl, rfl⟩ := hz
      rw [if_neg (by omega)]
      refine gx_if_ne C dX7_entry_13 rfl (by unfold gx_3; omega) (fun hb13 => absurd hb13 (by omega)) (fun hb13 => ?_)
      refine gx_iconst C dX7_entry_16 ?_
      exact gx_iret C dX7_entry_17 ⟨bad, rfl⟩
    · rw [if_neg h1]
      refine gx_if_eq C dX7_entry_4 rfl (by unfold gx_3; omega) (fun hb4 => ?_) (fun hb4 => absurd (by omega) hb4)
      refine gx_iconst C dX7_entry_16 ?_
      exact gx_iret C dX7_entry_17 ⟨bad, rfl⟩
set_option maxRecDepth 100000 in
set_option maxHeartbeats 4000000 in
theorem c_X7_wipe {La : List gx_K} (hL : gd_H La) {M : gx_M} {s : sp_S} (hR : sd_R s M) : gx_Ci La yX7_wipe wsX7_wipe 0 [gx_R 12] M (fun z M' => ∃ s', sp_wipe s z s' ∧ sd_Q s' M M') := by
  obtain ⟨h1, ⟨h2, nx, h3, h4, h5⟩, h6, h7, ⟨h8, h9⟩, h10⟩ := hR
  refine gx_start_i (L := [gx_R 12, gx_U]) (by decide) rfl rfl (Nat.le_of_ble_eq_true rfl) rfl ?_
  intro _ _ _ _ _ _ _ _ _ _ _ _ C
  refine gx_aload_n C dX7_wipe_0 rfl ?_
  refine gx_getR C 7 _ 1 rfl (gd_12 hL) rfl (by decide) nX7_wipe_7 (gx_hts C _ fX7_wipe_19) dX7_wipe_1 ?_
  refine gx_getIN C 3 _ 1 rfl (gd_14 hL) rfl (by decide) nX7_wipe_3 ((gx_hN C).1 ("PeirceDesk", 122, "PeirceDesk$Pad", "length", "I", "PeirceDesk") (by decide +kernel) |> va_Nw.use rfl) dX7_wipe_4 h8 ?_
  refine gx_istore_n C dX7_wipe_7 (by decide) rfl ?_
  refine gx_aload_n C dX7_wipe_8 rfl ?_
  refine gx_getR C 7 _ 1 rfl (gd_12 hL) rfl (by decide) nX7_wipe_7 (gx_hts C _ fX7_wipe_19) dX7_wipe_9 ?_
  refine gx_iconst C dX7_wipe_12 ?_
  refine gx_putIN C 3 _ 1 rfl (gd_14 hL) rfl (by decide) nX7_wipe_3 tyX3 tyX3_ok nmX3 ((gx_hN C).1 ("PeirceDesk", 122, "PeirceDesk$Pad", "length", "I", "PeirceDesk") (by decide +kernel) |> va_Nw.use rfl) rfl rfl dX7_wipe_13 ?_
  refine gx_iload_n C dX7_wipe_16 rfl ?_
  have e : ∀ c, c ≠ 14 → gx_u M 14 1 0 c = M c := fun c a => gx_u_nc a
  have fin : sd_Q (sp_emp s) M (gx_u M 14 1 0) := ⟨⟨sd_stf h1 (fun c a b => e c (by omega)), ⟨by rw [e 16 (by omega)]; exact h2, nx, h3, by rw [e 16 (by omega)]; exact h4, fun i hi => sd_stf (h5 i hi) (fun c a b => e c (by omega))⟩, fun j hj => by rw [e 18 (by omega)]; exact h6 j hj, fun j hj e1 => sd_stf (h7 j hj e1) (fun c a b => e c (by omega)), ⟨gx_u_eq _ _ _ _, fun i hi => absurd hi (Nat.not_lt_zero i)⟩, fun k a b c d e1 => by rw [e 35 (by omega)]; exact h10 k a b c d e1⟩, fun c hc => e c (by omega)⟩
  exact gx_iret C dX7_wipe_17 ⟨sp_emp s, ⟨rfl, rfl⟩, fin⟩
set_option maxRecDepth 100000 in
set_option maxHeartbeats 4000000 in
theorem c_X7_put {La : List gx_K} (hL : gd_H La) {M : gx_M} {s : sp_S} (hs : sp_ok s) (hR : sd_R s M) {N : Nat} (hN : N < 18446744073709551616) : gx_Ci La yX7_put wsX7_put 1 [gx_R 12, gx_J (gl_l N)] M (fun z M' => ∃ s', sp_put s N z s' ∧ sd_Q s' M M') := by
  have h0 := hR
  have htn := hs.2.2.2.2.2.1
  obtain ⟨h1, ⟨h2, nx, h3, h4, h5⟩, h6, h7, ⟨h8, h9⟩, h10⟩ := hR
  refine gx_start_i (L := [gx_R 12, gx_J (gl_l N), gx_U, gx_U]) (by decide) rfl rfl (Nat.le_of_ble_eq_true rfl) rfl ?_
  intro _ _ _ _ _ _ _ _ _ _ _ _ C
  refine gx_lload_n C dX7_put_0 rfl ?_
  refine gx_statIN C (c_X3_charactersIn hN) (⟨va_cnB 1 (gx_hts C) gX7_put_X3_charactersIn_n180 rfl rfl rfl ((gx_hN C).2 ("PeirceDesk", 180, yX3_charactersIn, "PeirceDesk") (by decide +kernel)) ((gx_hts C) (.initialized RX3) (by decide +kernel)) (by decide +kernel) ⟨Nat.le_of_ble_eq_true rfl, Nat.le_of_ble_eq_true rfl⟩, (gx_hts C) (.static yX3_charactersIn) (by decide +kernel), trivial⟩) rfl rfl (Nat.le_of_ble_eq_true rfl) ⟨Nat.le_refl _, Nat.le_refl _⟩ dX7_put_1 (fun z P hz => ?_)
  obtain ⟨rfl, hz⟩ := hz
  rcases hz with ⟨n, hok, rfl⟩ | ⟨hno, rfl⟩
  · have hn1 := hok.1
    have hn8 := hok.2.1
    refine gx_istore_n C dX7_put_4 (by decide) rfl ?_
    refine gx_iload_n C dX7_put_5 rfl ?_
    refine gx_if_ne C dX7_put_6 rfl (by unfold gx_3; omega) (fun hb6 => ?_) (fun hb6 => absurd (by omega) hb6)
    refine gx_aload_n C dX7_put_12 rfl ?_
    refine gx_getR C 7 _ 1 rfl (gd_12 hL) rfl (by decide) nX7_put_7 (gx_hts C _ fX7_put_19) dX7_put_13 ?_
    refine gx_getIN C 3 _ 1 rfl (gd_14 hL) rfl (by decide) nX7_put_3 ((gx_hN C).1 ("PeirceDesk", 122, "PeirceDesk$Pad", "length", "I", "PeirceDesk") (by decide +kernel) |> va_Nw.use rfl) dX7_put_16 h8 ?_
    refine gx_iload_n C dX7_put_19 rfl ?_
    refine gx_iadd C dX7_put_20 ?_
    refine gx_bipush C dX7_put_21 rfl ?_
    refine gx_icmp_le C dX7_put_23 rfl (by unfold gx_3; omega) (by unfold gx_3; omega) (fun hb23 => ?_) (fun hb23 => ?_)
    · refine gx_aload_n C dX7_put_29 rfl ?_
      refine gx_getR C 7 _ 1 rfl (gd_12 hL) rfl (by decide) nX7_put_7 (gx_hts C _ fX7_put_19) dX7_put_30 ?_
      refine gx_lload_n C dX7_put_33 rfl ?_
      refine gx_iload_n C dX7_put_34 rfl ?_
      refine gx_callVN C 3 rfl (gd_14 hL) (c_X3_append hL hN hn8 h8 (by omega)) (⟨va_cnB 2 (gx_hts C) gX7_put_X3_append_n184 rfl rfl rfl ((gx_hN C).2 ("PeirceDesk", 184, yX3_append, "PeirceDesk") (by decide +kernel)) ((gx_hts C) (.initialized RX3) (by decide +kernel)) (by decide +kernel) ⟨Nat.le_of_ble_eq_true rfl, Nat.le_of_ble_eq_true rfl⟩, (gx_hts C) (.instanceMethod yX3_append) (by decide +kernel), (gx_hts C) (.selects RX3 yX3_append yX3_append) (by decide +kernel)⟩) rfl rfl (Nat.le_of_ble_eq_true rfl) ⟨Nat.le_refl _, Nat.le_refl _⟩ dX7_put_35 (fun P2 h => ?_)
      obtain ⟨p1, p2, p3, p4⟩ := h
      refine gx_aload_n C dX7_put_38 rfl ?_
      refine gx_getR C 7 _ 1 rfl (gd_12 hL) rfl (by decide) nX7_put_7 (gx_hts C _ fX7_put_19) dX7_put_39 ?_
      refine gx_getIN C 3 _ 1 rfl (gd_14 hL) rfl (by decide) nX7_put_3 ((gx_hN C).1 ("PeirceDesk", 122, "PeirceDesk$Pad", "length", "I", "PeirceDesk") (by decide +kernel) |> va_Nw.use rfl) dX7_put_42 p3 ?_
      have fin : sd_Q (s.1, s.2.1, s.2.2.1, (s.2.2.2.1 + n, fun i => if i < s.2.2.2.1 then s.2.2.2.2 i else ((pt_b N (n - 1 - (i - s.2.2.2.1)) : Nat) : Int))) P P2 := by
        refine ⟨⟨sd_stf h1 (fun c a b => p1 c (by omega) (by omega)), ⟨by rw [p1 16 (by omega) (by omega)]; exact h2, nx, h3, by rw [p1 16 (by omega) (by omega)]; exact h4, fun i hi => sd_stf (h5 i hi) (fun c a b => p1 c (by omega) (by omega))⟩, fun j hj => by rw [p1 18 (by omega) (by omega)]; exact h6 j hj, fun j hj e1 => sd_stf (h7 j hj e1) (fun c a b => p1 c (by omega) (by omega)), ⟨p3, fun i hi => ?_⟩, fun k a b c d e1 => by rw [p1 35 (by omega) (by omega)]; exact h10 k a b c d e1⟩, fun c hc => p1 c (by omega) (by omega)⟩
        have hi : i < s.2.2.2.1 + n := hi
        show _ = if i < s.2.2.2.1 then s.2.2.2.2 i else ((pt_b N (n - 1 - (i - s.2.2.2.1)) : Nat) : Int)
        rw [p4]
        by_cases e : i < s.2.2.2.1
        · rw [if_neg (by omega), if_pos e]
          exact h9 i e
        · rw [if_pos (by omega), if_neg e]
      exact gx_iret C dX7_put_45 ⟨_, Or.inl ⟨n, hok, by rw [if_neg (by omega)]; exact ⟨rfl, rfl⟩⟩, fin⟩
    · refine gx_bipush C dX7_put_26 rfl ?_
      exact gx_iret C dX7_put_28 ⟨s, Or.inl ⟨n, hok, by rw [if_pos (by omega)]; exact ⟨rfl, rfl⟩⟩, sd_XQ h0 (sd_Xr P)⟩
  · refine gx_istore_n C dX7_put_4 (by decide) rfl ?_
    refine gx_iload_n C dX7_put_5 rfl ?_
    refine gx_if_ne C dX7_put_6 rfl (by unfold gx_3; omega) (fun hb6 => absurd hb6 (by omega)) (fun hb6 => ?_)
    refine gx_bipush C dX7_put_9 rfl ?_
    exact gx_iret C dX7_put_11 ⟨s, Or.inr ⟨hno, rfl, rfl⟩, sd_XQ h0 (sd_Xr P)⟩
