theorem sd_cp {Z : Nat → Int} {c d : Nat} {M M' : gx_M} (h : sd_st Z c M) (g : M' d 0 = M c 0 ∧ M' d 1 = M c 1 ∧ ∀ r, r < 10 → mx_of (M' (d + 2 + r)) 0 = mx_of (M (c + 2 + r)) 0) : sd_st Z d M' :=
  ⟨g.1.trans h.1, g.2.1.trans h.2.1, fun r hr => (g.2.2 r hr).trans (h.2.2 r hr)⟩
/-- the present state and scratch alone have changed -/
def sd_Y (M M' : gx_M) : Prop := (∀ c, (c < 14 ∨ (15 < c ∧ c < 19) ∨ c = 41 ∨ (58 ≤ c ∧ c < 154)) → M' c = M c) ∧ M' 14 1 = M 14 1 ∧ ∀ k, k < 9 → k ≠ 0 → k ≠ 1 → k ≠ 3 → k ≠ 4 → M' 35 k = M 35 k
theorem sd_Yo {M M' : gx_M} (h : gd_O 46 M M') : sd_Y M M' := ⟨fun c hc => h c (by omega), by rw [h 14 (by omega)], fun k _ _ _ _ _ => by rw [h 35 (by omega)]⟩
theorem sd_push {s : sp_S} (hs : s.2.1.1 ≤ 6) {M M1 M2 : gx_M} (hR : sd_R s M) {nx : Nat} (h3 : nx < 6) (h5 : ∀ i, i < s.2.1.1 → sd_st (s.2.1.2 i) (82 + 12 * ((nx + 6 - s.2.1.1 + i) % 6)) M) (r1 : M1 16 1 = ((if nx = 5 then 0 else nx + 1 : Nat) : Int)) (r2 : M1 16 2 = ((if s.2.1.1 = 6 then 6 else s.2.1.1 + 1 : Nat) : Int)) (r3 : M1 (82 + 12 * nx) 0 = M 46 0 ∧ M1 (82 + 12 * nx) 1 = M 46 1 ∧ ∀ r, r < 10 → mx_of (M1 (82 + 12 * nx + 2 + r)) 0 = mx_of (M (46 + 2 + r)) 0) (r4 : ∀ c', c' ≠ 16 → (c' < 82 + 12 * nx ∨ 82 + 12 * nx + 12 ≤ c') → M1 c' = M c') {Z : Nat → Int} (y : sd_Y M1 M2) (z : sd_st Z 46 M2) : sd_Q (sp_push s Z) M M2 := by
  obtain ⟨g1, _, g6, g7, ⟨g8, g9⟩, g10⟩ := hR
  obtain ⟨y1, y2, y3⟩ := y
  have hh : sp_h s + 1 = if s.2.1.1 = 6 then 6 else s.2.1.1 + 1 := by unfold sp_h; split <;> rfl
  have e : ∀ c, (c < 14 ∨ (16 < c ∧ c < 19) ∨ c = 41 ∨ (58 ≤ c ∧ c < 82)) → M2 c = M c := fun c hc => by rw [y1 c (by omega), r4 c (by omega) (by omega)]
  refine ⟨⟨z, ⟨by rw [y1 16 (by omega), r2, ← hh]; rfl, (if nx = 5 then 0 else nx + 1), by split <;> omega, by rw [y1 16 (by omega)]; exact r1, fun i hi => ?_⟩, fun j hj => by rw [e 18 (by omega)]; exact g6 j hj, fun j hj e1 => sd_stf (g7 j hj e1) (fun c a b => e c (by omega)), ⟨by rw [y2, r4 14 (by omega) (by omega)]; exact g8, fun i hi => by rw [e 41 (by omega)]; exact g9 i hi⟩, fun k a b c d e1 => by rw [y3 k a b c d e1, r4 35 (by omega) (by omega)]; exact g10 k a b c d e1⟩, fun c hc => e c (by omega)⟩
  have hi : i < sp_h s + 1 := hi
  have hnew : sd_st s.1 (82 + 12 * nx) M2 := sd_stf (sd_cp g1 r3) (fun c a b => y1 c (by omega))
  have hold : ∀ k, k < s.2.1.1 → (nx + 6 - s.2.1.1 + k) % 6 ≠ nx → sd_st (s.2.1.2 k) (82 + 12 * ((nx + 6 - s.2.1.1 + k) % 6)) M2 := fun k hk hne => by
    have h6 : (nx + 6 - s.2.1.1 + k) % 6 < 6 := Nat.mod_lt _ (by decide)
    exact sd_stf (h5 k hk) (fun c a b => by rw [y1 c (by omega), r4 c (by omega) (by omega)])
  show sd_st (if i = sp_h s then s.1 else if s.2.1.1 = 6 then s.2.1.2 (i + 1) else s.2.1.2 i) (82 + 12 * (((if nx = 5 then 0 else nx + 1) + 6 - (sp_h s + 1) + i) % 6)) M2
  by_cases h6 : s.2.1.1 = 6
  · have hp : sp_h s = 5 := if_pos h6
    rw [hp] at hi ⊢
    by_cases ei : i = 5
    · rw [if_pos ei, show ((if nx = 5 then 0 else nx + 1) + 6 - (5 + 1) + i) % 6 = nx by split <;> omega]
      exact hnew
    · rw [if_neg ei, if_pos h6]
      have := hold (i + 1) (by omega) (by omega)
      rw [show (nx + 6 - s.2.1.1 + (i + 1)) % 6 = ((if nx = 5 then 0 else nx + 1) + 6 - (5 + 1) + i) % 6 by split <;> omega] at this
      exact this
  · have hp : sp_h s = s.2.1.1 := if_neg h6
    rw [hp] at hi ⊢
    by_cases ei : i = s.2.1.1
    · rw [if_pos ei, show ((if nx = 5 then 0 else nx + 1) + 6 - (s.2.1.1 + 1) + i) % 6 = nx by split <;> omega]
      exact hnew
    · rw [if_neg ei, if_neg h6]
      have := hold i (by omega) (by omega)
      rw [show (nx + 6 - s.2.1.1 + i) % 6 = ((if nx = 5 then 0 else nx + 1) + 6 - (s.2.1.1 + 1) + i) % 6 by split <;> omega] at this
      exact this
set_option maxRecDepth 100000 in
set_option maxHeartbeats 4000000 in
theorem c_X7_undo {La : List gx_K} (hL : gd_H La) {M : gx_M} {s : sp_S} (hs : sp_ok s) (hR : sd_R s M) : gx_Ci La yX7_undo wsX7_undo 4 [gx_R 12] M (fun z M' => ∃ s', sp_undo s z s' ∧ sd_Q s' M M') := by
  have h0 := hR
  have hn6 := hs.2.1
  obtain ⟨g1, ⟨g2, nx, g3, g4, g5⟩, g6, g7, ⟨g8, g9⟩, g10⟩ := hR
  refine gx_start_i (L := [gx_R 12]) (by decide) rfl rfl (Nat.le_of_ble_eq_true rfl) rfl ?_
  intro _ _ _ _ _ _ _ _ _ _ _ _ C
  refine gx_aload_n C dX7_undo_0 rfl ?_
  refine gx_getR C 7 _ 3 rfl (gd_12 hL) rfl (by decide) nX7_undo_7 (gx_hts C _ fX7_undo_33) dX7_undo_1 ?_
  refine gx_getIN C 2 _ 2 rfl (gd_16 hL) rfl (by decide) nX7_undo_2 ((gx_hN C).1 ("PeirceDesk", 149, "PeirceDesk$History", "length", "I", "PeirceDesk") (by decide +kernel) |> va_Nw.use rfl) dX7_undo_4 g2 ?_
  refine gx_if_ne C dX7_undo_7 rfl (by unfold gx_3; omega) (fun hb7 => ?_) (fun hb7 => ?_)
  · have hpv : (if nx = 0 then 5 else nx - 1) < 6 := by split <;> omega
    refine gx_aload_n C dX7_undo_13 rfl ?_
    refine gx_getR C 7 _ 3 rfl (gd_12 hL) rfl (by decide) nX7_undo_7 (gx_hts C _ fX7_undo_33) dX7_undo_14 ?_
    refine gx_aload_n C dX7_undo_17 rfl ?_
    refine gx_getR C 7 _ 0 rfl (gd_12 hL) rfl (by decide) nX7_undo_7 (gx_hts C _ fX7_undo_12) dX7_undo_18 ?_
    refine gx_getRN C 0 _ 0 rfl (gd_13 hL) rfl (by decide) nX7_undo_0 ((gx_hN C).1 ("PeirceDesk", 48, "PeirceDesk$Algebra", "now", "LPeirceDesk$State;", "PeirceDesk") (by decide +kernel) |> va_Nw.use rfl) dX7_undo_21 ?_
    refine gx_callVN C 2 rfl (gd_16 hL) (c_X2_takeBack hL g4 g3 g2 (by omega) hn6 rfl) (⟨va_cnB 1 (gx_hts C) gX7_undo_X2_takeBack_n188 rfl rfl rfl ((gx_hN C).2 ("PeirceDesk", 188, yX2_takeBack, "PeirceDesk") (by decide +kernel)) ((gx_hts C) (.initialized RX2) (by decide +kernel)) (by decide +kernel) ⟨Nat.le_of_ble_eq_true rfl, Nat.le_of_ble_eq_true rfl⟩, (gx_hts C) (.instanceMethod yX2_takeBack) (by decide +kernel), (gx_hts C) (.selects RX2 yX2_takeBack yX2_takeBack) (by decide +kernel)⟩) rfl rfl (Nat.le_of_ble_eq_true rfl) ⟨Nat.le_refl _, Nat.le_refl _⟩ dX7_undo_24 (fun P h => ?_)
    obtain ⟨p1, p2, p3, p4⟩ := h
    refine gx_aload_n C dX7_undo_27 rfl ?_
    refine gx_getR C 7 _ 3 rfl (gd_12 hL) rfl (by decide) nX7_undo_7 (gx_hts C _ fX7_undo_33) dX7_undo_28 ?_
    refine gx_getIN C 2 _ 2 rfl (gd_16 hL) rfl (by decide) nX7_undo_2 ((gx_hN C).1 ("PeirceDesk", 149, "PeirceDesk$History", "length", "I", "PeirceDesk") (by decide +kernel) |> va_Nw.use rfl) dX7_undo_31 p2 ?_
    have e : ∀ c, (c < 14 ∨ (16 < c ∧ c < 19) ∨ c = 41 ∨ (58 ≤ c ∧ c < 154)) → P c = M c := fun c hc => p4 c (by omega) (by omega)
    have hnow : sd_st (s.2.1.2 (s.2.1.1 - 1)) 46 P := by
      have h1 := g5 (s.2.1.1 - 1) (by omega)
      rw [show (nx + 6 - s.2.1.1 + (s.2.1.1 - 1)) % 6 = (if nx = 0 then 5 else nx - 1) by split <;> omega] at h1
      exact sd_cp h1 p3
    have fin : sd_Q (s.2.1.2 (s.2.1.1 - 1), (s.2.1.1 - 1, s.2.1.2), s.2.2.1, s.2.2.2) M P := by
      refine ⟨⟨hnow, ⟨by rw [p2]; show (s.2.1.1 : Int) - 1 = ((s.2.1.1 - 1 : Nat) : Int); omega, (if nx = 0 then 5 else nx - 1), hpv, p1, fun i hi => ?_⟩, fun j hj => by rw [e 18 (by omega)]; exact g6 j hj, fun j hj e1 => sd_stf (g7 j hj e1) (fun c a b => e c (by omega)), ⟨by rw [p4 14 (by omega) (by omega)]; exact g8, fun i hi => by rw [e 41 (by omega)]; exact g9 i hi⟩, fun k a b c d e1 => by rw [p4 35 (by omega) (by omega)]; exact g10 k a b c d e1⟩, fun c hc => e c (by omega)⟩
      have hi : i < s.2.1.1 - 1 := hi
      show sd_st (s.2.1.2 i) (82 + 12 * (((if nx = 0 then 5 else nx - 1) + 6 - (s.2.1.1 - 1) + i) % 6)) P
      rw [show ((if nx = 0 then 5 else nx - 1) + 6 - (s.2.1.1 - 1) + i) % 6 = (nx + 6 - s.2.1.1 + i) % 6 by split <;> omega]
      have h6 : (nx + 6 - s.2.1.1 + i) % 6 < 6 := Nat.mod_lt _ (by decide)
      exact sd_stf (g5 i (by omega)) (fun c a b => e c (by omega))
    exact gx_iret C dX7_undo_34 ⟨_, by unfold sp_undo; rw [if_neg (by omega)]; exact ⟨rfl, rfl⟩, fin⟩
  · refine gx_bipush C dX7_undo_10 rfl ?_
    exact gx_iret C dX7_undo_12 ⟨s, by unfold sp_undo; rw [if_pos (by omega)]; exact ⟨rfl, rfl⟩, sd_XQ h0 (sd_Xr M)⟩
theorem zs_new_el {n m : Int} (hn : n = 2 ∨ n = 3) {r : Nat} (hr : r < 9) : zs_el (zs_new n m) r = if r = 8 then mx_id n else fun _ => 0 := by
  unfold zs_el
  rw [if_pos hr]
  funext k
  by_cases h9 : k < 9
  · rw [mx_of_at h9]
    unfold zs_new
    rw [if_neg (by omega), if_neg (by omega)]
    by_cases e : r = 8
    · rw [if_pos e]
      unfold mx_id
      subst e
      rw [show 9 * 8 + k - 72 = k by omega]
      by_cases e2 : k % 4 = 0 ∧ ((k / 4 : Nat) : Int) < n
      · rw [if_pos e2, if_pos ⟨by omega, e2⟩]
      · rw [if_neg e2, if_neg (fun h => e2 h.2)]
    · rw [if_neg e, if_neg (by omega)]
  · unfold mx_of
    rw [if_neg h9]
    by_cases e : r = 8
    · rw [if_pos e]
      exact (mx_id_9 (by omega) k (by omega)).symm
    · rw [if_neg e]
