set_option maxRecDepth 100000 in
set_option maxHeartbeats 4000000 in
theorem c_X2_remember {La : List gx_K} (hL : gd_H La) {M : gx_M} {nx ln : Nat} (h1 : M 16 1 = nx) (hnx : nx < 6) (h2 : M 16 2 = ln) (hln : ln ≤ 6) : gx_Cv La yX2_remember wsX2_remember 3 [gx_R 16, gx_R 46] M (fun M' => M' 16 1 = ((if nx = 5 then 0 else nx + 1 : Nat) : Int) ∧ M' 16 2 = ((if ln = 6 then 6 else ln + 1 : Nat) : Int) ∧ (M' (82 + 12 * nx) 0 = M 46 0 ∧ M' (82 + 12 * nx) 1 = M 46 1 ∧ ∀ r, r < 10 → mx_of (M' (82 + 12 * nx + 2 + r)) 0 = mx_of (M (46 + 2 + r)) 0) ∧ ∀ c', c' ≠ 16 → (c' < 82 + 12 * nx ∨ 82 + 12 * nx + 12 ≤ c') → M' c' = M c') := by
  have hS := gd_h hL nx hnx
  refine gx_start_v (L := [gx_R 16, gx_R 46]) (by decide) rfl rfl (Nat.le_of_ble_eq_true rfl) rfl ?_
  intro _ _ _ _ _ _ _ _ _ _ _ _ C
  refine gx_aload_n C dX2_remember_0 rfl ?_
  refine gx_getR C 2 _ 0 rfl (gd_16 hL) rfl (by decide) nX2_remember_2 (gx_hts C _ fX2_remember_11) dX2_remember_1 ?_
  refine gx_aload_n C dX2_remember_4 rfl ?_
  refine gx_getI C 2 _ 1 rfl (gd_16 hL) rfl (by decide) nX2_remember_2 (gx_hts C _ fX2_remember_18) dX2_remember_5 h1 ?_
  refine gx_aaload C (gd_45 hL) (by decide) (by omega) dX2_remember_8 (show _ = 82 + 12 * nx from rfl) ?_
  refine gx_aload_n C dX2_remember_9 rfl ?_
  refine gx_callVN C 6 rfl hS.1 (c_X6_copyFrom hS (gd_now hL) (by omega)) (⟨va_cnB 1 (gx_hts C) gX2_remember_X6_copyFrom_n22 rfl rfl rfl ((gx_hN C).2 ("PeirceDesk$History", 22, yX6_copyFrom, "PeirceDesk") (by decide +kernel)) ((gx_hts C) (.initialized RX6) (by decide +kernel)) (by decide +kernel) ⟨Nat.le_of_ble_eq_true rfl, Nat.le_of_ble_eq_true rfl⟩, (gx_hts C) (.instanceMethod yX6_copyFrom) (by decide +kernel), (gx_hts C) (.selects RX6 yX6_copyFrom yX6_copyFrom) (by decide +kernel)⟩) rfl rfl (Nat.le_of_ble_eq_true rfl) ⟨Nat.le_refl _, Nat.le_refl _⟩ dX2_remember_10 (fun P hP => ?_)
  obtain ⟨p1, p2, p3, p4⟩ := hP
  have q1 : P 16 1 = nx := by rw [p4 16 (by omega)]; exact h1
  have q2 : P 16 2 = ln := by rw [p4 16 (by omega)]; exact h2
  refine gx_cut 32 (fun (v : Int) => [gx_R 16, gx_R 46]) (fun v => [gx_I v, gx_R 16]) (fun _ => P) (fun v => v = ((if nx = 5 then 0 else nx + 1 : Nat) : Int)) (fun v hv => ?_) (fun fin => ?_)
  · have e2 : gx_u P 16 1 v 16 2 = ln := by rw [gx_u_ne (by decide)]; exact q2
    refine gx_putI C 2 _ 1 rfl (gd_16 hL) rfl (by decide) nX2_remember_2 tyX2 tyX2_ok nmX2 (gx_hts C _ fX2_remember_18) rfl rfl dX2_remember_32 ?_
    refine gx_aload_n C dX2_remember_35 rfl ?_
    refine gx_aload_n C dX2_remember_36 rfl ?_
    refine gx_getI C 2 _ 2 rfl (gd_16 hL) rfl (by decide) nX2_remember_2 (gx_hts C _ fX2_remember_26) dX2_remember_37 e2 ?_
    refine gx_iconst C dX2_remember_40 ?_
    refine gx_iadd C dX2_remember_41 ?_
    refine gx_bipush C dX2_remember_42 rfl ?_
    refine gx_min C (by decide +kernel) (by decide +kernel) (by decide +kernel) (by decide +kernel) (by unfold gx_3; omega) (by unfold gx_3; omega) (v := ((if ln = 6 then 6 else ln + 1 : Nat) : Int)) (by split <;> split <;> omega) (Nat.le_of_ble_eq_true rfl) ⟨Nat.le_of_ble_eq_true rfl, Nat.le_of_ble_eq_true rfl⟩ ⟨Nat.le_refl _, Nat.le_refl _⟩ dX2_remember_44 ?_
    refine gx_putI C 2 _ 2 rfl (gd_16 hL) rfl (by decide) nX2_remember_2 tyX2 tyX2_ok nmX2 (gx_hts C _ fX2_remember_26) rfl rfl dX2_remember_47 ?_
    have fin : ∀ w : Int, w = ((if ln = 6 then 6 else ln + 1 : Nat) : Int) → (gx_u (gx_u P 16 1 v) 16 2 w 16 1 = ((if nx = 5 then 0 else nx + 1 : Nat) : Int) ∧ gx_u (gx_u P 16 1 v) 16 2 w 16 2 = ((if ln = 6 then 6 else ln + 1 : Nat) : Int) ∧ (gx_u (gx_u P 16 1 v) 16 2 w (82 + 12 * nx) 0 = M 46 0 ∧ gx_u (gx_u P 16 1 v) 16 2 w (82 + 12 * nx) 1 = M 46 1 ∧ ∀ r, r < 10 → mx_of (gx_u (gx_u P 16 1 v) 16 2 w (82 + 12 * nx + 2 + r)) 0 = mx_of (M (46 + 2 + r)) 0) ∧ ∀ c', c' ≠ 16 → (c' < 82 + 12 * nx ∨ 82 + 12 * nx + 12 ≤ c') → gx_u (gx_u P 16 1 v) 16 2 w c' = M c') := fun w hw => by
      have f0 : ∀ c', c' ≠ 16 → gx_u (gx_u P 16 1 v) 16 2 w c' = P c' := fun c' a => by rw [gx_u_nc a, gx_u_nc a]
      exact ⟨by rw [gx_u_ne (by decide), gx_u_eq]; exact hv, by rw [gx_u_eq]; exact hw, ⟨by rw [f0 _ (by omega)]; exact p1, by rw [f0 _ (by omega)]; exact p2, fun r hr => by rw [f0 _ (by omega)]; exact p3 r hr⟩, fun c' a b => by rw [f0 c' a]; exact p4 c' b⟩
    exact gx_vret C dX2_remember_50 (fin _ rfl)
  · refine gx_aload_n C dX2_remember_13 rfl ?_
    refine gx_aload_n C dX2_remember_14 rfl ?_
    refine gx_getI C 2 _ 1 rfl (gd_16 hL) rfl (by decide) nX2_remember_2 (gx_hts C _ fX2_remember_18) dX2_remember_15 q1 ?_
    refine gx_iconst C dX2_remember_18 ?_
    refine gx_icmp_ne C dX2_remember_19 rfl (by unfold gx_3; omega) (by unfold gx_3; omega) (fun hb19 => ?_) (fun hb19 => ?_)
    · refine gx_aload_n C dX2_remember_26 rfl ?_
      refine gx_getI C 2 _ 1 rfl (gd_16 hL) rfl (by decide) nX2_remember_2 (gx_hts C _ fX2_remember_18) dX2_remember_27 q1 ?_
      refine gx_iconst C dX2_remember_30 ?_
      refine gx_iadd C dX2_remember_31 ?_
      exact fin _ (by rw [if_neg (by omega)]; omega)
    · refine gx_iconst C dX2_remember_22 ?_
      refine gx_goto C dX2_remember_23 rfl ?_
      exact fin _ (by rw [if_pos (by omega)]; rfl)
set_option maxRecDepth 100000 in
set_option maxHeartbeats 4000000 in
theorem c_X2_takeBack {La : List gx_K} (hL : gd_H La) {M : gx_M} {nx ln : Nat} (h1 : M 16 1 = nx) (hnx : nx < 6) (h2 : M 16 2 = ln) (hln : 0 < ln) (hln6 : ln ≤ 6) {pv : Nat} (hpv : pv = if nx = 0 then 5 else nx - 1) : gx_Cv La yX2_takeBack wsX2_takeBack 3 [gx_R 16, gx_R 46] M (fun M' => M' 16 1 = (pv : Int) ∧ M' 16 2 = (ln : Int) - 1 ∧ (M' 46 0 = M (82 + 12 * pv) 0 ∧ M' 46 1 = M (82 + 12 * pv) 1 ∧ ∀ r, r < 10 → mx_of (M' (46 + 2 + r)) 0 = mx_of (M (82 + 12 * pv + 2 + r)) 0) ∧ ∀ c', c' ≠ 16 → (c' < 46 ∨ 58 ≤ c') → M' c' = M c') := by
  have hp6 : pv < 6 := by rw [hpv]; split <;> omega
  have hS := gd_h hL pv hp6
  refine gx_start_v (L := [gx_R 16, gx_R 46]) (by decide) rfl rfl (Nat.le_of_ble_eq_true rfl) rfl ?_
  intro _ _ _ _ _ _ _ _ _ _ _ _ C
  refine gx_aload_n C dX2_takeBack_0 rfl ?_
  refine gx_getI C 2 _ 2 rfl (gd_16 hL) rfl (by decide) nX2_takeBack_2 (gx_hts C _ fX2_takeBack_26) dX2_takeBack_1 h2 ?_
  refine gx_if_le C dX2_takeBack_4 rfl (by unfold gx_3; omega) (fun hb4 => absurd hb4 (by omega)) (fun hb4 => ?_)
  refine gx_cut 25 (fun (v : Int) => [gx_R 16, gx_R 46]) (fun v => [gx_I v, gx_R 16]) (fun _ => M) (fun v => v = (pv : Int)) (fun v hv => ?_) (fun fin => ?_)
  · subst hv
    have e2 : gx_u M 16 1 (pv : Int) 16 2 = ln := by rw [gx_u_ne (by decide)]; exact h2
    have e3 : gx_u (gx_u M 16 1 (pv : Int)) 16 2 ((ln : Int) - 1) 16 1 = pv := by rw [gx_u_ne (by decide), gx_u_eq]
    refine gx_putI C 2 _ 1 rfl (gd_16 hL) rfl (by decide) nX2_takeBack_2 tyX2 tyX2_ok nmX2 (gx_hts C _ fX2_takeBack_18) rfl rfl dX2_takeBack_25 ?_
    refine gx_aload_n C dX2_takeBack_28 rfl ?_
    refine gx_dup C dX2_takeBack_29 rfl ?_
    refine gx_getI C 2 _ 2 rfl (gd_16 hL) rfl (by decide) nX2_takeBack_2 (gx_hts C _ fX2_takeBack_26) dX2_takeBack_30 e2 ?_
    refine gx_iconst C dX2_takeBack_33 ?_
    refine gx_isub C dX2_takeBack_34 ?_
    refine gx_putI C 2 _ 2 rfl (gd_16 hL) rfl (by decide) nX2_takeBack_2 tyX2 tyX2_ok nmX2 (gx_hts C _ fX2_takeBack_26) rfl rfl dX2_takeBack_35 ?_
    refine gx_aload_n C dX2_takeBack_38 rfl ?_
    refine gx_aload_n C dX2_takeBack_39 rfl ?_
    refine gx_getR C 2 _ 0 rfl (gd_16 hL) rfl (by decide) nX2_takeBack_2 (gx_hts C _ fX2_takeBack_11) dX2_takeBack_40 ?_
    refine gx_aload_n C dX2_takeBack_43 rfl ?_
    refine gx_getI C 2 _ 1 rfl (gd_16 hL) rfl (by decide) nX2_takeBack_2 (gx_hts C _ fX2_takeBack_18) dX2_takeBack_44 e3 ?_
    refine gx_aaload C (gd_45 hL) (by decide) (by omega) dX2_takeBack_47 (show _ = 82 + 12 * pv from rfl) ?_
    refine gx_callVN C 6 rfl (gd_now hL).1 (c_X6_copyFrom (gd_now hL) hS (by omega)) (⟨va_cnB 1 (gx_hts C) gX2_takeBack_X6_copyFrom_n22 rfl rfl rfl ((gx_hN C).2 ("PeirceDesk$History", 22, yX6_copyFrom, "PeirceDesk") (by decide +kernel)) ((gx_hts C) (.initialized RX6) (by decide +kernel)) (by decide +kernel) ⟨Nat.le_of_ble_eq_true rfl, Nat.le_of_ble_eq_true rfl⟩, (gx_hts C) (.instanceMethod yX6_copyFrom) (by decide +kernel), (gx_hts C) (.selects RX6 yX6_copyFrom yX6_copyFrom) (by decide +kernel)⟩) rfl rfl (Nat.le_of_ble_eq_true rfl) ⟨Nat.le_refl _, Nat.le_refl _⟩ dX2_takeBack_48 (fun P hP => ?_)
    obtain ⟨p1, p2, p3, p4⟩ := hP
    have f0 : ∀ c', c' ≠ 16 → gx_u (gx_u M 16 1 (pv : Int)) 16 2 ((ln : Int) - 1) c' = M c' := fun c' a => by rw [gx_u_nc a, gx_u_nc a]
    have fin : P 16 1 = (pv : Int) ∧ P 16 2 = (ln : Int) - 1 ∧ (P 46 0 = M (82 + 12 * pv) 0 ∧ P 46 1 = M (82 + 12 * pv) 1 ∧ ∀ r, r < 10 → mx_of (P (46 + 2 + r)) 0 = mx_of (M (82 + 12 * pv + 2 + r)) 0) ∧ ∀ c', c' ≠ 16 → (c' < 46 ∨ 58 ≤ c') → P c' = M c' := ⟨by rw [p4 16 (by omega)]; exact e3, by rw [p4 16 (by omega), gx_u_eq], ⟨by rw [p1, f0 _ (by omega)], by rw [p2, f0 _ (by omega)], fun r hr => by rw [p3 r hr, f0 _ (by omega)]⟩, fun c' a b => by rw [p4 c' (by omega), f0 c' a]⟩
    exact gx_vret C dX2_takeBack_51 fin
  · refine gx_aload_n C dX2_takeBack_7 rfl ?_
    refine gx_aload_n C dX2_takeBack_8 rfl ?_
    refine gx_getI C 2 _ 1 rfl (gd_16 hL) rfl (by decide) nX2_takeBack_2 (gx_hts C _ fX2_takeBack_18) dX2_takeBack_9 h1 ?_
    refine gx_if_ne C dX2_takeBack_12 rfl (by unfold gx_3; omega) (fun hb12 => ?_) (fun hb12 => ?_)
    · refine gx_aload_n C dX2_takeBack_19 rfl ?_
      refine gx_getI C 2 _ 1 rfl (gd_16 hL) rfl (by decide) nX2_takeBack_2 (gx_hts C _ fX2_takeBack_18) dX2_takeBack_20 h1 ?_
      refine gx_iconst C dX2_takeBack_23 ?_
      refine gx_isub C dX2_takeBack_24 ?_
      exact fin _ (by rw [hpv, if_neg (by omega)]; omega)
    · refine gx_iconst C dX2_takeBack_15 ?_
      refine gx_goto C dX2_takeBack_16 rfl ?_
      exact fin _ (by rw [hpv, if_pos (by omega)]; rfl)
/-! the rows -/
theorem gd_r {La : List gx_K} (hL : gd_H La) {i : Nat} (hi : i < 4) : gd_9 La (21 + 1 * i) := by
  have := gd_rw hL i hi
  rwa [show 21 + i = 21 + 1 * i by omega] at this
/-- a row of the rows -/
def rw_of (M : gx_M) (i : Nat) : Nat → Int := mx_of (M (21 + 1 * i)) 0
theorem rw_at {M : gx_M} {i k : Nat} (hk : k < 9) : M (21 + 1 * i) k = rw_of M i k := by
  unfold rw_of
  rw [mx_of_at hk, Nat.zero_add]
theorem rw_nat {M : gx_M} {i k : Nat} (hk : k < 9) : M (21 + 1 * i) (((k : Int)).toNat) = rw_of M i k := rw_at hk
/-- a row written anew -/
def rw_set (M : gx_M) (i : Nat) (f : Nat → Int) : gx_M := gx_blk M (21 + 1 * i) 0 9 f
theorem rw_set_eq {M : gx_M} {i : Nat} {f : Nat → Int} (h : ∀ k, 9 ≤ k → f k = 0) : rw_of (rw_set M i f) i = f := by
  unfold rw_of rw_set
  rw [mx_of_blk, mx_cut h]
theorem rw_set_ne {M : gx_M} {i j : Nat} {f : Nat → Int} (h : j ≠ i) : rw_of (rw_set M i f) j = rw_of M j := by
  unfold rw_of rw_set
  rw [gx_blk_nc (by omega)]
set_option maxRecDepth 100000 in
set_option maxHeartbeats 4000000 in
theorem c_X5_clearRow {La : List gx_K} (hL : gd_H La) {M : gx_M} {r : Nat} {x : Int} (hx : x = r) (hr : r < 4) : gx_Cv La yX5_clearRow wsX5_clearRow 0 [gx_R 19, gx_I x] M (fun M' => M' = rw_set M r (fun _ => 0)) := by
  subst hx
  have hrow := gd_r hL hr
  refine gx_start_v (L := [gx_R 19, gx_I (r : Int), gx_U]) (by decide) rfl rfl (Nat.le_of_ble_eq_true rfl) rfl ?_
  intro _ _ _ _ _ _ _ _ _ _ _ _ C
  refine gx_iconst C dX5_clearRow_0 ?_
  refine gx_istore_n C dX5_clearRow_1 (by decide) rfl ?_
  refine gx_for 9 (fun k (_ : gx_M) => [gx_R 19, gx_I (r : Int), gx_I (k : Int)]) (fun M' => M') (fun k M' => M' = gx_blk M (21 + 1 * r) 0 k (fun _ => 0)) 0 M (by omega) gx_blk_0.symm (fun k M' hk hI ih => ?_) (fun M' hI => ?_)
  · refine gx_iload_n C dX5_clearRow_2 rfl ?_
    refine gx_bipush C dX5_clearRow_3 rfl ?_
    refine gx_icmp_ge C dX5_clearRow_5 rfl (by unfold gx_3; omega) (by unfold gx_3; omega) (fun hb5 => absurd hb5 (by omega)) (fun hb5 => ?_)
    refine gx_aload_n C dX5_clearRow_8 rfl ?_
    refine gx_getR C 5 _ 0 rfl (gd_19 hL) rfl (by decide) nX5_clearRow_5 (gx_hts C _ fX5_clearRow_11) dX5_clearRow_9 ?_
    refine gx_iload_n C dX5_clearRow_12 rfl ?_
    refine gx_aaload C (gd_20 hL) (by decide) (by omega) dX5_clearRow_13 (show _ = 21 + 1 * r from rfl) ?_
    refine gx_iload_n C dX5_clearRow_14 rfl ?_
    refine gx_iconst C dX5_clearRow_15 ?_
    refine gx_iastore C hrow (by omega) dX5_clearRow_16 (show _ = 0 + k by omega) ?_
    refine gx_iinc C dX5_clearRow_17 (by decide) rfl rfl ?_
    refine gx_goto C dX5_clearRow_20 rfl ?_
    exact ih _ (by rw [hI]; exact gx_blk_s rfl)
  · refine gx_iload_n C dX5_clearRow_2 rfl ?_
    refine gx_bipush C dX5_clearRow_3 rfl ?_
    refine gx_icmp_ge C dX5_clearRow_5 rfl (by unfold gx_3; omega) (by unfold gx_3; omega) (fun hb5 => ?_) (fun hb5 => absurd (by omega) hb5)
    exact gx_vret C dX5_clearRow_23 hI
/-- a row of an element, and one of the identity matrix -/
def rw_ld (n : Int) (a : Nat → Int) (r : Nat) : Nat → Int := fun k => if k < 3 then a (3 * r + k) else if k < 6 then (if r = k - 3 ∧ (r : Int) < n then 1 else 0) else 0
theorem rw_ld_9 {n : Int} {a : Nat → Int} {r : Nat} : ∀ k, 9 ≤ k → rw_ld n a r k = 0 := fun k hk => by
  unfold rw_ld
  rw [if_neg (by omega), if_neg (by omega)]
theorem gx_u_blk {M : gx_M} {c k : Nat} {v : Int} {f : Nat → Int} (hk : k < 9) : gx_u (gx_blk M c 0 9 f) c k v = gx_blk M c 0 9 (fun i => if i = k then v else f i) := by
  have := gx_blk_u (M := M) (c := c) (o := 0) (f := f) (v := v) hk
  rwa [Nat.zero_add] at this
theorem gx_blk_self {M : gx_M} {c : Nat} : gx_blk M c 0 9 (mx_of (M c) 0) = M := by
  funext c' j
  unfold gx_blk
  by_cases e : c' = c
  · subst e
    rw [if_pos rfl]
    by_cases e2 : 0 ≤ j ∧ j < 0 + 9
    · show (if 0 ≤ j ∧ j < 0 + 9 then _ else _) = _
      rw [if_pos e2, mx_of_at (by omega), Nat.zero_add, Nat.sub_zero]
    · show (if 0 ≤ j ∧ j < 0 + 9 then _ else _) = _
      rw [if_neg e2]
  · rw [if_neg e]
theorem gx_blk_blk {M : gx_M} {c : Nat} {f g : Nat → Int} : gx_blk (gx_blk M c 0 9 f) c 0 9 g = gx_blk M c 0 9 g := by
  funext c' j
  by_cases e : c' = c
  · subst e
    by_cases e2 : j < 9
    · rw [gx_b0 e2, gx_b0 e2]
    · rw [gx_blk_out (by omega), gx_blk_out (by omega), gx_blk_out (by omega)]
  · rw [gx_blk_nc e, gx_blk_nc e, gx_blk_nc e]
set_option maxRecDepth 100000 in
set_option maxHeartbeats 4000000 in
theorem c_X5_load {La : List gx_K} (hL : gd_H La) {M : gx_M} {b c : Nat} (hb : gd_9 La b) (hb2 : b < 19 ∨ 25 ≤ b) (hS : gd_S La c) (hc : 25 ≤ c) {n m : Int} (hn : M c 0 = n) (hn3 : n = 2 ∨ n = 3) (hm : M c 1 = m) : gx_Cv La yX5_load wsX5_load 1 [gx_R 19, gx_R b, gx_R c] M (fun M' => M' 19 1 = m ∧ (∀ r, r < 3 → rw_of M' r = rw_ld n (mx_of (M b) 0) r) ∧ rw_of M' 3 = (fun _ => 0) ∧ (∀ c', (c' < 19 ∨ 25 ≤ c') → M' c' = M c')) := by
  refine gx_start_v (L := [gx_R 19, gx_R b, gx_R c, gx_U, gx_U]) (by decide) rfl rfl (Nat.le_of_ble_eq_true rfl) rfl ?_
  intro _ _ _ _ _ _ _ _ _ _ _ _ C
  refine gx_aload_n C dX5_load_0 rfl ?_
  refine gx_aload_n C dX5_load_1 rfl ?_
  refine gx_getIN C 6 _ 1 rfl hS.1 rfl (by decide) nX5_load_6 ((gx_hN C).1 ("PeirceDesk$Rows", 16, "PeirceDesk$State", "modulus", "I", "PeirceDesk") (by decide +kernel) |> va_Nw.use rfl) dX5_load_2 hm ?_
  refine gx_putI C 5 _ 1 rfl (gd_19 hL) rfl (by decide) nX5_load_5 tyX5 tyX5_ok nmX5 (gx_hts C _ fX5_load_22) rfl rfl dX5_load_5 ?_
  refine gx_iconst C dX5_load_8 ?_
  refine gx_istore_n C dX5_load_9 (by decide) rfl ?_
  have f0 : ∀ c', (c' < 19 ∨ 25 ≤ c') → gx_u M 19 1 m c' = M c' := fun c' h => gx_u_nc (by omega)
  refine gx_for 3 (fun r (_ : gx_M) => [gx_R 19, gx_R b, gx_R c, gx_I (r : Int), gx_U]) (fun M' => M') (fun r M' => M' 19 1 = m ∧ (∀ i, i < r → rw_of M' i = rw_ld n (mx_of (M b) 0) i) ∧ (∀ c', (c' < 19 ∨ 25 ≤ c') → M' c' = M c')) 0 _ (by omega) ⟨gx_u_eq _ _ _ _, fun i hi => absurd hi (Nat.not_lt_zero i), f0⟩ (fun r M' hr hI ih => ?_) (fun M' hI => ?_)
  · obtain ⟨i1, i2, i3⟩ := hI
    have hrow := gd_r hL (i := r) (by omega)
    refine gx_iload_n C dX5_load_10 rfl ?_
    refine gx_iconst C dX5_load_11 ?_
    refine gx_icmp_ge C dX5_load_12 rfl (by unfold gx_3; omega) (by unfold gx_3; omega) (fun hb12 => absurd hb12 (by omega)) (fun hb12 => ?_)
    refine gx_iconst C dX5_load_15 ?_
    refine gx_istore C dX5_load_16 (by decide) rfl ?_
    refine gx_for 3 (fun q (_ : gx_M) => [gx_R 19, gx_R b, gx_R c, gx_I (r : Int), gx_I (q : Int)]) (fun M' => M') (fun q P => P = rw_set M' r (fun k => if k % 3 < q then rw_ld n (mx_of (M b) 0) r k else rw_of M' r k)) 0 M' (by omega) (by
      have : rw_set M' r (fun k => if k % 3 < 0 then rw_ld n (mx_of (M b) 0) r k else rw_of M' r k) = M' := gx_blk_self
      exact this.symm) (fun q P hq hP ih2 => ?_) (fun P hP => ?_)
    · have e0 : P b ((3 * (r : Int) + (q : Int)).toNat) = mx_of (M b) 0 (3 * r + q) := by
        rw [hP]
        unfold rw_set
        rw [gx_blk_nc (by omega), i3 b hb2, show (3 * (r : Int) + (q : Int)).toNat = 3 * r + q by omega, mx_of_at (by omega), Nat.zero_add]
      refine gx_iload C dX5_load_18 rfl ?_
      refine gx_iconst C dX5_load_20 ?_
      refine gx_icmp_ge C dX5_load_21 rfl (by unfold gx_3; omega) (by unfold gx_3; omega) (fun hb21 => absurd hb21 (by omega)) (fun hb21 => ?_)
      refine gx_aload_n C dX5_load_24 rfl ?_
      refine gx_getR C 5 _ 0 rfl (gd_19 hL) rfl (by decide) nX5_load_5 (gx_hts C _ fX5_load_11) dX5_load_25 ?_
      refine gx_iload_n C dX5_load_28 rfl ?_
      refine gx_aaload C (gd_20 hL) (by decide) (by omega) dX5_load_29 (show _ = 21 + 1 * r from rfl) ?_
      refine gx_iload C dX5_load_30 rfl ?_
      refine gx_aload_n C dX5_load_32 rfl ?_
      refine gx_iconst C dX5_load_33 ?_
      refine gx_iload_n C dX5_load_34 rfl ?_
      refine gx_imul C dX5_load_35 ?_
      refine gx_iload C dX5_load_36 rfl ?_
      refine gx_iadd C dX5_load_38 ?_
      refine gx_iaload C hb (by omega) dX5_load_39 e0 ?_
      refine gx_iastore C hrow (by omega) dX5_load_40 (show _ = q by omega) ?_
      refine gx_aload_n C dX5_load_41 rfl ?_
      refine gx_getR C 5 _ 0 rfl (gd_19 hL) rfl (by decide) nX5_load_5 (gx_hts C _ fX5_load_11) dX5_load_42 ?_
      refine gx_iload_n C dX5_load_45 rfl ?_
      refine gx_aaload C (gd_20 hL) (by decide) (by omega) dX5_load_46 (show _ = 21 + 1 * r from rfl) ?_
      refine gx_iconst C dX5_load_47 ?_
      refine gx_iload C dX5_load_48 rfl ?_
      refine gx_iadd C dX5_load_50 ?_
      refine gx_iload_n C dX5_load_51 rfl ?_
      refine gx_iload C dX5_load_52 rfl ?_
      refine gx_cut 70 (fun (v : Int) => [gx_R 19, gx_R b, gx_R c, gx_I (r : Int), gx_I (q : Int)]) (fun v => [gx_I v, gx_I (3 + (q : Int)), gx_R (21 + 1 * r)]) (fun _ => gx_u P (21 + 1 * r) q (mx_of (M b) 0 (3 * r + q))) (fun v => v = if r = q ∧ (r : Int) < n then 1 else 0) (fun v hv => ?_) (fun fin => ?_)
      · refine gx_iastore C hrow (by omega) dX5_load_70 (show _ = 3 + q by omega) ?_
        refine gx_aload_n C dX5_load_71 rfl ?_
        refine gx_getR C 5 _ 0 rfl (gd_19 hL) rfl (by decide) nX5_load_5 (gx_hts C _ fX5_load_11) dX5_load_72 ?_
        refine gx_iload_n C dX5_load_75 rfl ?_
        refine gx_aaload C (gd_20 hL) (by decide) (by omega) dX5_load_76 (show _ = 21 + 1 * r from rfl) ?_
        refine gx_bipush C dX5_load_77 rfl ?_
        refine gx_iload C dX5_load_79 rfl ?_
        refine gx_iadd C dX5_load_81 ?_
        refine gx_iconst C dX5_load_82 ?_
        refine gx_iastore C hrow (by omega) dX5_load_83 (show _ = 6 + q by omega) ?_
        refine gx_iinc C dX5_load_84 (by decide) rfl rfl ?_
        refine gx_goto C dX5_load_87 rfl ?_
        refine ih2 _ ?_
        rw [hP]
        unfold rw_set
        rw [gx_u_blk (by omega), gx_u_blk (by omega), gx_u_blk (by omega)]
        refine gx_blk_f (fun k hk => ?_)
        by_cases k1 : k = 6 + q
        · rw [if_pos k1, if_pos (by omega)]
          unfold rw_ld
          rw [if_neg (by omega), if_neg (by omega)]
        · rw [if_neg k1]
          by_cases k2 : k = 3 + q
          · have e7 : rw_ld n (mx_of (M b) 0) r k = if r = q ∧ (r : Int) < n then 1 else 0 := by
              unfold rw_ld
              rw [if_neg (by omega), if_pos (by omega), show k - 3 = q by omega]
            rw [if_pos k2, if_pos (by omega), hv, e7]
          · rw [if_neg k2]
            by_cases k3 : k = q
            · rw [if_pos k3, if_pos (by omega)]
              unfold rw_ld
              rw [if_pos (by omega), k3]
            · rw [if_neg k3]
              by_cases k4 : k % 3 < q
              · rw [if_pos k4, if_pos (by omega)]
              · rw [if_neg k4, if_neg (by omega)]
      · have en : gx_u P (21 + 1 * r) q (mx_of (M b) 0 (3 * r + q)) c 0 = n := by
          rw [gx_u_nc (by omega), hP]
          unfold rw_set
          rw [gx_blk_nc (by omega), i3 c (by omega)]
          exact hn
        refine gx_icmp_ne C dX5_load_54 rfl (by unfold gx_3; omega) (by unfold gx_3; omega) (fun hb54 => ?_) (fun hb54 => ?_)
        · refine gx_iconst C dX5_load_69 ?_
          exact fin 0 (by rw [if_neg (by omega)])
        · refine gx_iload_n C dX5_load_57 rfl ?_
          refine gx_aload_n C dX5_load_58 rfl ?_
          refine gx_getIN C 6 _ 0 rfl hS.1 rfl (by decide) nX5_load_6 ((gx_hN C).1 ("PeirceDesk$Rows", 23, "PeirceDesk$State", "size", "I", "PeirceDesk") (by decide +kernel) |> va_Nw.use rfl) dX5_load_59 en ?_
          refine gx_icmp_ge C dX5_load_62 rfl (by unfold gx_3; omega) (by unfold gx_3; omega) (fun hb62 => ?_) (fun hb62 => ?_)
          · refine gx_iconst C dX5_load_69 ?_
            exact fin 0 (by rw [if_neg (by omega)])
          · refine gx_iconst C dX5_load_65 ?_
            refine gx_goto C dX5_load_66 rfl ?_
            exact fin 1 (by rw [if_pos (by omega)])
    · have hP' : P = rw_set M' r (rw_ld n (mx_of (M b) 0) r) := by
        rw [hP]
        exact gx_blk_f (fun k hk => if_pos (by omega))
      refine gx_iload C dX5_load_18 rfl ?_
      refine gx_iconst C dX5_load_20 ?_
      refine gx_icmp_ge C dX5_load_21 rfl (by unfold gx_3; omega) (by unfold gx_3; omega) (fun hb21 => ?_) (fun hb21 => absurd (by omega) hb21)
      refine gx_iinc C dX5_load_90 (by decide) rfl rfl ?_
      refine gx_goto C dX5_load_93 rfl ?_
      refine gx_weak (L' := [gx_R 19, gx_R b, gx_R c, gx_I ((r + 1 : Nat) : Int), gx_U]) ⟨Or.inr rfl, Or.inr rfl, Or.inr rfl, Or.inr rfl, Or.inl rfl, trivial⟩ (ih _ ⟨by rw [hP']; unfold rw_set; rw [gx_blk_nc (by omega)]; exact i1, fun i hi => ?_, fun c' hc' => by rw [hP']; unfold rw_set; rw [gx_blk_nc (by omega)]; exact i3 c' hc'⟩)
      rw [hP']
      by_cases e : i = r
      · rw [e]
        exact rw_set_eq rw_ld_9
      · rw [rw_set_ne e]
        exact i2 i (by omega)
  · obtain ⟨i1, i2, i3⟩ := hI
    refine gx_iload_n C dX5_load_10 rfl ?_
    refine gx_iconst C dX5_load_11 ?_
    refine gx_icmp_ge C dX5_load_12 rfl (by unfold gx_3; omega) (by unfold gx_3; omega) (fun hb12 => ?_) (fun hb12 => absurd (by omega) hb12)
    refine gx_aload_n C dX5_load_96 rfl ?_
    refine gx_iconst C dX5_load_97 ?_
    refine gx_callV C 5 rfl (gd_19 hL) (c_X5_clearRow hL (r := 3) rfl (by decide)) (cwV 1 (gx_hts C) gX5_load_X5_clearRow rfl rfl rfl (by decide +kernel) ⟨Nat.le_of_ble_eq_true rfl, Nat.le_of_ble_eq_true rfl⟩) rfl rfl (Nat.le_of_ble_eq_true rfl) ⟨Nat.le_refl _, Nat.le_refl _⟩ dX5_load_98 (fun P hP => ?_)
    exact gx_vret C dX5_load_101 ⟨by rw [hP]; unfold rw_set; rw [gx_blk_nc (by omega)]; exact i1, fun r hr => by rw [hP, rw_set_ne (by omega)]; exact i2 r hr, by rw [hP]; exact rw_set_eq (fun _ _ => rfl), fun c' hc' => by rw [hP]; unfold rw_set; rw [gx_blk_nc (by omega)]; exact i3 c' hc'⟩
