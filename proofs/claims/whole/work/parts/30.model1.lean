/-! THE REFERENCE: its small methods -/
theorem mx_wi {v m : Int} (h : 0 < m) : (v.tmod m + m).tmod m = v % m := by
  have h1 := Int.lt_tmod_of_pos v h
  rw [gx_tmod (by omega), Int.add_emod_right, Int.tmod_def, Int.sub_mul_emod_self_left]
theorem gm_rd {M : gx_M} {a j : Nat} {i : Int} (hi : i = ((a + j : Nat) : Int)) (hj : j < 9) : M 6 i.toNat = mx_of (M 6) a j := by
  rw [mx_of_at hj, hi]
  rfl
theorem gm_rdb {M : gx_M} {a j t n : Nat} {f : Nat → Int} {i : Int} (hd : a + 9 ≤ t ∨ t + n ≤ a) (hi : i = ((a + j : Nat) : Int)) (hj : j < 9) : gx_blk M 6 t n f 6 i.toNat = mx_of (M 6) a j := by
  rw [mx_of_at hj, hi]
  exact gx_blk_out (by show a + j < t ∨ _; omega)
theorem gm_sz {M : gx_M} {n : Nat} {m : Int} (h : gm_Z M n m) : gx_3 n ∧ gx_3 m := by
  obtain ⟨-, -, h1, h2⟩ := h
  unfold gx_3
  omega
set_option maxRecDepth 100000 in
set_option maxHeartbeats 4000000 in
theorem c_X8_in {La : List gx_K} {M : gx_M} {v lo hi : Int} (h1 : gx_3 v) (h2 : gx_3 lo) (h3 : gx_3 hi) : gx_Ci La yX8_in wsX8_in 0 [gx_I v, gx_I lo, gx_I hi] M (fun z M' => M' = M ∧ z = if lo ≤ v ∧ v ≤ hi then 1 else 0) := by
  refine gx_start_i (L := [gx_I v, gx_I lo, gx_I hi]) (by decide) rfl rfl (Nat.le_of_ble_eq_true rfl) rfl ?_
  intro _ _ _ _ _ _ _ _ _ _ _ _ C
  refine gx_iload_n C dX8_in_0 rfl ?_
  refine gx_iload_n C dX8_in_1 rfl ?_
  refine gx_icmp_lt C dX8_in_2 rfl h1 h2 (fun hb2 => ?_) (fun hb2 => ?_)
  · refine gx_iconst C dX8_in_14 ?_
    exact gx_zret C (by omega) dX8_in_15 ⟨rfl, by rw [if_neg (by omega)]⟩
  · refine gx_iload_n C dX8_in_5 rfl ?_
    refine gx_iload_n C dX8_in_6 rfl ?_
    refine gx_icmp_gt C dX8_in_7 rfl h1 h3 (fun hb7 => ?_) (fun hb7 => ?_)
    · refine gx_iconst C dX8_in_14 ?_
      exact gx_zret C (by omega) dX8_in_15 ⟨rfl, by rw [if_neg (by omega)]⟩
    · refine gx_iconst C dX8_in_10 ?_
      refine gx_goto C dX8_in_11 rfl ?_
      exact gx_zret C (by omega) dX8_in_15 ⟨rfl, by rw [if_pos (by omega)]⟩
set_option maxRecDepth 100000 in
set_option maxHeartbeats 4000000 in
theorem c_X8_isRegister {La : List gx_K} {M : gx_M} {v : Int} (h1 : gx_3 v) : gx_Ci La yX8_isRegister wsX8_isRegister 1 [gx_I v] M (fun z M' => M' = M ∧ z = if 0 ≤ v ∧ v ≤ 7 then 1 else 0) := by
  refine gx_start_i (L := [gx_I v]) (by decide) rfl rfl (Nat.le_of_ble_eq_true rfl) rfl ?_
  intro _ _ _ _ _ _ _ _ _ _ _ _ C
  refine gx_iload_n C dX8_isRegister_0 rfl ?_
  refine gx_iconst C dX8_isRegister_1 ?_
  refine gx_bipush C dX8_isRegister_2 rfl ?_
  refine gx_statI C (c_X8_in h1 (by unfold gx_3; omega) (by unfold gx_3; omega)) (cwS 3 (gx_hts C) gX8_isRegister_X8_in rfl rfl rfl (by decide +kernel) ⟨Nat.le_of_ble_eq_true rfl, Nat.le_of_ble_eq_true rfl⟩) rfl rfl (Nat.le_of_ble_eq_true rfl) ⟨Nat.le_refl _, Nat.le_refl _⟩ dX8_isRegister_4 (fun z M1 hz => ?_)
  obtain ⟨rfl, rfl⟩ := hz
  exact gx_zret C (by split <;> simp) dX8_isRegister_7 ⟨rfl, rfl⟩
set_option maxRecDepth 100000 in
set_option maxHeartbeats 4000000 in
theorem c_X8_half {La : List gx_K} (hM : gm_H La) {M : gx_M} {n : Nat} {m : Int} (hz : gm_Z M n m) : gx_Ci La yX8_half wsX8_half 0 [gx_R 0] M (fun z M' => M' = M ∧ z = (m + 1) / 2) := by
  obtain ⟨hz1, hz2, hz3, hz4⟩ := hz
  refine gx_start_i (L := [gx_R 0]) (by decide) rfl rfl (Nat.le_of_ble_eq_true rfl) rfl ?_
  intro _ _ _ _ _ _ _ _ _ _ _ _ C
  refine gx_aload_n C dX8_half_0 rfl ?_
  refine gx_getR C 8 _ 0 rfl (gm_0 hM) rfl (by decide) nX8_half_8 (gx_hts C _ fX8_half_7) dX8_half_1 ?_
  refine gx_bipush C dX8_half_4 rfl ?_
  refine gx_iaload C (gm_1 hM) (by omega) dX8_half_6 hz2 ?_
  refine gx_iconst C dX8_half_7 ?_
  refine gx_iadd C dX8_half_8 ?_
  refine gx_iconst C dX8_half_9 ?_
  refine gx_idiv C dX8_half_10 (by unfold gx_3; omega) (by unfold gx_3; omega) (by omega) (gx_tdiv (by omega)) ?_
  exact gx_iret C dX8_half_11 ⟨rfl, rfl⟩
set_option maxRecDepth 100000 in
set_option maxHeartbeats 4000000 in
theorem c_X8_within {La : List gx_K} (hM : gm_H La) {M : gx_M} {n : Nat} {m : Int} (hz : gm_Z M n m) {v : Int} (hv : -1000000000 ≤ v ∧ v ≤ 1000000000) : gx_Ci La yX8_within wsX8_within 0 [gx_R 0, gx_I v] M (fun z M' => M' = M ∧ z = v % m) := by
  obtain ⟨hz1, hz2, hz3, hz4⟩ := hz
  have h1 := Int.lt_tmod_of_pos v (show 0 < m by omega)
  have h2 := Int.tmod_lt_of_pos v (show 0 < m by omega)
  refine gx_start_i (L := [gx_R 0, gx_I v, gx_U]) (by decide) rfl rfl (Nat.le_of_ble_eq_true rfl) rfl ?_
  intro _ _ _ _ _ _ _ _ _ _ _ _ C
  refine gx_aload_n C dX8_within_0 rfl ?_
  refine gx_getR C 8 _ 0 rfl (gm_0 hM) rfl (by decide) nX8_within_8 (gx_hts C _ fX8_within_7) dX8_within_1 ?_
  refine gx_bipush C dX8_within_4 rfl ?_
  refine gx_iaload C (gm_1 hM) (by omega) dX8_within_6 hz2 ?_
  refine gx_istore_n C dX8_within_7 (by decide) rfl ?_
  refine gx_iload_n C dX8_within_8 rfl ?_
  refine gx_iload_n C dX8_within_9 rfl ?_
  refine gx_irem C dX8_within_10 (by unfold gx_3; omega) (by unfold gx_3; omega) (by omega) rfl ?_
  refine gx_iload_n C dX8_within_11 rfl ?_
  refine gx_iadd C dX8_within_12 ?_
  refine gx_iload_n C dX8_within_13 rfl ?_
  refine gx_irem C dX8_within_14 (by unfold gx_3; omega) (by unfold gx_3; omega) (by omega) (mx_wi (by omega)) ?_
  exact gx_iret C dX8_within_15 ⟨rfl, rfl⟩
/-- the greatest number below k that gives 1 with v, 1 if there is none -/
def mx_ov (v m : Int) : Nat → Int
  | 0 => 1
  | k + 1 => if v * (k + 1 : Nat) % m = 1 then ((k + 1 : Nat) : Int) else mx_ov v m k
theorem mx_ovb {v m : Int} : ∀ k, 1 ≤ mx_ov v m k ∧ (mx_ov v m k ≤ k ∨ mx_ov v m k = 1)
  | 0 => by simp [mx_ov]
  | k + 1 => by
    have := mx_ovb (v := v) (m := m) k
    unfold mx_ov
    split <;> omega
set_option maxRecDepth 100000 in
set_option maxHeartbeats 4000000 in
theorem c_X8_over {La : List gx_K} (hM : gm_H La) {M : gx_M} {n : Nat} {m : Int} (hz : gm_Z M n m) {v : Int} (hv : 0 ≤ v ∧ v < m) : gx_Ci La yX8_over wsX8_over 0 [gx_R 0, gx_I v] M (fun z M' => M' = M ∧ z = mx_ov v m (m.toNat - 1)) := by
  obtain ⟨hz1, hz2, hz3, hz4⟩ := hz
  refine gx_start_i (L := [gx_R 0, gx_I v, gx_U, gx_U]) (by decide) rfl rfl (Nat.le_of_ble_eq_true rfl) rfl ?_
  intro _ _ _ _ _ _ _ _ _ _ _ _ C
  refine gx_iconst C dX8_over_0 ?_
  refine gx_istore_n C dX8_over_1 (by decide) rfl ?_
  refine gx_iconst C dX8_over_2 ?_
  refine gx_istore_n C dX8_over_3 (by decide) rfl ?_
  refine gx_for (m.toNat - 1) (fun k (f : Int) => [gx_R 0, gx_I v, gx_I f, gx_I ((k + 1 : Nat) : Int)]) (fun _ => M) (fun k f => f = mx_ov v m k) 0 1 (by omega) rfl (fun k f hk hI ih => ?_) (fun f hI => ?_)
  · have hb := mx_ovb (v := v) (m := m) k
    have hp := mx_pr (m := 11) (x := v) (y := ((k + 1 : Nat) : Int)) (by omega) (by omega) (by omega)
    have hr := mx_md (m := m) (by omega) (v * ((k + 1 : Nat) : Int))
    subst hI
    refine gx_iload_n C dX8_over_4 rfl ?_
    refine gx_aload_n C dX8_over_5 rfl ?_
    refine gx_getR C 8 _ 0 rfl (gm_0 hM) rfl (by decide) nX8_over_8 (gx_hts C _ fX8_over_7) dX8_over_6 ?_
    refine gx_bipush C dX8_over_9 rfl ?_
    refine gx_iaload C (gm_1 hM) (by omega) dX8_over_11 hz2 ?_
    refine gx_icmp_ge C dX8_over_12 rfl (by unfold gx_3; omega) (by unfold gx_3; omega) (fun hb12 => absurd hb12 (by omega)) (fun hb12 => ?_)
    refine gx_iload_n C dX8_over_15 rfl ?_
    refine gx_iload_n C dX8_over_16 rfl ?_
    refine gx_imul C dX8_over_17 ?_
    refine gx_aload_n C dX8_over_18 rfl ?_
    refine gx_getR C 8 _ 0 rfl (gm_0 hM) rfl (by decide) nX8_over_8 (gx_hts C _ fX8_over_7) dX8_over_19 ?_
    refine gx_bipush C dX8_over_22 rfl ?_
    refine gx_iaload C (gm_1 hM) (by omega) dX8_over_24 hz2 ?_
    refine gx_irem C dX8_over_25 (by unfold gx_3; omega) (by unfold gx_3; omega) (by omega) (gx_tmod (by omega)) ?_
    refine gx_iconst C dX8_over_26 ?_
    refine gx_icmp_ne C dX8_over_27 rfl (by unfold gx_3; omega) (by unfold gx_3; omega) (fun hb27 => ?_) (fun hb27 => ?_)
    · refine gx_iload_n C dX8_over_34 rfl ?_
      refine gx_istore_n C dX8_over_35 (by decide) rfl ?_
      refine gx_iinc C dX8_over_36 (by decide) rfl rfl ?_
      refine gx_goto C dX8_over_39 rfl ?_
      exact ih _ ((if_neg hb27).symm)
    · refine gx_iload_n C dX8_over_30 rfl ?_
      refine gx_goto C dX8_over_31 rfl ?_
      refine gx_istore_n C dX8_over_35 (by decide) rfl ?_
      refine gx_iinc C dX8_over_36 (by decide) rfl rfl ?_
      refine gx_goto C dX8_over_39 rfl ?_
      exact ih _ ((if_pos (by omega)).symm)
  · subst hI
    refine gx_iload_n C dX8_over_4 rfl ?_
    refine gx_aload_n C dX8_over_5 rfl ?_
    refine gx_getR C 8 _ 0 rfl (gm_0 hM) rfl (by decide) nX8_over_8 (gx_hts C _ fX8_over_7) dX8_over_6 ?_
    refine gx_bipush C dX8_over_9 rfl ?_
    refine gx_iaload C (gm_1 hM) (by omega) dX8_over_11 hz2 ?_
    refine gx_icmp_ge C dX8_over_12 rfl (by unfold gx_3; omega) (by unfold gx_3; omega) (fun hb12 => ?_) (fun hb12 => absurd (by omega) hb12)
    refine gx_iload_n C dX8_over_42 rfl ?_
    exact gx_iret C dX8_over_43 ⟨rfl, rfl⟩
set_option maxRecDepth 100000 in
set_option maxHeartbeats 4000000 in
theorem c_X8_blank {La : List gx_K} (hM : gm_H La) {M : gx_M} {t : Nat} (ht : t + 9 ≤ 1926) : gx_Cv La yX8_blank wsX8_blank 0 [gx_R 0, gx_I t] M (fun M' => M' = gx_blk M 6 t 9 (fun _ => 0)) := by
  refine gx_start_v (L := [gx_R 0, gx_I t, gx_U]) (by decide) rfl rfl (Nat.le_of_ble_eq_true rfl) rfl ?_
  intro _ _ _ _ _ _ _ _ _ _ _ _ C
  refine gx_iconst C dX8_blank_0 ?_
  refine gx_istore_n C dX8_blank_1 (by decide) rfl ?_
  refine gx_for 9 (fun k (M' : gx_M) => [gx_R 0, gx_I t, gx_I (k : Int)]) (fun M' => M') (fun k M' => M' = gx_blk M 6 t k (fun _ => 0)) 0 M (by omega) gx_blk_0.symm (fun k M' hk hI ih => ?_) (fun M' hI => ?_)
  · subst hI
    refine gx_iload_n C dX8_blank_2 rfl ?_
    refine gx_bipush C dX8_blank_3 rfl ?_
    refine gx_icmp_ge C dX8_blank_5 rfl (by unfold gx_3; omega) (by unfold gx_3; omega) (fun hb5 => absurd hb5 (by omega)) (fun hb5 => ?_)
    refine gx_aload_n C dX8_blank_8 rfl ?_
    refine gx_getR C 8 _ 7 rfl (gm_0 hM) rfl (by decide) nX8_blank_8 (gx_hts C _ fX8_blank_27) dX8_blank_9 ?_
    refine gx_iload_n C dX8_blank_12 rfl ?_
    refine gx_iload_n C dX8_blank_13 rfl ?_
    refine gx_iadd C dX8_blank_14 ?_
    refine gx_iconst C dX8_blank_15 ?_
    refine gx_iastore C (gm_6 hM) (by omega) dX8_blank_16 (show _ = t + k by omega) ?_
    refine gx_iinc C dX8_blank_17 (by decide) rfl rfl ?_
    refine gx_goto C dX8_blank_20 rfl ?_
    exact ih _ (gx_blk_s rfl)
  · subst hI
    refine gx_iload_n C dX8_blank_2 rfl ?_
    refine gx_bipush C dX8_blank_3 rfl ?_
    refine gx_icmp_ge C dX8_blank_5 rfl (by unfold gx_3; omega) (by unfold gx_3; omega) (fun hb5 => ?_) (fun hb5 => absurd (by omega) hb5)
    exact gx_vret C dX8_blank_23 rfl
set_option maxRecDepth 100000 in
set_option maxHeartbeats 4000000 in
theorem c_X8_copy {La : List gx_K} (hM : gm_H La) {M : gx_M} {a t : Nat} (ha : a + 9 ≤ 1926) (ht : t + 9 ≤ 1926) (hd : a + 9 ≤ t ∨ t + 9 ≤ a ∨ a = t) : gx_Cv La yX8_copy wsX8_copy 0 [gx_R 0, gx_I a, gx_I t] M (fun M' => M' = gx_blk M 6 t 9 (mx_of (M 6) a)) := by
  refine gx_start_v (L := [gx_R 0, gx_I a, gx_I t, gx_U]) (by decide) rfl rfl (Nat.le_of_ble_eq_true rfl) rfl ?_
  intro _ _ _ _ _ _ _ _ _ _ _ _ C
  refine gx_iconst C dX8_copy_0 ?_
  refine gx_istore_n C dX8_copy_1 (by decide) rfl ?_
  refine gx_for 9 (fun k (M' : gx_M) => [gx_R 0, gx_I a, gx_I t, gx_I (k : Int)]) (fun M' => M') (fun k M' => M' = gx_blk M 6 t k (mx_of (M 6) a)) 0 M (by omega) gx_blk_0.symm (fun k M' hk hI ih => ?_) (fun M' hI => ?_)
  · have hr : M' 6 (((a : Int) + (k : Int)).toNat) = mx_of (M 6) a k := by
      rw [show ((a : Int) + (k : Int)).toNat = a + k by omega, mx_of_at hk, hI]
      exact gx_blk_out (by omega)
    refine gx_iload_n C dX8_copy_2 rfl ?_
    refine gx_bipush C dX8_copy_3 rfl ?_
    refine gx_icmp_ge C dX8_copy_5 rfl (by unfold gx_3; omega) (by unfold gx_3; omega) (fun hb5 => absurd hb5 (by omega)) (fun hb5 => ?_)
    refine gx_aload_n C dX8_copy_8 rfl ?_
    refine gx_getR C 8 _ 7 rfl (gm_0 hM) rfl (by decide) nX8_copy_8 (gx_hts C _ fX8_copy_27) dX8_copy_9 ?_
    refine gx_iload_n C dX8_copy_12 rfl ?_
    refine gx_iload_n C dX8_copy_13 rfl ?_
    refine gx_iadd C dX8_copy_14 ?_
    refine gx_aload_n C dX8_copy_15 rfl ?_
    refine gx_getR C 8 _ 7 rfl (gm_0 hM) rfl (by decide) nX8_copy_8 (gx_hts C _ fX8_copy_27) dX8_copy_16 ?_
    refine gx_iload_n C dX8_copy_19 rfl ?_
    refine gx_iload_n C dX8_copy_20 rfl ?_
    refine gx_iadd C dX8_copy_21 ?_
    refine gx_iaload C (gm_6 hM) (by omega) dX8_copy_22 hr ?_
    refine gx_iastore C (gm_6 hM) (by omega) dX8_copy_23 (show _ = t + k by omega) ?_
    refine gx_iinc C dX8_copy_24 (by decide) rfl rfl ?_
    refine gx_goto C dX8_copy_27 rfl ?_
    exact ih _ (by rw [hI]; exact gx_blk_s rfl)
  · subst hI
    refine gx_iload_n C dX8_copy_2 rfl ?_
    refine gx_bipush C dX8_copy_3 rfl ?_
    refine gx_icmp_ge C dX8_copy_5 rfl (by unfold gx_3; omega) (by unfold gx_3; omega) (fun hb5 => ?_) (fun hb5 => absurd (by omega) hb5)
    exact gx_vret C dX8_copy_30 rfl
set_option maxRecDepth 100000 in
set_option maxHeartbeats 4000000 in
theorem c_X8_add {La : List gx_K} (hM : gm_H La) {M : gx_M} {n : Nat} {m : Int} (hz : gm_Z M n m) {a b t : Nat} {x y : Int} (ha : a + 9 ≤ 1926) (hb : b + 9 ≤ 1926) (ht : t + 9 ≤ 1926) (hat : a + 9 ≤ t ∨ t + 9 ≤ a ∨ a = t) (hbt : b + 9 ≤ t ∨ t + 9 ≤ b ∨ b = t) (oa : mx_ok m (mx_of (M 6) a)) (ob : mx_ok m (mx_of (M 6) b)) (hx : -10 ≤ x ∧ x ≤ 10) (hy : -10 ≤ y ∧ y ≤ 10) : gx_Cv La yX8_add wsX8_add 1 [gx_R 0, gx_I a, gx_I x, gx_I b, gx_I y, gx_I t] M (fun M' => M' = gx_blk M 6 t 9 (mx_lin m (mx_of (M 6) a) x (mx_of (M 6) b) y)) := by
  have hz0 := hz
  obtain ⟨hz1, hz2, hz3, hz4⟩ := hz
  refine gx_start_v (L := [gx_R 0, gx_I a, gx_I x, gx_I b, gx_I y, gx_I t, gx_U]) (by decide) rfl rfl (Nat.le_of_ble_eq_true rfl) rfl ?_
  intro _ _ _ _ _ _ _ _ _ _ _ _ C
  refine gx_iconst C dX8_add_0 ?_
  refine gx_istore C dX8_add_1 (by decide) rfl ?_
  refine gx_for 9 (fun k (M' : gx_M) => [gx_R 0, gx_I a, gx_I x, gx_I b, gx_I y, gx_I t, gx_I (k : Int)]) (fun M' => M') (fun k M' => M' = gx_blk M 6 t k (mx_lin m (mx_of (M 6) a) x (mx_of (M 6) b) y)) 0 M (by omega) gx_blk_0.symm (fun k M' hk hI ih => ?_) (fun M' hI => ?_)
  · have hra : M' 6 (((a : Int) + (k : Int)).toNat) = mx_of (M 6) a k := by
      rw [show ((a : Int) + (k : Int)).toNat = a + k by omega, mx_of_at hk, hI]
      exact gx_blk_out (by omega)
    have hrb : M' 6 (((b : Int) + (k : Int)).toNat) = mx_of (M 6) b k := by
      rw [show ((b : Int) + (k : Int)).toNat = b + k by omega, mx_of_at hk, hI]
      exact gx_blk_out (by omega)
    have hz' : gm_Z M' n m := by rw [hI]; exact ⟨by rw [gx_blk_nc (by decide)]; exact hz1, by rw [gx_blk_nc (by decide)]; exact hz2, hz3, hz4⟩
    have h1 := oa k hk
    have h2 := ob k hk
    have h3 : -100 ≤ mx_of (M 6) a k * x ∧ mx_of (M 6) a k * x ≤ 100 := mx_sm (by omega) hx
    have h4 : -100 ≤ mx_of (M 6) b k * y ∧ mx_of (M 6) b k * y ≤ 100 := mx_sm (by omega) hy
    refine gx_iload C dX8_add_3 rfl ?_
    refine gx_bipush C dX8_add_5 rfl ?_
    refine gx_icmp_ge C dX8_add_7 rfl (by unfold gx_3; omega) (by unfold gx_3; omega) (fun hb7 => absurd hb7 (by omega)) (fun hb7 => ?_)
    refine gx_aload_n C dX8_add_10 rfl ?_
    refine gx_getR C 8 _ 7 rfl (gm_0 hM) rfl (by decide) nX8_add_8 (gx_hts C _ fX8_add_27) dX8_add_11 ?_
    refine gx_iload C dX8_add_14 rfl ?_
    refine gx_iload C dX8_add_16 rfl ?_
    refine gx_iadd C dX8_add_18 ?_
    refine gx_aload_n C dX8_add_19 rfl ?_
    refine gx_aload_n C dX8_add_20 rfl ?_
    refine gx_getR C 8 _ 7 rfl (gm_0 hM) rfl (by decide) nX8_add_8 (gx_hts C _ fX8_add_27) dX8_add_21 ?_
    refine gx_iload_n C dX8_add_24 rfl ?_
    refine gx_iload C dX8_add_25 rfl ?_
    refine gx_iadd C dX8_add_27 ?_
    refine gx_iaload C (gm_6 hM) (by omega) dX8_add_28 hra ?_
    refine gx_iload_n C dX8_add_29 rfl ?_
    refine gx_imul C dX8_add_30 ?_
    refine gx_aload_n C dX8_add_31 rfl ?_
    refine gx_getR C 8 _ 7 rfl (gm_0 hM) rfl (by decide) nX8_add_8 (gx_hts C _ fX8_add_27) dX8_add_32 ?_
    refine gx_iload_n C dX8_add_35 rfl ?_
    refine gx_iload C dX8_add_36 rfl ?_
    refine gx_iadd C dX8_add_38 ?_
    refine gx_iaload C (gm_6 hM) (by omega) dX8_add_39 hrb ?_
    refine gx_iload C dX8_add_40 rfl ?_
    refine gx_imul C dX8_add_42 ?_
    refine gx_iadd C dX8_add_43 ?_
    refine gx_callI C 8 rfl (gm_0 hM) (c_X8_within hM hz' (by omega)) (cwV 1 (gx_hts C) gX8_add_X8_within rfl rfl rfl (by decide +kernel) ⟨Nat.le_of_ble_eq_true rfl, Nat.le_of_ble_eq_true rfl⟩) rfl rfl (Nat.le_of_ble_eq_true rfl) ⟨Nat.le_refl _, Nat.le_refl _⟩ dX8_add_44 (fun z M1 hq => ?_)
    obtain ⟨rfl, rfl⟩ := hq
    refine gx_iastore C (gm_6 hM) (by omega) dX8_add_47 (show _ = t + k by omega) ?_
    refine gx_iinc C dX8_add_48 (by decide) rfl rfl ?_
    refine gx_goto C dX8_add_51 rfl ?_
    exact ih _ (by rw [hI]; exact gx_blk_s (by unfold mx_lin; rw [if_pos hk]))
  · subst hI
    refine gx_iload C dX8_add_3 rfl ?_
    refine gx_bipush C dX8_add_5 rfl ?_
    refine gx_icmp_ge C dX8_add_7 rfl (by unfold gx_3; omega) (by unfold gx_3; omega) (fun hb7 => ?_) (fun hb7 => absurd (by omega) hb7)
    exact gx_vret C dX8_add_54 rfl
set_option maxRecDepth 100000 in
set_option maxHeartbeats 4000000 in
theorem c_X8_areAlike {La : List gx_K} (hM : gm_H La) {M : gx_M} {m : Int} (hm : m ≤ 11) {a b : Nat} (ha : a + 9 ≤ 1926) (hb : b + 9 ≤ 1926) (oa : mx_ok m (mx_of (M 6) a)) (ob : mx_ok m (mx_of (M 6) b)) : gx_Ci La yX8_areAlike wsX8_areAlike 0 [gx_R 0, gx_I a, gx_I b] M (fun z M' => M' = M ∧ (z = 0 ∨ z = 1) ∧ (z = 1 ↔ mx_of (M 6) a = mx_of (M 6) b)) := by
  refine gx_start_i (L := [gx_R 0, gx_I a, gx_I b, gx_U, gx_U]) (by decide) rfl rfl (Nat.le_of_ble_eq_true rfl) rfl ?_
  intro _ _ _ _ _ _ _ _ _ _ _ _ C
  refine gx_iconst C dX8_areAlike_0 ?_
  refine gx_istore_n C dX8_areAlike_1 (by decide) rfl ?_
  refine gx_iconst C dX8_areAlike_2 ?_
  refine gx_istore C dX8_areAlike_3 (by decide) rfl ?_
  refine gx_for 9 (fun k (f : Int) => [gx_R 0, gx_I a, gx_I b, gx_I f, gx_I (k : Int)]) (fun _ => M) (fun k f => (f = 0 ∨ f = 1) ∧ (f = 1 ↔ ∀ j, j < k → mx_of (M 6) a j = mx_of (M 6) b j)) 0 1 (by omega) ⟨Or.inr rfl, by simp⟩ (fun k f hk hI ih => ?_) (fun f hI => ?_)
  · have hra : M 6 (((a : Int) + (k : Int)).toNat) = mx_of (M 6) a k := gm_rd (by omega) hk
    have hrb : M 6 (((b : Int) + (k : Int)).toNat) = mx_of (M 6) b k := gm_rd (by omega) hk
    have h1 := oa k hk
    have h2 := ob k hk
    have hs : (∀ j, j < k + 1 → mx_of (M 6) a j = mx_of (M 6) b j) ↔ (∀ j, j < k → mx_of (M 6) a j = mx_of (M 6) b j) ∧ mx_of (M 6) a k = mx_of (M 6) b k := mx_all
    refine gx_iload C dX8_areAlike_5 rfl ?_
    refine gx_bipush C dX8_areAlike_7 rfl ?_
    refine gx_icmp_ge C dX8_areAlike_9 rfl (by unfold gx_3; omega) (by unfold gx_3; omega) (fun hb9 => absurd hb9 (by omega)) (fun hb9 => ?_)
    refine gx_iload_n C dX8_areAlike_12 rfl ?_
    refine gx_if_eq C dX8_areAlike_13 rfl (by unfold gx_3; omega) (fun hb13 => ?_) (fun hb13 => ?_)
    · refine gx_iconst C dX8_areAlike_41 ?_
      refine gx_istore_n C dX8_areAlike_42 (by decide) rfl ?_
      refine gx_iinc C dX8_areAlike_43 (by decide) rfl rfl ?_
      refine gx_goto C dX8_areAlike_46 rfl ?_
      exact ih _ ⟨Or.inl rfl, by rw [hs, ← hI.2]; omega⟩
    · refine gx_aload_n C dX8_areAlike_16 rfl ?_
      refine gx_getR C 8 _ 7 rfl (gm_0 hM) rfl (by decide) nX8_areAlike_8 (gx_hts C _ fX8_areAlike_27) dX8_areAlike_17 ?_
      refine gx_iload_n C dX8_areAlike_20 rfl ?_
      refine gx_iload C dX8_areAlike_21 rfl ?_
      refine gx_iadd C dX8_areAlike_23 ?_
      refine gx_iaload C (gm_6 hM) (by omega) dX8_areAlike_24 hra ?_
      refine gx_aload_n C dX8_areAlike_25 rfl ?_
      refine gx_getR C 8 _ 7 rfl (gm_0 hM) rfl (by decide) nX8_areAlike_8 (gx_hts C _ fX8_areAlike_27) dX8_areAlike_26 ?_
      refine gx_iload_n C dX8_areAlike_29 rfl ?_
      refine gx_iload C dX8_areAlike_30 rfl ?_
      refine gx_iadd C dX8_areAlike_32 ?_
      refine gx_iaload C (gm_6 hM) (by omega) dX8_areAlike_33 hrb ?_
      refine gx_icmp_ne C dX8_areAlike_34 rfl (by unfold gx_3; omega) (by unfold gx_3; omega) (fun hb34 => ?_) (fun hb34 => ?_)
      · refine gx_iconst C dX8_areAlike_41 ?_
        refine gx_istore_n C dX8_areAlike_42 (by decide) rfl ?_
        refine gx_iinc C dX8_areAlike_43 (by decide) rfl rfl ?_
        refine gx_goto C dX8_areAlike_46 rfl ?_
        exact ih _ ⟨Or.inl rfl, by rw [hs, ← hI.2]; omega⟩
      · refine gx_iconst C dX8_areAlike_37 ?_
        refine gx_goto C dX8_areAlike_38 rfl ?_
        refine gx_istore_n C dX8_areAlike_42 (by decide) rfl ?_
        refine gx_iinc C dX8_areAlike_43 (by decide) rfl rfl ?_
        refine gx_goto C dX8_areAlike_46 rfl ?_
        exact ih _ ⟨Or.inr rfl, by rw [hs, ← hI.2]; omega⟩
  · refine gx_iload C dX8_areAlike_5 rfl ?_
    refine gx_bipush C dX8_areAlike_7 rfl ?_
    refine gx_icmp_ge C dX8_areAlike_9 rfl (by unfold gx_3; omega) (by unfold gx_3; omega) (fun hb9 => ?_) (fun hb9 => absurd (by omega) hb9)
    refine gx_iload_n C dX8_areAlike_49 rfl ?_
    exact gx_zret C hI.1 dX8_areAlike_50 ⟨rfl, hI.1, hI.2.trans ⟨fun h => mx_9 h, fun h j _ => by rw [h]⟩⟩
set_option maxRecDepth 100000 in
set_option maxHeartbeats 4000000 in
theorem c_X8_isNothing {La : List gx_K} (hM : gm_H La) {M : gx_M} {m : Int} (hm : m ≤ 11) {a : Nat} (ha : a + 9 ≤ 1926) (oa : mx_ok m (mx_of (M 6) a)) : gx_Ci La yX8_isNothing wsX8_isNothing 0 [gx_R 0, gx_I a] M (fun z M' => M' = M ∧ (z = 0 ∨ z = 1) ∧ (z = 1 ↔ mx_of (M 6) a = fun _ => 0)) := by
  refine gx_start_i (L := [gx_R 0, gx_I a, gx_U, gx_U]) (by decide) rfl rfl (Nat.le_of_ble_eq_true rfl) rfl ?_
  intro _ _ _ _ _ _ _ _ _ _ _ _ C
  refine gx_iconst C dX8_isNothing_0 ?_
  refine gx_istore_n C dX8_isNothing_1 (by decide) rfl ?_
  refine gx_iconst C dX8_isNothing_2 ?_
  refine gx_istore_n C dX8_isNothing_3 (by decide) rfl ?_
  refine gx_for 9 (fun k (f : Int) => [gx_R 0, gx_I a, gx_I f, gx_I (k : Int)]) (fun _ => M) (fun k f => (f = 0 ∨ f = 1) ∧ (f = 1 ↔ ∀ j, j < k → mx_of (M 6) a j = 0)) 0 1 (by omega) ⟨Or.inr rfl, by simp⟩ (fun k f hk hI ih => ?_) (fun f hI => ?_)
  · have hra : M 6 (((a : Int) + (k : Int)).toNat) = mx_of (M 6) a k := gm_rd (by omega) hk
    have h1 := oa k hk
    have hs : (∀ j, j < k + 1 → mx_of (M 6) a j = 0) ↔ (∀ j, j < k → mx_of (M 6) a j = 0) ∧ mx_of (M 6) a k = 0 := mx_all
    refine gx_iload_n C dX8_isNothing_4 rfl ?_
    refine gx_bipush C dX8_isNothing_5 rfl ?_
    refine gx_icmp_ge C dX8_isNothing_7 rfl (by unfold gx_3; omega) (by unfold gx_3; omega) (fun hb7 => absurd hb7 (by omega)) (fun hb7 => ?_)
    refine gx_iload_n C dX8_isNothing_10 rfl ?_
    refine gx_if_eq C dX8_isNothing_11 rfl (by unfold gx_3; omega) (fun hb11 => ?_) (fun hb11 => ?_)
    · refine gx_iconst C dX8_isNothing_29 ?_
      refine gx_istore_n C dX8_isNothing_30 (by decide) rfl ?_
      refine gx_iinc C dX8_isNothing_31 (by decide) rfl rfl ?_
      refine gx_goto C dX8_isNothing_34 rfl ?_
      exact ih _ ⟨Or.inl rfl, by rw [hs, ← hI.2]; omega⟩
    · refine gx_aload_n C dX8_isNothing_14 rfl ?_
      refine gx_getR C 8 _ 7 rfl (gm_0 hM) rfl (by decide) nX8_isNothing_8 (gx_hts C _ fX8_isNothing_27) dX8_isNothing_15 ?_
      refine gx_iload_n C dX8_isNothing_18 rfl ?_
      refine gx_iload_n C dX8_isNothing_19 rfl ?_
      refine gx_iadd C dX8_isNothing_20 ?_
      refine gx_iaload C (gm_6 hM) (by omega) dX8_isNothing_21 hra ?_
      refine gx_if_ne C dX8_isNothing_22 rfl (by unfold gx_3; omega) (fun hb22 => ?_) (fun hb22 => ?_)
      · refine gx_iconst C dX8_isNothing_29 ?_
        refine gx_istore_n C dX8_isNothing_30 (by decide) rfl ?_
        refine gx_iinc C dX8_isNothing_31 (by decide) rfl rfl ?_
        refine gx_goto C dX8_isNothing_34 rfl ?_
        exact ih _ ⟨Or.inl rfl, by rw [hs, ← hI.2]; omega⟩
      · refine gx_iconst C dX8_isNothing_25 ?_
        refine gx_goto C dX8_isNothing_26 rfl ?_
        refine gx_istore_n C dX8_isNothing_30 (by decide) rfl ?_
        refine gx_iinc C dX8_isNothing_31 (by decide) rfl rfl ?_
        refine gx_goto C dX8_isNothing_34 rfl ?_
        exact ih _ ⟨Or.inr rfl, by rw [hs, ← hI.2]; omega⟩
  · refine gx_iload_n C dX8_isNothing_4 rfl ?_
    refine gx_bipush C dX8_isNothing_5 rfl ?_
    refine gx_icmp_ge C dX8_isNothing_7 rfl (by unfold gx_3; omega) (by unfold gx_3; omega) (fun hb7 => ?_) (fun hb7 => absurd (by omega) hb7)
    refine gx_iload_n C dX8_isNothing_37 rfl ?_
    exact gx_zret C hI.1 dX8_isNothing_38 ⟨rfl, hI.1, hI.2.trans ⟨fun h => mx_90 h, fun h j _ => by rw [h]⟩⟩
